def wxQ_out  (post : Int32 → Rg → Prop) (S : Rg) (x : Int32) (y : Int32) (q : Int32) : Prop := ((x < y) → post (1 : Int32) S) ∧ ((¬ (x < y)) → ((x ≤ q) → post (0 : Int32) S) ∧ ((¬ (x ≤ q)) → post (1 : Int32) S))
set_option maxHeartbeats 4000000 in
set_option maxRecDepth 100000 in
theorem mxQ_out (l : Launch) (Γ : Gm) (θ : Nat → Nat) (S : Rg) (Z : va_W) (x : Int32) (y : Int32) (q : Int32) (post : Int32 → Rg → Prop) (hw : wxQ_out post S x y q) : MM l yxQ_out cxQ_out 3 (some .boolean) 0 0 Γ [.int x, .int y, .int q] (WM Γ θ S Z) (KK (fun r : Int32 => some (.int r)) (fun S' => WM Γ θ S' Z) post) 0 0 := by
  refine MM_of (by decide) (Nat.le_of_ble_eq_true rfl) ?_
  intro p e s m below meth c X hr hlk hnm hG h ls hl
  have hx := X.1
  have hb := X.2.1
  have hl : lv_has ls 3 [(0, .int x), (1, .int y), (2, .int q)] := hl
  unfold wxQ_out at hw
  refine lv_iload_n hx hb dxQ_out_0 rfl (lv_at hl 0 rfl) ?_
  refine lv_iload_n hx hb dxQ_out_1 rfl (lv_at hl 1 rfl) ?_
  refine lv_icmp_lt (tgt := 10) hx hb dxQ_out_2 (by decide) (fun c1 => ?_) (fun c1 => ?_)
  · have hw := hw.1 c1
    refine lv_iconst (v := 1) hx hb dxQ_out_10 (by decide) ?_
    refine lv_goto (tgt := 15) hx hb dxQ_out_11 (by decide) ?_
    exact z_zret X hr hlk h rfl ⟨_, _, rfl, rfl, hw⟩ dxQ_out_15
  · have hw := hw.2 c1
    refine lv_iload_n hx hb dxQ_out_5 rfl (lv_at hl 0 rfl) ?_
    refine lv_iload_n hx hb dxQ_out_6 rfl (lv_at hl 2 rfl) ?_
    refine lv_icmp_le (tgt := 14) hx hb dxQ_out_7 (by decide) (fun c2 => ?_) (fun c2 => ?_)
    · have hw := hw.1 c2
      refine lv_iconst (v := 0) hx hb dxQ_out_14 (by decide) ?_
      exact z_zret X hr hlk h rfl ⟨_, _, rfl, rfl, hw⟩ dxQ_out_15
    · have hw := hw.2 c2
      refine lv_iconst (v := 1) hx hb dxQ_out_10 (by decide) ?_
      refine lv_goto (tgt := 15) hx hb dxQ_out_11 (by decide) ?_
      exact z_zret X hr hlk h rfl ⟨_, _, rfl, rfl, hw⟩ dxQ_out_15
def wxQ_is_c2  (post : Int32 → Rg → Prop) (x : Int32) (y : Int32) : Nat → Rg → Int32 → Prop
  | 0, _, _ => False
  | d + 1, S, a3 => ((a3 < (0 : Int32)) → ((¬ (a3 = y)) → post (0 : Int32) S) ∧ ((a3 = y) → post (1 : Int32) S)) ∧ ((¬ (a3 < (0 : Int32))) → ((a3 = y) → ((¬ (a3 = y)) → post (0 : Int32) S) ∧ ((a3 = y) → post (1 : Int32) S)) ∧ ((¬ (a3 = y)) → (vp_in a3 16) ∧ wxQ_is_c2 post x y d S (S 16 a3.toNatClampNeg)))
set_option maxHeartbeats 4000000 in
set_option maxRecDepth 100000 in
theorem txQ_is_c2 {p : Program} {l : Launch} {e : Env} {s : State} {m : MethodId} {below : List Frame} {meth : Method} {c : Code} (Γ : Gm) (θ : Nat → Nat) (Z : va_W) (x : Int32) (y : Int32)  (post : Int32 → Rg → Prop) (X : CallFix p m c cxQ_is 4 s ([.ref (θ 0), .int x, .int y] : List Value).toArray big RxQ) (hr : meth.sig.returnType = (some .boolean)) (hlk : meth.locks = false) (hG : GX Γ s s.heap) :
    ∀ (d : Nat) (S : Rg) (a3 : Int32) (hw : wxQ_is_c2 post x y d S a3) (H : Heap) (locs : List Loc) (h : HS Γ s (WM Γ θ S Z) H locs) (ls : Array Slot) (hl : lv_has ls 4 [(0, .ref (θ 0)), (1, .int x), (2, .int y), (3, .int a3)]), W p l e { frames := 0, cells := 0, slots := 0, locals := 0 } s m ([.ref (θ 0), .int x, .int y] : List Value).toArray below meth c H locs 0 0 (MQ below (QM Γ (KK (fun r : Int32 => some (.int r)) (fun S' => WM Γ θ S' Z) post)) ([.ref (θ 0), .int x, .int y] : List Value).toArray s 0 0 (AA Γ)) (F0 m 2 ls []) := by
  have hx := X.1
  have hb := X.2.1
  intro d
  induction d with
  | zero => intro S a3 hw; exact absurd hw (by simp [wxQ_is_c2])
  | succ d ih =>
    intro S a3 hw H locs h ls hl
    rw [wxQ_is_c2] at hw
    refine lv_iload_n hx hb dxQ_is_2 rfl (lv_at hl 3 rfl) ?_
    refine lv_if_lt (tgt := 21) hx hb dxQ_is_3 (by decide) (fun c1 => ?_) (fun c1 => ?_)
    · have hw := hw.1 c1
      refine lv_iload_n hx hb dxQ_is_21 rfl (lv_at hl 3 rfl) ?_
      refine lv_iload_n hx hb dxQ_is_22 rfl (lv_at hl 2 rfl) ?_
      refine lv_icmp_ne (tgt := 30) hx hb dxQ_is_23 (by decide) (fun c2 => ?_) (fun c2 => ?_)
      · have hw := hw.1 c2
        refine lv_iconst (v := 0) hx hb dxQ_is_30 (by decide) ?_
        exact z_zret X hr hlk h rfl ⟨_, _, rfl, rfl, hw⟩ dxQ_is_31
      · have hw := hw.2 c2
        refine lv_iconst (v := 1) hx hb dxQ_is_26 (by decide) ?_
        refine lv_goto (tgt := 31) hx hb dxQ_is_27 (by decide) ?_
        exact z_zret X hr hlk h rfl ⟨_, _, rfl, rfl, hw⟩ dxQ_is_31
    · have hw := hw.2 c1
      refine lv_iload_n hx hb dxQ_is_6 rfl (lv_at hl 3 rfl) ?_
      refine lv_iload_n hx hb dxQ_is_7 rfl (lv_at hl 2 rfl) ?_
      refine lv_icmp_eq (tgt := 21) hx hb dxQ_is_8 (by decide) (fun c3 => ?_) (fun c3 => ?_)
      · have hw := hw.1 c3
        refine lv_iload_n hx hb dxQ_is_21 rfl (lv_at hl 3 rfl) ?_
        refine lv_iload_n hx hb dxQ_is_22 rfl (lv_at hl 2 rfl) ?_
        refine lv_icmp_ne (tgt := 30) hx hb dxQ_is_23 (by decide) (fun c4 => ?_) (fun c4 => ?_)
        · have hw := hw.1 c4
          refine lv_iconst (v := 0) hx hb dxQ_is_30 (by decide) ?_
          exact z_zret X hr hlk h rfl ⟨_, _, rfl, rfl, hw⟩ dxQ_is_31
        · have hw := hw.2 c4
          refine lv_iconst (v := 1) hx hb dxQ_is_26 (by decide) ?_
          refine lv_goto (tgt := 31) hx hb dxQ_is_27 (by decide) ?_
          exact z_zret X hr hlk h rfl ⟨_, _, rfl, rfl, hw⟩ dxQ_is_31
      · have hw := hw.2 c3
        refine lv_aload_n hx hb dxQ_is_11 rfl (lv_at hl 0 rfl) ?_
        refine gx_xQ_33 X hG h dxQ_is_12 ?_
        refine lv_iload_n hx hb dxQ_is_15 rfl (lv_at hl 3 rfl) ?_
        obtain ⟨o5, hw⟩ := hw
        refine lq_2 X hG h o5 (x := S 16 a3.toNatClampNeg) rfl dxQ_is_16 ?_
        refine lv_istore_n (lv' := [(3, .int (S 16 a3.toNatClampNeg)), (0, .ref (θ 0)), (1, .int x), (2, .int y)]) hx hb dxQ_is_17 rfl hl (by decide) rfl (fun ls hl => ?_)
        refine lv_goto (tgt := 2) hx hb dxQ_is_18 (by decide) ?_
        exact ih S (S 16 a3.toNatClampNeg) hw _ _ h ls (lv_sub hl [1, 2, 3, 0] rfl)
def wxQ_is  (post : Int32 → Rg → Prop) (S : Rg) (x : Int32) (y : Int32) : Prop := ∃ d6 : Nat, wxQ_is_c2 post x y d6 S x
set_option maxHeartbeats 4000000 in
set_option maxRecDepth 100000 in
theorem mxQ_is (l : Launch) (Γ : Gm) (θ : Nat → Nat) (S : Rg) (Z : va_W) (x : Int32) (y : Int32) (post : Int32 → Rg → Prop) (hw : wxQ_is post S x y) : MM l yxQ_is cxQ_is 4 (some .boolean) 0 0 Γ [.ref (θ 0), .int x, .int y] (WM Γ θ S Z) (KK (fun r : Int32 => some (.int r)) (fun S' => WM Γ θ S' Z) post) 0 0 := by
  refine MM_of (by decide) (Nat.le_of_ble_eq_true rfl) ?_
  intro p e s m below meth c X hr hlk hnm hG h ls hl
  have hx := X.1
  have hb := X.2.1
  have hl : lv_has ls 4 [(0, .ref (θ 0)), (1, .int x), (2, .int y)] := hl
  unfold wxQ_is at hw
  refine lv_iload_n hx hb dxQ_is_0 rfl (lv_at hl 1 rfl) ?_
  refine lv_istore_n (lv' := [(3, .int x), (0, .ref (θ 0)), (1, .int x), (2, .int y)]) hx hb dxQ_is_1 rfl hl (by decide) rfl (fun ls hl => ?_)
  obtain ⟨d6, hw⟩ := hw
  exact txQ_is_c2 Γ θ Z x y post X hr hlk hG d6 S x hw _ _ h ls (lv_sub hl [1, 2, 3, 0] rfl)
def wxQ_noNode  (post : Int32 → Rg → Prop) (S : Rg) (x : Int32) : Prop := ((x < (0 : Int32)) → post (1 : Int32) S) ∧ ((¬ (x < (0 : Int32))) → ((x < (S 17 1)) → post (0 : Int32) S) ∧ ((¬ (x < (S 17 1))) → post (1 : Int32) S))
set_option maxHeartbeats 4000000 in
set_option maxRecDepth 100000 in
theorem mxQ_noNode (l : Launch) (Γ : Gm) (θ : Nat → Nat) (S : Rg) (Z : va_W) (x : Int32) (post : Int32 → Rg → Prop) (hw : wxQ_noNode post S x) : MM l yxQ_noNode cxQ_noNode 2 (some .boolean) 0 0 Γ [.ref (θ 0), .int x] (WM Γ θ S Z) (KK (fun r : Int32 => some (.int r)) (fun S' => WM Γ θ S' Z) post) 0 0 := by
  refine MM_of (by decide) (Nat.le_of_ble_eq_true rfl) ?_
  intro p e s m below meth c X hr hlk hnm hG h ls hl
  have hx := X.1
  have hb := X.2.1
  have hl : lv_has ls 2 [(0, .ref (θ 0)), (1, .int x)] := hl
  unfold wxQ_noNode at hw
  refine lv_iload_n hx hb dxQ_noNode_0 rfl (lv_at hl 1 rfl) ?_
  refine lv_if_lt (tgt := 12) hx hb dxQ_noNode_1 (by decide) (fun c1 => ?_) (fun c1 => ?_)
  · have hw := hw.1 c1
    refine lv_iconst (v := 1) hx hb dxQ_noNode_12 (by decide) ?_
    refine lv_goto (tgt := 17) hx hb dxQ_noNode_13 (by decide) ?_
    exact z_zret X hr hlk h rfl ⟨_, _, rfl, rfl, hw⟩ dxQ_noNode_17
  · have hw := hw.2 c1
    refine lv_iload_n hx hb dxQ_noNode_4 rfl (lv_at hl 1 rfl) ?_
    refine lv_aload_n hx hb dxQ_noNode_5 rfl (lv_at hl 0 rfl) ?_
    refine gx_xQ_117 X hG h (x := S 17 1) rfl dxQ_noNode_6 ?_
    refine lv_icmp_lt (tgt := 16) hx hb dxQ_noNode_9 (by decide) (fun c2 => ?_) (fun c2 => ?_)
    · have hw := hw.1 c2
      refine lv_iconst (v := 0) hx hb dxQ_noNode_16 (by decide) ?_
      exact z_zret X hr hlk h rfl ⟨_, _, rfl, rfl, hw⟩ dxQ_noNode_17
    · have hw := hw.2 c2
      refine lv_iconst (v := 1) hx hb dxQ_noNode_12 (by decide) ?_
      refine lv_goto (tgt := 17) hx hb dxQ_noNode_13 (by decide) ?_
      exact z_zret X hr hlk h rfl ⟨_, _, rfl, rfl, hw⟩ dxQ_noNode_17
def wxQ_declare  (post : Int32 → Rg → Prop) (S : Rg) (x : Int32) : Prop := wxQ_out (fun r1 S2 => ((r1 = (0 : Int32)) → ((¬ ((S2 17 0) = (16 : Int32))) → (vp_in (S2 17 0) 16) ∧ post (((S2 17 0) + 1) - 1) (uu (uu S2 16 ((S2 17 0).toNatClampNeg) x) 17 0 ((S2 17 0) + 1))) ∧ (((S2 17 0) = (16 : Int32)) → post (-2 : Int32) S2)) ∧ ((¬ (r1 = (0 : Int32))) → post (-1 : Int32) S2)) S x (0) ((S 17 0) - 1)
set_option maxHeartbeats 4000000 in
set_option maxRecDepth 100000 in
theorem mxQ_declare (l : Launch) (Γ : Gm) (θ : Nat → Nat) (S : Rg) (Z : va_W) (x : Int32) (post : Int32 → Rg → Prop) (hw : wxQ_declare post S x) : MM l yxQ_declare cxQ_declare 2 (some .int) 1 22 Γ [.ref (θ 0), .int x] (WM Γ θ S Z) (KK (fun r : Int32 => some (.int r)) (fun S' => WM Γ θ S' Z) post) 0 0 := by
  refine MM_of (by decide) (Nat.le_of_ble_eq_true rfl) ?_
  intro p e s m below meth c X hr hlk hnm hG h ls hl
  have hx := X.1
  have hb := X.2.1
  have hl : lv_has ls 2 [(0, .ref (θ 0)), (1, .int x)] := hl
  unfold wxQ_declare at hw
  refine lv_iload_n hx hb dxQ_declare_0 rfl (lv_at hl 1 rfl) ?_
  refine lv_iconst (v := 0) hx hb dxQ_declare_1 (by decide) ?_
  refine lv_aload_n hx hb dxQ_declare_2 rfl (lv_at hl 0 rfl) ?_
  refine gx_xQ_37 X hG h (x := S 17 0) rfl dxQ_declare_3 ?_
  refine lv_iconst (v := 1) hx hb dxQ_declare_6 (by decide) ?_
  refine lv_isub hx hb dxQ_declare_7 ?_
  refine cx_xQ_113 (As := [.int x, .int 0, .int ((S 17 0) - 1)]) (rest := []) X hG h hl.1 (mxQ_out l Γ θ S Z x (0) ((S 17 0) - 1) _ hw) ⟨show 0 + 1 ≤ 1 from by omega, show 8 + (3 + 11) + 0 ≤ 22 from by omega⟩ rfl (Nat.le_of_ble_eq_true rfl) dxQ_declare_8 ⟨Nat.le_of_ble_eq_true rfl, Nat.le_of_ble_eq_true rfl⟩ (fun v W1 hK H locs h => ?_)
  obtain ⟨r1, S2, rfl, rfl, hw⟩ := hK
  refine W.eq (g2 := F0 m 11 ls [.int r1]) rfl ?_
  refine lv_if_eq (tgt := 16) hx hb dxQ_declare_11 (by decide) (fun c3 => ?_) (fun c3 => ?_)
  · have hw := hw.1 c3
    refine lv_aload_n hx hb dxQ_declare_16 rfl (lv_at hl 0 rfl) ?_
    refine gx_xQ_37 X hG h (x := S2 17 0) rfl dxQ_declare_17 ?_
    refine lv_bipush (v := 16) hx hb dxQ_declare_20 (by decide) ?_
    refine lv_icmp_ne (tgt := 28) hx hb dxQ_declare_22 (by decide) (fun c4 => ?_) (fun c4 => ?_)
    · have hw := hw.1 c4
      refine lv_aload_n hx hb dxQ_declare_28 rfl (lv_at hl 0 rfl) ?_
      refine gx_xQ_33 X hG h dxQ_declare_29 ?_
      refine lv_aload_n hx hb dxQ_declare_32 rfl (lv_at hl 0 rfl) ?_
      refine gx_xQ_37 X hG h (x := S2 17 0) rfl dxQ_declare_33 ?_
      refine lv_iload_n hx hb dxQ_declare_36 rfl (lv_at hl 1 rfl) ?_
      obtain ⟨o5, hw⟩ := hw
      refine sq_2 X hG h o5 dxQ_declare_37 (fun H locs h => ?_)
      refine lv_aload_n hx hb dxQ_declare_38 rfl (lv_at hl 0 rfl) ?_
      refine lv_dup hx hb dxQ_declare_39 rfl ?_
      refine gx_xQ_37 X hG h (x := S2 17 0) rfl dxQ_declare_40 ?_
      refine lv_iconst (v := 1) hx hb dxQ_declare_43 (by decide) ?_
      refine lv_iadd hx hb dxQ_declare_44 ?_
      refine px_xQ_37 X hG h dxQ_declare_45 (fun H locs h => ?_)
      refine lv_aload_n hx hb dxQ_declare_48 rfl (lv_at hl 0 rfl) ?_
      refine gx_xQ_37 X hG h (x := (S2 17 0) + 1) rfl dxQ_declare_49 ?_
      refine lv_iconst (v := 1) hx hb dxQ_declare_52 (by decide) ?_
      refine lv_isub hx hb dxQ_declare_53 ?_
      exact z_iret X hr hlk h ⟨_, _, rfl, rfl, hw⟩ dxQ_declare_54
    · have hw := hw.2 c4
      refine lv_bipush (v := -2) hx hb dxQ_declare_25 (by decide) ?_
      exact z_iret X hr hlk h ⟨_, _, rfl, rfl, hw⟩ dxQ_declare_27
  · have hw := hw.2 c3
    refine lv_iconst (v := -1) hx hb dxQ_declare_14 (by decide) ?_
    exact z_iret X hr hlk h ⟨_, _, rfl, rfl, hw⟩ dxQ_declare_15
def wxQ_badA  (post : Int32 → Rg → Prop) (S : Rg) (x : Int32) (y : Int32) : Prop := ((x.toInt < 0 ∨ 22 < x.toInt) → wxQ_noNode (fun r4 S5 => (r4 = 0 ∨ r4 = 1) ∧ post r4 S5) S y) ∧ (x = 0 → post (0 : Int32) S) ∧ (x = 1 → wxQ_out (fun r7 S8 => (r7 = 0 ∨ r7 = 1) ∧ post r7 S8) S y (0) (3)) ∧ (x = 2 → wxQ_out (fun r10 S11 => (r10 = 0 ∨ r10 = 1) ∧ post r10 S11) S y (0) (3)) ∧ (x = 3 → wxQ_out (fun r13 S14 => (r13 = 0 ∨ r13 = 1) ∧ post r13 S14) S y (0) (3)) ∧ (x = 4 → wxQ_noNode (fun r16 S17 => (r16 = 0 ∨ r16 = 1) ∧ post r16 S17) S y) ∧ (x = 5 → wxQ_out (fun r19 S20 => (r19 = 0 ∨ r19 = 1) ∧ post r19 S20) S y (0) (3)) ∧ (x = 6 → wxQ_out (fun r22 S23 => (r22 = 0 ∨ r22 = 1) ∧ post r22 S23) S y (1) (8)) ∧ (x = 7 → post (0 : Int32) S) ∧ (x = 8 → wxQ_out (fun r25 S26 => (r25 = 0 ∨ r25 = 1) ∧ post r25 S26) S y (0) (3)) ∧ (x = 9 → wxQ_out (fun r28 S29 => (r28 = 0 ∨ r28 = 1) ∧ post r28 S29) S y (0) (5)) ∧ (x = 10 → wxQ_out (fun r31 S32 => (r31 = 0 ∨ r31 = 1) ∧ post r31 S32) S y (0) ((S 17 0) - 1)) ∧ (x = 11 → post (0 : Int32) S) ∧ (x = 12 → wxQ_out (fun r34 S35 => (r34 = 0 ∨ r34 = 1) ∧ post r34 S35) S y (0) ((S 17 0) - 1)) ∧ (x = 13 → wxQ_noNode (fun r37 S38 => (r37 = 0 ∨ r37 = 1) ∧ post r37 S38) S y) ∧ (x = 14 → wxQ_noNode (fun r40 S41 => (r40 = 0 ∨ r40 = 1) ∧ post r40 S41) S y) ∧ (x = 15 → wxQ_noNode (fun r43 S44 => (r43 = 0 ∨ r43 = 1) ∧ post r43 S44) S y) ∧ (x = 16 → wxQ_out (fun r46 S47 => (r46 = 0 ∨ r46 = 1) ∧ post r46 S47) S y (0) (3)) ∧ (x = 17 → wxQ_out (fun r49 S50 => (r49 = 0 ∨ r49 = 1) ∧ post r49 S50) S y (0) (3)) ∧ (x = 18 → wxQ_out (fun r52 S53 => (r52 = 0 ∨ r52 = 1) ∧ post r52 S53) S y (0) ((S 17 0) - 1)) ∧ (x = 19 → wxQ_out (fun r55 S56 => (r55 = 0 ∨ r55 = 1) ∧ post r55 S56) S y (0) (3)) ∧ (x = 20 → wxQ_out (fun r58 S59 => (r58 = 0 ∨ r58 = 1) ∧ post r58 S59) S y (0) (1)) ∧ (x = 21 → wxQ_out (fun r61 S62 => (r61 = 0 ∨ r61 = 1) ∧ post r61 S62) S y (0) (1)) ∧ (x = 22 → post (0 : Int32) S)
set_option maxHeartbeats 4000000 in
set_option maxRecDepth 100000 in
theorem mxQ_badA (l : Launch) (Γ : Gm) (θ : Nat → Nat) (S : Rg) (Z : va_W) (x : Int32) (y : Int32) (post : Int32 → Rg → Prop) (hw : wxQ_badA post S x y) : MM l yxQ_badA cxQ_badA 3 (some .boolean) 1 22 Γ [.ref (θ 0), .int x, .int y] (WM Γ θ S Z) (KK (fun r : Int32 => some (.int r)) (fun S' => WM Γ θ S' Z) post) 0 0 := by
  refine MM_of (by decide) (Nat.le_of_ble_eq_true rfl) ?_
  intro p e s m below meth c X hr hlk hnm hG h ls hl
  have hx := X.1
  have hb := X.2.1
  have hl : lv_has ls 3 [(0, .ref (θ 0)), (1, .int x), (2, .int y)] := hl
  unfold wxQ_badA at hw
  refine lv_iload_n hx hb dxQ_badA_0 rfl (lv_at hl 1 rfl) ?_
  by_cases c1 : x.toInt < 0 ∨ 22 < x.toInt
  · have hw := hw.1 c1
    refine lv_tableOut (tgt := 151) hx hb dxQ_badA_1 c1 (by decide) ?_
    refine lv_aload_n hx hb dxQ_badA_151 rfl (lv_at hl 0 rfl) ?_
    refine lv_iload_n hx hb dxQ_badA_152 rfl (lv_at hl 2 rfl) ?_
    refine cx_xQ_120 (As := [.int y]) (rest := []) X hG h hl.1 (mxQ_noNode l Γ θ S Z y _ hw) ⟨show 0 + 1 ≤ 1 from by omega, show 8 + (2 + 11) + 0 ≤ 22 from by omega⟩ (q0 := 0) rfl rfl (Nat.le_of_ble_eq_true rfl) dxQ_badA_153 ⟨Nat.le_of_ble_eq_true rfl, Nat.le_of_ble_eq_true rfl⟩ (fun v W1 hK H locs h => ?_)
    obtain ⟨r4, S5, rfl, rfl, hw⟩ := hK
    refine W.eq (g2 := F0 m 156 ls [.int r4]) rfl ?_
    obtain ⟨o6, hw⟩ := hw
    exact z_zret X hr hlk h (nz o6) ⟨_, _, rfl, rfl, hw⟩ dxQ_badA_156
  · have hw := hw.2
    obtain ⟨j3, j_h, e2⟩ := sw_in (lo := 0) (n := 22) c1
    match j3, j_h, e2 with
    | 0, _, e2 =>
      have e2 : x = 0 := e2
      have hw := hw.1 e2
      refine lv_tableIn (off := 107) (tgt := 108) hx hb dxQ_badA_1 (by rw [e2]; decide) (by rw [e2]; decide) (by rw [e2]; rfl) (by decide) ?_
      refine lv_iconst (v := 0) hx hb dxQ_badA_108 (by decide) ?_
      exact z_zret X hr hlk h rfl ⟨_, _, rfl, rfl, hw⟩ dxQ_badA_109
    | 1, _, e2 =>
      have e2 : x = 1 := e2
      have hw := hw.2.1 e2
      refine lv_tableIn (off := 109) (tgt := 110) hx hb dxQ_badA_1 (by rw [e2]; decide) (by rw [e2]; decide) (by rw [e2]; rfl) (by decide) ?_
      refine lv_iload_n hx hb dxQ_badA_110 rfl (lv_at hl 2 rfl) ?_
      refine lv_iconst (v := 0) hx hb dxQ_badA_111 (by decide) ?_
      refine lv_iconst (v := 3) hx hb dxQ_badA_112 (by decide) ?_
      refine cx_xQ_113 (As := [.int y, .int 0, .int 3]) (rest := []) X hG h hl.1 (mxQ_out l Γ θ S Z y (0) (3) _ hw) ⟨show 0 + 1 ≤ 1 from by omega, show 8 + (3 + 11) + 0 ≤ 22 from by omega⟩ rfl (Nat.le_of_ble_eq_true rfl) dxQ_badA_113 ⟨Nat.le_of_ble_eq_true rfl, Nat.le_of_ble_eq_true rfl⟩ (fun v W1 hK H locs h => ?_)
      obtain ⟨r7, S8, rfl, rfl, hw⟩ := hK
      refine W.eq (g2 := F0 m 116 ls [.int r7]) rfl ?_
      obtain ⟨o9, hw⟩ := hw
      exact z_zret X hr hlk h (nz o9) ⟨_, _, rfl, rfl, hw⟩ dxQ_badA_116
    | 2, _, e2 =>
      have e2 : x = 2 := e2
      have hw := hw.2.2.1 e2
      refine lv_tableIn (off := 109) (tgt := 110) hx hb dxQ_badA_1 (by rw [e2]; decide) (by rw [e2]; decide) (by rw [e2]; rfl) (by decide) ?_
      refine lv_iload_n hx hb dxQ_badA_110 rfl (lv_at hl 2 rfl) ?_
      refine lv_iconst (v := 0) hx hb dxQ_badA_111 (by decide) ?_
      refine lv_iconst (v := 3) hx hb dxQ_badA_112 (by decide) ?_
      refine cx_xQ_113 (As := [.int y, .int 0, .int 3]) (rest := []) X hG h hl.1 (mxQ_out l Γ θ S Z y (0) (3) _ hw) ⟨show 0 + 1 ≤ 1 from by omega, show 8 + (3 + 11) + 0 ≤ 22 from by omega⟩ rfl (Nat.le_of_ble_eq_true rfl) dxQ_badA_113 ⟨Nat.le_of_ble_eq_true rfl, Nat.le_of_ble_eq_true rfl⟩ (fun v W1 hK H locs h => ?_)
      obtain ⟨r10, S11, rfl, rfl, hw⟩ := hK
      refine W.eq (g2 := F0 m 116 ls [.int r10]) rfl ?_
      obtain ⟨o12, hw⟩ := hw
      exact z_zret X hr hlk h (nz o12) ⟨_, _, rfl, rfl, hw⟩ dxQ_badA_116
    | 3, _, e2 =>
      have e2 : x = 3 := e2
      have hw := hw.2.2.2.1 e2
      refine lv_tableIn (off := 109) (tgt := 110) hx hb dxQ_badA_1 (by rw [e2]; decide) (by rw [e2]; decide) (by rw [e2]; rfl) (by decide) ?_
      refine lv_iload_n hx hb dxQ_badA_110 rfl (lv_at hl 2 rfl) ?_
      refine lv_iconst (v := 0) hx hb dxQ_badA_111 (by decide) ?_
      refine lv_iconst (v := 3) hx hb dxQ_badA_112 (by decide) ?_
      refine cx_xQ_113 (As := [.int y, .int 0, .int 3]) (rest := []) X hG h hl.1 (mxQ_out l Γ θ S Z y (0) (3) _ hw) ⟨show 0 + 1 ≤ 1 from by omega, show 8 + (3 + 11) + 0 ≤ 22 from by omega⟩ rfl (Nat.le_of_ble_eq_true rfl) dxQ_badA_113 ⟨Nat.le_of_ble_eq_true rfl, Nat.le_of_ble_eq_true rfl⟩ (fun v W1 hK H locs h => ?_)
      obtain ⟨r13, S14, rfl, rfl, hw⟩ := hK
      refine W.eq (g2 := F0 m 116 ls [.int r13]) rfl ?_
      obtain ⟨o15, hw⟩ := hw
      exact z_zret X hr hlk h (nz o15) ⟨_, _, rfl, rfl, hw⟩ dxQ_badA_116
    | 4, _, e2 =>
      have e2 : x = 4 := e2
      have hw := hw.2.2.2.2.1 e2
      refine lv_tableIn (off := 150) (tgt := 151) hx hb dxQ_badA_1 (by rw [e2]; decide) (by rw [e2]; decide) (by rw [e2]; rfl) (by decide) ?_
      refine lv_aload_n hx hb dxQ_badA_151 rfl (lv_at hl 0 rfl) ?_
      refine lv_iload_n hx hb dxQ_badA_152 rfl (lv_at hl 2 rfl) ?_
      refine cx_xQ_120 (As := [.int y]) (rest := []) X hG h hl.1 (mxQ_noNode l Γ θ S Z y _ hw) ⟨show 0 + 1 ≤ 1 from by omega, show 8 + (2 + 11) + 0 ≤ 22 from by omega⟩ (q0 := 0) rfl rfl (Nat.le_of_ble_eq_true rfl) dxQ_badA_153 ⟨Nat.le_of_ble_eq_true rfl, Nat.le_of_ble_eq_true rfl⟩ (fun v W1 hK H locs h => ?_)
      obtain ⟨r16, S17, rfl, rfl, hw⟩ := hK
      refine W.eq (g2 := F0 m 156 ls [.int r16]) rfl ?_
      obtain ⟨o18, hw⟩ := hw
      exact z_zret X hr hlk h (nz o18) ⟨_, _, rfl, rfl, hw⟩ dxQ_badA_156
    | 5, _, e2 =>
      have e2 : x = 5 := e2
      have hw := hw.2.2.2.2.2.1 e2
      refine lv_tableIn (off := 109) (tgt := 110) hx hb dxQ_badA_1 (by rw [e2]; decide) (by rw [e2]; decide) (by rw [e2]; rfl) (by decide) ?_
      refine lv_iload_n hx hb dxQ_badA_110 rfl (lv_at hl 2 rfl) ?_
      refine lv_iconst (v := 0) hx hb dxQ_badA_111 (by decide) ?_
      refine lv_iconst (v := 3) hx hb dxQ_badA_112 (by decide) ?_
      refine cx_xQ_113 (As := [.int y, .int 0, .int 3]) (rest := []) X hG h hl.1 (mxQ_out l Γ θ S Z y (0) (3) _ hw) ⟨show 0 + 1 ≤ 1 from by omega, show 8 + (3 + 11) + 0 ≤ 22 from by omega⟩ rfl (Nat.le_of_ble_eq_true rfl) dxQ_badA_113 ⟨Nat.le_of_ble_eq_true rfl, Nat.le_of_ble_eq_true rfl⟩ (fun v W1 hK H locs h => ?_)
      obtain ⟨r19, S20, rfl, rfl, hw⟩ := hK
      refine W.eq (g2 := F0 m 116 ls [.int r19]) rfl ?_
      obtain ⟨o21, hw⟩ := hw
      exact z_zret X hr hlk h (nz o21) ⟨_, _, rfl, rfl, hw⟩ dxQ_badA_116
    | 6, _, e2 =>
      have e2 : x = 6 := e2
      have hw := hw.2.2.2.2.2.2.1 e2
      refine lv_tableIn (off := 116) (tgt := 117) hx hb dxQ_badA_1 (by rw [e2]; decide) (by rw [e2]; decide) (by rw [e2]; rfl) (by decide) ?_
      refine lv_iload_n hx hb dxQ_badA_117 rfl (lv_at hl 2 rfl) ?_
      refine lv_iconst (v := 1) hx hb dxQ_badA_118 (by decide) ?_
      refine lv_bipush (v := 8) hx hb dxQ_badA_119 (by decide) ?_
      refine cx_xQ_113 (As := [.int y, .int 1, .int 8]) (rest := []) X hG h hl.1 (mxQ_out l Γ θ S Z y (1) (8) _ hw) ⟨show 0 + 1 ≤ 1 from by omega, show 8 + (3 + 11) + 0 ≤ 22 from by omega⟩ rfl (Nat.le_of_ble_eq_true rfl) dxQ_badA_121 ⟨Nat.le_of_ble_eq_true rfl, Nat.le_of_ble_eq_true rfl⟩ (fun v W1 hK H locs h => ?_)
      obtain ⟨r22, S23, rfl, rfl, hw⟩ := hK
      refine W.eq (g2 := F0 m 124 ls [.int r22]) rfl ?_
      obtain ⟨o24, hw⟩ := hw
      exact z_zret X hr hlk h (nz o24) ⟨_, _, rfl, rfl, hw⟩ dxQ_badA_124
    | 7, _, e2 =>
      have e2 : x = 7 := e2
      have hw := hw.2.2.2.2.2.2.2.1 e2
      refine lv_tableIn (off := 107) (tgt := 108) hx hb dxQ_badA_1 (by rw [e2]; decide) (by rw [e2]; decide) (by rw [e2]; rfl) (by decide) ?_
      refine lv_iconst (v := 0) hx hb dxQ_badA_108 (by decide) ?_
      exact z_zret X hr hlk h rfl ⟨_, _, rfl, rfl, hw⟩ dxQ_badA_109
    | 8, _, e2 =>
      have e2 : x = 8 := e2
      have hw := hw.2.2.2.2.2.2.2.2.1 e2
      refine lv_tableIn (off := 109) (tgt := 110) hx hb dxQ_badA_1 (by rw [e2]; decide) (by rw [e2]; decide) (by rw [e2]; rfl) (by decide) ?_
      refine lv_iload_n hx hb dxQ_badA_110 rfl (lv_at hl 2 rfl) ?_
      refine lv_iconst (v := 0) hx hb dxQ_badA_111 (by decide) ?_
      refine lv_iconst (v := 3) hx hb dxQ_badA_112 (by decide) ?_
      refine cx_xQ_113 (As := [.int y, .int 0, .int 3]) (rest := []) X hG h hl.1 (mxQ_out l Γ θ S Z y (0) (3) _ hw) ⟨show 0 + 1 ≤ 1 from by omega, show 8 + (3 + 11) + 0 ≤ 22 from by omega⟩ rfl (Nat.le_of_ble_eq_true rfl) dxQ_badA_113 ⟨Nat.le_of_ble_eq_true rfl, Nat.le_of_ble_eq_true rfl⟩ (fun v W1 hK H locs h => ?_)
      obtain ⟨r25, S26, rfl, rfl, hw⟩ := hK
      refine W.eq (g2 := F0 m 116 ls [.int r25]) rfl ?_
      obtain ⟨o27, hw⟩ := hw
      exact z_zret X hr hlk h (nz o27) ⟨_, _, rfl, rfl, hw⟩ dxQ_badA_116
    | 9, _, e2 =>
      have e2 : x = 9 := e2
      have hw := hw.2.2.2.2.2.2.2.2.2.1 e2
      refine lv_tableIn (off := 124) (tgt := 125) hx hb dxQ_badA_1 (by rw [e2]; decide) (by rw [e2]; decide) (by rw [e2]; rfl) (by decide) ?_
      refine lv_iload_n hx hb dxQ_badA_125 rfl (lv_at hl 2 rfl) ?_
      refine lv_iconst (v := 0) hx hb dxQ_badA_126 (by decide) ?_
      refine lv_iconst (v := 5) hx hb dxQ_badA_127 (by decide) ?_
      refine cx_xQ_113 (As := [.int y, .int 0, .int 5]) (rest := []) X hG h hl.1 (mxQ_out l Γ θ S Z y (0) (5) _ hw) ⟨show 0 + 1 ≤ 1 from by omega, show 8 + (3 + 11) + 0 ≤ 22 from by omega⟩ rfl (Nat.le_of_ble_eq_true rfl) dxQ_badA_128 ⟨Nat.le_of_ble_eq_true rfl, Nat.le_of_ble_eq_true rfl⟩ (fun v W1 hK H locs h => ?_)
      obtain ⟨r28, S29, rfl, rfl, hw⟩ := hK
      refine W.eq (g2 := F0 m 131 ls [.int r28]) rfl ?_
      obtain ⟨o30, hw⟩ := hw
      exact z_zret X hr hlk h (nz o30) ⟨_, _, rfl, rfl, hw⟩ dxQ_badA_131
    | 10, _, e2 =>
      have e2 : x = 10 := e2
      have hw := hw.2.2.2.2.2.2.2.2.2.2.1 e2
      refine lv_tableIn (off := 131) (tgt := 132) hx hb dxQ_badA_1 (by rw [e2]; decide) (by rw [e2]; decide) (by rw [e2]; rfl) (by decide) ?_
      refine lv_iload_n hx hb dxQ_badA_132 rfl (lv_at hl 2 rfl) ?_
      refine lv_iconst (v := 0) hx hb dxQ_badA_133 (by decide) ?_
      refine lv_aload_n hx hb dxQ_badA_134 rfl (lv_at hl 0 rfl) ?_
      refine gx_xQ_37 X hG h (x := S 17 0) rfl dxQ_badA_135 ?_
      refine lv_iconst (v := 1) hx hb dxQ_badA_138 (by decide) ?_
      refine lv_isub hx hb dxQ_badA_139 ?_
      refine cx_xQ_113 (As := [.int y, .int 0, .int ((S 17 0) - 1)]) (rest := []) X hG h hl.1 (mxQ_out l Γ θ S Z y (0) ((S 17 0) - 1) _ hw) ⟨show 0 + 1 ≤ 1 from by omega, show 8 + (3 + 11) + 0 ≤ 22 from by omega⟩ rfl (Nat.le_of_ble_eq_true rfl) dxQ_badA_140 ⟨Nat.le_of_ble_eq_true rfl, Nat.le_of_ble_eq_true rfl⟩ (fun v W1 hK H locs h => ?_)
      obtain ⟨r31, S32, rfl, rfl, hw⟩ := hK
      refine W.eq (g2 := F0 m 143 ls [.int r31]) rfl ?_
      obtain ⟨o33, hw⟩ := hw
      exact z_zret X hr hlk h (nz o33) ⟨_, _, rfl, rfl, hw⟩ dxQ_badA_143
    | 11, _, e2 =>
      have e2 : x = 11 := e2
      have hw := hw.2.2.2.2.2.2.2.2.2.2.2.1 e2
      refine lv_tableIn (off := 107) (tgt := 108) hx hb dxQ_badA_1 (by rw [e2]; decide) (by rw [e2]; decide) (by rw [e2]; rfl) (by decide) ?_
      refine lv_iconst (v := 0) hx hb dxQ_badA_108 (by decide) ?_
      exact z_zret X hr hlk h rfl ⟨_, _, rfl, rfl, hw⟩ dxQ_badA_109
    | 12, _, e2 =>
      have e2 : x = 12 := e2
      have hw := hw.2.2.2.2.2.2.2.2.2.2.2.2.1 e2
      refine lv_tableIn (off := 131) (tgt := 132) hx hb dxQ_badA_1 (by rw [e2]; decide) (by rw [e2]; decide) (by rw [e2]; rfl) (by decide) ?_
      refine lv_iload_n hx hb dxQ_badA_132 rfl (lv_at hl 2 rfl) ?_
      refine lv_iconst (v := 0) hx hb dxQ_badA_133 (by decide) ?_
      refine lv_aload_n hx hb dxQ_badA_134 rfl (lv_at hl 0 rfl) ?_
      refine gx_xQ_37 X hG h (x := S 17 0) rfl dxQ_badA_135 ?_
      refine lv_iconst (v := 1) hx hb dxQ_badA_138 (by decide) ?_
      refine lv_isub hx hb dxQ_badA_139 ?_
      refine cx_xQ_113 (As := [.int y, .int 0, .int ((S 17 0) - 1)]) (rest := []) X hG h hl.1 (mxQ_out l Γ θ S Z y (0) ((S 17 0) - 1) _ hw) ⟨show 0 + 1 ≤ 1 from by omega, show 8 + (3 + 11) + 0 ≤ 22 from by omega⟩ rfl (Nat.le_of_ble_eq_true rfl) dxQ_badA_140 ⟨Nat.le_of_ble_eq_true rfl, Nat.le_of_ble_eq_true rfl⟩ (fun v W1 hK H locs h => ?_)
      obtain ⟨r34, S35, rfl, rfl, hw⟩ := hK
      refine W.eq (g2 := F0 m 143 ls [.int r34]) rfl ?_
      obtain ⟨o36, hw⟩ := hw
      exact z_zret X hr hlk h (nz o36) ⟨_, _, rfl, rfl, hw⟩ dxQ_badA_143
    | 13, _, e2 =>
      have e2 : x = 13 := e2
      have hw := hw.2.2.2.2.2.2.2.2.2.2.2.2.2.1 e2
      refine lv_tableIn (off := 150) (tgt := 151) hx hb dxQ_badA_1 (by rw [e2]; decide) (by rw [e2]; decide) (by rw [e2]; rfl) (by decide) ?_
      refine lv_aload_n hx hb dxQ_badA_151 rfl (lv_at hl 0 rfl) ?_
      refine lv_iload_n hx hb dxQ_badA_152 rfl (lv_at hl 2 rfl) ?_
      refine cx_xQ_120 (As := [.int y]) (rest := []) X hG h hl.1 (mxQ_noNode l Γ θ S Z y _ hw) ⟨show 0 + 1 ≤ 1 from by omega, show 8 + (2 + 11) + 0 ≤ 22 from by omega⟩ (q0 := 0) rfl rfl (Nat.le_of_ble_eq_true rfl) dxQ_badA_153 ⟨Nat.le_of_ble_eq_true rfl, Nat.le_of_ble_eq_true rfl⟩ (fun v W1 hK H locs h => ?_)
      obtain ⟨r37, S38, rfl, rfl, hw⟩ := hK
      refine W.eq (g2 := F0 m 156 ls [.int r37]) rfl ?_
      obtain ⟨o39, hw⟩ := hw
      exact z_zret X hr hlk h (nz o39) ⟨_, _, rfl, rfl, hw⟩ dxQ_badA_156
    | 14, _, e2 =>
      have e2 : x = 14 := e2
      have hw := hw.2.2.2.2.2.2.2.2.2.2.2.2.2.2.1 e2
      refine lv_tableIn (off := 150) (tgt := 151) hx hb dxQ_badA_1 (by rw [e2]; decide) (by rw [e2]; decide) (by rw [e2]; rfl) (by decide) ?_
      refine lv_aload_n hx hb dxQ_badA_151 rfl (lv_at hl 0 rfl) ?_
      refine lv_iload_n hx hb dxQ_badA_152 rfl (lv_at hl 2 rfl) ?_
      refine cx_xQ_120 (As := [.int y]) (rest := []) X hG h hl.1 (mxQ_noNode l Γ θ S Z y _ hw) ⟨show 0 + 1 ≤ 1 from by omega, show 8 + (2 + 11) + 0 ≤ 22 from by omega⟩ (q0 := 0) rfl rfl (Nat.le_of_ble_eq_true rfl) dxQ_badA_153 ⟨Nat.le_of_ble_eq_true rfl, Nat.le_of_ble_eq_true rfl⟩ (fun v W1 hK H locs h => ?_)
      obtain ⟨r40, S41, rfl, rfl, hw⟩ := hK
      refine W.eq (g2 := F0 m 156 ls [.int r40]) rfl ?_
      obtain ⟨o42, hw⟩ := hw
      exact z_zret X hr hlk h (nz o42) ⟨_, _, rfl, rfl, hw⟩ dxQ_badA_156
    | 15, _, e2 =>
      have e2 : x = 15 := e2
      have hw := hw.2.2.2.2.2.2.2.2.2.2.2.2.2.2.2.1 e2
      refine lv_tableIn (off := 150) (tgt := 151) hx hb dxQ_badA_1 (by rw [e2]; decide) (by rw [e2]; decide) (by rw [e2]; rfl) (by decide) ?_
      refine lv_aload_n hx hb dxQ_badA_151 rfl (lv_at hl 0 rfl) ?_
      refine lv_iload_n hx hb dxQ_badA_152 rfl (lv_at hl 2 rfl) ?_
      refine cx_xQ_120 (As := [.int y]) (rest := []) X hG h hl.1 (mxQ_noNode l Γ θ S Z y _ hw) ⟨show 0 + 1 ≤ 1 from by omega, show 8 + (2 + 11) + 0 ≤ 22 from by omega⟩ (q0 := 0) rfl rfl (Nat.le_of_ble_eq_true rfl) dxQ_badA_153 ⟨Nat.le_of_ble_eq_true rfl, Nat.le_of_ble_eq_true rfl⟩ (fun v W1 hK H locs h => ?_)
      obtain ⟨r43, S44, rfl, rfl, hw⟩ := hK
      refine W.eq (g2 := F0 m 156 ls [.int r43]) rfl ?_
      obtain ⟨o45, hw⟩ := hw
      exact z_zret X hr hlk h (nz o45) ⟨_, _, rfl, rfl, hw⟩ dxQ_badA_156
    | 16, _, e2 =>
      have e2 : x = 16 := e2
      have hw := hw.2.2.2.2.2.2.2.2.2.2.2.2.2.2.2.2.1 e2
      refine lv_tableIn (off := 109) (tgt := 110) hx hb dxQ_badA_1 (by rw [e2]; decide) (by rw [e2]; decide) (by rw [e2]; rfl) (by decide) ?_
      refine lv_iload_n hx hb dxQ_badA_110 rfl (lv_at hl 2 rfl) ?_
      refine lv_iconst (v := 0) hx hb dxQ_badA_111 (by decide) ?_
      refine lv_iconst (v := 3) hx hb dxQ_badA_112 (by decide) ?_
      refine cx_xQ_113 (As := [.int y, .int 0, .int 3]) (rest := []) X hG h hl.1 (mxQ_out l Γ θ S Z y (0) (3) _ hw) ⟨show 0 + 1 ≤ 1 from by omega, show 8 + (3 + 11) + 0 ≤ 22 from by omega⟩ rfl (Nat.le_of_ble_eq_true rfl) dxQ_badA_113 ⟨Nat.le_of_ble_eq_true rfl, Nat.le_of_ble_eq_true rfl⟩ (fun v W1 hK H locs h => ?_)
      obtain ⟨r46, S47, rfl, rfl, hw⟩ := hK
      refine W.eq (g2 := F0 m 116 ls [.int r46]) rfl ?_
      obtain ⟨o48, hw⟩ := hw
      exact z_zret X hr hlk h (nz o48) ⟨_, _, rfl, rfl, hw⟩ dxQ_badA_116
    | 17, _, e2 =>
      have e2 : x = 17 := e2
      have hw := hw.2.2.2.2.2.2.2.2.2.2.2.2.2.2.2.2.2.1 e2
      refine lv_tableIn (off := 109) (tgt := 110) hx hb dxQ_badA_1 (by rw [e2]; decide) (by rw [e2]; decide) (by rw [e2]; rfl) (by decide) ?_
      refine lv_iload_n hx hb dxQ_badA_110 rfl (lv_at hl 2 rfl) ?_
      refine lv_iconst (v := 0) hx hb dxQ_badA_111 (by decide) ?_
      refine lv_iconst (v := 3) hx hb dxQ_badA_112 (by decide) ?_
      refine cx_xQ_113 (As := [.int y, .int 0, .int 3]) (rest := []) X hG h hl.1 (mxQ_out l Γ θ S Z y (0) (3) _ hw) ⟨show 0 + 1 ≤ 1 from by omega, show 8 + (3 + 11) + 0 ≤ 22 from by omega⟩ rfl (Nat.le_of_ble_eq_true rfl) dxQ_badA_113 ⟨Nat.le_of_ble_eq_true rfl, Nat.le_of_ble_eq_true rfl⟩ (fun v W1 hK H locs h => ?_)
      obtain ⟨r49, S50, rfl, rfl, hw⟩ := hK
      refine W.eq (g2 := F0 m 116 ls [.int r49]) rfl ?_
      obtain ⟨o51, hw⟩ := hw
      exact z_zret X hr hlk h (nz o51) ⟨_, _, rfl, rfl, hw⟩ dxQ_badA_116
    | 18, _, e2 =>
      have e2 : x = 18 := e2
      have hw := hw.2.2.2.2.2.2.2.2.2.2.2.2.2.2.2.2.2.2.1 e2
      refine lv_tableIn (off := 131) (tgt := 132) hx hb dxQ_badA_1 (by rw [e2]; decide) (by rw [e2]; decide) (by rw [e2]; rfl) (by decide) ?_
      refine lv_iload_n hx hb dxQ_badA_132 rfl (lv_at hl 2 rfl) ?_
      refine lv_iconst (v := 0) hx hb dxQ_badA_133 (by decide) ?_
      refine lv_aload_n hx hb dxQ_badA_134 rfl (lv_at hl 0 rfl) ?_
      refine gx_xQ_37 X hG h (x := S 17 0) rfl dxQ_badA_135 ?_
      refine lv_iconst (v := 1) hx hb dxQ_badA_138 (by decide) ?_
      refine lv_isub hx hb dxQ_badA_139 ?_
      refine cx_xQ_113 (As := [.int y, .int 0, .int ((S 17 0) - 1)]) (rest := []) X hG h hl.1 (mxQ_out l Γ θ S Z y (0) ((S 17 0) - 1) _ hw) ⟨show 0 + 1 ≤ 1 from by omega, show 8 + (3 + 11) + 0 ≤ 22 from by omega⟩ rfl (Nat.le_of_ble_eq_true rfl) dxQ_badA_140 ⟨Nat.le_of_ble_eq_true rfl, Nat.le_of_ble_eq_true rfl⟩ (fun v W1 hK H locs h => ?_)
      obtain ⟨r52, S53, rfl, rfl, hw⟩ := hK
      refine W.eq (g2 := F0 m 143 ls [.int r52]) rfl ?_
      obtain ⟨o54, hw⟩ := hw
      exact z_zret X hr hlk h (nz o54) ⟨_, _, rfl, rfl, hw⟩ dxQ_badA_143
    | 19, _, e2 =>
      have e2 : x = 19 := e2
      have hw := hw.2.2.2.2.2.2.2.2.2.2.2.2.2.2.2.2.2.2.2.1 e2
      refine lv_tableIn (off := 109) (tgt := 110) hx hb dxQ_badA_1 (by rw [e2]; decide) (by rw [e2]; decide) (by rw [e2]; rfl) (by decide) ?_
      refine lv_iload_n hx hb dxQ_badA_110 rfl (lv_at hl 2 rfl) ?_
      refine lv_iconst (v := 0) hx hb dxQ_badA_111 (by decide) ?_
      refine lv_iconst (v := 3) hx hb dxQ_badA_112 (by decide) ?_
      refine cx_xQ_113 (As := [.int y, .int 0, .int 3]) (rest := []) X hG h hl.1 (mxQ_out l Γ θ S Z y (0) (3) _ hw) ⟨show 0 + 1 ≤ 1 from by omega, show 8 + (3 + 11) + 0 ≤ 22 from by omega⟩ rfl (Nat.le_of_ble_eq_true rfl) dxQ_badA_113 ⟨Nat.le_of_ble_eq_true rfl, Nat.le_of_ble_eq_true rfl⟩ (fun v W1 hK H locs h => ?_)
      obtain ⟨r55, S56, rfl, rfl, hw⟩ := hK
      refine W.eq (g2 := F0 m 116 ls [.int r55]) rfl ?_
      obtain ⟨o57, hw⟩ := hw
      exact z_zret X hr hlk h (nz o57) ⟨_, _, rfl, rfl, hw⟩ dxQ_badA_116
    | 20, _, e2 =>
      have e2 : x = 20 := e2
      have hw := hw.2.2.2.2.2.2.2.2.2.2.2.2.2.2.2.2.2.2.2.2.1 e2
      refine lv_tableIn (off := 143) (tgt := 144) hx hb dxQ_badA_1 (by rw [e2]; decide) (by rw [e2]; decide) (by rw [e2]; rfl) (by decide) ?_
      refine lv_iload_n hx hb dxQ_badA_144 rfl (lv_at hl 2 rfl) ?_
      refine lv_iconst (v := 0) hx hb dxQ_badA_145 (by decide) ?_
      refine lv_iconst (v := 1) hx hb dxQ_badA_146 (by decide) ?_
      refine cx_xQ_113 (As := [.int y, .int 0, .int 1]) (rest := []) X hG h hl.1 (mxQ_out l Γ θ S Z y (0) (1) _ hw) ⟨show 0 + 1 ≤ 1 from by omega, show 8 + (3 + 11) + 0 ≤ 22 from by omega⟩ rfl (Nat.le_of_ble_eq_true rfl) dxQ_badA_147 ⟨Nat.le_of_ble_eq_true rfl, Nat.le_of_ble_eq_true rfl⟩ (fun v W1 hK H locs h => ?_)
      obtain ⟨r58, S59, rfl, rfl, hw⟩ := hK
      refine W.eq (g2 := F0 m 150 ls [.int r58]) rfl ?_
      obtain ⟨o60, hw⟩ := hw
      exact z_zret X hr hlk h (nz o60) ⟨_, _, rfl, rfl, hw⟩ dxQ_badA_150
    | 21, _, e2 =>
      have e2 : x = 21 := e2
      have hw := hw.2.2.2.2.2.2.2.2.2.2.2.2.2.2.2.2.2.2.2.2.2.1 e2
      refine lv_tableIn (off := 143) (tgt := 144) hx hb dxQ_badA_1 (by rw [e2]; decide) (by rw [e2]; decide) (by rw [e2]; rfl) (by decide) ?_
      refine lv_iload_n hx hb dxQ_badA_144 rfl (lv_at hl 2 rfl) ?_
      refine lv_iconst (v := 0) hx hb dxQ_badA_145 (by decide) ?_
      refine lv_iconst (v := 1) hx hb dxQ_badA_146 (by decide) ?_
      refine cx_xQ_113 (As := [.int y, .int 0, .int 1]) (rest := []) X hG h hl.1 (mxQ_out l Γ θ S Z y (0) (1) _ hw) ⟨show 0 + 1 ≤ 1 from by omega, show 8 + (3 + 11) + 0 ≤ 22 from by omega⟩ rfl (Nat.le_of_ble_eq_true rfl) dxQ_badA_147 ⟨Nat.le_of_ble_eq_true rfl, Nat.le_of_ble_eq_true rfl⟩ (fun v W1 hK H locs h => ?_)
      obtain ⟨r61, S62, rfl, rfl, hw⟩ := hK
      refine W.eq (g2 := F0 m 150 ls [.int r61]) rfl ?_
      obtain ⟨o63, hw⟩ := hw
      exact z_zret X hr hlk h (nz o63) ⟨_, _, rfl, rfl, hw⟩ dxQ_badA_150
    | 22, _, e2 =>
      have e2 : x = 22 := e2
      have hw := hw.2.2.2.2.2.2.2.2.2.2.2.2.2.2.2.2.2.2.2.2.2.2 e2
      refine lv_tableIn (off := 107) (tgt := 108) hx hb dxQ_badA_1 (by rw [e2]; decide) (by rw [e2]; decide) (by rw [e2]; rfl) (by decide) ?_
      refine lv_iconst (v := 0) hx hb dxQ_badA_108 (by decide) ?_
      exact z_zret X hr hlk h rfl ⟨_, _, rfl, rfl, hw⟩ dxQ_badA_109
    | k + 23, j_h, _ => exact absurd j_h (by omega)
def wxQ_badB  (post : Int32 → Rg → Prop) (S : Rg) (x : Int32) (y : Int32) : Prop := ((x.toInt < 4 ∨ 20 < x.toInt) → post (0 : Int32) S) ∧ (x = 4 → wxQ_noNode (fun r4 S5 => (r4 = 0 ∨ r4 = 1) ∧ post r4 S5) S y) ∧ (x = 5 → wxQ_noNode (fun r7 S8 => (r7 = 0 ∨ r7 = 1) ∧ post r7 S8) S y) ∧ (x = 6 → wxQ_noNode (fun r10 S11 => (r10 = 0 ∨ r10 = 1) ∧ post r10 S11) S y) ∧ (x = 7 → post (0 : Int32) S) ∧ (x = 8 → post (0 : Int32) S) ∧ (x = 9 → post (0 : Int32) S) ∧ (x = 10 → post (0 : Int32) S) ∧ (x = 11 → post (0 : Int32) S) ∧ (x = 12 → post (0 : Int32) S) ∧ (x = 13 → wxQ_out (fun r13 S14 => (r13 = 0 ∨ r13 = 1) ∧ post r13 S14) S y (0) ((S 17 0) - 1)) ∧ (x = 14 → wxQ_noNode (fun r16 S17 => (r16 = 0 ∨ r16 = 1) ∧ post r16 S17) S y) ∧ (x = 15 → wxQ_noNode (fun r19 S20 => (r19 = 0 ∨ r19 = 1) ∧ post r19 S20) S y) ∧ (x = 16 → wxQ_out (fun r22 S23 => (r22 = 0 ∨ r22 = 1) ∧ post r22 S23) S y (0) (3)) ∧ (x = 17 → wxQ_out (fun r25 S26 => (r25 = 0 ∨ r25 = 1) ∧ post r25 S26) S y (0) (4)) ∧ (x = 18 → post (0 : Int32) S) ∧ (x = 19 → post (0 : Int32) S) ∧ (x = 20 → wxQ_noNode (fun r28 S29 => (r28 = 0 ∨ r28 = 1) ∧ post r28 S29) S y)
set_option maxHeartbeats 4000000 in
set_option maxRecDepth 100000 in
theorem mxQ_badB (l : Launch) (Γ : Gm) (θ : Nat → Nat) (S : Rg) (Z : va_W) (x : Int32) (y : Int32) (post : Int32 → Rg → Prop) (hw : wxQ_badB post S x y) : MM l yxQ_badB cxQ_badB 3 (some .boolean) 1 22 Γ [.ref (θ 0), .int x, .int y] (WM Γ θ S Z) (KK (fun r : Int32 => some (.int r)) (fun S' => WM Γ θ S' Z) post) 0 0 := by
  refine MM_of (by decide) (Nat.le_of_ble_eq_true rfl) ?_
  intro p e s m below meth c X hr hlk hnm hG h ls hl
  have hx := X.1
  have hb := X.2.1
  have hl : lv_has ls 3 [(0, .ref (θ 0)), (1, .int x), (2, .int y)] := hl
  unfold wxQ_badB at hw
  refine lv_iload_n hx hb dxQ_badB_0 rfl (lv_at hl 1 rfl) ?_
  by_cases c1 : x.toInt < 4 ∨ 20 < x.toInt
  · have hw := hw.1 c1
    refine lv_tableOut (tgt := 116) hx hb dxQ_badB_1 c1 (by decide) ?_
    refine lv_iconst (v := 0) hx hb dxQ_badB_116 (by decide) ?_
    exact z_zret X hr hlk h rfl ⟨_, _, rfl, rfl, hw⟩ dxQ_badB_117
  · have hw := hw.2
    obtain ⟨j3, j_h, e2⟩ := sw_in (lo := 4) (n := 16) c1
    match j3, j_h, e2 with
    | 0, _, e2 =>
      have e2 : x = 4 := e2
      have hw := hw.1 e2
      refine lv_tableIn (off := 83) (tgt := 84) hx hb dxQ_badB_1 (by rw [e2]; decide) (by rw [e2]; decide) (by rw [e2]; rfl) (by decide) ?_
      refine lv_aload_n hx hb dxQ_badB_84 rfl (lv_at hl 0 rfl) ?_
      refine lv_iload_n hx hb dxQ_badB_85 rfl (lv_at hl 2 rfl) ?_
      refine cx_xQ_120 (As := [.int y]) (rest := []) X hG h hl.1 (mxQ_noNode l Γ θ S Z y _ hw) ⟨show 0 + 1 ≤ 1 from by omega, show 8 + (2 + 11) + 0 ≤ 22 from by omega⟩ (q0 := 0) rfl rfl (Nat.le_of_ble_eq_true rfl) dxQ_badB_86 ⟨Nat.le_of_ble_eq_true rfl, Nat.le_of_ble_eq_true rfl⟩ (fun v W1 hK H locs h => ?_)
      obtain ⟨r4, S5, rfl, rfl, hw⟩ := hK
      refine W.eq (g2 := F0 m 89 ls [.int r4]) rfl ?_
      obtain ⟨o6, hw⟩ := hw
      exact z_zret X hr hlk h (nz o6) ⟨_, _, rfl, rfl, hw⟩ dxQ_badB_89
    | 1, _, e2 =>
      have e2 : x = 5 := e2
      have hw := hw.2.1 e2
      refine lv_tableIn (off := 83) (tgt := 84) hx hb dxQ_badB_1 (by rw [e2]; decide) (by rw [e2]; decide) (by rw [e2]; rfl) (by decide) ?_
      refine lv_aload_n hx hb dxQ_badB_84 rfl (lv_at hl 0 rfl) ?_
      refine lv_iload_n hx hb dxQ_badB_85 rfl (lv_at hl 2 rfl) ?_
      refine cx_xQ_120 (As := [.int y]) (rest := []) X hG h hl.1 (mxQ_noNode l Γ θ S Z y _ hw) ⟨show 0 + 1 ≤ 1 from by omega, show 8 + (2 + 11) + 0 ≤ 22 from by omega⟩ (q0 := 0) rfl rfl (Nat.le_of_ble_eq_true rfl) dxQ_badB_86 ⟨Nat.le_of_ble_eq_true rfl, Nat.le_of_ble_eq_true rfl⟩ (fun v W1 hK H locs h => ?_)
      obtain ⟨r7, S8, rfl, rfl, hw⟩ := hK
      refine W.eq (g2 := F0 m 89 ls [.int r7]) rfl ?_
      obtain ⟨o9, hw⟩ := hw
      exact z_zret X hr hlk h (nz o9) ⟨_, _, rfl, rfl, hw⟩ dxQ_badB_89
    | 2, _, e2 =>
      have e2 : x = 6 := e2
      have hw := hw.2.2.1 e2
      refine lv_tableIn (off := 83) (tgt := 84) hx hb dxQ_badB_1 (by rw [e2]; decide) (by rw [e2]; decide) (by rw [e2]; rfl) (by decide) ?_
      refine lv_aload_n hx hb dxQ_badB_84 rfl (lv_at hl 0 rfl) ?_
      refine lv_iload_n hx hb dxQ_badB_85 rfl (lv_at hl 2 rfl) ?_
      refine cx_xQ_120 (As := [.int y]) (rest := []) X hG h hl.1 (mxQ_noNode l Γ θ S Z y _ hw) ⟨show 0 + 1 ≤ 1 from by omega, show 8 + (2 + 11) + 0 ≤ 22 from by omega⟩ (q0 := 0) rfl rfl (Nat.le_of_ble_eq_true rfl) dxQ_badB_86 ⟨Nat.le_of_ble_eq_true rfl, Nat.le_of_ble_eq_true rfl⟩ (fun v W1 hK H locs h => ?_)
      obtain ⟨r10, S11, rfl, rfl, hw⟩ := hK
      refine W.eq (g2 := F0 m 89 ls [.int r10]) rfl ?_
      obtain ⟨o12, hw⟩ := hw
      exact z_zret X hr hlk h (nz o12) ⟨_, _, rfl, rfl, hw⟩ dxQ_badB_89
    | 3, _, e2 =>
      have e2 : x = 7 := e2
      have hw := hw.2.2.2.1 e2
      refine lv_tableIn (off := 115) (tgt := 116) hx hb dxQ_badB_1 (by rw [e2]; decide) (by rw [e2]; decide) (by rw [e2]; rfl) (by decide) ?_
      refine lv_iconst (v := 0) hx hb dxQ_badB_116 (by decide) ?_
      exact z_zret X hr hlk h rfl ⟨_, _, rfl, rfl, hw⟩ dxQ_badB_117
    | 4, _, e2 =>
      have e2 : x = 8 := e2
      have hw := hw.2.2.2.2.1 e2
      refine lv_tableIn (off := 115) (tgt := 116) hx hb dxQ_badB_1 (by rw [e2]; decide) (by rw [e2]; decide) (by rw [e2]; rfl) (by decide) ?_
      refine lv_iconst (v := 0) hx hb dxQ_badB_116 (by decide) ?_
      exact z_zret X hr hlk h rfl ⟨_, _, rfl, rfl, hw⟩ dxQ_badB_117
    | 5, _, e2 =>
      have e2 : x = 9 := e2
      have hw := hw.2.2.2.2.2.1 e2
      refine lv_tableIn (off := 115) (tgt := 116) hx hb dxQ_badB_1 (by rw [e2]; decide) (by rw [e2]; decide) (by rw [e2]; rfl) (by decide) ?_
      refine lv_iconst (v := 0) hx hb dxQ_badB_116 (by decide) ?_
      exact z_zret X hr hlk h rfl ⟨_, _, rfl, rfl, hw⟩ dxQ_badB_117
    | 6, _, e2 =>
      have e2 : x = 10 := e2
      have hw := hw.2.2.2.2.2.2.1 e2
      refine lv_tableIn (off := 115) (tgt := 116) hx hb dxQ_badB_1 (by rw [e2]; decide) (by rw [e2]; decide) (by rw [e2]; rfl) (by decide) ?_
      refine lv_iconst (v := 0) hx hb dxQ_badB_116 (by decide) ?_
      exact z_zret X hr hlk h rfl ⟨_, _, rfl, rfl, hw⟩ dxQ_badB_117
    | 7, _, e2 =>
      have e2 : x = 11 := e2
      have hw := hw.2.2.2.2.2.2.2.1 e2
      refine lv_tableIn (off := 115) (tgt := 116) hx hb dxQ_badB_1 (by rw [e2]; decide) (by rw [e2]; decide) (by rw [e2]; rfl) (by decide) ?_
      refine lv_iconst (v := 0) hx hb dxQ_badB_116 (by decide) ?_
      exact z_zret X hr hlk h rfl ⟨_, _, rfl, rfl, hw⟩ dxQ_badB_117
    | 8, _, e2 =>
      have e2 : x = 12 := e2
      have hw := hw.2.2.2.2.2.2.2.2.1 e2
      refine lv_tableIn (off := 115) (tgt := 116) hx hb dxQ_badB_1 (by rw [e2]; decide) (by rw [e2]; decide) (by rw [e2]; rfl) (by decide) ?_
      refine lv_iconst (v := 0) hx hb dxQ_badB_116 (by decide) ?_
      exact z_zret X hr hlk h rfl ⟨_, _, rfl, rfl, hw⟩ dxQ_badB_117
    | 9, _, e2 =>
      have e2 : x = 13 := e2
      have hw := hw.2.2.2.2.2.2.2.2.2.1 e2
      refine lv_tableIn (off := 89) (tgt := 90) hx hb dxQ_badB_1 (by rw [e2]; decide) (by rw [e2]; decide) (by rw [e2]; rfl) (by decide) ?_
      refine lv_iload_n hx hb dxQ_badB_90 rfl (lv_at hl 2 rfl) ?_
      refine lv_iconst (v := 0) hx hb dxQ_badB_91 (by decide) ?_
      refine lv_aload_n hx hb dxQ_badB_92 rfl (lv_at hl 0 rfl) ?_
      refine gx_xQ_37 X hG h (x := S 17 0) rfl dxQ_badB_93 ?_
      refine lv_iconst (v := 1) hx hb dxQ_badB_96 (by decide) ?_
      refine lv_isub hx hb dxQ_badB_97 ?_
      refine cx_xQ_113 (As := [.int y, .int 0, .int ((S 17 0) - 1)]) (rest := []) X hG h hl.1 (mxQ_out l Γ θ S Z y (0) ((S 17 0) - 1) _ hw) ⟨show 0 + 1 ≤ 1 from by omega, show 8 + (3 + 11) + 0 ≤ 22 from by omega⟩ rfl (Nat.le_of_ble_eq_true rfl) dxQ_badB_98 ⟨Nat.le_of_ble_eq_true rfl, Nat.le_of_ble_eq_true rfl⟩ (fun v W1 hK H locs h => ?_)
      obtain ⟨r13, S14, rfl, rfl, hw⟩ := hK
      refine W.eq (g2 := F0 m 101 ls [.int r13]) rfl ?_
      obtain ⟨o15, hw⟩ := hw
      exact z_zret X hr hlk h (nz o15) ⟨_, _, rfl, rfl, hw⟩ dxQ_badB_101
    | 10, _, e2 =>
      have e2 : x = 14 := e2
      have hw := hw.2.2.2.2.2.2.2.2.2.2.1 e2
      refine lv_tableIn (off := 83) (tgt := 84) hx hb dxQ_badB_1 (by rw [e2]; decide) (by rw [e2]; decide) (by rw [e2]; rfl) (by decide) ?_
      refine lv_aload_n hx hb dxQ_badB_84 rfl (lv_at hl 0 rfl) ?_
      refine lv_iload_n hx hb dxQ_badB_85 rfl (lv_at hl 2 rfl) ?_
      refine cx_xQ_120 (As := [.int y]) (rest := []) X hG h hl.1 (mxQ_noNode l Γ θ S Z y _ hw) ⟨show 0 + 1 ≤ 1 from by omega, show 8 + (2 + 11) + 0 ≤ 22 from by omega⟩ (q0 := 0) rfl rfl (Nat.le_of_ble_eq_true rfl) dxQ_badB_86 ⟨Nat.le_of_ble_eq_true rfl, Nat.le_of_ble_eq_true rfl⟩ (fun v W1 hK H locs h => ?_)
      obtain ⟨r16, S17, rfl, rfl, hw⟩ := hK
      refine W.eq (g2 := F0 m 89 ls [.int r16]) rfl ?_
      obtain ⟨o18, hw⟩ := hw
      exact z_zret X hr hlk h (nz o18) ⟨_, _, rfl, rfl, hw⟩ dxQ_badB_89
    | 11, _, e2 =>
      have e2 : x = 15 := e2
      have hw := hw.2.2.2.2.2.2.2.2.2.2.2.1 e2
      refine lv_tableIn (off := 83) (tgt := 84) hx hb dxQ_badB_1 (by rw [e2]; decide) (by rw [e2]; decide) (by rw [e2]; rfl) (by decide) ?_
      refine lv_aload_n hx hb dxQ_badB_84 rfl (lv_at hl 0 rfl) ?_
      refine lv_iload_n hx hb dxQ_badB_85 rfl (lv_at hl 2 rfl) ?_
      refine cx_xQ_120 (As := [.int y]) (rest := []) X hG h hl.1 (mxQ_noNode l Γ θ S Z y _ hw) ⟨show 0 + 1 ≤ 1 from by omega, show 8 + (2 + 11) + 0 ≤ 22 from by omega⟩ (q0 := 0) rfl rfl (Nat.le_of_ble_eq_true rfl) dxQ_badB_86 ⟨Nat.le_of_ble_eq_true rfl, Nat.le_of_ble_eq_true rfl⟩ (fun v W1 hK H locs h => ?_)
      obtain ⟨r19, S20, rfl, rfl, hw⟩ := hK
      refine W.eq (g2 := F0 m 89 ls [.int r19]) rfl ?_
      obtain ⟨o21, hw⟩ := hw
      exact z_zret X hr hlk h (nz o21) ⟨_, _, rfl, rfl, hw⟩ dxQ_badB_89
    | 12, _, e2 =>
      have e2 : x = 16 := e2
      have hw := hw.2.2.2.2.2.2.2.2.2.2.2.2.1 e2
      refine lv_tableIn (off := 101) (tgt := 102) hx hb dxQ_badB_1 (by rw [e2]; decide) (by rw [e2]; decide) (by rw [e2]; rfl) (by decide) ?_
      refine lv_iload_n hx hb dxQ_badB_102 rfl (lv_at hl 2 rfl) ?_
      refine lv_iconst (v := 0) hx hb dxQ_badB_103 (by decide) ?_
      refine lv_iconst (v := 3) hx hb dxQ_badB_104 (by decide) ?_
      refine cx_xQ_113 (As := [.int y, .int 0, .int 3]) (rest := []) X hG h hl.1 (mxQ_out l Γ θ S Z y (0) (3) _ hw) ⟨show 0 + 1 ≤ 1 from by omega, show 8 + (3 + 11) + 0 ≤ 22 from by omega⟩ rfl (Nat.le_of_ble_eq_true rfl) dxQ_badB_105 ⟨Nat.le_of_ble_eq_true rfl, Nat.le_of_ble_eq_true rfl⟩ (fun v W1 hK H locs h => ?_)
      obtain ⟨r22, S23, rfl, rfl, hw⟩ := hK
      refine W.eq (g2 := F0 m 108 ls [.int r22]) rfl ?_
      obtain ⟨o24, hw⟩ := hw
      exact z_zret X hr hlk h (nz o24) ⟨_, _, rfl, rfl, hw⟩ dxQ_badB_108
    | 13, _, e2 =>
      have e2 : x = 17 := e2
      have hw := hw.2.2.2.2.2.2.2.2.2.2.2.2.2.1 e2
      refine lv_tableIn (off := 108) (tgt := 109) hx hb dxQ_badB_1 (by rw [e2]; decide) (by rw [e2]; decide) (by rw [e2]; rfl) (by decide) ?_
      refine lv_iload_n hx hb dxQ_badB_109 rfl (lv_at hl 2 rfl) ?_
      refine lv_iconst (v := 0) hx hb dxQ_badB_110 (by decide) ?_
      refine lv_iconst (v := 4) hx hb dxQ_badB_111 (by decide) ?_
      refine cx_xQ_113 (As := [.int y, .int 0, .int 4]) (rest := []) X hG h hl.1 (mxQ_out l Γ θ S Z y (0) (4) _ hw) ⟨show 0 + 1 ≤ 1 from by omega, show 8 + (3 + 11) + 0 ≤ 22 from by omega⟩ rfl (Nat.le_of_ble_eq_true rfl) dxQ_badB_112 ⟨Nat.le_of_ble_eq_true rfl, Nat.le_of_ble_eq_true rfl⟩ (fun v W1 hK H locs h => ?_)
      obtain ⟨r25, S26, rfl, rfl, hw⟩ := hK
      refine W.eq (g2 := F0 m 115 ls [.int r25]) rfl ?_
      obtain ⟨o27, hw⟩ := hw
      exact z_zret X hr hlk h (nz o27) ⟨_, _, rfl, rfl, hw⟩ dxQ_badB_115
    | 14, _, e2 =>
      have e2 : x = 18 := e2
      have hw := hw.2.2.2.2.2.2.2.2.2.2.2.2.2.2.1 e2
      refine lv_tableIn (off := 115) (tgt := 116) hx hb dxQ_badB_1 (by rw [e2]; decide) (by rw [e2]; decide) (by rw [e2]; rfl) (by decide) ?_
      refine lv_iconst (v := 0) hx hb dxQ_badB_116 (by decide) ?_
      exact z_zret X hr hlk h rfl ⟨_, _, rfl, rfl, hw⟩ dxQ_badB_117
    | 15, _, e2 =>
      have e2 : x = 19 := e2
      have hw := hw.2.2.2.2.2.2.2.2.2.2.2.2.2.2.2.1 e2
      refine lv_tableIn (off := 115) (tgt := 116) hx hb dxQ_badB_1 (by rw [e2]; decide) (by rw [e2]; decide) (by rw [e2]; rfl) (by decide) ?_
      refine lv_iconst (v := 0) hx hb dxQ_badB_116 (by decide) ?_
      exact z_zret X hr hlk h rfl ⟨_, _, rfl, rfl, hw⟩ dxQ_badB_117
    | 16, _, e2 =>
      have e2 : x = 20 := e2
      have hw := hw.2.2.2.2.2.2.2.2.2.2.2.2.2.2.2.2 e2
      refine lv_tableIn (off := 83) (tgt := 84) hx hb dxQ_badB_1 (by rw [e2]; decide) (by rw [e2]; decide) (by rw [e2]; rfl) (by decide) ?_
      refine lv_aload_n hx hb dxQ_badB_84 rfl (lv_at hl 0 rfl) ?_
      refine lv_iload_n hx hb dxQ_badB_85 rfl (lv_at hl 2 rfl) ?_
      refine cx_xQ_120 (As := [.int y]) (rest := []) X hG h hl.1 (mxQ_noNode l Γ θ S Z y _ hw) ⟨show 0 + 1 ≤ 1 from by omega, show 8 + (2 + 11) + 0 ≤ 22 from by omega⟩ (q0 := 0) rfl rfl (Nat.le_of_ble_eq_true rfl) dxQ_badB_86 ⟨Nat.le_of_ble_eq_true rfl, Nat.le_of_ble_eq_true rfl⟩ (fun v W1 hK H locs h => ?_)
      obtain ⟨r28, S29, rfl, rfl, hw⟩ := hK
      refine W.eq (g2 := F0 m 89 ls [.int r28]) rfl ?_
      obtain ⟨o30, hw⟩ := hw
      exact z_zret X hr hlk h (nz o30) ⟨_, _, rfl, rfl, hw⟩ dxQ_badB_89
    | k + 17, j_h, _ => exact absurd j_h (by omega)
def wxQ_levelOf_c124  (post : Int32 → Rg → Prop) (x : Int32) (a : Int32) (b : Int32) (q : Int32) (S : Rg) (a5 : Int32) : Prop := post (a5 + 1) S
set_option maxHeartbeats 4000000 in
set_option maxRecDepth 100000 in
theorem txQ_levelOf_c124 {p : Program} {l : Launch} {e : Env} {s : State} {m : MethodId} {below : List Frame} {meth : Method} {c : Code} (Γ : Gm) (θ : Nat → Nat) (Z : va_W) (x : Int32) (a : Int32) (b : Int32) (q : Int32)  (post : Int32 → Rg → Prop) (X : CallFix p m c cxQ_levelOf 6 s ([.ref (θ 0), .int x, .int a, .int b, .int q] : List Value).toArray big RxQ) (hr : meth.sig.returnType = (some .int)) (hlk : meth.locks = false) (hG : GX Γ s s.heap) :
    ∀ (S : Rg) (a5 : Int32) (hw : wxQ_levelOf_c124 post x a b q S a5) (H : Heap) (locs : List Loc) (h : HS Γ s (WM Γ θ S Z) H locs) (ls : Array Slot) (hl : lv_has ls 6 [(0, .ref (θ 0)), (1, .int x), (2, .int a), (3, .int b), (4, .int q), (5, .int a5)]), W p l e { frames := 0, cells := 0, slots := 0, locals := 0 } s m ([.ref (θ 0), .int x, .int a, .int b, .int q] : List Value).toArray below meth c H locs 0 0 (MQ below (QM Γ (KK (fun r : Int32 => some (.int r)) (fun S' => WM Γ θ S' Z) post)) ([.ref (θ 0), .int x, .int a, .int b, .int q] : List Value).toArray s 0 0 (AA Γ)) (F0 m 124 ls []) := by
  have hx := X.1
  have hb := X.2.1
  intro S a5 hw H locs h ls hl
  unfold wxQ_levelOf_c124 at hw
  refine lv_iload hx hb dxQ_levelOf_124 (lv_at hl 5 rfl) ?_
  refine lv_iconst (v := 1) hx hb dxQ_levelOf_126 (by decide) ?_
  refine lv_iadd hx hb dxQ_levelOf_127 ?_
  exact z_iret X hr hlk h ⟨_, _, rfl, rfl, hw⟩ dxQ_levelOf_128
def wxQ_levelOf_c103  (post : Int32 → Rg → Prop) (x : Int32) (a : Int32) (b : Int32) (q : Int32) (S : Rg) (a5 : Int32) : Prop := (vp_in q 64) ∧ (((S 14 q.toNatClampNeg) ≤ a5) → wxQ_levelOf_c124 post x a b q S a5) ∧ ((¬ ((S 14 q.toNatClampNeg) ≤ a5)) → wxQ_levelOf_c124 post x a b q S (S 14 q.toNatClampNeg))
set_option maxHeartbeats 4000000 in
set_option maxRecDepth 100000 in
theorem txQ_levelOf_c103 {p : Program} {l : Launch} {e : Env} {s : State} {m : MethodId} {below : List Frame} {meth : Method} {c : Code} (Γ : Gm) (θ : Nat → Nat) (Z : va_W) (x : Int32) (a : Int32) (b : Int32) (q : Int32)  (post : Int32 → Rg → Prop) (X : CallFix p m c cxQ_levelOf 6 s ([.ref (θ 0), .int x, .int a, .int b, .int q] : List Value).toArray big RxQ) (hr : meth.sig.returnType = (some .int)) (hlk : meth.locks = false) (hG : GX Γ s s.heap) :
    ∀ (S : Rg) (a5 : Int32) (hw : wxQ_levelOf_c103 post x a b q S a5) (H : Heap) (locs : List Loc) (h : HS Γ s (WM Γ θ S Z) H locs) (ls : Array Slot) (hl : lv_has ls 6 [(0, .ref (θ 0)), (1, .int x), (2, .int a), (3, .int b), (4, .int q), (5, .int a5)]), W p l e { frames := 0, cells := 0, slots := 0, locals := 0 } s m ([.ref (θ 0), .int x, .int a, .int b, .int q] : List Value).toArray below meth c H locs 0 0 (MQ below (QM Γ (KK (fun r : Int32 => some (.int r)) (fun S' => WM Γ θ S' Z) post)) ([.ref (θ 0), .int x, .int a, .int b, .int q] : List Value).toArray s 0 0 (AA Γ)) (F0 m 103 ls []) := by
  have hx := X.1
  have hb := X.2.1
  intro S a5 hw H locs h ls hl
  unfold wxQ_levelOf_c103 at hw
  refine lv_aload_n hx hb dxQ_levelOf_103 rfl (lv_at hl 0 rfl) ?_
  refine gx_xQ_53 X hG h dxQ_levelOf_104 ?_
  refine lv_iload hx hb dxQ_levelOf_107 (lv_at hl 4 rfl) ?_
  obtain ⟨o1, hw⟩ := hw
  refine lq_7 X hG h o1 (x := S 14 q.toNatClampNeg) rfl dxQ_levelOf_109 ?_
  refine lv_iload hx hb dxQ_levelOf_110 (lv_at hl 5 rfl) ?_
  refine lv_icmp_le (tgt := 124) hx hb dxQ_levelOf_112 (by decide) (fun c2 => ?_) (fun c2 => ?_)
  · have hw := hw.1 c2
    exact txQ_levelOf_c124 Γ θ Z x a b q post X hr hlk hG S a5 hw _ _ h ls (lv_sub hl [0, 1, 2, 3, 4, 5] rfl)
  · have hw := hw.2 c2
    refine lv_aload_n hx hb dxQ_levelOf_115 rfl (lv_at hl 0 rfl) ?_
    refine gx_xQ_53 X hG h dxQ_levelOf_116 ?_
    refine lv_iload hx hb dxQ_levelOf_119 (lv_at hl 4 rfl) ?_
    refine lq_7 X hG h o1 (x := S 14 q.toNatClampNeg) rfl dxQ_levelOf_121 ?_
    refine lv_istore (lv' := [(5, .int (S 14 q.toNatClampNeg)), (0, .ref (θ 0)), (1, .int x), (2, .int a), (3, .int b), (4, .int q)]) hx hb dxQ_levelOf_122 hl (by decide) rfl (fun ls hl => ?_)
    exact txQ_levelOf_c124 Γ θ Z x a b q post X hr hlk hG S (S 14 q.toNatClampNeg) hw _ _ h ls (lv_sub hl [1, 2, 3, 4, 5, 0] rfl)
def wxQ_levelOf_c87  (post : Int32 → Rg → Prop) (x : Int32) (a : Int32) (b : Int32) (q : Int32) (S : Rg) (a5 : Int32) : Prop := ((¬ (x = (5 : Int32))) → ((¬ (x = (13 : Int32))) → wxQ_levelOf_c124 post x a b q S a5) ∧ ((x = (13 : Int32)) → wxQ_levelOf_c103 post x a b q S a5)) ∧ ((x = (5 : Int32)) → (((0 : Int32) ≤ q) → wxQ_levelOf_c103 post x a b q S a5) ∧ ((¬ ((0 : Int32) ≤ q)) → ((¬ (x = (13 : Int32))) → wxQ_levelOf_c124 post x a b q S a5) ∧ ((x = (13 : Int32)) → wxQ_levelOf_c103 post x a b q S a5)))
set_option maxHeartbeats 4000000 in
set_option maxRecDepth 100000 in
theorem txQ_levelOf_c87 {p : Program} {l : Launch} {e : Env} {s : State} {m : MethodId} {below : List Frame} {meth : Method} {c : Code} (Γ : Gm) (θ : Nat → Nat) (Z : va_W) (x : Int32) (a : Int32) (b : Int32) (q : Int32)  (post : Int32 → Rg → Prop) (X : CallFix p m c cxQ_levelOf 6 s ([.ref (θ 0), .int x, .int a, .int b, .int q] : List Value).toArray big RxQ) (hr : meth.sig.returnType = (some .int)) (hlk : meth.locks = false) (hG : GX Γ s s.heap) :
    ∀ (S : Rg) (a5 : Int32) (hw : wxQ_levelOf_c87 post x a b q S a5) (H : Heap) (locs : List Loc) (h : HS Γ s (WM Γ θ S Z) H locs) (ls : Array Slot) (hl : lv_has ls 6 [(0, .ref (θ 0)), (1, .int x), (2, .int a), (3, .int b), (4, .int q), (5, .int a5)]), W p l e { frames := 0, cells := 0, slots := 0, locals := 0 } s m ([.ref (θ 0), .int x, .int a, .int b, .int q] : List Value).toArray below meth c H locs 0 0 (MQ below (QM Γ (KK (fun r : Int32 => some (.int r)) (fun S' => WM Γ θ S' Z) post)) ([.ref (θ 0), .int x, .int a, .int b, .int q] : List Value).toArray s 0 0 (AA Γ)) (F0 m 87 ls []) := by
  have hx := X.1
  have hb := X.2.1
  intro S a5 hw H locs h ls hl
  unfold wxQ_levelOf_c87 at hw
  refine lv_iload_n hx hb dxQ_levelOf_87 rfl (lv_at hl 1 rfl) ?_
  refine lv_iconst (v := 5) hx hb dxQ_levelOf_88 (by decide) ?_
  refine lv_icmp_ne (tgt := 97) hx hb dxQ_levelOf_89 (by decide) (fun c1 => ?_) (fun c1 => ?_)
  · have hw := hw.1 c1
    refine lv_iload_n hx hb dxQ_levelOf_97 rfl (lv_at hl 1 rfl) ?_
    refine lv_bipush (v := 13) hx hb dxQ_levelOf_98 (by decide) ?_
    refine lv_icmp_ne (tgt := 124) hx hb dxQ_levelOf_100 (by decide) (fun c2 => ?_) (fun c2 => ?_)
    · have hw := hw.1 c2
      exact txQ_levelOf_c124 Γ θ Z x a b q post X hr hlk hG S a5 hw _ _ h ls (lv_sub hl [0, 1, 2, 3, 4, 5] rfl)
    · have hw := hw.2 c2
      exact txQ_levelOf_c103 Γ θ Z x a b q post X hr hlk hG S a5 hw _ _ h ls (lv_sub hl [0, 1, 2, 3, 4, 5] rfl)
  · have hw := hw.2 c1
    refine lv_iload hx hb dxQ_levelOf_92 (lv_at hl 4 rfl) ?_
    refine lv_if_ge (tgt := 103) hx hb dxQ_levelOf_94 (by decide) (fun c3 => ?_) (fun c3 => ?_)
    · have hw := hw.1 c3
      exact txQ_levelOf_c103 Γ θ Z x a b q post X hr hlk hG S a5 hw _ _ h ls (lv_sub hl [0, 1, 2, 3, 4, 5] rfl)
    · have hw := hw.2 c3
      refine lv_iload_n hx hb dxQ_levelOf_97 rfl (lv_at hl 1 rfl) ?_
      refine lv_bipush (v := 13) hx hb dxQ_levelOf_98 (by decide) ?_
      refine lv_icmp_ne (tgt := 124) hx hb dxQ_levelOf_100 (by decide) (fun c4 => ?_) (fun c4 => ?_)
      · have hw := hw.1 c4
        exact txQ_levelOf_c124 Γ θ Z x a b q post X hr hlk hG S a5 hw _ _ h ls (lv_sub hl [0, 1, 2, 3, 4, 5] rfl)
      · have hw := hw.2 c4
        exact txQ_levelOf_c103 Γ θ Z x a b q post X hr hlk hG S a5 hw _ _ h ls (lv_sub hl [0, 1, 2, 3, 4, 5] rfl)
def wxQ_levelOf_c68  (post : Int32 → Rg → Prop) (x : Int32) (a : Int32) (b : Int32) (q : Int32) (S : Rg) (a5 : Int32) : Prop := (vp_in b 64) ∧ (((S 14 b.toNatClampNeg) ≤ a5) → wxQ_levelOf_c87 post x a b q S a5) ∧ ((¬ ((S 14 b.toNatClampNeg) ≤ a5)) → wxQ_levelOf_c87 post x a b q S (S 14 b.toNatClampNeg))
set_option maxHeartbeats 4000000 in
set_option maxRecDepth 100000 in
theorem txQ_levelOf_c68 {p : Program} {l : Launch} {e : Env} {s : State} {m : MethodId} {below : List Frame} {meth : Method} {c : Code} (Γ : Gm) (θ : Nat → Nat) (Z : va_W) (x : Int32) (a : Int32) (b : Int32) (q : Int32)  (post : Int32 → Rg → Prop) (X : CallFix p m c cxQ_levelOf 6 s ([.ref (θ 0), .int x, .int a, .int b, .int q] : List Value).toArray big RxQ) (hr : meth.sig.returnType = (some .int)) (hlk : meth.locks = false) (hG : GX Γ s s.heap) :
    ∀ (S : Rg) (a5 : Int32) (hw : wxQ_levelOf_c68 post x a b q S a5) (H : Heap) (locs : List Loc) (h : HS Γ s (WM Γ θ S Z) H locs) (ls : Array Slot) (hl : lv_has ls 6 [(0, .ref (θ 0)), (1, .int x), (2, .int a), (3, .int b), (4, .int q), (5, .int a5)]), W p l e { frames := 0, cells := 0, slots := 0, locals := 0 } s m ([.ref (θ 0), .int x, .int a, .int b, .int q] : List Value).toArray below meth c H locs 0 0 (MQ below (QM Γ (KK (fun r : Int32 => some (.int r)) (fun S' => WM Γ θ S' Z) post)) ([.ref (θ 0), .int x, .int a, .int b, .int q] : List Value).toArray s 0 0 (AA Γ)) (F0 m 68 ls []) := by
  have hx := X.1
  have hb := X.2.1
  intro S a5 hw H locs h ls hl
  unfold wxQ_levelOf_c68 at hw
  refine lv_aload_n hx hb dxQ_levelOf_68 rfl (lv_at hl 0 rfl) ?_
  refine gx_xQ_53 X hG h dxQ_levelOf_69 ?_
  refine lv_iload_n hx hb dxQ_levelOf_72 rfl (lv_at hl 3 rfl) ?_
  obtain ⟨o1, hw⟩ := hw
  refine lq_7 X hG h o1 (x := S 14 b.toNatClampNeg) rfl dxQ_levelOf_73 ?_
  refine lv_iload hx hb dxQ_levelOf_74 (lv_at hl 5 rfl) ?_
  refine lv_icmp_le (tgt := 87) hx hb dxQ_levelOf_76 (by decide) (fun c2 => ?_) (fun c2 => ?_)
  · have hw := hw.1 c2
    exact txQ_levelOf_c87 Γ θ Z x a b q post X hr hlk hG S a5 hw _ _ h ls (lv_sub hl [0, 1, 2, 3, 4, 5] rfl)
  · have hw := hw.2 c2
    refine lv_aload_n hx hb dxQ_levelOf_79 rfl (lv_at hl 0 rfl) ?_
    refine gx_xQ_53 X hG h dxQ_levelOf_80 ?_
    refine lv_iload_n hx hb dxQ_levelOf_83 rfl (lv_at hl 3 rfl) ?_
    refine lq_7 X hG h o1 (x := S 14 b.toNatClampNeg) rfl dxQ_levelOf_84 ?_
    refine lv_istore (lv' := [(5, .int (S 14 b.toNatClampNeg)), (0, .ref (θ 0)), (1, .int x), (2, .int a), (3, .int b), (4, .int q)]) hx hb dxQ_levelOf_85 hl (by decide) rfl (fun ls hl => ?_)
    exact txQ_levelOf_c87 Γ θ Z x a b q post X hr hlk hG S (S 14 b.toNatClampNeg) hw _ _ h ls (lv_sub hl [1, 2, 3, 4, 5, 0] rfl)
def wxQ_levelOf_c39  (post : Int32 → Rg → Prop) (x : Int32) (a : Int32) (b : Int32) (q : Int32) (S : Rg) (a5 : Int32) : Prop := ((x < (4 : Int32)) → ((x = (14 : Int32)) → wxQ_levelOf_c68 post x a b q S a5) ∧ ((¬ (x = (14 : Int32))) → ((x = (15 : Int32)) → wxQ_levelOf_c68 post x a b q S a5) ∧ ((¬ (x = (15 : Int32))) → ((¬ (x = (20 : Int32))) → wxQ_levelOf_c87 post x a b q S a5) ∧ ((x = (20 : Int32)) → wxQ_levelOf_c68 post x a b q S a5)))) ∧ ((¬ (x < (4 : Int32))) → ((x ≤ (6 : Int32)) → wxQ_levelOf_c68 post x a b q S a5) ∧ ((¬ (x ≤ (6 : Int32))) → ((x = (14 : Int32)) → wxQ_levelOf_c68 post x a b q S a5) ∧ ((¬ (x = (14 : Int32))) → ((x = (15 : Int32)) → wxQ_levelOf_c68 post x a b q S a5) ∧ ((¬ (x = (15 : Int32))) → ((¬ (x = (20 : Int32))) → wxQ_levelOf_c87 post x a b q S a5) ∧ ((x = (20 : Int32)) → wxQ_levelOf_c68 post x a b q S a5)))))
set_option maxHeartbeats 4000000 in
set_option maxRecDepth 100000 in
theorem txQ_levelOf_c39 {p : Program} {l : Launch} {e : Env} {s : State} {m : MethodId} {below : List Frame} {meth : Method} {c : Code} (Γ : Gm) (θ : Nat → Nat) (Z : va_W) (x : Int32) (a : Int32) (b : Int32) (q : Int32)  (post : Int32 → Rg → Prop) (X : CallFix p m c cxQ_levelOf 6 s ([.ref (θ 0), .int x, .int a, .int b, .int q] : List Value).toArray big RxQ) (hr : meth.sig.returnType = (some .int)) (hlk : meth.locks = false) (hG : GX Γ s s.heap) :
    ∀ (S : Rg) (a5 : Int32) (hw : wxQ_levelOf_c39 post x a b q S a5) (H : Heap) (locs : List Loc) (h : HS Γ s (WM Γ θ S Z) H locs) (ls : Array Slot) (hl : lv_has ls 6 [(0, .ref (θ 0)), (1, .int x), (2, .int a), (3, .int b), (4, .int q), (5, .int a5)]), W p l e { frames := 0, cells := 0, slots := 0, locals := 0 } s m ([.ref (θ 0), .int x, .int a, .int b, .int q] : List Value).toArray below meth c H locs 0 0 (MQ below (QM Γ (KK (fun r : Int32 => some (.int r)) (fun S' => WM Γ θ S' Z) post)) ([.ref (θ 0), .int x, .int a, .int b, .int q] : List Value).toArray s 0 0 (AA Γ)) (F0 m 39 ls []) := by
  have hx := X.1
  have hb := X.2.1
  intro S a5 hw H locs h ls hl
  unfold wxQ_levelOf_c39 at hw
  refine lv_iload_n hx hb dxQ_levelOf_39 rfl (lv_at hl 1 rfl) ?_
  refine lv_iconst (v := 4) hx hb dxQ_levelOf_40 (by decide) ?_
  refine lv_icmp_lt (tgt := 50) hx hb dxQ_levelOf_41 (by decide) (fun c1 => ?_) (fun c1 => ?_)
  · have hw := hw.1 c1
    refine lv_iload_n hx hb dxQ_levelOf_50 rfl (lv_at hl 1 rfl) ?_
    refine lv_bipush (v := 14) hx hb dxQ_levelOf_51 (by decide) ?_
    refine lv_icmp_eq (tgt := 68) hx hb dxQ_levelOf_53 (by decide) (fun c2 => ?_) (fun c2 => ?_)
    · have hw := hw.1 c2
      exact txQ_levelOf_c68 Γ θ Z x a b q post X hr hlk hG S a5 hw _ _ h ls (lv_sub hl [0, 1, 2, 3, 4, 5] rfl)
    · have hw := hw.2 c2
      refine lv_iload_n hx hb dxQ_levelOf_56 rfl (lv_at hl 1 rfl) ?_
      refine lv_bipush (v := 15) hx hb dxQ_levelOf_57 (by decide) ?_
      refine lv_icmp_eq (tgt := 68) hx hb dxQ_levelOf_59 (by decide) (fun c5 => ?_) (fun c5 => ?_)
      · have hw := hw.1 c5
        exact txQ_levelOf_c68 Γ θ Z x a b q post X hr hlk hG S a5 hw _ _ h ls (lv_sub hl [0, 1, 2, 3, 4, 5] rfl)
      · have hw := hw.2 c5
        refine lv_iload_n hx hb dxQ_levelOf_62 rfl (lv_at hl 1 rfl) ?_
        refine lv_bipush (v := 20) hx hb dxQ_levelOf_63 (by decide) ?_
        refine lv_icmp_ne (tgt := 87) hx hb dxQ_levelOf_65 (by decide) (fun c6 => ?_) (fun c6 => ?_)
        · have hw := hw.1 c6
          exact txQ_levelOf_c87 Γ θ Z x a b q post X hr hlk hG S a5 hw _ _ h ls (lv_sub hl [0, 1, 2, 3, 4, 5] rfl)
        · have hw := hw.2 c6
          exact txQ_levelOf_c68 Γ θ Z x a b q post X hr hlk hG S a5 hw _ _ h ls (lv_sub hl [0, 1, 2, 3, 4, 5] rfl)
  · have hw := hw.2 c1
    refine lv_iload_n hx hb dxQ_levelOf_44 rfl (lv_at hl 1 rfl) ?_
    refine lv_bipush (v := 6) hx hb dxQ_levelOf_45 (by decide) ?_
    refine lv_icmp_le (tgt := 68) hx hb dxQ_levelOf_47 (by decide) (fun c7 => ?_) (fun c7 => ?_)
    · have hw := hw.1 c7
      exact txQ_levelOf_c68 Γ θ Z x a b q post X hr hlk hG S a5 hw _ _ h ls (lv_sub hl [0, 1, 2, 3, 4, 5] rfl)
    · have hw := hw.2 c7
      refine lv_iload_n hx hb dxQ_levelOf_50 rfl (lv_at hl 1 rfl) ?_
      refine lv_bipush (v := 14) hx hb dxQ_levelOf_51 (by decide) ?_
      refine lv_icmp_eq (tgt := 68) hx hb dxQ_levelOf_53 (by decide) (fun c8 => ?_) (fun c8 => ?_)
      · have hw := hw.1 c8
        exact txQ_levelOf_c68 Γ θ Z x a b q post X hr hlk hG S a5 hw _ _ h ls (lv_sub hl [0, 1, 2, 3, 4, 5] rfl)
      · have hw := hw.2 c8
        refine lv_iload_n hx hb dxQ_levelOf_56 rfl (lv_at hl 1 rfl) ?_
        refine lv_bipush (v := 15) hx hb dxQ_levelOf_57 (by decide) ?_
        refine lv_icmp_eq (tgt := 68) hx hb dxQ_levelOf_59 (by decide) (fun c9 => ?_) (fun c9 => ?_)
        · have hw := hw.1 c9
          exact txQ_levelOf_c68 Γ θ Z x a b q post X hr hlk hG S a5 hw _ _ h ls (lv_sub hl [0, 1, 2, 3, 4, 5] rfl)
        · have hw := hw.2 c9
          refine lv_iload_n hx hb dxQ_levelOf_62 rfl (lv_at hl 1 rfl) ?_
          refine lv_bipush (v := 20) hx hb dxQ_levelOf_63 (by decide) ?_
          refine lv_icmp_ne (tgt := 87) hx hb dxQ_levelOf_65 (by decide) (fun c10 => ?_) (fun c10 => ?_)
          · have hw := hw.1 c10
            exact txQ_levelOf_c87 Γ θ Z x a b q post X hr hlk hG S a5 hw _ _ h ls (lv_sub hl [0, 1, 2, 3, 4, 5] rfl)
          · have hw := hw.2 c10
            exact txQ_levelOf_c68 Γ θ Z x a b q post X hr hlk hG S a5 hw _ _ h ls (lv_sub hl [0, 1, 2, 3, 4, 5] rfl)
def wxQ_levelOf  (post : Int32 → Rg → Prop) (S : Rg) (x : Int32) (a : Int32) (b : Int32) (q : Int32) : Prop := ((x = (4 : Int32)) → (vp_in a 64) ∧ (((S 14 a.toNatClampNeg) ≤ (0 : Int32)) → wxQ_levelOf_c39 post x a b q S (0 : Int32)) ∧ ((¬ ((S 14 a.toNatClampNeg) ≤ (0 : Int32))) → wxQ_levelOf_c39 post x a b q S (S 14 a.toNatClampNeg))) ∧ ((¬ (x = (4 : Int32))) → ((x < (13 : Int32)) → wxQ_levelOf_c39 post x a b q S (0 : Int32)) ∧ ((¬ (x < (13 : Int32))) → (((15 : Int32) < x) → wxQ_levelOf_c39 post x a b q S (0 : Int32)) ∧ ((¬ ((15 : Int32) < x)) → (vp_in a 64) ∧ (((S 14 a.toNatClampNeg) ≤ (0 : Int32)) → wxQ_levelOf_c39 post x a b q S (0 : Int32)) ∧ ((¬ ((S 14 a.toNatClampNeg) ≤ (0 : Int32))) → wxQ_levelOf_c39 post x a b q S (S 14 a.toNatClampNeg)))))
set_option maxHeartbeats 4000000 in
set_option maxRecDepth 100000 in
theorem mxQ_levelOf (l : Launch) (Γ : Gm) (θ : Nat → Nat) (S : Rg) (Z : va_W) (x : Int32) (a : Int32) (b : Int32) (q : Int32) (post : Int32 → Rg → Prop) (hw : wxQ_levelOf post S x a b q) : MM l yxQ_levelOf cxQ_levelOf 6 (some .int) 0 0 Γ [.ref (θ 0), .int x, .int a, .int b, .int q] (WM Γ θ S Z) (KK (fun r : Int32 => some (.int r)) (fun S' => WM Γ θ S' Z) post) 0 0 := by
  refine MM_of (by decide) (Nat.le_of_ble_eq_true rfl) ?_
  intro p e s m below meth c X hr hlk hnm hG h ls hl
  have hx := X.1
  have hb := X.2.1
  have hl : lv_has ls 6 [(0, .ref (θ 0)), (1, .int x), (2, .int a), (3, .int b), (4, .int q)] := hl
  unfold wxQ_levelOf at hw
  refine lv_iconst (v := 0) hx hb dxQ_levelOf_0 (by decide) ?_
  refine lv_istore (lv' := [(5, .int 0), (0, .ref (θ 0)), (1, .int x), (2, .int a), (3, .int b), (4, .int q)]) hx hb dxQ_levelOf_1 hl (by decide) rfl (fun ls hl => ?_)
  refine lv_iload_n hx hb dxQ_levelOf_3 rfl (lv_at hl 2 rfl) ?_
  refine lv_iconst (v := 4) hx hb dxQ_levelOf_4 (by decide) ?_
  refine lv_icmp_eq (tgt := 20) hx hb dxQ_levelOf_5 (by decide) (fun c1 => ?_) (fun c1 => ?_)
  · have hw := hw.1 c1
    refine lv_aload_n hx hb dxQ_levelOf_20 rfl (lv_at hl 1 rfl) ?_
    refine gx_xQ_53 X hG h dxQ_levelOf_21 ?_
    refine lv_iload_n hx hb dxQ_levelOf_24 rfl (lv_at hl 3 rfl) ?_
    obtain ⟨o2, hw⟩ := hw
    refine lq_7 X hG h o2 (x := S 14 a.toNatClampNeg) rfl dxQ_levelOf_25 ?_
    refine lv_iload hx hb dxQ_levelOf_26 (lv_at hl 0 rfl) ?_
    refine lv_icmp_le (tgt := 39) hx hb dxQ_levelOf_28 (by decide) (fun c3 => ?_) (fun c3 => ?_)
    · have hw := hw.1 c3
      exact txQ_levelOf_c39 Γ θ Z x a b q post X hr hlk hG S (0 : Int32) hw _ _ h ls (lv_sub hl [1, 2, 3, 4, 5, 0] rfl)
    · have hw := hw.2 c3
      refine lv_aload_n hx hb dxQ_levelOf_31 rfl (lv_at hl 1 rfl) ?_
      refine gx_xQ_53 X hG h dxQ_levelOf_32 ?_
      refine lv_iload_n hx hb dxQ_levelOf_35 rfl (lv_at hl 3 rfl) ?_
      refine lq_7 X hG h o2 (x := S 14 a.toNatClampNeg) rfl dxQ_levelOf_36 ?_
      refine lv_istore (lv' := [(5, .int (S 14 a.toNatClampNeg)), (0, .ref (θ 0)), (1, .int x), (2, .int a), (3, .int b), (4, .int q)]) hx hb dxQ_levelOf_37 hl (by decide) rfl (fun ls hl => ?_)
      exact txQ_levelOf_c39 Γ θ Z x a b q post X hr hlk hG S (S 14 a.toNatClampNeg) hw _ _ h ls (lv_sub hl [1, 2, 3, 4, 5, 0] rfl)
  · have hw := hw.2 c1
    refine lv_iload_n hx hb dxQ_levelOf_8 rfl (lv_at hl 2 rfl) ?_
    refine lv_bipush (v := 13) hx hb dxQ_levelOf_9 (by decide) ?_
    refine lv_icmp_lt (tgt := 39) hx hb dxQ_levelOf_11 (by decide) (fun c11 => ?_) (fun c11 => ?_)
    · have hw := hw.1 c11
      exact txQ_levelOf_c39 Γ θ Z x a b q post X hr hlk hG S (0 : Int32) hw _ _ h ls (lv_sub hl [1, 2, 3, 4, 5, 0] rfl)
    · have hw := hw.2 c11
      refine lv_iload_n hx hb dxQ_levelOf_14 rfl (lv_at hl 2 rfl) ?_
      refine lv_bipush (v := 15) hx hb dxQ_levelOf_15 (by decide) ?_
      refine lv_icmp_gt (tgt := 39) hx hb dxQ_levelOf_17 (by decide) (fun c12 => ?_) (fun c12 => ?_)
      · have hw := hw.1 c12
        exact txQ_levelOf_c39 Γ θ Z x a b q post X hr hlk hG S (0 : Int32) hw _ _ h ls (lv_sub hl [1, 2, 3, 4, 5, 0] rfl)
      · have hw := hw.2 c12
        refine lv_aload_n hx hb dxQ_levelOf_20 rfl (lv_at hl 1 rfl) ?_
        refine gx_xQ_53 X hG h dxQ_levelOf_21 ?_
        refine lv_iload_n hx hb dxQ_levelOf_24 rfl (lv_at hl 3 rfl) ?_
        obtain ⟨o13, hw⟩ := hw
        refine lq_7 X hG h o13 (x := S 14 a.toNatClampNeg) rfl dxQ_levelOf_25 ?_
        refine lv_iload hx hb dxQ_levelOf_26 (lv_at hl 0 rfl) ?_
        refine lv_icmp_le (tgt := 39) hx hb dxQ_levelOf_28 (by decide) (fun c14 => ?_) (fun c14 => ?_)
        · have hw := hw.1 c14
          exact txQ_levelOf_c39 Γ θ Z x a b q post X hr hlk hG S (0 : Int32) hw _ _ h ls (lv_sub hl [1, 2, 3, 4, 5, 0] rfl)
        · have hw := hw.2 c14
          refine lv_aload_n hx hb dxQ_levelOf_31 rfl (lv_at hl 1 rfl) ?_
          refine gx_xQ_53 X hG h dxQ_levelOf_32 ?_
          refine lv_iload_n hx hb dxQ_levelOf_35 rfl (lv_at hl 3 rfl) ?_
          refine lq_7 X hG h o13 (x := S 14 a.toNatClampNeg) rfl dxQ_levelOf_36 ?_
          refine lv_istore (lv' := [(5, .int (S 14 a.toNatClampNeg)), (0, .ref (θ 0)), (1, .int x), (2, .int a), (3, .int b), (4, .int q)]) hx hb dxQ_levelOf_37 hl (by decide) rfl (fun ls hl => ?_)
          exact txQ_levelOf_c39 Γ θ Z x a b q post X hr hlk hG S (S 14 a.toNatClampNeg) hw _ _ h ls (lv_sub hl [1, 2, 3, 4, 5, 0] rfl)
def wxQ_node_c67  (post : Int32 → Rg → Prop) (x : Int32) (a : Int32) (b : Int32) (q : Int32) (S : Rg)  : Prop := wxQ_levelOf (fun r1 S2 => ((r1 ≤ (8 : Int32)) → ((¬ ((S2 17 1) = (64 : Int32))) → (vp_in (S2 17 1) 64) ∧ post (((S2 17 1) + 1) - 1) (uu (uu (uu (uu (uu (uu S2 10 ((S2 17 1).toNatClampNeg) x) 11 ((S2 17 1).toNatClampNeg) a) 12 ((S2 17 1).toNatClampNeg) b) 13 ((S2 17 1).toNatClampNeg) q) 14 ((S2 17 1).toNatClampNeg) r1) 17 1 ((S2 17 1) + 1))) ∧ (((S2 17 1) = (64 : Int32)) → post (-2 : Int32) S2)) ∧ ((¬ (r1 ≤ (8 : Int32))) → post (-1 : Int32) S2)) S x a b q
set_option maxHeartbeats 4000000 in
set_option maxRecDepth 100000 in
theorem txQ_node_c67 {p : Program} {l : Launch} {e : Env} {s : State} {m : MethodId} {below : List Frame} {meth : Method} {c : Code} (Γ : Gm) (θ : Nat → Nat) (Z : va_W) (x : Int32) (a : Int32) (b : Int32) (q : Int32)  (post : Int32 → Rg → Prop) (X : CallFix p m c cxQ_node 6 s ([.ref (θ 0), .int x, .int a, .int b, .int q] : List Value).toArray big RxQ) (hr : meth.sig.returnType = (some .int)) (hlk : meth.locks = false) (hG : GX Γ s s.heap) :
    ∀ (S : Rg)  (hw : wxQ_node_c67 post x a b q S ) (H : Heap) (locs : List Loc) (h : HS Γ s (WM Γ θ S Z) H locs) (ls : Array Slot) (hl : lv_has ls 6 [(0, .ref (θ 0)), (1, .int x), (2, .int a), (3, .int b), (4, .int q)]), W p l e { frames := 2, cells := 0, slots := 0, locals := 44 } s m ([.ref (θ 0), .int x, .int a, .int b, .int q] : List Value).toArray below meth c H locs 0 0 (MQ below (QM Γ (KK (fun r : Int32 => some (.int r)) (fun S' => WM Γ θ S' Z) post)) ([.ref (θ 0), .int x, .int a, .int b, .int q] : List Value).toArray s 0 0 (AA Γ)) (F0 m 67 ls []) := by
  have hx := X.1
  have hb := X.2.1
  intro S  hw H locs h ls hl
  unfold wxQ_node_c67 at hw
  refine lv_aload_n hx hb dxQ_node_67 rfl (lv_at hl 0 rfl) ?_
  refine lv_iload_n hx hb dxQ_node_68 rfl (lv_at hl 1 rfl) ?_
  refine lv_iload_n hx hb dxQ_node_69 rfl (lv_at hl 2 rfl) ?_
  refine lv_iload_n hx hb dxQ_node_70 rfl (lv_at hl 3 rfl) ?_
  refine lv_iload hx hb dxQ_node_71 (lv_at hl 4 rfl) ?_
  refine cx_xQ_131 (As := [.int x, .int a, .int b, .int q]) (rest := []) X hG h hl.1 (mxQ_levelOf l Γ θ S Z x a b q _ hw) ⟨show 0 + 1 ≤ 2 from by omega, show 8 + (6 + 11) + 0 ≤ 44 from by omega⟩ (q0 := 0) rfl rfl (Nat.le_of_ble_eq_true rfl) dxQ_node_73 ⟨Nat.le_of_ble_eq_true rfl, Nat.le_of_ble_eq_true rfl⟩ (fun v W1 hK H locs h => ?_)
  obtain ⟨r1, S2, rfl, rfl, hw⟩ := hK
  refine W.eq (g2 := F0 m 76 ls [.int r1]) rfl ?_
  refine lv_istore (lv' := [(5, .int r1), (0, .ref (θ 0)), (1, .int x), (2, .int a), (3, .int b), (4, .int q)]) hx hb dxQ_node_76 hl (by decide) rfl (fun ls hl => ?_)
  refine lv_iload hx hb dxQ_node_78 (lv_at hl 0 rfl) ?_
  refine lv_bipush (v := 8) hx hb dxQ_node_80 (by decide) ?_
  refine lv_icmp_le (tgt := 87) hx hb dxQ_node_82 (by decide) (fun c3 => ?_) (fun c3 => ?_)
  · have hw := hw.1 c3
    refine lv_aload_n hx hb dxQ_node_87 rfl (lv_at hl 1 rfl) ?_
    refine gx_xQ_117 X hG h (x := S2 17 1) rfl dxQ_node_88 ?_
    refine lv_bipush (v := 64) hx hb dxQ_node_91 (by decide) ?_
    refine lv_icmp_ne (tgt := 99) hx hb dxQ_node_93 (by decide) (fun c4 => ?_) (fun c4 => ?_)
    · have hw := hw.1 c4
      refine lv_aload_n hx hb dxQ_node_99 rfl (lv_at hl 1 rfl) ?_
      refine gx_xQ_41 X hG h dxQ_node_100 ?_
      refine lv_aload_n hx hb dxQ_node_103 rfl (lv_at hl 1 rfl) ?_
      refine gx_xQ_117 X hG h (x := S2 17 1) rfl dxQ_node_104 ?_
      refine lv_iload_n hx hb dxQ_node_107 rfl (lv_at hl 2 rfl) ?_
      obtain ⟨o5, hw⟩ := hw
      refine sq_3 X hG h o5 dxQ_node_108 (fun H locs h => ?_)
      refine lv_aload_n hx hb dxQ_node_109 rfl (lv_at hl 1 rfl) ?_
      refine gx_xQ_44 X hG h dxQ_node_110 ?_
      refine lv_aload_n hx hb dxQ_node_113 rfl (lv_at hl 1 rfl) ?_
      refine gx_xQ_117 X hG h (x := S2 17 1) rfl dxQ_node_114 ?_
      refine lv_iload_n hx hb dxQ_node_117 rfl (lv_at hl 3 rfl) ?_
      refine sq_4 X hG h o5 dxQ_node_118 (fun H locs h => ?_)
      refine lv_aload_n hx hb dxQ_node_119 rfl (lv_at hl 1 rfl) ?_
      refine gx_xQ_47 X hG h dxQ_node_120 ?_
      refine lv_aload_n hx hb dxQ_node_123 rfl (lv_at hl 1 rfl) ?_
      refine gx_xQ_117 X hG h (x := S2 17 1) rfl dxQ_node_124 ?_
      refine lv_iload_n hx hb dxQ_node_127 rfl (lv_at hl 4 rfl) ?_
      refine sq_5 X hG h o5 dxQ_node_128 (fun H locs h => ?_)
      refine lv_aload_n hx hb dxQ_node_129 rfl (lv_at hl 1 rfl) ?_
      refine gx_xQ_50 X hG h dxQ_node_130 ?_
      refine lv_aload_n hx hb dxQ_node_133 rfl (lv_at hl 1 rfl) ?_
      refine gx_xQ_117 X hG h (x := S2 17 1) rfl dxQ_node_134 ?_
      refine lv_iload hx hb dxQ_node_137 (lv_at hl 5 rfl) ?_
      refine sq_6 X hG h o5 dxQ_node_139 (fun H locs h => ?_)
      refine lv_aload_n hx hb dxQ_node_140 rfl (lv_at hl 1 rfl) ?_
      refine gx_xQ_53 X hG h dxQ_node_141 ?_
      refine lv_aload_n hx hb dxQ_node_144 rfl (lv_at hl 1 rfl) ?_
      refine gx_xQ_117 X hG h (x := S2 17 1) rfl dxQ_node_145 ?_
      refine lv_iload hx hb dxQ_node_148 (lv_at hl 0 rfl) ?_
      refine sq_7 X hG h o5 dxQ_node_150 (fun H locs h => ?_)
      refine lv_aload_n hx hb dxQ_node_151 rfl (lv_at hl 1 rfl) ?_
      refine lv_dup hx hb dxQ_node_152 rfl ?_
      refine gx_xQ_117 X hG h (x := S2 17 1) rfl dxQ_node_153 ?_
      refine lv_iconst (v := 1) hx hb dxQ_node_156 (by decide) ?_
      refine lv_iadd hx hb dxQ_node_157 ?_
      refine px_xQ_117 X hG h dxQ_node_158 (fun H locs h => ?_)
      refine lv_aload_n hx hb dxQ_node_161 rfl (lv_at hl 1 rfl) ?_
      refine gx_xQ_117 X hG h (x := (S2 17 1) + 1) rfl dxQ_node_162 ?_
      refine lv_iconst (v := 1) hx hb dxQ_node_165 (by decide) ?_
      refine lv_isub hx hb dxQ_node_166 ?_
      exact z_iret X hr hlk h ⟨_, _, rfl, rfl, hw⟩ dxQ_node_167
    · have hw := hw.2 c4
      refine lv_bipush (v := -2) hx hb dxQ_node_96 (by decide) ?_
      exact z_iret X hr hlk h ⟨_, _, rfl, rfl, hw⟩ dxQ_node_98
  · have hw := hw.2 c3
    refine lv_iconst (v := -1) hx hb dxQ_node_85 (by decide) ?_
    exact z_iret X hr hlk h ⟨_, _, rfl, rfl, hw⟩ dxQ_node_86
def wxQ_node_c50  (post : Int32 → Rg → Prop) (x : Int32) (a : Int32) (b : Int32) (q : Int32) (S : Rg)  : Prop := ((¬ (x = (13 : Int32))) → wxQ_node_c67 post x a b q S ) ∧ ((x = (13 : Int32)) → wxQ_noNode (fun r6 S7 => ((r6 = (0 : Int32)) → wxQ_node_c67 post x a b q S7 ) ∧ ((¬ (r6 = (0 : Int32))) → post (-1 : Int32) S7)) S q)
set_option maxHeartbeats 4000000 in
set_option maxRecDepth 100000 in
theorem txQ_node_c50 {p : Program} {l : Launch} {e : Env} {s : State} {m : MethodId} {below : List Frame} {meth : Method} {c : Code} (Γ : Gm) (θ : Nat → Nat) (Z : va_W) (x : Int32) (a : Int32) (b : Int32) (q : Int32)  (post : Int32 → Rg → Prop) (X : CallFix p m c cxQ_node 6 s ([.ref (θ 0), .int x, .int a, .int b, .int q] : List Value).toArray big RxQ) (hr : meth.sig.returnType = (some .int)) (hlk : meth.locks = false) (hG : GX Γ s s.heap) :
    ∀ (S : Rg)  (hw : wxQ_node_c50 post x a b q S ) (H : Heap) (locs : List Loc) (h : HS Γ s (WM Γ θ S Z) H locs) (ls : Array Slot) (hl : lv_has ls 6 [(0, .ref (θ 0)), (1, .int x), (2, .int a), (3, .int b), (4, .int q)]), W p l e { frames := 2, cells := 0, slots := 0, locals := 44 } s m ([.ref (θ 0), .int x, .int a, .int b, .int q] : List Value).toArray below meth c H locs 0 0 (MQ below (QM Γ (KK (fun r : Int32 => some (.int r)) (fun S' => WM Γ θ S' Z) post)) ([.ref (θ 0), .int x, .int a, .int b, .int q] : List Value).toArray s 0 0 (AA Γ)) (F0 m 50 ls []) := by
  have hx := X.1
  have hb := X.2.1
  intro S  hw H locs h ls hl
  unfold wxQ_node_c50 at hw
  refine lv_iload_n hx hb dxQ_node_50 rfl (lv_at hl 1 rfl) ?_
  refine lv_bipush (v := 13) hx hb dxQ_node_51 (by decide) ?_
  refine lv_icmp_ne (tgt := 67) hx hb dxQ_node_53 (by decide) (fun c1 => ?_) (fun c1 => ?_)
  · have hw := hw.1 c1
    exact txQ_node_c67 Γ θ Z x a b q post X hr hlk hG S  hw _ _ h ls (lv_sub hl [0, 1, 2, 3, 4] rfl)
  · have hw := hw.2 c1
    refine lv_aload_n hx hb dxQ_node_56 rfl (lv_at hl 0 rfl) ?_
    refine lv_iload hx hb dxQ_node_57 (lv_at hl 4 rfl) ?_
    refine cx_xQ_120 (As := [.int q]) (rest := []) X hG h hl.1 (mxQ_noNode l Γ θ S Z q _ hw) ⟨show 0 + 1 ≤ 2 from by omega, show 8 + (2 + 11) + 0 ≤ 44 from by omega⟩ (q0 := 0) rfl rfl (Nat.le_of_ble_eq_true rfl) dxQ_node_59 ⟨Nat.le_of_ble_eq_true rfl, Nat.le_of_ble_eq_true rfl⟩ (fun v W1 hK H locs h => ?_)
    obtain ⟨r6, S7, rfl, rfl, hw⟩ := hK
    refine W.eq (g2 := F0 m 62 ls [.int r6]) rfl ?_
    refine lv_if_eq (tgt := 67) hx hb dxQ_node_62 (by decide) (fun c8 => ?_) (fun c8 => ?_)
    · have hw := hw.1 c8
      exact txQ_node_c67 Γ θ Z x a b q post X hr hlk hG S7  hw _ _ h ls (lv_sub hl [0, 1, 2, 3, 4] rfl)
    · have hw := hw.2 c8
      refine lv_iconst (v := -1) hx hb dxQ_node_65 (by decide) ?_
      exact z_iret X hr hlk h ⟨_, _, rfl, rfl, hw⟩ dxQ_node_66
def wxQ_node_c30  (post : Int32 → Rg → Prop) (x : Int32) (a : Int32) (b : Int32) (q : Int32) (S : Rg)  : Prop := ((¬ (x = (5 : Int32))) → wxQ_node_c50 post x a b q S ) ∧ ((x = (5 : Int32)) → ((q = (-1 : Int32)) → wxQ_node_c50 post x a b q S ) ∧ ((¬ (q = (-1 : Int32))) → wxQ_noNode (fun r10 S11 => ((¬ (r10 = (0 : Int32))) → post (-1 : Int32) S11) ∧ ((r10 = (0 : Int32)) → wxQ_node_c50 post x a b q S11 )) S q))
set_option maxHeartbeats 4000000 in
set_option maxRecDepth 100000 in
theorem txQ_node_c30 {p : Program} {l : Launch} {e : Env} {s : State} {m : MethodId} {below : List Frame} {meth : Method} {c : Code} (Γ : Gm) (θ : Nat → Nat) (Z : va_W) (x : Int32) (a : Int32) (b : Int32) (q : Int32)  (post : Int32 → Rg → Prop) (X : CallFix p m c cxQ_node 6 s ([.ref (θ 0), .int x, .int a, .int b, .int q] : List Value).toArray big RxQ) (hr : meth.sig.returnType = (some .int)) (hlk : meth.locks = false) (hG : GX Γ s s.heap) :
    ∀ (S : Rg)  (hw : wxQ_node_c30 post x a b q S ) (H : Heap) (locs : List Loc) (h : HS Γ s (WM Γ θ S Z) H locs) (ls : Array Slot) (hl : lv_has ls 6 [(0, .ref (θ 0)), (1, .int x), (2, .int a), (3, .int b), (4, .int q)]), W p l e { frames := 2, cells := 0, slots := 0, locals := 44 } s m ([.ref (θ 0), .int x, .int a, .int b, .int q] : List Value).toArray below meth c H locs 0 0 (MQ below (QM Γ (KK (fun r : Int32 => some (.int r)) (fun S' => WM Γ θ S' Z) post)) ([.ref (θ 0), .int x, .int a, .int b, .int q] : List Value).toArray s 0 0 (AA Γ)) (F0 m 30 ls []) := by
  have hx := X.1
  have hb := X.2.1
  intro S  hw H locs h ls hl
  unfold wxQ_node_c30 at hw
  refine lv_iload_n hx hb dxQ_node_30 rfl (lv_at hl 1 rfl) ?_
  refine lv_iconst (v := 5) hx hb dxQ_node_31 (by decide) ?_
  refine lv_icmp_ne (tgt := 50) hx hb dxQ_node_32 (by decide) (fun c1 => ?_) (fun c1 => ?_)
  · have hw := hw.1 c1
    exact txQ_node_c50 Γ θ Z x a b q post X hr hlk hG S  hw _ _ h ls (lv_sub hl [0, 1, 2, 3, 4] rfl)
  · have hw := hw.2 c1
    refine lv_iload hx hb dxQ_node_35 (lv_at hl 4 rfl) ?_
    refine lv_iconst (v := -1) hx hb dxQ_node_37 (by decide) ?_
    refine lv_icmp_eq (tgt := 50) hx hb dxQ_node_38 (by decide) (fun c9 => ?_) (fun c9 => ?_)
    · have hw := hw.1 c9
      exact txQ_node_c50 Γ θ Z x a b q post X hr hlk hG S  hw _ _ h ls (lv_sub hl [0, 1, 2, 3, 4] rfl)
    · have hw := hw.2 c9
      refine lv_aload_n hx hb dxQ_node_41 rfl (lv_at hl 0 rfl) ?_
      refine lv_iload hx hb dxQ_node_42 (lv_at hl 4 rfl) ?_
      refine cx_xQ_120 (As := [.int q]) (rest := []) X hG h hl.1 (mxQ_noNode l Γ θ S Z q _ hw) ⟨show 0 + 1 ≤ 2 from by omega, show 8 + (2 + 11) + 0 ≤ 44 from by omega⟩ (q0 := 0) rfl rfl (Nat.le_of_ble_eq_true rfl) dxQ_node_44 ⟨Nat.le_of_ble_eq_true rfl, Nat.le_of_ble_eq_true rfl⟩ (fun v W1 hK H locs h => ?_)
      obtain ⟨r10, S11, rfl, rfl, hw⟩ := hK
      refine W.eq (g2 := F0 m 47 ls [.int r10]) rfl ?_
      refine lv_if_ne (tgt := 65) hx hb dxQ_node_47 (by decide) (fun c12 => ?_) (fun c12 => ?_)
      · have hw := hw.1 c12
        refine lv_iconst (v := -1) hx hb dxQ_node_65 (by decide) ?_
        exact z_iret X hr hlk h ⟨_, _, rfl, rfl, hw⟩ dxQ_node_66
      · have hw := hw.2 c12
        exact txQ_node_c50 Γ θ Z x a b q post X hr hlk hG S11  hw _ _ h ls (lv_sub hl [0, 1, 2, 3, 4] rfl)
def wxQ_node  (post : Int32 → Rg → Prop) (S : Rg) (x : Int32) (a : Int32) (b : Int32) (q : Int32) : Prop := wxQ_out (fun r1 S2 => ((¬ (r1 = (0 : Int32))) → post (-1 : Int32) S2) ∧ ((r1 = (0 : Int32)) → wxQ_badA (fun r4 S5 => ((¬ (r4 = (0 : Int32))) → post (-1 : Int32) S5) ∧ ((r4 = (0 : Int32)) → wxQ_badB (fun r7 S8 => ((r7 = (0 : Int32)) → wxQ_node_c30 post x a b q S8 ) ∧ ((¬ (r7 = (0 : Int32))) → post (-1 : Int32) S8)) S5 x b)) S2 x a)) S x (0) (22)
set_option maxHeartbeats 4000000 in
set_option maxRecDepth 100000 in
theorem mxQ_node (l : Launch) (Γ : Gm) (θ : Nat → Nat) (S : Rg) (Z : va_W) (x : Int32) (a : Int32) (b : Int32) (q : Int32) (post : Int32 → Rg → Prop) (hw : wxQ_node post S x a b q) : MM l yxQ_node cxQ_node 6 (some .int) 2 44 Γ [.ref (θ 0), .int x, .int a, .int b, .int q] (WM Γ θ S Z) (KK (fun r : Int32 => some (.int r)) (fun S' => WM Γ θ S' Z) post) 0 0 := by
  refine MM_of (by decide) (Nat.le_of_ble_eq_true rfl) ?_
  intro p e s m below meth c X hr hlk hnm hG h ls hl
  have hx := X.1
  have hb := X.2.1
  have hl : lv_has ls 6 [(0, .ref (θ 0)), (1, .int x), (2, .int a), (3, .int b), (4, .int q)] := hl
  unfold wxQ_node at hw
  refine lv_iload_n hx hb dxQ_node_0 rfl (lv_at hl 1 rfl) ?_
  refine lv_iconst (v := 0) hx hb dxQ_node_1 (by decide) ?_
  refine lv_bipush (v := 22) hx hb dxQ_node_2 (by decide) ?_
  refine cx_xQ_113 (As := [.int x, .int 0, .int 22]) (rest := []) X hG h hl.1 (mxQ_out l Γ θ S Z x (0) (22) _ hw) ⟨show 0 + 1 ≤ 2 from by omega, show 8 + (3 + 11) + 0 ≤ 44 from by omega⟩ rfl (Nat.le_of_ble_eq_true rfl) dxQ_node_4 ⟨Nat.le_of_ble_eq_true rfl, Nat.le_of_ble_eq_true rfl⟩ (fun v W1 hK H locs h => ?_)
  obtain ⟨r1, S2, rfl, rfl, hw⟩ := hK
  refine W.eq (g2 := F0 m 7 ls [.int r1]) rfl ?_
  refine lv_if_ne (tgt := 28) hx hb dxQ_node_7 (by decide) (fun c3 => ?_) (fun c3 => ?_)
  · have hw := hw.1 c3
    refine lv_iconst (v := -1) hx hb dxQ_node_28 (by decide) ?_
    exact z_iret X hr hlk h ⟨_, _, rfl, rfl, hw⟩ dxQ_node_29
  · have hw := hw.2 c3
    refine lv_aload_n hx hb dxQ_node_10 rfl (lv_at hl 0 rfl) ?_
    refine lv_iload_n hx hb dxQ_node_11 rfl (lv_at hl 1 rfl) ?_
    refine lv_iload_n hx hb dxQ_node_12 rfl (lv_at hl 2 rfl) ?_
    refine cx_xQ_124 (As := [.int x, .int a]) (rest := []) X hG h hl.1 (mxQ_badA l Γ θ S2 Z x a _ hw) ⟨show 1 + 1 ≤ 2 from by omega, show 8 + (3 + 11) + 22 ≤ 44 from by omega⟩ (q0 := 0) rfl rfl (Nat.le_of_ble_eq_true rfl) dxQ_node_13 ⟨Nat.le_of_ble_eq_true rfl, Nat.le_of_ble_eq_true rfl⟩ (fun v W1 hK H locs h => ?_)
    obtain ⟨r4, S5, rfl, rfl, hw⟩ := hK
    refine W.eq (g2 := F0 m 16 ls [.int r4]) rfl ?_
    refine lv_if_ne (tgt := 28) hx hb dxQ_node_16 (by decide) (fun c6 => ?_) (fun c6 => ?_)
    · have hw := hw.1 c6
      refine lv_iconst (v := -1) hx hb dxQ_node_28 (by decide) ?_
      exact z_iret X hr hlk h ⟨_, _, rfl, rfl, hw⟩ dxQ_node_29
    · have hw := hw.2 c6
      refine lv_aload_n hx hb dxQ_node_19 rfl (lv_at hl 0 rfl) ?_
      refine lv_iload_n hx hb dxQ_node_20 rfl (lv_at hl 1 rfl) ?_
      refine lv_iload_n hx hb dxQ_node_21 rfl (lv_at hl 3 rfl) ?_
      refine cx_xQ_128 (As := [.int x, .int b]) (rest := []) X hG h hl.1 (mxQ_badB l Γ θ S5 Z x b _ hw) ⟨show 1 + 1 ≤ 2 from by omega, show 8 + (3 + 11) + 22 ≤ 44 from by omega⟩ (q0 := 0) rfl rfl (Nat.le_of_ble_eq_true rfl) dxQ_node_22 ⟨Nat.le_of_ble_eq_true rfl, Nat.le_of_ble_eq_true rfl⟩ (fun v W1 hK H locs h => ?_)
      obtain ⟨r7, S8, rfl, rfl, hw⟩ := hK
      refine W.eq (g2 := F0 m 25 ls [.int r7]) rfl ?_
      refine lv_if_eq (tgt := 30) hx hb dxQ_node_25 (by decide) (fun c9 => ?_) (fun c9 => ?_)
      · have hw := hw.1 c9
        exact txQ_node_c30 Γ θ Z x a b q post X hr hlk hG S8  hw _ _ h ls (lv_sub hl [0, 1, 2, 3, 4] rfl)
      · have hw := hw.2 c9
        refine lv_iconst (v := -1) hx hb dxQ_node_28 (by decide) ?_
        exact z_iret X hr hlk h ⟨_, _, rfl, rfl, hw⟩ dxQ_node_29
def wxQ_define  (post : Int32 → Rg → Prop) (S : Rg) (x : Int32) (y : Int32) : Prop := wxQ_out (fun r1 S2 => ((¬ (r1 = (0 : Int32))) → post (-1 : Int32) S2) ∧ ((r1 = (0 : Int32)) → wxQ_noNode (fun r4 S5 => ((r4 = (0 : Int32)) → (vp_in x 6) ∧ post (0 : Int32) (uu S5 15 x.toNatClampNeg y)) ∧ ((¬ (r4 = (0 : Int32))) → post (-1 : Int32) S5)) S2 y)) S x (0) (5)
set_option maxHeartbeats 4000000 in
set_option maxRecDepth 100000 in
theorem mxQ_define (l : Launch) (Γ : Gm) (θ : Nat → Nat) (S : Rg) (Z : va_W) (x : Int32) (y : Int32) (post : Int32 → Rg → Prop) (hw : wxQ_define post S x y) : MM l yxQ_define cxQ_define 3 (some .int) 1 22 Γ [.ref (θ 0), .int x, .int y] (WM Γ θ S Z) (KK (fun r : Int32 => some (.int r)) (fun S' => WM Γ θ S' Z) post) 0 0 := by
  refine MM_of (by decide) (Nat.le_of_ble_eq_true rfl) ?_
  intro p e s m below meth c X hr hlk hnm hG h ls hl
  have hx := X.1
  have hb := X.2.1
  have hl : lv_has ls 3 [(0, .ref (θ 0)), (1, .int x), (2, .int y)] := hl
  unfold wxQ_define at hw
  refine lv_iload_n hx hb dxQ_define_0 rfl (lv_at hl 1 rfl) ?_
  refine lv_iconst (v := 0) hx hb dxQ_define_1 (by decide) ?_
  refine lv_iconst (v := 5) hx hb dxQ_define_2 (by decide) ?_
  refine cx_xQ_113 (As := [.int x, .int 0, .int 5]) (rest := []) X hG h hl.1 (mxQ_out l Γ θ S Z x (0) (5) _ hw) ⟨show 0 + 1 ≤ 1 from by omega, show 8 + (3 + 11) + 0 ≤ 22 from by omega⟩ rfl (Nat.le_of_ble_eq_true rfl) dxQ_define_3 ⟨Nat.le_of_ble_eq_true rfl, Nat.le_of_ble_eq_true rfl⟩ (fun v W1 hK H locs h => ?_)
  obtain ⟨r1, S2, rfl, rfl, hw⟩ := hK
  refine W.eq (g2 := F0 m 6 ls [.int r1]) rfl ?_
  refine lv_if_ne (tgt := 17) hx hb dxQ_define_6 (by decide) (fun c3 => ?_) (fun c3 => ?_)
  · have hw := hw.1 c3
    refine lv_iconst (v := -1) hx hb dxQ_define_17 (by decide) ?_
    exact z_iret X hr hlk h ⟨_, _, rfl, rfl, hw⟩ dxQ_define_18
  · have hw := hw.2 c3
    refine lv_aload_n hx hb dxQ_define_9 rfl (lv_at hl 0 rfl) ?_
    refine lv_iload_n hx hb dxQ_define_10 rfl (lv_at hl 2 rfl) ?_
    refine cx_xQ_120 (As := [.int y]) (rest := []) X hG h hl.1 (mxQ_noNode l Γ θ S2 Z y _ hw) ⟨show 0 + 1 ≤ 1 from by omega, show 8 + (2 + 11) + 0 ≤ 22 from by omega⟩ (q0 := 0) rfl rfl (Nat.le_of_ble_eq_true rfl) dxQ_define_11 ⟨Nat.le_of_ble_eq_true rfl, Nat.le_of_ble_eq_true rfl⟩ (fun v W1 hK H locs h => ?_)
    obtain ⟨r4, S5, rfl, rfl, hw⟩ := hK
    refine W.eq (g2 := F0 m 14 ls [.int r4]) rfl ?_
    refine lv_if_eq (tgt := 19) hx hb dxQ_define_14 (by decide) (fun c6 => ?_) (fun c6 => ?_)
    · have hw := hw.1 c6
      refine lv_aload_n hx hb dxQ_define_19 rfl (lv_at hl 0 rfl) ?_
      refine gx_xQ_56 X hG h dxQ_define_20 ?_
      refine lv_iload_n hx hb dxQ_define_23 rfl (lv_at hl 1 rfl) ?_
      refine lv_iload_n hx hb dxQ_define_24 rfl (lv_at hl 2 rfl) ?_
      obtain ⟨o7, hw⟩ := hw
      refine sq_8 X hG h o7 dxQ_define_25 (fun H locs h => ?_)
      refine lv_iconst (v := 0) hx hb dxQ_define_26 (by decide) ?_
      exact z_iret X hr hlk h ⟨_, _, rfl, rfl, hw⟩ dxQ_define_27
    · have hw := hw.2 c6
      refine lv_iconst (v := -1) hx hb dxQ_define_17 (by decide) ?_
      exact z_iret X hr hlk h ⟨_, _, rfl, rfl, hw⟩ dxQ_define_18
def wxQ_dispatch  (post : Int32 → Rg → Prop) (S : Rg) (x : Int32) : Prop := wxQ_out (fun r1 S2 => ((r1 = (0 : Int32)) → post (0 : Int32) (uu S2 17 2 x)) ∧ ((¬ (r1 = (0 : Int32))) → post (-1 : Int32) S2)) S x (-1) (5)
set_option maxHeartbeats 4000000 in
set_option maxRecDepth 100000 in
theorem mxQ_dispatch (l : Launch) (Γ : Gm) (θ : Nat → Nat) (S : Rg) (Z : va_W) (x : Int32) (post : Int32 → Rg → Prop) (hw : wxQ_dispatch post S x) : MM l yxQ_dispatch cxQ_dispatch 2 (some .int) 1 22 Γ [.ref (θ 0), .int x] (WM Γ θ S Z) (KK (fun r : Int32 => some (.int r)) (fun S' => WM Γ θ S' Z) post) 0 0 := by
  refine MM_of (by decide) (Nat.le_of_ble_eq_true rfl) ?_
  intro p e s m below meth c X hr hlk hnm hG h ls hl
  have hx := X.1
  have hb := X.2.1
  have hl : lv_has ls 2 [(0, .ref (θ 0)), (1, .int x)] := hl
  unfold wxQ_dispatch at hw
  refine lv_iload_n hx hb dxQ_dispatch_0 rfl (lv_at hl 1 rfl) ?_
  refine lv_iconst (v := -1) hx hb dxQ_dispatch_1 (by decide) ?_
  refine lv_iconst (v := 5) hx hb dxQ_dispatch_2 (by decide) ?_
  refine cx_xQ_113 (As := [.int x, .int (-1), .int 5]) (rest := []) X hG h hl.1 (mxQ_out l Γ θ S Z x (-1) (5) _ hw) ⟨show 0 + 1 ≤ 1 from by omega, show 8 + (3 + 11) + 0 ≤ 22 from by omega⟩ rfl (Nat.le_of_ble_eq_true rfl) dxQ_dispatch_3 ⟨Nat.le_of_ble_eq_true rfl, Nat.le_of_ble_eq_true rfl⟩ (fun v W1 hK H locs h => ?_)
  obtain ⟨r1, S2, rfl, rfl, hw⟩ := hK
  refine W.eq (g2 := F0 m 6 ls [.int r1]) rfl ?_
  refine lv_if_eq (tgt := 11) hx hb dxQ_dispatch_6 (by decide) (fun c3 => ?_) (fun c3 => ?_)
  · have hw := hw.1 c3
    refine lv_aload_n hx hb dxQ_dispatch_11 rfl (lv_at hl 0 rfl) ?_
    refine lv_iload_n hx hb dxQ_dispatch_12 rfl (lv_at hl 1 rfl) ?_
    refine px_xQ_59 X hG h dxQ_dispatch_13 (fun H locs h => ?_)
    refine lv_iconst (v := 0) hx hb dxQ_dispatch_16 (by decide) ?_
    exact z_iret X hr hlk h ⟨_, _, rfl, rfl, hw⟩ dxQ_dispatch_17
  · have hw := hw.2 c3
    refine lv_iconst (v := -1) hx hb dxQ_dispatch_9 (by decide) ?_
    exact z_iret X hr hlk h ⟨_, _, rfl, rfl, hw⟩ dxQ_dispatch_10
def wxQ_begin  (post : Int32 → Rg → Prop) (S : Rg) (x : Int32) : Prop := ((¬ ((S 7 2) = (300 : Int32))) → (vp_in (S 27 0) 112) ∧ post (1 : Int32) (uu (uu (uu (uu (uu S 7 2 ((S 7 2) + 1)) 20 ((S 27 0).toNatClampNeg) x) 21 ((S 27 0).toNatClampNeg) 0) 22 ((S 27 0).toNatClampNeg) 0) 27 0 ((S 27 0) + 1))) ∧ (((S 7 2) = (300 : Int32)) → post (0 : Int32) (uu (uu S 27 6 5) 27 5 1))
set_option maxHeartbeats 4000000 in
set_option maxRecDepth 100000 in
theorem mxQ_begin (l : Launch) (Γ : Gm) (θ : Nat → Nat) (S : Rg) (Z : va_W) (x : Int32) (post : Int32 → Rg → Prop) (hw : wxQ_begin post S x) : MM l yxQ_begin cxQ_begin 2 (some .boolean) 0 0 Γ [.ref (θ 0), .int x] (WM Γ θ S Z) (KK (fun r : Int32 => some (.int r)) (fun S' => WM Γ θ S' Z) post) 0 0 := by
  refine MM_of (by decide) (Nat.le_of_ble_eq_true rfl) ?_
  intro p e s m below meth c X hr hlk hnm hG h ls hl
  have hx := X.1
  have hb := X.2.1
  have hl : lv_has ls 2 [(0, .ref (θ 0)), (1, .int x)] := hl
  unfold wxQ_begin at hw
  refine lv_aload_n hx hb dxQ_begin_0 rfl (lv_at hl 0 rfl) ?_
  refine gx_xQ_135 X hG h (x := S 7 2) rfl dxQ_begin_1 ?_
  refine lv_sipush (v := 300) hx hb dxQ_begin_4 (by decide) ?_
  refine lv_icmp_ne (tgt := 22) hx hb dxQ_begin_7 (by decide) (fun c1 => ?_) (fun c1 => ?_)
  · have hw := hw.1 c1
    refine lv_aload_n hx hb dxQ_begin_22 rfl (lv_at hl 0 rfl) ?_
    refine lv_dup hx hb dxQ_begin_23 rfl ?_
    refine gx_xQ_135 X hG h (x := S 7 2) rfl dxQ_begin_24 ?_
    refine lv_iconst (v := 1) hx hb dxQ_begin_27 (by decide) ?_
    refine lv_iadd hx hb dxQ_begin_28 ?_
    refine px_xQ_135 X hG h dxQ_begin_29 (fun H locs h => ?_)
    refine lv_aload_n hx hb dxQ_begin_32 rfl (lv_at hl 0 rfl) ?_
    refine gx_xQ_89 X hG h dxQ_begin_33 ?_
    refine lv_aload_n hx hb dxQ_begin_36 rfl (lv_at hl 0 rfl) ?_
    refine gx_xQ_145 X hG h (x := S 27 0) rfl dxQ_begin_37 ?_
    refine lv_iload_n hx hb dxQ_begin_40 rfl (lv_at hl 1 rfl) ?_
    obtain ⟨o2, hw⟩ := hw
    refine sq_16 X hG h o2 dxQ_begin_41 (fun H locs h => ?_)
    refine lv_aload_n hx hb dxQ_begin_42 rfl (lv_at hl 0 rfl) ?_
    refine gx_xQ_92 X hG h dxQ_begin_43 ?_
    refine lv_aload_n hx hb dxQ_begin_46 rfl (lv_at hl 0 rfl) ?_
    refine gx_xQ_145 X hG h (x := S 27 0) rfl dxQ_begin_47 ?_
    refine lv_iconst (v := 0) hx hb dxQ_begin_50 (by decide) ?_
    refine sq_17 X hG h o2 dxQ_begin_51 (fun H locs h => ?_)
    refine lv_aload_n hx hb dxQ_begin_52 rfl (lv_at hl 0 rfl) ?_
    refine gx_xQ_95 X hG h dxQ_begin_53 ?_
    refine lv_aload_n hx hb dxQ_begin_56 rfl (lv_at hl 0 rfl) ?_
    refine gx_xQ_145 X hG h (x := S 27 0) rfl dxQ_begin_57 ?_
    refine lv_iconst (v := 0) hx hb dxQ_begin_60 (by decide) ?_
    refine sq_18 X hG h o2 dxQ_begin_61 (fun H locs h => ?_)
    refine lv_aload_n hx hb dxQ_begin_62 rfl (lv_at hl 0 rfl) ?_
    refine lv_dup hx hb dxQ_begin_63 rfl ?_
    refine gx_xQ_145 X hG h (x := S 27 0) rfl dxQ_begin_64 ?_
    refine lv_iconst (v := 1) hx hb dxQ_begin_67 (by decide) ?_
    refine lv_iadd hx hb dxQ_begin_68 ?_
    refine px_xQ_145 X hG h dxQ_begin_69 (fun H locs h => ?_)
    refine lv_iconst (v := 1) hx hb dxQ_begin_72 (by decide) ?_
    exact z_zret X hr hlk h rfl ⟨_, _, rfl, rfl, hw⟩ dxQ_begin_73
  · have hw := hw.2 c1
    refine lv_aload_n hx hb dxQ_begin_10 rfl (lv_at hl 0 rfl) ?_
    refine lv_iconst (v := 5) hx hb dxQ_begin_11 (by decide) ?_
    refine px_xQ_138 X hG h dxQ_begin_12 (fun H locs h => ?_)
    refine lv_aload_n hx hb dxQ_begin_15 rfl (lv_at hl 0 rfl) ?_
    refine lv_iconst (v := 1) hx hb dxQ_begin_16 (by decide) ?_
    refine px_xQ_141 X hG h rfl rfl dxQ_begin_17 (fun H locs h => ?_)
    refine lv_iconst (v := 0) hx hb dxQ_begin_20 (by decide) ?_
    exact z_zret X hr hlk h rfl ⟨_, _, rfl, rfl, hw⟩ dxQ_begin_21
def wxQ_end  (post : Unit → Rg → Prop) (S : Rg) (x : Int32) (y : Int32) : Prop := post () (uu (uu (uu S 27 0 ((S 27 0) - 1)) 27 3 x) 27 4 y)
set_option maxHeartbeats 4000000 in
set_option maxRecDepth 100000 in
theorem mxQ_end (l : Launch) (Γ : Gm) (θ : Nat → Nat) (S : Rg) (Z : va_W) (x : Int32) (y : Int32) (post : Unit → Rg → Prop) (hw : wxQ_end post S x y) : MM l yxQ_end cxQ_end 3 none 0 0 Γ [.ref (θ 0), .int x, .int y] (WM Γ θ S Z) (KK (fun _ : Unit => none) (fun S' => WM Γ θ S' Z) post) 0 0 := by
  refine MM_of (by decide) (Nat.le_of_ble_eq_true rfl) ?_
  intro p e s m below meth c X hr hlk hnm hG h ls hl
  have hx := X.1
  have hb := X.2.1
  have hl : lv_has ls 3 [(0, .ref (θ 0)), (1, .int x), (2, .int y)] := hl
  unfold wxQ_end at hw
  refine lv_aload_n hx hb dxQ_end_0 rfl (lv_at hl 0 rfl) ?_
  refine lv_dup hx hb dxQ_end_1 rfl ?_
  refine gx_xQ_145 X hG h (x := S 27 0) rfl dxQ_end_2 ?_
  refine lv_iconst (v := 1) hx hb dxQ_end_5 (by decide) ?_
  refine lv_isub hx hb dxQ_end_6 ?_
  refine px_xQ_145 X hG h dxQ_end_7 (fun H locs h => ?_)
  refine lv_aload_n hx hb dxQ_end_10 rfl (lv_at hl 0 rfl) ?_
  refine lv_iload_n hx hb dxQ_end_11 rfl (lv_at hl 1 rfl) ?_
  refine px_xQ_148 X hG h dxQ_end_12 (fun H locs h => ?_)
  refine lv_aload_n hx hb dxQ_end_15 rfl (lv_at hl 0 rfl) ?_
  refine lv_iload_n hx hb dxQ_end_16 rfl (lv_at hl 2 rfl) ?_
  refine px_xQ_151 X hG h dxQ_end_17 (fun H locs h => ?_)
  exact z_vret X hr hlk h ⟨_, _, rfl, rfl, hw⟩ dxQ_end_20
def wxQ_endThrow  (post : Unit → Rg → Prop) (S : Rg) (x : Int32) (y : Int32) (q : Int32) : Prop := (vp_in (S 7 1) 302) ∧ wxQ_end (fun (_ : Unit) S3 => post () S3) (uu (uu (uu (uu (uu S 3 ((S 7 1).toNatClampNeg) x) 4 ((S 7 1).toNatClampNeg) y) 5 ((S 7 1).toNatClampNeg) q) 6 ((S 7 1).toNatClampNeg) 0) 7 1 ((S 7 1) + 1)) (3) (((S 7 1) + 1) - 1)
set_option maxHeartbeats 4000000 in
set_option maxRecDepth 100000 in
theorem mxQ_endThrow (l : Launch) (Γ : Gm) (θ : Nat → Nat) (S : Rg) (Z : va_W) (x : Int32) (y : Int32) (q : Int32) (post : Unit → Rg → Prop) (hw : wxQ_endThrow post S x y q) : MM l yxQ_endThrow cxQ_endThrow 4 none 1 22 Γ [.ref (θ 0), .int x, .int y, .int q] (WM Γ θ S Z) (KK (fun _ : Unit => none) (fun S' => WM Γ θ S' Z) post) 0 0 := by
  refine MM_of (by decide) (Nat.le_of_ble_eq_true rfl) ?_
  intro p e s m below meth c X hr hlk hnm hG h ls hl
  have hx := X.1
  have hb := X.2.1
  have hl : lv_has ls 4 [(0, .ref (θ 0)), (1, .int x), (2, .int y), (3, .int q)] := hl
  unfold wxQ_endThrow at hw
  refine lv_aload_n hx hb dxQ_endThrow_0 rfl (lv_at hl 0 rfl) ?_
  refine gx_xQ_62 X hG h dxQ_endThrow_1 ?_
  refine lv_aload_n hx hb dxQ_endThrow_4 rfl (lv_at hl 0 rfl) ?_
  refine gx_xQ_154 X hG h (x := S 7 1) rfl dxQ_endThrow_5 ?_
  refine lv_iload_n hx hb dxQ_endThrow_8 rfl (lv_at hl 1 rfl) ?_
  obtain ⟨o1, hw⟩ := hw
  refine sq_9 X hG h o1 dxQ_endThrow_9 (fun H locs h => ?_)
  refine lv_aload_n hx hb dxQ_endThrow_10 rfl (lv_at hl 0 rfl) ?_
  refine gx_xQ_65 X hG h dxQ_endThrow_11 ?_
  refine lv_aload_n hx hb dxQ_endThrow_14 rfl (lv_at hl 0 rfl) ?_
  refine gx_xQ_154 X hG h (x := S 7 1) rfl dxQ_endThrow_15 ?_
  refine lv_iload_n hx hb dxQ_endThrow_18 rfl (lv_at hl 2 rfl) ?_
  refine sq_10 X hG h o1 dxQ_endThrow_19 (fun H locs h => ?_)
  refine lv_aload_n hx hb dxQ_endThrow_20 rfl (lv_at hl 0 rfl) ?_
  refine gx_xQ_68 X hG h dxQ_endThrow_21 ?_
  refine lv_aload_n hx hb dxQ_endThrow_24 rfl (lv_at hl 0 rfl) ?_
  refine gx_xQ_154 X hG h (x := S 7 1) rfl dxQ_endThrow_25 ?_
  refine lv_iload_n hx hb dxQ_endThrow_28 rfl (lv_at hl 3 rfl) ?_
  refine sq_11 X hG h o1 dxQ_endThrow_29 (fun H locs h => ?_)
  refine lv_aload_n hx hb dxQ_endThrow_30 rfl (lv_at hl 0 rfl) ?_
  refine gx_xQ_71 X hG h dxQ_endThrow_31 ?_
  refine lv_aload_n hx hb dxQ_endThrow_34 rfl (lv_at hl 0 rfl) ?_
  refine gx_xQ_154 X hG h (x := S 7 1) rfl dxQ_endThrow_35 ?_
  refine lv_iconst (v := 0) hx hb dxQ_endThrow_38 (by decide) ?_
  refine sq_12 X hG h o1 dxQ_endThrow_39 (fun H locs h => ?_)
  refine lv_aload_n hx hb dxQ_endThrow_40 rfl (lv_at hl 0 rfl) ?_
  refine lv_dup hx hb dxQ_endThrow_41 rfl ?_
  refine gx_xQ_154 X hG h (x := S 7 1) rfl dxQ_endThrow_42 ?_
  refine lv_iconst (v := 1) hx hb dxQ_endThrow_45 (by decide) ?_
  refine lv_iadd hx hb dxQ_endThrow_46 ?_
  refine px_xQ_154 X hG h dxQ_endThrow_47 (fun H locs h => ?_)
  refine lv_aload_n hx hb dxQ_endThrow_50 rfl (lv_at hl 0 rfl) ?_
  refine lv_iconst (v := 3) hx hb dxQ_endThrow_51 (by decide) ?_
  refine lv_aload_n hx hb dxQ_endThrow_52 rfl (lv_at hl 0 rfl) ?_
  refine gx_xQ_154 X hG h (x := (S 7 1) + 1) rfl dxQ_endThrow_53 ?_
  refine lv_iconst (v := 1) hx hb dxQ_endThrow_56 (by decide) ?_
  refine lv_isub hx hb dxQ_endThrow_57 ?_
  refine cx_xQ_157 (As := [.int 3, .int (((S 7 1) + 1) - 1)]) (rest := []) X hG h hl.1 (mxQ_end l Γ θ (uu (uu (uu (uu (uu S 3 ((S 7 1).toNatClampNeg) x) 4 ((S 7 1).toNatClampNeg) y) 5 ((S 7 1).toNatClampNeg) q) 6 ((S 7 1).toNatClampNeg) 0) 7 1 ((S 7 1) + 1)) Z (3) (((S 7 1) + 1) - 1) _ hw) ⟨show 0 + 1 ≤ 1 from by omega, show 8 + (3 + 11) + 0 ≤ 22 from by omega⟩ (q0 := 0) rfl rfl (Nat.le_of_ble_eq_true rfl) dxQ_endThrow_58 ⟨Nat.le_of_ble_eq_true rfl, Nat.le_of_ble_eq_true rfl⟩ (fun v W1 hK H locs h => ?_)
  obtain ⟨r2, S3, rfl, rfl, hw⟩ := hK
  refine W.eq (g2 := F0 m 61 ls []) rfl ?_
  exact z_vret X hr hlk h ⟨_, _, rfl, rfl, hw⟩ dxQ_endThrow_61
def wxQ_note  (post : Unit → Rg → Prop) (S : Rg) (x : Int32) : Prop := (vp_in (S 7 0) 302) ∧ wxQ_end (fun (_ : Unit) S3 => post () S3) (uu (uu S 2 ((S 7 0).toNatClampNeg) x) 7 0 ((S 7 0) + 1)) (0) (0)
set_option maxHeartbeats 4000000 in
set_option maxRecDepth 100000 in
theorem mxQ_note (l : Launch) (Γ : Gm) (θ : Nat → Nat) (S : Rg) (Z : va_W) (x : Int32) (post : Unit → Rg → Prop) (hw : wxQ_note post S x) : MM l yxQ_note cxQ_note 2 none 1 22 Γ [.ref (θ 0), .int x] (WM Γ θ S Z) (KK (fun _ : Unit => none) (fun S' => WM Γ θ S' Z) post) 0 0 := by
  refine MM_of (by decide) (Nat.le_of_ble_eq_true rfl) ?_
  intro p e s m below meth c X hr hlk hnm hG h ls hl
  have hx := X.1
  have hb := X.2.1
  have hl : lv_has ls 2 [(0, .ref (θ 0)), (1, .int x)] := hl
  unfold wxQ_note at hw
  refine lv_aload_n hx hb dxQ_note_0 rfl (lv_at hl 0 rfl) ?_
  refine gx_xQ_80 X hG h dxQ_note_1 ?_
  refine lv_aload_n hx hb dxQ_note_4 rfl (lv_at hl 0 rfl) ?_
  refine gx_xQ_161 X hG h (x := S 7 0) rfl dxQ_note_5 ?_
  refine lv_iload_n hx hb dxQ_note_8 rfl (lv_at hl 1 rfl) ?_
  obtain ⟨o1, hw⟩ := hw
  refine sq_15 X hG h o1 dxQ_note_9 (fun H locs h => ?_)
  refine lv_aload_n hx hb dxQ_note_10 rfl (lv_at hl 0 rfl) ?_
  refine lv_dup hx hb dxQ_note_11 rfl ?_
  refine gx_xQ_161 X hG h (x := S 7 0) rfl dxQ_note_12 ?_
  refine lv_iconst (v := 1) hx hb dxQ_note_15 (by decide) ?_
  refine lv_iadd hx hb dxQ_note_16 ?_
  refine px_xQ_161 X hG h dxQ_note_17 (fun H locs h => ?_)
  refine lv_aload_n hx hb dxQ_note_20 rfl (lv_at hl 0 rfl) ?_
  refine lv_iconst (v := 0) hx hb dxQ_note_21 (by decide) ?_
  refine lv_iconst (v := 0) hx hb dxQ_note_22 (by decide) ?_
  refine cx_xQ_157 (As := [.int 0, .int 0]) (rest := []) X hG h hl.1 (mxQ_end l Γ θ (uu (uu S 2 ((S 7 0).toNatClampNeg) x) 7 0 ((S 7 0) + 1)) Z (0) (0) _ hw) ⟨show 0 + 1 ≤ 1 from by omega, show 8 + (3 + 11) + 0 ≤ 22 from by omega⟩ (q0 := 0) rfl rfl (Nat.le_of_ble_eq_true rfl) dxQ_note_23 ⟨Nat.le_of_ble_eq_true rfl, Nat.le_of_ble_eq_true rfl⟩ (fun v W1 hK H locs h => ?_)
  obtain ⟨r2, S3, rfl, rfl, hw⟩ := hK
  refine W.eq (g2 := F0 m 26 ls []) rfl ?_
  exact z_vret X hr hlk h ⟨_, _, rfl, rfl, hw⟩ dxQ_note_26
def wxQ_lastOf_c2  (post : Int32 → Rg → Prop) (x : Int32) : Nat → Rg → Int32 → Prop
  | 0, _, _ => False
  | d + 1, S, a2 => (vp_in a2 302) ∧ (((S 5 a2.toNatClampNeg) < (0 : Int32)) → post a2 S) ∧ ((¬ ((S 5 a2.toNatClampNeg) < (0 : Int32))) → wxQ_lastOf_c2 post x d S (S 5 a2.toNatClampNeg))
set_option maxHeartbeats 4000000 in
set_option maxRecDepth 100000 in
theorem txQ_lastOf_c2 {p : Program} {l : Launch} {e : Env} {s : State} {m : MethodId} {below : List Frame} {meth : Method} {c : Code} (Γ : Gm) (θ : Nat → Nat) (Z : va_W) (x : Int32)  (post : Int32 → Rg → Prop) (X : CallFix p m c cxQ_lastOf 3 s ([.ref (θ 0), .int x] : List Value).toArray big RxQ) (hr : meth.sig.returnType = (some .int)) (hlk : meth.locks = false) (hG : GX Γ s s.heap) :
    ∀ (d : Nat) (S : Rg) (a2 : Int32) (hw : wxQ_lastOf_c2 post x d S a2) (H : Heap) (locs : List Loc) (h : HS Γ s (WM Γ θ S Z) H locs) (ls : Array Slot) (hl : lv_has ls 3 [(0, .ref (θ 0)), (1, .int x), (2, .int a2)]), W p l e { frames := 0, cells := 0, slots := 0, locals := 0 } s m ([.ref (θ 0), .int x] : List Value).toArray below meth c H locs 0 0 (MQ below (QM Γ (KK (fun r : Int32 => some (.int r)) (fun S' => WM Γ θ S' Z) post)) ([.ref (θ 0), .int x] : List Value).toArray s 0 0 (AA Γ)) (F0 m 2 ls []) := by
  have hx := X.1
  have hb := X.2.1
  intro d
  induction d with
  | zero => intro S a2 hw; exact absurd hw (by simp [wxQ_lastOf_c2])
  | succ d ih =>
    intro S a2 hw H locs h ls hl
    rw [wxQ_lastOf_c2] at hw
    refine lv_aload_n hx hb dxQ_lastOf_2 rfl (lv_at hl 0 rfl) ?_
    refine gx_xQ_68 X hG h dxQ_lastOf_3 ?_
    refine lv_iload_n hx hb dxQ_lastOf_6 rfl (lv_at hl 2 rfl) ?_
    obtain ⟨o1, hw⟩ := hw
    refine lq_11 X hG h o1 (x := S 5 a2.toNatClampNeg) rfl dxQ_lastOf_7 ?_
    refine lv_if_lt (tgt := 21) hx hb dxQ_lastOf_8 (by decide) (fun c2 => ?_) (fun c2 => ?_)
    · have hw := hw.1 c2
      refine lv_iload_n hx hb dxQ_lastOf_21 rfl (lv_at hl 2 rfl) ?_
      exact z_iret X hr hlk h ⟨_, _, rfl, rfl, hw⟩ dxQ_lastOf_22
    · have hw := hw.2 c2
      refine lv_aload_n hx hb dxQ_lastOf_11 rfl (lv_at hl 0 rfl) ?_
      refine gx_xQ_68 X hG h dxQ_lastOf_12 ?_
      refine lv_iload_n hx hb dxQ_lastOf_15 rfl (lv_at hl 2 rfl) ?_
      refine lq_11 X hG h o1 (x := S 5 a2.toNatClampNeg) rfl dxQ_lastOf_16 ?_
      refine lv_istore_n (lv' := [(2, .int (S 5 a2.toNatClampNeg)), (0, .ref (θ 0)), (1, .int x)]) hx hb dxQ_lastOf_17 rfl hl (by decide) rfl (fun ls hl => ?_)
      refine lv_goto (tgt := 2) hx hb dxQ_lastOf_18 (by decide) ?_
      exact ih S (S 5 a2.toNatClampNeg) hw _ _ h ls (lv_sub hl [1, 2, 0] rfl)
def wxQ_lastOf  (post : Int32 → Rg → Prop) (S : Rg) (x : Int32) : Prop := ∃ d3 : Nat, wxQ_lastOf_c2 post x d3 S x
set_option maxHeartbeats 4000000 in
set_option maxRecDepth 100000 in
theorem mxQ_lastOf (l : Launch) (Γ : Gm) (θ : Nat → Nat) (S : Rg) (Z : va_W) (x : Int32) (post : Int32 → Rg → Prop) (hw : wxQ_lastOf post S x) : MM l yxQ_lastOf cxQ_lastOf 3 (some .int) 0 0 Γ [.ref (θ 0), .int x] (WM Γ θ S Z) (KK (fun r : Int32 => some (.int r)) (fun S' => WM Γ θ S' Z) post) 0 0 := by
  refine MM_of (by decide) (Nat.le_of_ble_eq_true rfl) ?_
  intro p e s m below meth c X hr hlk hnm hG h ls hl
  have hx := X.1
  have hb := X.2.1
  have hl : lv_has ls 3 [(0, .ref (θ 0)), (1, .int x)] := hl
  unfold wxQ_lastOf at hw
  refine lv_iload_n hx hb dxQ_lastOf_0 rfl (lv_at hl 1 rfl) ?_
  refine lv_istore_n (lv' := [(2, .int x), (0, .ref (θ 0)), (1, .int x)]) hx hb dxQ_lastOf_1 rfl hl (by decide) rfl (fun ls hl => ?_)
  obtain ⟨d3, hw⟩ := hw
  exact txQ_lastOf_c2 Γ θ Z x post X hr hlk hG d3 S x hw _ _ h ls (lv_sub hl [1, 2, 0] rfl)
def wxQ_machine  (post : Unit → Rg → Prop) (S : Rg) (x : Int32) (y : Int32) : Prop := (vp_in x 64) ∧ (((S 10 x.toNatClampNeg).toInt < 16 ∨ 21 < (S 10 x.toNatClampNeg).toInt) → (((S 27 2) < (0 : Int32)) → wxQ_end (fun (_ : Unit) S7 => post () S7) S (0) (0)) ∧ ((¬ ((S 27 2) < (0 : Int32))) → wxQ_lastOf (fun r8 S9 => (vp_in r8 302) ∧ wxQ_note (fun (_ : Unit) S12 => post () S12) S9 (S9 3 r8.toNatClampNeg)) S (S 27 2))) ∧ ((S 10 x.toNatClampNeg) = 16 → (vp_in (S 12 x.toNatClampNeg) 4) ∧ ((¬ ((S 0 ((S 12 x.toNatClampNeg).toNatClampNeg)) = (0 : Int32))) → ((¬ ((S 0 ((S 12 x.toNatClampNeg).toNatClampNeg)) = (-1 : Int32))) → (vp_in y 4) ∧ (¬ (S 0 ((S 12 x.toNatClampNeg).toNatClampNeg)) = 0) ∧ wxQ_end (fun (_ : Unit) S19 => post () S19) (uu S 0 y.toNatClampNeg ((S 0 y.toNatClampNeg) / (S 0 ((S 12 x.toNatClampNeg).toNatClampNeg)))) (0) (0)) ∧ (((S 0 ((S 12 x.toNatClampNeg).toNatClampNeg)) = (-1 : Int32)) → (vp_in y 4) ∧ wxQ_end (fun (_ : Unit) S22 => post () S22) (uu S 0 y.toNatClampNeg (-(S 0 y.toNatClampNeg))) (0) (0))) ∧ (((S 0 ((S 12 x.toNatClampNeg).toNatClampNeg)) = (0 : Int32)) → wxQ_endThrow (fun (_ : Unit) S24 => post () S24) S (2) (0) (-1))) ∧ ((S 10 x.toNatClampNeg) = 17 → (vp_in y 4) ∧ wxQ_out (fun r26 S27 => ((r26 = (0 : Int32)) → wxQ_end (fun (_ : Unit) S30 => post () S30) S27 (0) (0)) ∧ ((¬ (r26 = (0 : Int32))) → wxQ_endThrow (fun (_ : Unit) S32 => post () S32) S27 (3) (S27 0 y.toNatClampNeg) (-1))) S (S 0 y.toNatClampNeg) (0) ((S 12 x.toNatClampNeg) - 1)) ∧ ((S 10 x.toNatClampNeg) = 18 → (((S 27 2) < (0 : Int32)) → wxQ_end (fun (_ : Unit) S35 => post () S35) S (0) (0)) ∧ ((¬ ((S 27 2) < (0 : Int32))) → (vp_in (S 27 2) 302) ∧ wxQ_is (fun r37 S38 => ((¬ (r37 = (0 : Int32))) → wxQ_end (fun (_ : Unit) S41 => post () S41) S38 (0) (0)) ∧ ((r37 = (0 : Int32)) → (vp_in (S38 27 2) 302) ∧ wxQ_endThrow (fun (_ : Unit) S44 => post () S44) S38 (4) (S38 3 ((S38 27 2).toNatClampNeg)) (-1))) S (S 3 ((S 27 2).toNatClampNeg)) y)) ∧ ((S 10 x.toNatClampNeg) = 19 → (vp_in y 4) ∧ post () (uu (uu (uu S 27 6 4) 27 7 ((S 0 y.toNatClampNeg) &&& 255)) 27 5 1)) ∧ ((S 10 x.toNatClampNeg) = 20 → (((S 27 2) < (0 : Int32)) → wxQ_end (fun (_ : Unit) S48 => post () S48) S (0) (0)) ∧ ((¬ ((S 27 2) < (0 : Int32))) → wxQ_lastOf (fun r49 S50 => (vp_in r49 302) ∧ wxQ_note (fun (_ : Unit) S53 => post () S53) S50 (S50 3 r49.toNatClampNeg)) S (S 27 2))) ∧ ((S 10 x.toNatClampNeg) = 21 → (vp_in y 2) ∧ ((¬ ((S 1 y.toNatClampNeg) = (0 : Int32))) → wxQ_note (fun (_ : Unit) S57 => post () S57) S (100 + y)) ∧ (((S 1 y.toNatClampNeg) = (0 : Int32)) → wxQ_endThrow (fun (_ : Unit) S59 => post () S59) S (6) y (-1)))
set_option maxHeartbeats 4000000 in
set_option maxRecDepth 100000 in
theorem mxQ_machine (l : Launch) (Γ : Gm) (θ : Nat → Nat) (S : Rg) (Z : va_W) (x : Int32) (y : Int32) (post : Unit → Rg → Prop) (hw : wxQ_machine post S x y) : MM l yxQ_machine cxQ_machine 4 none 2 45 Γ [.ref (θ 0), .int x, .int y] (WM Γ θ S Z) (KK (fun _ : Unit => none) (fun S' => WM Γ θ S' Z) post) 0 0 := by
  refine MM_of (by decide) (Nat.le_of_ble_eq_true rfl) ?_
  intro p e s m below meth c X hr hlk hnm hG h ls hl
  have hx := X.1
  have hb := X.2.1
  have hl : lv_has ls 4 [(0, .ref (θ 0)), (1, .int x), (2, .int y)] := hl
  unfold wxQ_machine at hw
  refine lv_aload_n hx hb dxQ_machine_0 rfl (lv_at hl 0 rfl) ?_
  refine gx_xQ_41 X hG h dxQ_machine_1 ?_
  refine lv_iload_n hx hb dxQ_machine_4 rfl (lv_at hl 1 rfl) ?_
  obtain ⟨o1, hw⟩ := hw
  refine lq_3 X hG h o1 (x := S 10 x.toNatClampNeg) rfl dxQ_machine_5 ?_
  by_cases c2 : (S 10 x.toNatClampNeg).toInt < 16 ∨ 21 < (S 10 x.toNatClampNeg).toInt
  · have hw := hw.1 c2
    refine lv_tableOut (tgt := 250) hx hb dxQ_machine_6 c2 (by decide) ?_
    refine lv_aload_n hx hb dxQ_machine_250 rfl (lv_at hl 0 rfl) ?_
    refine gx_xQ_172 X hG h (x := S 27 2) rfl dxQ_machine_251 ?_
    refine lv_if_lt (tgt := 277) hx hb dxQ_machine_254 (by decide) (fun c5 => ?_) (fun c5 => ?_)
    · have hw := hw.1 c5
      refine lv_aload_n hx hb dxQ_machine_277 rfl (lv_at hl 0 rfl) ?_
      refine lv_iconst (v := 0) hx hb dxQ_machine_278 (by decide) ?_
      refine lv_iconst (v := 0) hx hb dxQ_machine_279 (by decide) ?_
      refine cx_xQ_157 (As := [.int 0, .int 0]) (rest := []) X hG h hl.1 (mxQ_end l Γ θ S Z (0) (0) _ hw) ⟨show 0 + 1 ≤ 2 from by omega, show 8 + (3 + 11) + 0 ≤ 45 from by omega⟩ (q0 := 0) rfl rfl (Nat.le_of_ble_eq_true rfl) dxQ_machine_280 ⟨Nat.le_of_ble_eq_true rfl, Nat.le_of_ble_eq_true rfl⟩ (fun v W1 hK H locs h => ?_)
      obtain ⟨r6, S7, rfl, rfl, hw⟩ := hK
      refine W.eq (g2 := F0 m 283 ls []) rfl ?_
      exact z_vret X hr hlk h ⟨_, _, rfl, rfl, hw⟩ dxQ_machine_283
    · have hw := hw.2 c5
      refine lv_aload_n hx hb dxQ_machine_257 rfl (lv_at hl 0 rfl) ?_
      refine lv_aload_n hx hb dxQ_machine_258 rfl (lv_at hl 0 rfl) ?_
      refine gx_xQ_62 X hG h dxQ_machine_259 ?_
      refine lv_aload_n hx hb dxQ_machine_262 rfl (lv_at hl 0 rfl) ?_
      refine lv_aload_n hx hb dxQ_machine_263 rfl (lv_at hl 0 rfl) ?_
      refine gx_xQ_172 X hG h (x := S 27 2) rfl dxQ_machine_264 ?_
      refine cx_xQ_184 (As := [.int (S 27 2)]) (rest := [.ref (θ 9), .ref (θ 0)]) X hG h hl.1 (mxQ_lastOf l Γ θ S Z (S 27 2) _ hw) ⟨show 0 + 1 ≤ 2 from by omega, show 8 + (3 + 11) + 0 ≤ 45 from by omega⟩ (q0 := 0) rfl rfl (Nat.le_of_ble_eq_true rfl) dxQ_machine_267 ⟨Nat.le_of_ble_eq_true rfl, Nat.le_of_ble_eq_true rfl⟩ (fun v W1 hK H locs h => ?_)
      obtain ⟨r8, S9, rfl, rfl, hw⟩ := hK
      refine W.eq (g2 := F0 m 270 ls [.int r8, .ref (θ 9), .ref (θ 0)]) rfl ?_
      obtain ⟨o10, hw⟩ := hw
      refine lq_9 X hG h o10 (x := S9 3 r8.toNatClampNeg) rfl dxQ_machine_270 ?_
      refine cx_xQ_164 (As := [.int (S9 3 r8.toNatClampNeg)]) (rest := []) X hG h hl.1 (mxQ_note l Γ θ S9 Z (S9 3 r8.toNatClampNeg) _ hw) ⟨show 1 + 1 ≤ 2 from by omega, show 8 + (2 + 11) + 22 ≤ 45 from by omega⟩ (q0 := 0) rfl rfl (Nat.le_of_ble_eq_true rfl) dxQ_machine_271 ⟨Nat.le_of_ble_eq_true rfl, Nat.le_of_ble_eq_true rfl⟩ (fun v W1 hK H locs h => ?_)
      obtain ⟨r11, S12, rfl, rfl, hw⟩ := hK
      refine W.eq (g2 := F0 m 274 ls []) rfl ?_
      refine lv_goto (tgt := 283) hx hb dxQ_machine_274 (by decide) ?_
      exact z_vret X hr hlk h ⟨_, _, rfl, rfl, hw⟩ dxQ_machine_283
  · have hw := hw.2
    obtain ⟨j4, j_h, e3⟩ := sw_in (lo := 16) (n := 5) c2
    match j4, j_h, e3 with
    | 0, _, e3 =>
      have e3 : (S 10 x.toNatClampNeg) = 16 := e3
      have hw := hw.1 e3
      refine lv_tableIn (off := 38) (tgt := 44) hx hb dxQ_machine_6 (by rw [e3]; decide) (by rw [e3]; decide) (by rw [e3]; rfl) (by decide) ?_
      refine lv_aload_n hx hb dxQ_machine_44 rfl (lv_at hl 0 rfl) ?_
      refine gx_xQ_74 X hG h dxQ_machine_45 ?_
      refine lv_aload_n hx hb dxQ_machine_48 rfl (lv_at hl 0 rfl) ?_
      refine gx_xQ_47 X hG h dxQ_machine_49 ?_
      refine lv_iload_n hx hb dxQ_machine_52 rfl (lv_at hl 1 rfl) ?_
      refine lq_5 X hG h o1 (x := S 12 x.toNatClampNeg) rfl dxQ_machine_53 ?_
      obtain ⟨o13, hw⟩ := hw
      refine lq_13 X hG h o13 (x := S 0 ((S 12 x.toNatClampNeg).toNatClampNeg)) rfl dxQ_machine_54 ?_
      refine lv_istore_n (lv' := [(3, .int (S 0 ((S 12 x.toNatClampNeg).toNatClampNeg))), (0, .ref (θ 0)), (1, .int x), (2, .int y)]) hx hb dxQ_machine_55 rfl hl (by decide) rfl (fun ls hl => ?_)
      refine lv_iload_n hx hb dxQ_machine_56 rfl (lv_at hl 0 rfl) ?_
      refine lv_if_ne (tgt := 68) hx hb dxQ_machine_57 (by decide) (fun c14 => ?_) (fun c14 => ?_)
      · have hw := hw.1 c14
        refine lv_aload_n hx hb dxQ_machine_68 rfl (lv_at hl 1 rfl) ?_
        refine gx_xQ_74 X hG h dxQ_machine_69 ?_
        refine lv_iload_n hx hb dxQ_machine_72 rfl (lv_at hl 3 rfl) ?_
        refine lv_iload_n hx hb dxQ_machine_73 rfl (lv_at hl 0 rfl) ?_
        refine lv_iconst (v := -1) hx hb dxQ_machine_74 (by decide) ?_
        refine lv_icmp_ne (tgt := 88) hx hb dxQ_machine_75 (by decide) (fun c15 => ?_) (fun c15 => ?_)
        · have hw := hw.1 c15
          refine lv_aload_n hx hb dxQ_machine_88 rfl (lv_at hl 1 rfl) ?_
          refine gx_xQ_74 X hG h dxQ_machine_89 ?_
          refine lv_iload_n hx hb dxQ_machine_92 rfl (lv_at hl 3 rfl) ?_
          obtain ⟨o16, hw⟩ := hw
          refine lq_13 X hG h o16 (x := S 0 y.toNatClampNeg) rfl dxQ_machine_93 ?_
          refine lv_iload_n hx hb dxQ_machine_94 rfl (lv_at hl 0 rfl) ?_
          obtain ⟨o17, hw⟩ := hw
          refine lv_idiv hx hb dxQ_machine_95 o17 ?_
          refine sq_13 X hG h o16 dxQ_machine_96 (fun H locs h => ?_)
          refine lv_aload_n hx hb dxQ_machine_97 rfl (lv_at hl 1 rfl) ?_
          refine lv_iconst (v := 0) hx hb dxQ_machine_98 (by decide) ?_
          refine lv_iconst (v := 0) hx hb dxQ_machine_99 (by decide) ?_
          refine cx_xQ_157 (As := [.int 0, .int 0]) (rest := []) X hG h hl.1 (mxQ_end l Γ θ (uu S 0 y.toNatClampNeg ((S 0 y.toNatClampNeg) / (S 0 ((S 12 x.toNatClampNeg).toNatClampNeg)))) Z (0) (0) _ hw) ⟨show 0 + 1 ≤ 2 from by omega, show 8 + (3 + 11) + 0 ≤ 45 from by omega⟩ (q0 := 0) rfl rfl (Nat.le_of_ble_eq_true rfl) dxQ_machine_100 ⟨Nat.le_of_ble_eq_true rfl, Nat.le_of_ble_eq_true rfl⟩ (fun v W1 hK H locs h => ?_)
          obtain ⟨r18, S19, rfl, rfl, hw⟩ := hK
          refine W.eq (g2 := F0 m 103 ls []) rfl ?_
          exact z_vret X hr hlk h ⟨_, _, rfl, rfl, hw⟩ dxQ_machine_103
        · have hw := hw.2 c15
          refine lv_aload_n hx hb dxQ_machine_78 rfl (lv_at hl 1 rfl) ?_
          refine gx_xQ_74 X hG h dxQ_machine_79 ?_
          refine lv_iload_n hx hb dxQ_machine_82 rfl (lv_at hl 3 rfl) ?_
          obtain ⟨o20, hw⟩ := hw
          refine lq_13 X hG h o20 (x := S 0 y.toNatClampNeg) rfl dxQ_machine_83 ?_
          refine lv_ineg hx hb dxQ_machine_84 ?_
          refine lv_goto (tgt := 96) hx hb dxQ_machine_85 (by decide) ?_
          refine sq_13 X hG h o20 dxQ_machine_96 (fun H locs h => ?_)
          refine lv_aload_n hx hb dxQ_machine_97 rfl (lv_at hl 1 rfl) ?_
          refine lv_iconst (v := 0) hx hb dxQ_machine_98 (by decide) ?_
          refine lv_iconst (v := 0) hx hb dxQ_machine_99 (by decide) ?_
          refine cx_xQ_157 (As := [.int 0, .int 0]) (rest := []) X hG h hl.1 (mxQ_end l Γ θ (uu S 0 y.toNatClampNeg (-(S 0 y.toNatClampNeg))) Z (0) (0) _ hw) ⟨show 0 + 1 ≤ 2 from by omega, show 8 + (3 + 11) + 0 ≤ 45 from by omega⟩ (q0 := 0) rfl rfl (Nat.le_of_ble_eq_true rfl) dxQ_machine_100 ⟨Nat.le_of_ble_eq_true rfl, Nat.le_of_ble_eq_true rfl⟩ (fun v W1 hK H locs h => ?_)
          obtain ⟨r21, S22, rfl, rfl, hw⟩ := hK
          refine W.eq (g2 := F0 m 103 ls []) rfl ?_
          exact z_vret X hr hlk h ⟨_, _, rfl, rfl, hw⟩ dxQ_machine_103
      · have hw := hw.2 c14
        refine lv_aload_n hx hb dxQ_machine_60 rfl (lv_at hl 1 rfl) ?_
        refine lv_iconst (v := 2) hx hb dxQ_machine_61 (by decide) ?_
        refine lv_iconst (v := 0) hx hb dxQ_machine_62 (by decide) ?_
        refine lv_iconst (v := -1) hx hb dxQ_machine_63 (by decide) ?_
        refine cx_xQ_168 (As := [.int 2, .int 0, .int (-1)]) (rest := []) X hG h hl.1 (mxQ_endThrow l Γ θ S Z (2) (0) (-1) _ hw) ⟨show 1 + 1 ≤ 2 from by omega, show 8 + (4 + 11) + 22 ≤ 45 from by omega⟩ (q0 := 0) rfl rfl (Nat.le_of_ble_eq_true rfl) dxQ_machine_64 ⟨Nat.le_of_ble_eq_true rfl, Nat.le_of_ble_eq_true rfl⟩ (fun v W1 hK H locs h => ?_)
        obtain ⟨r23, S24, rfl, rfl, hw⟩ := hK
        refine W.eq (g2 := F0 m 67 ls []) rfl ?_
        exact z_vret X hr hlk h ⟨_, _, rfl, rfl, hw⟩ dxQ_machine_67
    | 1, _, e3 =>
      have e3 : (S 10 x.toNatClampNeg) = 17 := e3
      have hw := hw.2.1 e3
      refine lv_tableIn (off := 98) (tgt := 104) hx hb dxQ_machine_6 (by rw [e3]; decide) (by rw [e3]; decide) (by rw [e3]; rfl) (by decide) ?_
      refine lv_aload_n hx hb dxQ_machine_104 rfl (lv_at hl 0 rfl) ?_
      refine gx_xQ_74 X hG h dxQ_machine_105 ?_
      refine lv_iload_n hx hb dxQ_machine_108 rfl (lv_at hl 2 rfl) ?_
      obtain ⟨o25, hw⟩ := hw
      refine lq_13 X hG h o25 (x := S 0 y.toNatClampNeg) rfl dxQ_machine_109 ?_
      refine lv_iconst (v := 0) hx hb dxQ_machine_110 (by decide) ?_
      refine lv_aload_n hx hb dxQ_machine_111 rfl (lv_at hl 0 rfl) ?_
      refine gx_xQ_47 X hG h dxQ_machine_112 ?_
      refine lv_iload_n hx hb dxQ_machine_115 rfl (lv_at hl 1 rfl) ?_
      refine lq_5 X hG h o1 (x := S 12 x.toNatClampNeg) rfl dxQ_machine_116 ?_
      refine lv_iconst (v := 1) hx hb dxQ_machine_117 (by decide) ?_
      refine lv_isub hx hb dxQ_machine_118 ?_
      refine cx_xQ_113 (As := [.int (S 0 y.toNatClampNeg), .int 0, .int ((S 12 x.toNatClampNeg) - 1)]) (rest := []) X hG h hl.1 (mxQ_out l Γ θ S Z (S 0 y.toNatClampNeg) (0) ((S 12 x.toNatClampNeg) - 1) _ hw) ⟨show 0 + 1 ≤ 2 from by omega, show 8 + (3 + 11) + 0 ≤ 45 from by omega⟩ rfl (Nat.le_of_ble_eq_true rfl) dxQ_machine_119 ⟨Nat.le_of_ble_eq_true rfl, Nat.le_of_ble_eq_true rfl⟩ (fun v W1 hK H locs h => ?_)
      obtain ⟨r26, S27, rfl, rfl, hw⟩ := hK
      refine W.eq (g2 := F0 m 122 ls [.int r26]) rfl ?_
      refine lv_if_eq (tgt := 140) hx hb dxQ_machine_122 (by decide) (fun c28 => ?_) (fun c28 => ?_)
      · have hw := hw.1 c28
        refine lv_aload_n hx hb dxQ_machine_140 rfl (lv_at hl 0 rfl) ?_
        refine lv_iconst (v := 0) hx hb dxQ_machine_141 (by decide) ?_
        refine lv_iconst (v := 0) hx hb dxQ_machine_142 (by decide) ?_
        refine cx_xQ_157 (As := [.int 0, .int 0]) (rest := []) X hG h hl.1 (mxQ_end l Γ θ S27 Z (0) (0) _ hw) ⟨show 0 + 1 ≤ 2 from by omega, show 8 + (3 + 11) + 0 ≤ 45 from by omega⟩ (q0 := 0) rfl rfl (Nat.le_of_ble_eq_true rfl) dxQ_machine_143 ⟨Nat.le_of_ble_eq_true rfl, Nat.le_of_ble_eq_true rfl⟩ (fun v W1 hK H locs h => ?_)
        obtain ⟨r29, S30, rfl, rfl, hw⟩ := hK
        refine W.eq (g2 := F0 m 146 ls []) rfl ?_
        exact z_vret X hr hlk h ⟨_, _, rfl, rfl, hw⟩ dxQ_machine_146
      · have hw := hw.2 c28
        refine lv_aload_n hx hb dxQ_machine_125 rfl (lv_at hl 0 rfl) ?_
        refine lv_iconst (v := 3) hx hb dxQ_machine_126 (by decide) ?_
        refine lv_aload_n hx hb dxQ_machine_127 rfl (lv_at hl 0 rfl) ?_
        refine gx_xQ_74 X hG h dxQ_machine_128 ?_
        refine lv_iload_n hx hb dxQ_machine_131 rfl (lv_at hl 2 rfl) ?_
        refine lq_13 X hG h o25 (x := S27 0 y.toNatClampNeg) rfl dxQ_machine_132 ?_
        refine lv_iconst (v := -1) hx hb dxQ_machine_133 (by decide) ?_
        refine cx_xQ_168 (As := [.int 3, .int (S27 0 y.toNatClampNeg), .int (-1)]) (rest := []) X hG h hl.1 (mxQ_endThrow l Γ θ S27 Z (3) (S27 0 y.toNatClampNeg) (-1) _ hw) ⟨show 1 + 1 ≤ 2 from by omega, show 8 + (4 + 11) + 22 ≤ 45 from by omega⟩ (q0 := 0) rfl rfl (Nat.le_of_ble_eq_true rfl) dxQ_machine_134 ⟨Nat.le_of_ble_eq_true rfl, Nat.le_of_ble_eq_true rfl⟩ (fun v W1 hK H locs h => ?_)
        obtain ⟨r31, S32, rfl, rfl, hw⟩ := hK
        refine W.eq (g2 := F0 m 137 ls []) rfl ?_
        refine lv_goto (tgt := 146) hx hb dxQ_machine_137 (by decide) ?_
        exact z_vret X hr hlk h ⟨_, _, rfl, rfl, hw⟩ dxQ_machine_146
    | 2, _, e3 =>
      have e3 : (S 10 x.toNatClampNeg) = 18 := e3
      have hw := hw.2.2.1 e3
      refine lv_tableIn (off := 141) (tgt := 147) hx hb dxQ_machine_6 (by rw [e3]; decide) (by rw [e3]; decide) (by rw [e3]; rfl) (by decide) ?_
      refine lv_aload_n hx hb dxQ_machine_147 rfl (lv_at hl 0 rfl) ?_
      refine gx_xQ_172 X hG h (x := S 27 2) rfl dxQ_machine_148 ?_
      refine lv_if_lt (tgt := 189) hx hb dxQ_machine_151 (by decide) (fun c33 => ?_) (fun c33 => ?_)
      · have hw := hw.1 c33
        refine lv_aload_n hx hb dxQ_machine_189 rfl (lv_at hl 0 rfl) ?_
        refine lv_iconst (v := 0) hx hb dxQ_machine_190 (by decide) ?_
        refine lv_iconst (v := 0) hx hb dxQ_machine_191 (by decide) ?_
        refine cx_xQ_157 (As := [.int 0, .int 0]) (rest := []) X hG h hl.1 (mxQ_end l Γ θ S Z (0) (0) _ hw) ⟨show 0 + 1 ≤ 2 from by omega, show 8 + (3 + 11) + 0 ≤ 45 from by omega⟩ (q0 := 0) rfl rfl (Nat.le_of_ble_eq_true rfl) dxQ_machine_192 ⟨Nat.le_of_ble_eq_true rfl, Nat.le_of_ble_eq_true rfl⟩ (fun v W1 hK H locs h => ?_)
        obtain ⟨r34, S35, rfl, rfl, hw⟩ := hK
        refine W.eq (g2 := F0 m 195 ls []) rfl ?_
        exact z_vret X hr hlk h ⟨_, _, rfl, rfl, hw⟩ dxQ_machine_195
      · have hw := hw.2 c33
        refine lv_aload_n hx hb dxQ_machine_154 rfl (lv_at hl 0 rfl) ?_
        refine lv_aload_n hx hb dxQ_machine_155 rfl (lv_at hl 0 rfl) ?_
        refine gx_xQ_62 X hG h dxQ_machine_156 ?_
        refine lv_aload_n hx hb dxQ_machine_159 rfl (lv_at hl 0 rfl) ?_
        refine gx_xQ_172 X hG h (x := S 27 2) rfl dxQ_machine_160 ?_
        obtain ⟨o36, hw⟩ := hw
        refine lq_9 X hG h o36 (x := S 3 ((S 27 2).toNatClampNeg)) rfl dxQ_machine_163 ?_
        refine lv_iload_n hx hb dxQ_machine_164 rfl (lv_at hl 2 rfl) ?_
        refine cx_xQ_178 (As := [.int (S 3 ((S 27 2).toNatClampNeg)), .int y]) (rest := []) X hG h hl.1 (mxQ_is l Γ θ S Z (S 3 ((S 27 2).toNatClampNeg)) y _ hw) ⟨show 0 + 1 ≤ 2 from by omega, show 8 + (4 + 11) + 0 ≤ 45 from by omega⟩ (q0 := 0) rfl rfl (Nat.le_of_ble_eq_true rfl) dxQ_machine_165 ⟨Nat.le_of_ble_eq_true rfl, Nat.le_of_ble_eq_true rfl⟩ (fun v W1 hK H locs h => ?_)
        obtain ⟨r37, S38, rfl, rfl, hw⟩ := hK
        refine W.eq (g2 := F0 m 168 ls [.int r37]) rfl ?_
        refine lv_if_ne (tgt := 189) hx hb dxQ_machine_168 (by decide) (fun c39 => ?_) (fun c39 => ?_)
        · have hw := hw.1 c39
          refine lv_aload_n hx hb dxQ_machine_189 rfl (lv_at hl 0 rfl) ?_
          refine lv_iconst (v := 0) hx hb dxQ_machine_190 (by decide) ?_
          refine lv_iconst (v := 0) hx hb dxQ_machine_191 (by decide) ?_
          refine cx_xQ_157 (As := [.int 0, .int 0]) (rest := []) X hG h hl.1 (mxQ_end l Γ θ S38 Z (0) (0) _ hw) ⟨show 0 + 1 ≤ 2 from by omega, show 8 + (3 + 11) + 0 ≤ 45 from by omega⟩ (q0 := 0) rfl rfl (Nat.le_of_ble_eq_true rfl) dxQ_machine_192 ⟨Nat.le_of_ble_eq_true rfl, Nat.le_of_ble_eq_true rfl⟩ (fun v W1 hK H locs h => ?_)
          obtain ⟨r40, S41, rfl, rfl, hw⟩ := hK
          refine W.eq (g2 := F0 m 195 ls []) rfl ?_
          exact z_vret X hr hlk h ⟨_, _, rfl, rfl, hw⟩ dxQ_machine_195
        · have hw := hw.2 c39
          refine lv_aload_n hx hb dxQ_machine_171 rfl (lv_at hl 0 rfl) ?_
          refine lv_iconst (v := 4) hx hb dxQ_machine_172 (by decide) ?_
          refine lv_aload_n hx hb dxQ_machine_173 rfl (lv_at hl 0 rfl) ?_
          refine gx_xQ_62 X hG h dxQ_machine_174 ?_
          refine lv_aload_n hx hb dxQ_machine_177 rfl (lv_at hl 0 rfl) ?_
          refine gx_xQ_172 X hG h (x := S38 27 2) rfl dxQ_machine_178 ?_
          obtain ⟨o42, hw⟩ := hw
          refine lq_9 X hG h o42 (x := S38 3 ((S38 27 2).toNatClampNeg)) rfl dxQ_machine_181 ?_
          refine lv_iconst (v := -1) hx hb dxQ_machine_182 (by decide) ?_
          refine cx_xQ_168 (As := [.int 4, .int (S38 3 ((S38 27 2).toNatClampNeg)), .int (-1)]) (rest := []) X hG h hl.1 (mxQ_endThrow l Γ θ S38 Z (4) (S38 3 ((S38 27 2).toNatClampNeg)) (-1) _ hw) ⟨show 1 + 1 ≤ 2 from by omega, show 8 + (4 + 11) + 22 ≤ 45 from by omega⟩ (q0 := 0) rfl rfl (Nat.le_of_ble_eq_true rfl) dxQ_machine_183 ⟨Nat.le_of_ble_eq_true rfl, Nat.le_of_ble_eq_true rfl⟩ (fun v W1 hK H locs h => ?_)
          obtain ⟨r43, S44, rfl, rfl, hw⟩ := hK
          refine W.eq (g2 := F0 m 186 ls []) rfl ?_
          refine lv_goto (tgt := 195) hx hb dxQ_machine_186 (by decide) ?_
          exact z_vret X hr hlk h ⟨_, _, rfl, rfl, hw⟩ dxQ_machine_195
    | 3, _, e3 =>
      have e3 : (S 10 x.toNatClampNeg) = 19 := e3
      have hw := hw.2.2.2.1 e3
      refine lv_tableIn (off := 190) (tgt := 196) hx hb dxQ_machine_6 (by rw [e3]; decide) (by rw [e3]; decide) (by rw [e3]; rfl) (by decide) ?_
      refine lv_aload_n hx hb dxQ_machine_196 rfl (lv_at hl 0 rfl) ?_
      refine lv_iconst (v := 4) hx hb dxQ_machine_197 (by decide) ?_
      refine px_xQ_138 X hG h dxQ_machine_198 (fun H locs h => ?_)
      refine lv_aload_n hx hb dxQ_machine_201 rfl (lv_at hl 0 rfl) ?_
      refine lv_aload_n hx hb dxQ_machine_202 rfl (lv_at hl 0 rfl) ?_
      refine gx_xQ_74 X hG h dxQ_machine_203 ?_
      refine lv_iload_n hx hb dxQ_machine_206 rfl (lv_at hl 2 rfl) ?_
      obtain ⟨o45, hw⟩ := hw
      refine lq_13 X hG h o45 (x := S 0 y.toNatClampNeg) rfl dxQ_machine_207 ?_
      refine lv_sipush (v := 255) hx hb dxQ_machine_208 (by decide) ?_
      refine lv_iand hx hb dxQ_machine_211 ?_
      refine px_xQ_181 X hG h dxQ_machine_212 (fun H locs h => ?_)
      refine lv_aload_n hx hb dxQ_machine_215 rfl (lv_at hl 0 rfl) ?_
      refine lv_iconst (v := 1) hx hb dxQ_machine_216 (by decide) ?_
      refine px_xQ_141 X hG h rfl rfl dxQ_machine_217 (fun H locs h => ?_)
      exact z_vret X hr hlk h ⟨_, _, rfl, rfl, hw⟩ dxQ_machine_220
    | 4, _, e3 =>
      have e3 : (S 10 x.toNatClampNeg) = 20 := e3
      have hw := hw.2.2.2.2.1 e3
      refine lv_tableIn (off := 244) (tgt := 250) hx hb dxQ_machine_6 (by rw [e3]; decide) (by rw [e3]; decide) (by rw [e3]; rfl) (by decide) ?_
      refine lv_aload_n hx hb dxQ_machine_250 rfl (lv_at hl 0 rfl) ?_
      refine gx_xQ_172 X hG h (x := S 27 2) rfl dxQ_machine_251 ?_
      refine lv_if_lt (tgt := 277) hx hb dxQ_machine_254 (by decide) (fun c46 => ?_) (fun c46 => ?_)
      · have hw := hw.1 c46
        refine lv_aload_n hx hb dxQ_machine_277 rfl (lv_at hl 0 rfl) ?_
        refine lv_iconst (v := 0) hx hb dxQ_machine_278 (by decide) ?_
        refine lv_iconst (v := 0) hx hb dxQ_machine_279 (by decide) ?_
        refine cx_xQ_157 (As := [.int 0, .int 0]) (rest := []) X hG h hl.1 (mxQ_end l Γ θ S Z (0) (0) _ hw) ⟨show 0 + 1 ≤ 2 from by omega, show 8 + (3 + 11) + 0 ≤ 45 from by omega⟩ (q0 := 0) rfl rfl (Nat.le_of_ble_eq_true rfl) dxQ_machine_280 ⟨Nat.le_of_ble_eq_true rfl, Nat.le_of_ble_eq_true rfl⟩ (fun v W1 hK H locs h => ?_)
        obtain ⟨r47, S48, rfl, rfl, hw⟩ := hK
        refine W.eq (g2 := F0 m 283 ls []) rfl ?_
        exact z_vret X hr hlk h ⟨_, _, rfl, rfl, hw⟩ dxQ_machine_283
      · have hw := hw.2 c46
        refine lv_aload_n hx hb dxQ_machine_257 rfl (lv_at hl 0 rfl) ?_
        refine lv_aload_n hx hb dxQ_machine_258 rfl (lv_at hl 0 rfl) ?_
        refine gx_xQ_62 X hG h dxQ_machine_259 ?_
        refine lv_aload_n hx hb dxQ_machine_262 rfl (lv_at hl 0 rfl) ?_
        refine lv_aload_n hx hb dxQ_machine_263 rfl (lv_at hl 0 rfl) ?_
        refine gx_xQ_172 X hG h (x := S 27 2) rfl dxQ_machine_264 ?_
        refine cx_xQ_184 (As := [.int (S 27 2)]) (rest := [.ref (θ 9), .ref (θ 0)]) X hG h hl.1 (mxQ_lastOf l Γ θ S Z (S 27 2) _ hw) ⟨show 0 + 1 ≤ 2 from by omega, show 8 + (3 + 11) + 0 ≤ 45 from by omega⟩ (q0 := 0) rfl rfl (Nat.le_of_ble_eq_true rfl) dxQ_machine_267 ⟨Nat.le_of_ble_eq_true rfl, Nat.le_of_ble_eq_true rfl⟩ (fun v W1 hK H locs h => ?_)
        obtain ⟨r49, S50, rfl, rfl, hw⟩ := hK
        refine W.eq (g2 := F0 m 270 ls [.int r49, .ref (θ 9), .ref (θ 0)]) rfl ?_
        obtain ⟨o51, hw⟩ := hw
        refine lq_9 X hG h o51 (x := S50 3 r49.toNatClampNeg) rfl dxQ_machine_270 ?_
        refine cx_xQ_164 (As := [.int (S50 3 r49.toNatClampNeg)]) (rest := []) X hG h hl.1 (mxQ_note l Γ θ S50 Z (S50 3 r49.toNatClampNeg) _ hw) ⟨show 1 + 1 ≤ 2 from by omega, show 8 + (2 + 11) + 22 ≤ 45 from by omega⟩ (q0 := 0) rfl rfl (Nat.le_of_ble_eq_true rfl) dxQ_machine_271 ⟨Nat.le_of_ble_eq_true rfl, Nat.le_of_ble_eq_true rfl⟩ (fun v W1 hK H locs h => ?_)
        obtain ⟨r52, S53, rfl, rfl, hw⟩ := hK
        refine W.eq (g2 := F0 m 274 ls []) rfl ?_
        refine lv_goto (tgt := 283) hx hb dxQ_machine_274 (by decide) ?_
        exact z_vret X hr hlk h ⟨_, _, rfl, rfl, hw⟩ dxQ_machine_283
    | 5, _, e3 =>
      have e3 : (S 10 x.toNatClampNeg) = 21 := e3
      have hw := hw.2.2.2.2.2 e3
      refine lv_tableIn (off := 215) (tgt := 221) hx hb dxQ_machine_6 (by rw [e3]; decide) (by rw [e3]; decide) (by rw [e3]; rfl) (by decide) ?_
      refine lv_aload_n hx hb dxQ_machine_221 rfl (lv_at hl 0 rfl) ?_
      refine gx_xQ_77 X hG h dxQ_machine_222 ?_
      refine lv_iload_n hx hb dxQ_machine_225 rfl (lv_at hl 2 rfl) ?_
      obtain ⟨o54, hw⟩ := hw
      refine lq_14 X hG h o54 (x := S 1 y.toNatClampNeg) rfl dxQ_machine_226 ?_
      refine lv_if_ne (tgt := 241) hx hb dxQ_machine_227 (by decide) (fun c55 => ?_) (fun c55 => ?_)
      · have hw := hw.1 c55
        refine lv_aload_n hx hb dxQ_machine_241 rfl (lv_at hl 0 rfl) ?_
        refine lv_bipush (v := 100) hx hb dxQ_machine_242 (by decide) ?_
        refine lv_iload_n hx hb dxQ_machine_244 rfl (lv_at hl 2 rfl) ?_
        refine lv_iadd hx hb dxQ_machine_245 ?_
        refine cx_xQ_164 (As := [.int (100 + y)]) (rest := []) X hG h hl.1 (mxQ_note l Γ θ S Z (100 + y) _ hw) ⟨show 1 + 1 ≤ 2 from by omega, show 8 + (2 + 11) + 22 ≤ 45 from by omega⟩ (q0 := 0) rfl rfl (Nat.le_of_ble_eq_true rfl) dxQ_machine_246 ⟨Nat.le_of_ble_eq_true rfl, Nat.le_of_ble_eq_true rfl⟩ (fun v W1 hK H locs h => ?_)
        obtain ⟨r56, S57, rfl, rfl, hw⟩ := hK
        refine W.eq (g2 := F0 m 249 ls []) rfl ?_
        exact z_vret X hr hlk h ⟨_, _, rfl, rfl, hw⟩ dxQ_machine_249
      · have hw := hw.2 c55
        refine lv_aload_n hx hb dxQ_machine_230 rfl (lv_at hl 0 rfl) ?_
        refine lv_bipush (v := 6) hx hb dxQ_machine_231 (by decide) ?_
        refine lv_iload_n hx hb dxQ_machine_233 rfl (lv_at hl 2 rfl) ?_
        refine lv_iconst (v := -1) hx hb dxQ_machine_234 (by decide) ?_
        refine cx_xQ_168 (As := [.int 6, .int y, .int (-1)]) (rest := []) X hG h hl.1 (mxQ_endThrow l Γ θ S Z (6) y (-1) _ hw) ⟨show 1 + 1 ≤ 2 from by omega, show 8 + (4 + 11) + 22 ≤ 45 from by omega⟩ (q0 := 0) rfl rfl (Nat.le_of_ble_eq_true rfl) dxQ_machine_235 ⟨Nat.le_of_ble_eq_true rfl, Nat.le_of_ble_eq_true rfl⟩ (fun v W1 hK H locs h => ?_)
        obtain ⟨r58, S59, rfl, rfl, hw⟩ := hK
        refine W.eq (g2 := F0 m 238 ls []) rfl ?_
        refine lv_goto (tgt := 249) hx hb dxQ_machine_238 (by decide) ?_
        exact z_vret X hr hlk h ⟨_, _, rfl, rfl, hw⟩ dxQ_machine_249
    | k + 6, j_h, _ => exact absurd j_h (by omega)
def wxQ_simple  (post : Unit → Rg → Prop) (S : Rg) (x : Int32) : Prop := (vp_in x 64) ∧ (((S 10 x.toNatClampNeg).toInt < 0 ∨ 12 < (S 10 x.toNatClampNeg).toInt) → wxQ_machine (fun (_ : Unit) S6 => post () S6) S x (S 11 x.toNatClampNeg)) ∧ ((S 10 x.toNatClampNeg) = 0 → wxQ_note (fun (_ : Unit) S8 => post () S8) S (S 11 x.toNatClampNeg)) ∧ ((S 10 x.toNatClampNeg) = 1 → (vp_in (S 11 x.toNatClampNeg) 4) ∧ wxQ_note (fun (_ : Unit) S11 => post () S11) S (S 0 ((S 11 x.toNatClampNeg).toNatClampNeg))) ∧ ((S 10 x.toNatClampNeg) = 2 → (vp_in (S 11 x.toNatClampNeg) 4) ∧ wxQ_end (fun (_ : Unit) S14 => post () S14) (uu S 0 ((S 11 x.toNatClampNeg).toNatClampNeg) (S 12 x.toNatClampNeg)) (0) (0)) ∧ ((S 10 x.toNatClampNeg) = 3 → (vp_in (S 11 x.toNatClampNeg) 4) ∧ wxQ_end (fun (_ : Unit) S17 => post () S17) (uu S 0 ((S 11 x.toNatClampNeg).toNatClampNeg) ((S 0 ((S 11 x.toNatClampNeg).toNatClampNeg)) + (S 12 x.toNatClampNeg))) (0) (0)) ∧ ((S 10 x.toNatClampNeg) = 4 → wxQ_machine (fun (_ : Unit) S19 => post () S19) S x (S 11 x.toNatClampNeg)) ∧ ((S 10 x.toNatClampNeg) = 5 → wxQ_machine (fun (_ : Unit) S21 => post () S21) S x (S 11 x.toNatClampNeg)) ∧ ((S 10 x.toNatClampNeg) = 6 → wxQ_machine (fun (_ : Unit) S23 => post () S23) S x (S 11 x.toNatClampNeg)) ∧ ((S 10 x.toNatClampNeg) = 7 → wxQ_end (fun (_ : Unit) S25 => post () S25) S (1) (0)) ∧ ((S 10 x.toNatClampNeg) = 8 → (vp_in (S 11 x.toNatClampNeg) 4) ∧ wxQ_end (fun (_ : Unit) S28 => post () S28) S (2) (S 0 ((S 11 x.toNatClampNeg).toNatClampNeg))) ∧ ((S 10 x.toNatClampNeg) = 9 → wxQ_machine (fun (_ : Unit) S30 => post () S30) S x (S 11 x.toNatClampNeg)) ∧ ((S 10 x.toNatClampNeg) = 10 → wxQ_endThrow (fun (_ : Unit) S32 => post () S32) S (S 11 x.toNatClampNeg) (S 12 x.toNatClampNeg) (-1)) ∧ ((S 10 x.toNatClampNeg) = 11 → (((0 : Int32) ≤ (S 27 2)) → wxQ_end (fun (_ : Unit) S35 => post () S35) S (3) (S 27 2)) ∧ ((¬ ((0 : Int32) ≤ (S 27 2))) → wxQ_endThrow (fun (_ : Unit) S37 => post () S37) S (1) (0) (-1))) ∧ ((S 10 x.toNatClampNeg) = 12 → wxQ_endThrow (fun (_ : Unit) S39 => post () S39) S (S 11 x.toNatClampNeg) (S 12 x.toNatClampNeg) (S 27 2))
set_option maxHeartbeats 4000000 in
set_option maxRecDepth 100000 in
theorem mxQ_simple (l : Launch) (Γ : Gm) (θ : Nat → Nat) (S : Rg) (Z : va_W) (x : Int32) (post : Unit → Rg → Prop) (hw : wxQ_simple post S x) : MM l yxQ_simple cxQ_simple 3 none 3 68 Γ [.ref (θ 0), .int x] (WM Γ θ S Z) (KK (fun _ : Unit => none) (fun S' => WM Γ θ S' Z) post) 0 0 := by
  refine MM_of (by decide) (Nat.le_of_ble_eq_true rfl) ?_
  intro p e s m below meth c X hr hlk hnm hG h ls hl
  have hx := X.1
  have hb := X.2.1
  have hl : lv_has ls 3 [(0, .ref (θ 0)), (1, .int x)] := hl
  unfold wxQ_simple at hw
  refine lv_aload_n hx hb dxQ_simple_0 rfl (lv_at hl 0 rfl) ?_
  refine gx_xQ_44 X hG h dxQ_simple_1 ?_
  refine lv_iload_n hx hb dxQ_simple_4 rfl (lv_at hl 1 rfl) ?_
  obtain ⟨o1, hw⟩ := hw
  refine lq_4 X hG h o1 (x := S 11 x.toNatClampNeg) rfl dxQ_simple_5 ?_
  refine lv_istore_n (lv' := [(2, .int (S 11 x.toNatClampNeg)), (0, .ref (θ 0)), (1, .int x)]) hx hb dxQ_simple_6 rfl hl (by decide) rfl (fun ls hl => ?_)
  refine lv_aload_n hx hb dxQ_simple_7 rfl (lv_at hl 1 rfl) ?_
  refine gx_xQ_41 X hG h dxQ_simple_8 ?_
  refine lv_iload_n hx hb dxQ_simple_11 rfl (lv_at hl 2 rfl) ?_
  refine lq_3 X hG h o1 (x := S 10 x.toNatClampNeg) rfl dxQ_simple_12 ?_
  by_cases c2 : (S 10 x.toNatClampNeg).toInt < 0 ∨ 12 < (S 10 x.toNatClampNeg).toInt
  · have hw := hw.1 c2
    refine lv_tableOut (tgt := 213) hx hb dxQ_simple_13 c2 (by decide) ?_
    refine lv_aload_n hx hb dxQ_simple_213 rfl (lv_at hl 1 rfl) ?_
    refine lv_iload_n hx hb dxQ_simple_214 rfl (lv_at hl 2 rfl) ?_
    refine lv_iload_n hx hb dxQ_simple_215 rfl (lv_at hl 0 rfl) ?_
    refine cx_xQ_175 (As := [.int x, .int (S 11 x.toNatClampNeg)]) (rest := []) X hG h hl.1 (mxQ_machine l Γ θ S Z x (S 11 x.toNatClampNeg) _ hw) ⟨show 2 + 1 ≤ 3 from by omega, show 8 + (4 + 11) + 45 ≤ 68 from by omega⟩ (q0 := 0) rfl rfl (Nat.le_of_ble_eq_true rfl) dxQ_simple_216 ⟨Nat.le_of_ble_eq_true rfl, Nat.le_of_ble_eq_true rfl⟩ (fun v W1 hK H locs h => ?_)
    obtain ⟨r5, S6, rfl, rfl, hw⟩ := hK
    refine W.eq (g2 := F0 m 219 ls []) rfl ?_
    exact z_vret X hr hlk h ⟨_, _, rfl, rfl, hw⟩ dxQ_simple_219
  · have hw := hw.2
    obtain ⟨j4, j_h, e3⟩ := sw_in (lo := 0) (n := 12) c2
    match j4, j_h, e3 with
    | 0, _, e3 =>
      have e3 : (S 10 x.toNatClampNeg) = 0 := e3
      have hw := hw.1 e3
      refine lv_tableIn (off := 67) (tgt := 80) hx hb dxQ_simple_13 (by rw [e3]; decide) (by rw [e3]; decide) (by rw [e3]; rfl) (by decide) ?_
      refine lv_aload_n hx hb dxQ_simple_80 rfl (lv_at hl 1 rfl) ?_
      refine lv_iload_n hx hb dxQ_simple_81 rfl (lv_at hl 0 rfl) ?_
      refine cx_xQ_164 (As := [.int (S 11 x.toNatClampNeg)]) (rest := []) X hG h hl.1 (mxQ_note l Γ θ S Z (S 11 x.toNatClampNeg) _ hw) ⟨show 1 + 1 ≤ 3 from by omega, show 8 + (2 + 11) + 22 ≤ 68 from by omega⟩ (q0 := 0) rfl rfl (Nat.le_of_ble_eq_true rfl) dxQ_simple_82 ⟨Nat.le_of_ble_eq_true rfl, Nat.le_of_ble_eq_true rfl⟩ (fun v W1 hK H locs h => ?_)
      obtain ⟨r7, S8, rfl, rfl, hw⟩ := hK
      refine W.eq (g2 := F0 m 85 ls []) rfl ?_
      exact z_vret X hr hlk h ⟨_, _, rfl, rfl, hw⟩ dxQ_simple_85
    | 1, _, e3 =>
      have e3 : (S 10 x.toNatClampNeg) = 1 := e3
      have hw := hw.2.1 e3
      refine lv_tableIn (off := 73) (tgt := 86) hx hb dxQ_simple_13 (by rw [e3]; decide) (by rw [e3]; decide) (by rw [e3]; rfl) (by decide) ?_
      refine lv_aload_n hx hb dxQ_simple_86 rfl (lv_at hl 1 rfl) ?_
      refine lv_aload_n hx hb dxQ_simple_87 rfl (lv_at hl 1 rfl) ?_
      refine gx_xQ_74 X hG h dxQ_simple_88 ?_
      refine lv_iload_n hx hb dxQ_simple_91 rfl (lv_at hl 0 rfl) ?_
      obtain ⟨o9, hw⟩ := hw
      refine lq_13 X hG h o9 (x := S 0 ((S 11 x.toNatClampNeg).toNatClampNeg)) rfl dxQ_simple_92 ?_
      refine cx_xQ_164 (As := [.int (S 0 ((S 11 x.toNatClampNeg).toNatClampNeg))]) (rest := []) X hG h hl.1 (mxQ_note l Γ θ S Z (S 0 ((S 11 x.toNatClampNeg).toNatClampNeg)) _ hw) ⟨show 1 + 1 ≤ 3 from by omega, show 8 + (2 + 11) + 22 ≤ 68 from by omega⟩ (q0 := 0) rfl rfl (Nat.le_of_ble_eq_true rfl) dxQ_simple_93 ⟨Nat.le_of_ble_eq_true rfl, Nat.le_of_ble_eq_true rfl⟩ (fun v W1 hK H locs h => ?_)
      obtain ⟨r10, S11, rfl, rfl, hw⟩ := hK
      refine W.eq (g2 := F0 m 96 ls []) rfl ?_
      exact z_vret X hr hlk h ⟨_, _, rfl, rfl, hw⟩ dxQ_simple_96
    | 2, _, e3 =>
      have e3 : (S 10 x.toNatClampNeg) = 2 := e3
      have hw := hw.2.2.1 e3
      refine lv_tableIn (off := 84) (tgt := 97) hx hb dxQ_simple_13 (by rw [e3]; decide) (by rw [e3]; decide) (by rw [e3]; rfl) (by decide) ?_
      refine lv_aload_n hx hb dxQ_simple_97 rfl (lv_at hl 1 rfl) ?_
      refine gx_xQ_74 X hG h dxQ_simple_98 ?_
      refine lv_iload_n hx hb dxQ_simple_101 rfl (lv_at hl 0 rfl) ?_
      refine lv_aload_n hx hb dxQ_simple_102 rfl (lv_at hl 1 rfl) ?_
      refine gx_xQ_47 X hG h dxQ_simple_103 ?_
      refine lv_iload_n hx hb dxQ_simple_106 rfl (lv_at hl 2 rfl) ?_
      refine lq_5 X hG h o1 (x := S 12 x.toNatClampNeg) rfl dxQ_simple_107 ?_
      obtain ⟨o12, hw⟩ := hw
      refine sq_13 X hG h o12 dxQ_simple_108 (fun H locs h => ?_)
      refine lv_aload_n hx hb dxQ_simple_109 rfl (lv_at hl 1 rfl) ?_
      refine lv_iconst (v := 0) hx hb dxQ_simple_110 (by decide) ?_
      refine lv_iconst (v := 0) hx hb dxQ_simple_111 (by decide) ?_
      refine cx_xQ_157 (As := [.int 0, .int 0]) (rest := []) X hG h hl.1 (mxQ_end l Γ θ (uu S 0 ((S 11 x.toNatClampNeg).toNatClampNeg) (S 12 x.toNatClampNeg)) Z (0) (0) _ hw) ⟨show 0 + 1 ≤ 3 from by omega, show 8 + (3 + 11) + 0 ≤ 68 from by omega⟩ (q0 := 0) rfl rfl (Nat.le_of_ble_eq_true rfl) dxQ_simple_112 ⟨Nat.le_of_ble_eq_true rfl, Nat.le_of_ble_eq_true rfl⟩ (fun v W1 hK H locs h => ?_)
      obtain ⟨r13, S14, rfl, rfl, hw⟩ := hK
      refine W.eq (g2 := F0 m 115 ls []) rfl ?_
      exact z_vret X hr hlk h ⟨_, _, rfl, rfl, hw⟩ dxQ_simple_115
    | 3, _, e3 =>
      have e3 : (S 10 x.toNatClampNeg) = 3 := e3
      have hw := hw.2.2.2.1 e3
      refine lv_tableIn (off := 103) (tgt := 116) hx hb dxQ_simple_13 (by rw [e3]; decide) (by rw [e3]; decide) (by rw [e3]; rfl) (by decide) ?_
      refine lv_aload_n hx hb dxQ_simple_116 rfl (lv_at hl 1 rfl) ?_
      refine gx_xQ_74 X hG h dxQ_simple_117 ?_
      refine lv_iload_n hx hb dxQ_simple_120 rfl (lv_at hl 0 rfl) ?_
      refine lv_dup2_11 hx hb dxQ_simple_121 rfl rfl ?_
      obtain ⟨o15, hw⟩ := hw
      refine lq_13 X hG h o15 (x := S 0 ((S 11 x.toNatClampNeg).toNatClampNeg)) rfl dxQ_simple_122 ?_
      refine lv_aload_n hx hb dxQ_simple_123 rfl (lv_at hl 1 rfl) ?_
      refine gx_xQ_47 X hG h dxQ_simple_124 ?_
      refine lv_iload_n hx hb dxQ_simple_127 rfl (lv_at hl 2 rfl) ?_
      refine lq_5 X hG h o1 (x := S 12 x.toNatClampNeg) rfl dxQ_simple_128 ?_
      refine lv_iadd hx hb dxQ_simple_129 ?_
      refine sq_13 X hG h o15 dxQ_simple_130 (fun H locs h => ?_)
      refine lv_aload_n hx hb dxQ_simple_131 rfl (lv_at hl 1 rfl) ?_
      refine lv_iconst (v := 0) hx hb dxQ_simple_132 (by decide) ?_
      refine lv_iconst (v := 0) hx hb dxQ_simple_133 (by decide) ?_
      refine cx_xQ_157 (As := [.int 0, .int 0]) (rest := []) X hG h hl.1 (mxQ_end l Γ θ (uu S 0 ((S 11 x.toNatClampNeg).toNatClampNeg) ((S 0 ((S 11 x.toNatClampNeg).toNatClampNeg)) + (S 12 x.toNatClampNeg))) Z (0) (0) _ hw) ⟨show 0 + 1 ≤ 3 from by omega, show 8 + (3 + 11) + 0 ≤ 68 from by omega⟩ (q0 := 0) rfl rfl (Nat.le_of_ble_eq_true rfl) dxQ_simple_134 ⟨Nat.le_of_ble_eq_true rfl, Nat.le_of_ble_eq_true rfl⟩ (fun v W1 hK H locs h => ?_)
      obtain ⟨r16, S17, rfl, rfl, hw⟩ := hK
      refine W.eq (g2 := F0 m 137 ls []) rfl ?_
      exact z_vret X hr hlk h ⟨_, _, rfl, rfl, hw⟩ dxQ_simple_137
    | 4, _, e3 =>
      have e3 : (S 10 x.toNatClampNeg) = 4 := e3
      have hw := hw.2.2.2.2.1 e3
      refine lv_tableIn (off := 200) (tgt := 213) hx hb dxQ_simple_13 (by rw [e3]; decide) (by rw [e3]; decide) (by rw [e3]; rfl) (by decide) ?_
      refine lv_aload_n hx hb dxQ_simple_213 rfl (lv_at hl 1 rfl) ?_
      refine lv_iload_n hx hb dxQ_simple_214 rfl (lv_at hl 2 rfl) ?_
      refine lv_iload_n hx hb dxQ_simple_215 rfl (lv_at hl 0 rfl) ?_
      refine cx_xQ_175 (As := [.int x, .int (S 11 x.toNatClampNeg)]) (rest := []) X hG h hl.1 (mxQ_machine l Γ θ S Z x (S 11 x.toNatClampNeg) _ hw) ⟨show 2 + 1 ≤ 3 from by omega, show 8 + (4 + 11) + 45 ≤ 68 from by omega⟩ (q0 := 0) rfl rfl (Nat.le_of_ble_eq_true rfl) dxQ_simple_216 ⟨Nat.le_of_ble_eq_true rfl, Nat.le_of_ble_eq_true rfl⟩ (fun v W1 hK H locs h => ?_)
      obtain ⟨r18, S19, rfl, rfl, hw⟩ := hK
      refine W.eq (g2 := F0 m 219 ls []) rfl ?_
      exact z_vret X hr hlk h ⟨_, _, rfl, rfl, hw⟩ dxQ_simple_219
    | 5, _, e3 =>
      have e3 : (S 10 x.toNatClampNeg) = 5 := e3
      have hw := hw.2.2.2.2.2.1 e3
      refine lv_tableIn (off := 200) (tgt := 213) hx hb dxQ_simple_13 (by rw [e3]; decide) (by rw [e3]; decide) (by rw [e3]; rfl) (by decide) ?_
      refine lv_aload_n hx hb dxQ_simple_213 rfl (lv_at hl 1 rfl) ?_
      refine lv_iload_n hx hb dxQ_simple_214 rfl (lv_at hl 2 rfl) ?_
      refine lv_iload_n hx hb dxQ_simple_215 rfl (lv_at hl 0 rfl) ?_
      refine cx_xQ_175 (As := [.int x, .int (S 11 x.toNatClampNeg)]) (rest := []) X hG h hl.1 (mxQ_machine l Γ θ S Z x (S 11 x.toNatClampNeg) _ hw) ⟨show 2 + 1 ≤ 3 from by omega, show 8 + (4 + 11) + 45 ≤ 68 from by omega⟩ (q0 := 0) rfl rfl (Nat.le_of_ble_eq_true rfl) dxQ_simple_216 ⟨Nat.le_of_ble_eq_true rfl, Nat.le_of_ble_eq_true rfl⟩ (fun v W1 hK H locs h => ?_)
      obtain ⟨r20, S21, rfl, rfl, hw⟩ := hK
      refine W.eq (g2 := F0 m 219 ls []) rfl ?_
      exact z_vret X hr hlk h ⟨_, _, rfl, rfl, hw⟩ dxQ_simple_219
    | 6, _, e3 =>
      have e3 : (S 10 x.toNatClampNeg) = 6 := e3
      have hw := hw.2.2.2.2.2.2.1 e3
      refine lv_tableIn (off := 200) (tgt := 213) hx hb dxQ_simple_13 (by rw [e3]; decide) (by rw [e3]; decide) (by rw [e3]; rfl) (by decide) ?_
      refine lv_aload_n hx hb dxQ_simple_213 rfl (lv_at hl 1 rfl) ?_
      refine lv_iload_n hx hb dxQ_simple_214 rfl (lv_at hl 2 rfl) ?_
      refine lv_iload_n hx hb dxQ_simple_215 rfl (lv_at hl 0 rfl) ?_
      refine cx_xQ_175 (As := [.int x, .int (S 11 x.toNatClampNeg)]) (rest := []) X hG h hl.1 (mxQ_machine l Γ θ S Z x (S 11 x.toNatClampNeg) _ hw) ⟨show 2 + 1 ≤ 3 from by omega, show 8 + (4 + 11) + 45 ≤ 68 from by omega⟩ (q0 := 0) rfl rfl (Nat.le_of_ble_eq_true rfl) dxQ_simple_216 ⟨Nat.le_of_ble_eq_true rfl, Nat.le_of_ble_eq_true rfl⟩ (fun v W1 hK H locs h => ?_)
      obtain ⟨r22, S23, rfl, rfl, hw⟩ := hK
      refine W.eq (g2 := F0 m 219 ls []) rfl ?_
      exact z_vret X hr hlk h ⟨_, _, rfl, rfl, hw⟩ dxQ_simple_219
    | 7, _, e3 =>
      have e3 : (S 10 x.toNatClampNeg) = 7 := e3
      have hw := hw.2.2.2.2.2.2.2.1 e3
      refine lv_tableIn (off := 125) (tgt := 138) hx hb dxQ_simple_13 (by rw [e3]; decide) (by rw [e3]; decide) (by rw [e3]; rfl) (by decide) ?_
      refine lv_aload_n hx hb dxQ_simple_138 rfl (lv_at hl 1 rfl) ?_
      refine lv_iconst (v := 1) hx hb dxQ_simple_139 (by decide) ?_
      refine lv_iconst (v := 0) hx hb dxQ_simple_140 (by decide) ?_
      refine cx_xQ_157 (As := [.int 1, .int 0]) (rest := []) X hG h hl.1 (mxQ_end l Γ θ S Z (1) (0) _ hw) ⟨show 0 + 1 ≤ 3 from by omega, show 8 + (3 + 11) + 0 ≤ 68 from by omega⟩ (q0 := 0) rfl rfl (Nat.le_of_ble_eq_true rfl) dxQ_simple_141 ⟨Nat.le_of_ble_eq_true rfl, Nat.le_of_ble_eq_true rfl⟩ (fun v W1 hK H locs h => ?_)
      obtain ⟨r24, S25, rfl, rfl, hw⟩ := hK
      refine W.eq (g2 := F0 m 144 ls []) rfl ?_
      exact z_vret X hr hlk h ⟨_, _, rfl, rfl, hw⟩ dxQ_simple_144
    | 8, _, e3 =>
      have e3 : (S 10 x.toNatClampNeg) = 8 := e3
      have hw := hw.2.2.2.2.2.2.2.2.1 e3
      refine lv_tableIn (off := 132) (tgt := 145) hx hb dxQ_simple_13 (by rw [e3]; decide) (by rw [e3]; decide) (by rw [e3]; rfl) (by decide) ?_
      refine lv_aload_n hx hb dxQ_simple_145 rfl (lv_at hl 1 rfl) ?_
      refine lv_iconst (v := 2) hx hb dxQ_simple_146 (by decide) ?_
      refine lv_aload_n hx hb dxQ_simple_147 rfl (lv_at hl 1 rfl) ?_
      refine gx_xQ_74 X hG h dxQ_simple_148 ?_
      refine lv_iload_n hx hb dxQ_simple_151 rfl (lv_at hl 0 rfl) ?_
      obtain ⟨o26, hw⟩ := hw
      refine lq_13 X hG h o26 (x := S 0 ((S 11 x.toNatClampNeg).toNatClampNeg)) rfl dxQ_simple_152 ?_
      refine cx_xQ_157 (As := [.int 2, .int (S 0 ((S 11 x.toNatClampNeg).toNatClampNeg))]) (rest := []) X hG h hl.1 (mxQ_end l Γ θ S Z (2) (S 0 ((S 11 x.toNatClampNeg).toNatClampNeg)) _ hw) ⟨show 0 + 1 ≤ 3 from by omega, show 8 + (3 + 11) + 0 ≤ 68 from by omega⟩ (q0 := 0) rfl rfl (Nat.le_of_ble_eq_true rfl) dxQ_simple_153 ⟨Nat.le_of_ble_eq_true rfl, Nat.le_of_ble_eq_true rfl⟩ (fun v W1 hK H locs h => ?_)
      obtain ⟨r27, S28, rfl, rfl, hw⟩ := hK
      refine W.eq (g2 := F0 m 156 ls []) rfl ?_
      exact z_vret X hr hlk h ⟨_, _, rfl, rfl, hw⟩ dxQ_simple_156
    | 9, _, e3 =>
      have e3 : (S 10 x.toNatClampNeg) = 9 := e3
      have hw := hw.2.2.2.2.2.2.2.2.2.1 e3
      refine lv_tableIn (off := 200) (tgt := 213) hx hb dxQ_simple_13 (by rw [e3]; decide) (by rw [e3]; decide) (by rw [e3]; rfl) (by decide) ?_
      refine lv_aload_n hx hb dxQ_simple_213 rfl (lv_at hl 1 rfl) ?_
      refine lv_iload_n hx hb dxQ_simple_214 rfl (lv_at hl 2 rfl) ?_
      refine lv_iload_n hx hb dxQ_simple_215 rfl (lv_at hl 0 rfl) ?_
      refine cx_xQ_175 (As := [.int x, .int (S 11 x.toNatClampNeg)]) (rest := []) X hG h hl.1 (mxQ_machine l Γ θ S Z x (S 11 x.toNatClampNeg) _ hw) ⟨show 2 + 1 ≤ 3 from by omega, show 8 + (4 + 11) + 45 ≤ 68 from by omega⟩ (q0 := 0) rfl rfl (Nat.le_of_ble_eq_true rfl) dxQ_simple_216 ⟨Nat.le_of_ble_eq_true rfl, Nat.le_of_ble_eq_true rfl⟩ (fun v W1 hK H locs h => ?_)
      obtain ⟨r29, S30, rfl, rfl, hw⟩ := hK
      refine W.eq (g2 := F0 m 219 ls []) rfl ?_
      exact z_vret X hr hlk h ⟨_, _, rfl, rfl, hw⟩ dxQ_simple_219
    | 10, _, e3 =>
      have e3 : (S 10 x.toNatClampNeg) = 10 := e3
      have hw := hw.2.2.2.2.2.2.2.2.2.2.1 e3
      refine lv_tableIn (off := 144) (tgt := 157) hx hb dxQ_simple_13 (by rw [e3]; decide) (by rw [e3]; decide) (by rw [e3]; rfl) (by decide) ?_
      refine lv_aload_n hx hb dxQ_simple_157 rfl (lv_at hl 1 rfl) ?_
      refine lv_iload_n hx hb dxQ_simple_158 rfl (lv_at hl 0 rfl) ?_
      refine lv_aload_n hx hb dxQ_simple_159 rfl (lv_at hl 1 rfl) ?_
      refine gx_xQ_47 X hG h dxQ_simple_160 ?_
      refine lv_iload_n hx hb dxQ_simple_163 rfl (lv_at hl 2 rfl) ?_
      refine lq_5 X hG h o1 (x := S 12 x.toNatClampNeg) rfl dxQ_simple_164 ?_
      refine lv_iconst (v := -1) hx hb dxQ_simple_165 (by decide) ?_
      refine cx_xQ_168 (As := [.int (S 11 x.toNatClampNeg), .int (S 12 x.toNatClampNeg), .int (-1)]) (rest := []) X hG h hl.1 (mxQ_endThrow l Γ θ S Z (S 11 x.toNatClampNeg) (S 12 x.toNatClampNeg) (-1) _ hw) ⟨show 1 + 1 ≤ 3 from by omega, show 8 + (4 + 11) + 22 ≤ 68 from by omega⟩ (q0 := 0) rfl rfl (Nat.le_of_ble_eq_true rfl) dxQ_simple_166 ⟨Nat.le_of_ble_eq_true rfl, Nat.le_of_ble_eq_true rfl⟩ (fun v W1 hK H locs h => ?_)
      obtain ⟨r31, S32, rfl, rfl, hw⟩ := hK
      refine W.eq (g2 := F0 m 169 ls []) rfl ?_
      exact z_vret X hr hlk h ⟨_, _, rfl, rfl, hw⟩ dxQ_simple_169
    | 11, _, e3 =>
      have e3 : (S 10 x.toNatClampNeg) = 11 := e3
      have hw := hw.2.2.2.2.2.2.2.2.2.2.2.1 e3
      refine lv_tableIn (off := 157) (tgt := 170) hx hb dxQ_simple_13 (by rw [e3]; decide) (by rw [e3]; decide) (by rw [e3]; rfl) (by decide) ?_
      refine lv_aload_n hx hb dxQ_simple_170 rfl (lv_at hl 1 rfl) ?_
      refine gx_xQ_172 X hG h (x := S 27 2) rfl dxQ_simple_171 ?_
      refine lv_if_ge (tgt := 187) hx hb dxQ_simple_174 (by decide) (fun c33 => ?_) (fun c33 => ?_)
      · have hw := hw.1 c33
        refine lv_aload_n hx hb dxQ_simple_187 rfl (lv_at hl 1 rfl) ?_
        refine lv_iconst (v := 3) hx hb dxQ_simple_188 (by decide) ?_
        refine lv_aload_n hx hb dxQ_simple_189 rfl (lv_at hl 1 rfl) ?_
        refine gx_xQ_172 X hG h (x := S 27 2) rfl dxQ_simple_190 ?_
        refine cx_xQ_157 (As := [.int 3, .int (S 27 2)]) (rest := []) X hG h hl.1 (mxQ_end l Γ θ S Z (3) (S 27 2) _ hw) ⟨show 0 + 1 ≤ 3 from by omega, show 8 + (3 + 11) + 0 ≤ 68 from by omega⟩ (q0 := 0) rfl rfl (Nat.le_of_ble_eq_true rfl) dxQ_simple_193 ⟨Nat.le_of_ble_eq_true rfl, Nat.le_of_ble_eq_true rfl⟩ (fun v W1 hK H locs h => ?_)
        obtain ⟨r34, S35, rfl, rfl, hw⟩ := hK
        refine W.eq (g2 := F0 m 196 ls []) rfl ?_
        exact z_vret X hr hlk h ⟨_, _, rfl, rfl, hw⟩ dxQ_simple_196
      · have hw := hw.2 c33
        refine lv_aload_n hx hb dxQ_simple_177 rfl (lv_at hl 1 rfl) ?_
        refine lv_iconst (v := 1) hx hb dxQ_simple_178 (by decide) ?_
        refine lv_iconst (v := 0) hx hb dxQ_simple_179 (by decide) ?_
        refine lv_iconst (v := -1) hx hb dxQ_simple_180 (by decide) ?_
        refine cx_xQ_168 (As := [.int 1, .int 0, .int (-1)]) (rest := []) X hG h hl.1 (mxQ_endThrow l Γ θ S Z (1) (0) (-1) _ hw) ⟨show 1 + 1 ≤ 3 from by omega, show 8 + (4 + 11) + 22 ≤ 68 from by omega⟩ (q0 := 0) rfl rfl (Nat.le_of_ble_eq_true rfl) dxQ_simple_181 ⟨Nat.le_of_ble_eq_true rfl, Nat.le_of_ble_eq_true rfl⟩ (fun v W1 hK H locs h => ?_)
        obtain ⟨r36, S37, rfl, rfl, hw⟩ := hK
        refine W.eq (g2 := F0 m 184 ls []) rfl ?_
        refine lv_goto (tgt := 196) hx hb dxQ_simple_184 (by decide) ?_
        exact z_vret X hr hlk h ⟨_, _, rfl, rfl, hw⟩ dxQ_simple_196
    | 12, _, e3 =>
      have e3 : (S 10 x.toNatClampNeg) = 12 := e3
      have hw := hw.2.2.2.2.2.2.2.2.2.2.2.2 e3
      refine lv_tableIn (off := 184) (tgt := 197) hx hb dxQ_simple_13 (by rw [e3]; decide) (by rw [e3]; decide) (by rw [e3]; rfl) (by decide) ?_
      refine lv_aload_n hx hb dxQ_simple_197 rfl (lv_at hl 1 rfl) ?_
      refine lv_iload_n hx hb dxQ_simple_198 rfl (lv_at hl 0 rfl) ?_
      refine lv_aload_n hx hb dxQ_simple_199 rfl (lv_at hl 1 rfl) ?_
      refine gx_xQ_47 X hG h dxQ_simple_200 ?_
      refine lv_iload_n hx hb dxQ_simple_203 rfl (lv_at hl 2 rfl) ?_
      refine lq_5 X hG h o1 (x := S 12 x.toNatClampNeg) rfl dxQ_simple_204 ?_
      refine lv_aload_n hx hb dxQ_simple_205 rfl (lv_at hl 1 rfl) ?_
      refine gx_xQ_172 X hG h (x := S 27 2) rfl dxQ_simple_206 ?_
      refine cx_xQ_168 (As := [.int (S 11 x.toNatClampNeg), .int (S 12 x.toNatClampNeg), .int (S 27 2)]) (rest := []) X hG h hl.1 (mxQ_endThrow l Γ θ S Z (S 11 x.toNatClampNeg) (S 12 x.toNatClampNeg) (S 27 2) _ hw) ⟨show 1 + 1 ≤ 3 from by omega, show 8 + (4 + 11) + 22 ≤ 68 from by omega⟩ (q0 := 0) rfl rfl (Nat.le_of_ble_eq_true rfl) dxQ_simple_209 ⟨Nat.le_of_ble_eq_true rfl, Nat.le_of_ble_eq_true rfl⟩ (fun v W1 hK H locs h => ?_)
      obtain ⟨r38, S39, rfl, rfl, hw⟩ := hK
      refine W.eq (g2 := F0 m 212 ls []) rfl ?_
      exact z_vret X hr hlk h ⟨_, _, rfl, rfl, hw⟩ dxQ_simple_212
    | k + 13, j_h, _ => exact absurd j_h (by omega)
def wxQ_hasParts  (post : Int32 → Rg → Prop) (S : Rg) (x : Int32) : Prop := ((x < (4 : Int32)) → ((x = (9 : Int32)) → post (1 : Int32) S) ∧ ((¬ (x = (9 : Int32))) → ((x < (13 : Int32)) → ((¬ (x = (20 : Int32))) → post (0 : Int32) S) ∧ ((x = (20 : Int32)) → post (1 : Int32) S)) ∧ ((¬ (x < (13 : Int32))) → ((x ≤ (15 : Int32)) → post (1 : Int32) S) ∧ ((¬ (x ≤ (15 : Int32))) → ((¬ (x = (20 : Int32))) → post (0 : Int32) S) ∧ ((x = (20 : Int32)) → post (1 : Int32) S))))) ∧ ((¬ (x < (4 : Int32))) → ((x ≤ (6 : Int32)) → post (1 : Int32) S) ∧ ((¬ (x ≤ (6 : Int32))) → ((x = (9 : Int32)) → post (1 : Int32) S) ∧ ((¬ (x = (9 : Int32))) → ((x < (13 : Int32)) → ((¬ (x = (20 : Int32))) → post (0 : Int32) S) ∧ ((x = (20 : Int32)) → post (1 : Int32) S)) ∧ ((¬ (x < (13 : Int32))) → ((x ≤ (15 : Int32)) → post (1 : Int32) S) ∧ ((¬ (x ≤ (15 : Int32))) → ((¬ (x = (20 : Int32))) → post (0 : Int32) S) ∧ ((x = (20 : Int32)) → post (1 : Int32) S))))))
set_option maxHeartbeats 4000000 in
set_option maxRecDepth 100000 in
theorem mxQ_hasParts (l : Launch) (Γ : Gm) (θ : Nat → Nat) (S : Rg) (Z : va_W) (x : Int32) (post : Int32 → Rg → Prop) (hw : wxQ_hasParts post S x) : MM l yxQ_hasParts cxQ_hasParts 1 (some .boolean) 0 0 Γ [.int x] (WM Γ θ S Z) (KK (fun r : Int32 => some (.int r)) (fun S' => WM Γ θ S' Z) post) 0 0 := by
  refine MM_of (by decide) (Nat.le_of_ble_eq_true rfl) ?_
  intro p e s m below meth c X hr hlk hnm hG h ls hl
  have hx := X.1
  have hb := X.2.1
  have hl : lv_has ls 1 [(0, .int x)] := hl
  unfold wxQ_hasParts at hw
  refine lv_iload_n hx hb dxQ_hasParts_0 rfl (lv_at hl 0 rfl) ?_
  refine lv_iconst (v := 4) hx hb dxQ_hasParts_1 (by decide) ?_
  refine lv_icmp_lt (tgt := 11) hx hb dxQ_hasParts_2 (by decide) (fun c1 => ?_) (fun c1 => ?_)
  · have hw := hw.1 c1
    refine lv_iload_n hx hb dxQ_hasParts_11 rfl (lv_at hl 0 rfl) ?_
    refine lv_bipush (v := 9) hx hb dxQ_hasParts_12 (by decide) ?_
    refine lv_icmp_eq (tgt := 35) hx hb dxQ_hasParts_14 (by decide) (fun c2 => ?_) (fun c2 => ?_)
    · have hw := hw.1 c2
      refine lv_iconst (v := 1) hx hb dxQ_hasParts_35 (by decide) ?_
      refine lv_goto (tgt := 40) hx hb dxQ_hasParts_36 (by decide) ?_
      exact z_zret X hr hlk h rfl ⟨_, _, rfl, rfl, hw⟩ dxQ_hasParts_40
    · have hw := hw.2 c2
      refine lv_iload_n hx hb dxQ_hasParts_17 rfl (lv_at hl 0 rfl) ?_
      refine lv_bipush (v := 13) hx hb dxQ_hasParts_18 (by decide) ?_
      refine lv_icmp_lt (tgt := 29) hx hb dxQ_hasParts_20 (by decide) (fun c3 => ?_) (fun c3 => ?_)
      · have hw := hw.1 c3
        refine lv_iload_n hx hb dxQ_hasParts_29 rfl (lv_at hl 0 rfl) ?_
        refine lv_bipush (v := 20) hx hb dxQ_hasParts_30 (by decide) ?_
        refine lv_icmp_ne (tgt := 39) hx hb dxQ_hasParts_32 (by decide) (fun c4 => ?_) (fun c4 => ?_)
        · have hw := hw.1 c4
          refine lv_iconst (v := 0) hx hb dxQ_hasParts_39 (by decide) ?_
          exact z_zret X hr hlk h rfl ⟨_, _, rfl, rfl, hw⟩ dxQ_hasParts_40
        · have hw := hw.2 c4
          refine lv_iconst (v := 1) hx hb dxQ_hasParts_35 (by decide) ?_
          refine lv_goto (tgt := 40) hx hb dxQ_hasParts_36 (by decide) ?_
          exact z_zret X hr hlk h rfl ⟨_, _, rfl, rfl, hw⟩ dxQ_hasParts_40
      · have hw := hw.2 c3
        refine lv_iload_n hx hb dxQ_hasParts_23 rfl (lv_at hl 0 rfl) ?_
        refine lv_bipush (v := 15) hx hb dxQ_hasParts_24 (by decide) ?_
        refine lv_icmp_le (tgt := 35) hx hb dxQ_hasParts_26 (by decide) (fun c5 => ?_) (fun c5 => ?_)
        · have hw := hw.1 c5
          refine lv_iconst (v := 1) hx hb dxQ_hasParts_35 (by decide) ?_
          refine lv_goto (tgt := 40) hx hb dxQ_hasParts_36 (by decide) ?_
          exact z_zret X hr hlk h rfl ⟨_, _, rfl, rfl, hw⟩ dxQ_hasParts_40
        · have hw := hw.2 c5
          refine lv_iload_n hx hb dxQ_hasParts_29 rfl (lv_at hl 0 rfl) ?_
          refine lv_bipush (v := 20) hx hb dxQ_hasParts_30 (by decide) ?_
          refine lv_icmp_ne (tgt := 39) hx hb dxQ_hasParts_32 (by decide) (fun c6 => ?_) (fun c6 => ?_)
          · have hw := hw.1 c6
            refine lv_iconst (v := 0) hx hb dxQ_hasParts_39 (by decide) ?_
            exact z_zret X hr hlk h rfl ⟨_, _, rfl, rfl, hw⟩ dxQ_hasParts_40
          · have hw := hw.2 c6
            refine lv_iconst (v := 1) hx hb dxQ_hasParts_35 (by decide) ?_
            refine lv_goto (tgt := 40) hx hb dxQ_hasParts_36 (by decide) ?_
            exact z_zret X hr hlk h rfl ⟨_, _, rfl, rfl, hw⟩ dxQ_hasParts_40
  · have hw := hw.2 c1
    refine lv_iload_n hx hb dxQ_hasParts_5 rfl (lv_at hl 0 rfl) ?_
    refine lv_bipush (v := 6) hx hb dxQ_hasParts_6 (by decide) ?_
    refine lv_icmp_le (tgt := 35) hx hb dxQ_hasParts_8 (by decide) (fun c7 => ?_) (fun c7 => ?_)
    · have hw := hw.1 c7
      refine lv_iconst (v := 1) hx hb dxQ_hasParts_35 (by decide) ?_
      refine lv_goto (tgt := 40) hx hb dxQ_hasParts_36 (by decide) ?_
      exact z_zret X hr hlk h rfl ⟨_, _, rfl, rfl, hw⟩ dxQ_hasParts_40
    · have hw := hw.2 c7
      refine lv_iload_n hx hb dxQ_hasParts_11 rfl (lv_at hl 0 rfl) ?_
      refine lv_bipush (v := 9) hx hb dxQ_hasParts_12 (by decide) ?_
      refine lv_icmp_eq (tgt := 35) hx hb dxQ_hasParts_14 (by decide) (fun c8 => ?_) (fun c8 => ?_)
      · have hw := hw.1 c8
        refine lv_iconst (v := 1) hx hb dxQ_hasParts_35 (by decide) ?_
        refine lv_goto (tgt := 40) hx hb dxQ_hasParts_36 (by decide) ?_
        exact z_zret X hr hlk h rfl ⟨_, _, rfl, rfl, hw⟩ dxQ_hasParts_40
      · have hw := hw.2 c8
        refine lv_iload_n hx hb dxQ_hasParts_17 rfl (lv_at hl 0 rfl) ?_
        refine lv_bipush (v := 13) hx hb dxQ_hasParts_18 (by decide) ?_
        refine lv_icmp_lt (tgt := 29) hx hb dxQ_hasParts_20 (by decide) (fun c9 => ?_) (fun c9 => ?_)
        · have hw := hw.1 c9
          refine lv_iload_n hx hb dxQ_hasParts_29 rfl (lv_at hl 0 rfl) ?_
          refine lv_bipush (v := 20) hx hb dxQ_hasParts_30 (by decide) ?_
          refine lv_icmp_ne (tgt := 39) hx hb dxQ_hasParts_32 (by decide) (fun c10 => ?_) (fun c10 => ?_)
          · have hw := hw.1 c10
            refine lv_iconst (v := 0) hx hb dxQ_hasParts_39 (by decide) ?_
            exact z_zret X hr hlk h rfl ⟨_, _, rfl, rfl, hw⟩ dxQ_hasParts_40
          · have hw := hw.2 c10
            refine lv_iconst (v := 1) hx hb dxQ_hasParts_35 (by decide) ?_
            refine lv_goto (tgt := 40) hx hb dxQ_hasParts_36 (by decide) ?_
            exact z_zret X hr hlk h rfl ⟨_, _, rfl, rfl, hw⟩ dxQ_hasParts_40
        · have hw := hw.2 c9
          refine lv_iload_n hx hb dxQ_hasParts_23 rfl (lv_at hl 0 rfl) ?_
          refine lv_bipush (v := 15) hx hb dxQ_hasParts_24 (by decide) ?_
          refine lv_icmp_le (tgt := 35) hx hb dxQ_hasParts_26 (by decide) (fun c11 => ?_) (fun c11 => ?_)
          · have hw := hw.1 c11
            refine lv_iconst (v := 1) hx hb dxQ_hasParts_35 (by decide) ?_
            refine lv_goto (tgt := 40) hx hb dxQ_hasParts_36 (by decide) ?_
            exact z_zret X hr hlk h rfl ⟨_, _, rfl, rfl, hw⟩ dxQ_hasParts_40
          · have hw := hw.2 c11
            refine lv_iload_n hx hb dxQ_hasParts_29 rfl (lv_at hl 0 rfl) ?_
            refine lv_bipush (v := 20) hx hb dxQ_hasParts_30 (by decide) ?_
            refine lv_icmp_ne (tgt := 39) hx hb dxQ_hasParts_32 (by decide) (fun c12 => ?_) (fun c12 => ?_)
            · have hw := hw.1 c12
              refine lv_iconst (v := 0) hx hb dxQ_hasParts_39 (by decide) ?_
              exact z_zret X hr hlk h rfl ⟨_, _, rfl, rfl, hw⟩ dxQ_hasParts_40
            · have hw := hw.2 c12
              refine lv_iconst (v := 1) hx hb dxQ_hasParts_35 (by decide) ?_
              refine lv_goto (tgt := 40) hx hb dxQ_hasParts_36 (by decide) ?_
              exact z_zret X hr hlk h rfl ⟨_, _, rfl, rfl, hw⟩ dxQ_hasParts_40
def wxQ_branch  (post : Unit → Rg → Prop) (S : Rg) (x : Int32) (y : Int32) : Prop := (vp_in x 64) ∧ (vp_in (S 11 x.toNatClampNeg) 4) ∧ (((S 0 ((S 11 x.toNatClampNeg).toNatClampNeg)) = (0 : Int32)) → ((¬ (y = (1 : Int32))) → (((0 : Int32) ≤ (S 13 x.toNatClampNeg)) → wxQ_begin (fun r6 S7 => post () S7) S (S 13 x.toNatClampNeg)) ∧ ((¬ ((0 : Int32) ≤ (S 13 x.toNatClampNeg))) → wxQ_end (fun (_ : Unit) S9 => post () S9) S (0) (0))) ∧ ((y = (1 : Int32)) → wxQ_end (fun (_ : Unit) S11 => post () S11) S (S 27 3) (S 27 4))) ∧ ((¬ ((S 0 ((S 11 x.toNatClampNeg).toNatClampNeg)) = (0 : Int32))) → ((¬ (y = (1 : Int32))) → (((0 : Int32) ≤ (S 12 x.toNatClampNeg)) → wxQ_begin (fun r14 S15 => post () S15) S (S 12 x.toNatClampNeg)) ∧ ((¬ ((0 : Int32) ≤ (S 12 x.toNatClampNeg))) → wxQ_end (fun (_ : Unit) S17 => post () S17) S (0) (0))) ∧ ((y = (1 : Int32)) → wxQ_end (fun (_ : Unit) S19 => post () S19) S (S 27 3) (S 27 4)))
set_option maxHeartbeats 4000000 in
set_option maxRecDepth 100000 in
theorem mxQ_branch (l : Launch) (Γ : Gm) (θ : Nat → Nat) (S : Rg) (Z : va_W) (x : Int32) (y : Int32) (post : Unit → Rg → Prop) (hw : wxQ_branch post S x y) : MM l yxQ_branch cxQ_branch 4 none 1 22 Γ [.ref (θ 0), .int x, .int y] (WM Γ θ S Z) (KK (fun _ : Unit => none) (fun S' => WM Γ θ S' Z) post) 0 0 := by
  refine MM_of (by decide) (Nat.le_of_ble_eq_true rfl) ?_
  intro p e s m below meth c X hr hlk hnm hG h ls hl
  have hx := X.1
  have hb := X.2.1
  have hl : lv_has ls 4 [(0, .ref (θ 0)), (1, .int x), (2, .int y)] := hl
  unfold wxQ_branch at hw
  refine lv_aload_n hx hb dxQ_branch_0 rfl (lv_at hl 0 rfl) ?_
  refine gx_xQ_74 X hG h dxQ_branch_1 ?_
  refine lv_aload_n hx hb dxQ_branch_4 rfl (lv_at hl 0 rfl) ?_
  refine gx_xQ_44 X hG h dxQ_branch_5 ?_
  refine lv_iload_n hx hb dxQ_branch_8 rfl (lv_at hl 1 rfl) ?_
  obtain ⟨o1, hw⟩ := hw
  refine lq_4 X hG h o1 (x := S 11 x.toNatClampNeg) rfl dxQ_branch_9 ?_
  obtain ⟨o2, hw⟩ := hw
  refine lq_13 X hG h o2 (x := S 0 ((S 11 x.toNatClampNeg).toNatClampNeg)) rfl dxQ_branch_10 ?_
  refine lv_if_eq (tgt := 23) hx hb dxQ_branch_11 (by decide) (fun c3 => ?_) (fun c3 => ?_)
  · have hw := hw.1 c3
    refine lv_aload_n hx hb dxQ_branch_23 rfl (lv_at hl 0 rfl) ?_
    refine gx_xQ_50 X hG h dxQ_branch_24 ?_
    refine lv_iload_n hx hb dxQ_branch_27 rfl (lv_at hl 1 rfl) ?_
    refine lq_6 X hG h o1 (x := S 13 x.toNatClampNeg) rfl dxQ_branch_28 ?_
    refine lv_istore_n (lv' := [(3, .int (S 13 x.toNatClampNeg)), (0, .ref (θ 0)), (1, .int x), (2, .int y)]) hx hb dxQ_branch_29 rfl hl (by decide) rfl (fun ls hl => ?_)
    refine lv_iload_n hx hb dxQ_branch_30 rfl (lv_at hl 3 rfl) ?_
    refine lv_iconst (v := 1) hx hb dxQ_branch_31 (by decide) ?_
    refine lv_icmp_ne (tgt := 50) hx hb dxQ_branch_32 (by decide) (fun c4 => ?_) (fun c4 => ?_)
    · have hw := hw.1 c4
      refine lv_iload_n hx hb dxQ_branch_50 rfl (lv_at hl 0 rfl) ?_
      refine lv_if_ge (tgt := 63) hx hb dxQ_branch_51 (by decide) (fun c5 => ?_) (fun c5 => ?_)
      · have hw := hw.1 c5
        refine lv_aload_n hx hb dxQ_branch_63 rfl (lv_at hl 1 rfl) ?_
        refine lv_iload_n hx hb dxQ_branch_64 rfl (lv_at hl 0 rfl) ?_
        refine cx_xQ_194 (As := [.int (S 13 x.toNatClampNeg)]) (rest := []) X hG h hl.1 (mxQ_begin l Γ θ S Z (S 13 x.toNatClampNeg) _ hw) ⟨show 0 + 1 ≤ 1 from by omega, show 8 + (2 + 11) + 0 ≤ 22 from by omega⟩ (q0 := 0) rfl rfl (Nat.le_of_ble_eq_true rfl) dxQ_branch_65 ⟨Nat.le_of_ble_eq_true rfl, Nat.le_of_ble_eq_true rfl⟩ (fun v W1 hK H locs h => ?_)
        obtain ⟨r6, S7, rfl, rfl, hw⟩ := hK
        refine W.eq (g2 := F0 m 68 ls [.int r6]) rfl ?_
        refine lv_pop hx hb dxQ_branch_68 rfl ?_
        exact z_vret X hr hlk h ⟨_, _, rfl, rfl, hw⟩ dxQ_branch_69
      · have hw := hw.2 c5
        refine lv_aload_n hx hb dxQ_branch_54 rfl (lv_at hl 1 rfl) ?_
        refine lv_iconst (v := 0) hx hb dxQ_branch_55 (by decide) ?_
        refine lv_iconst (v := 0) hx hb dxQ_branch_56 (by decide) ?_
        refine cx_xQ_157 (As := [.int 0, .int 0]) (rest := []) X hG h hl.1 (mxQ_end l Γ θ S Z (0) (0) _ hw) ⟨show 0 + 1 ≤ 1 from by omega, show 8 + (3 + 11) + 0 ≤ 22 from by omega⟩ (q0 := 0) rfl rfl (Nat.le_of_ble_eq_true rfl) dxQ_branch_57 ⟨Nat.le_of_ble_eq_true rfl, Nat.le_of_ble_eq_true rfl⟩ (fun v W1 hK H locs h => ?_)
        obtain ⟨r8, S9, rfl, rfl, hw⟩ := hK
        refine W.eq (g2 := F0 m 60 ls []) rfl ?_
        refine lv_goto (tgt := 69) hx hb dxQ_branch_60 (by decide) ?_
        exact z_vret X hr hlk h ⟨_, _, rfl, rfl, hw⟩ dxQ_branch_69
    · have hw := hw.2 c4
      refine lv_aload_n hx hb dxQ_branch_35 rfl (lv_at hl 1 rfl) ?_
      refine lv_aload_n hx hb dxQ_branch_36 rfl (lv_at hl 1 rfl) ?_
      refine gx_xQ_148 X hG h (x := S 27 3) rfl dxQ_branch_37 ?_
      refine lv_aload_n hx hb dxQ_branch_40 rfl (lv_at hl 1 rfl) ?_
      refine gx_xQ_151 X hG h (x := S 27 4) rfl dxQ_branch_41 ?_
      refine cx_xQ_157 (As := [.int (S 27 3), .int (S 27 4)]) (rest := []) X hG h hl.1 (mxQ_end l Γ θ S Z (S 27 3) (S 27 4) _ hw) ⟨show 0 + 1 ≤ 1 from by omega, show 8 + (3 + 11) + 0 ≤ 22 from by omega⟩ (q0 := 0) rfl rfl (Nat.le_of_ble_eq_true rfl) dxQ_branch_44 ⟨Nat.le_of_ble_eq_true rfl, Nat.le_of_ble_eq_true rfl⟩ (fun v W1 hK H locs h => ?_)
      obtain ⟨r10, S11, rfl, rfl, hw⟩ := hK
      refine W.eq (g2 := F0 m 47 ls []) rfl ?_
      refine lv_goto (tgt := 69) hx hb dxQ_branch_47 (by decide) ?_
      exact z_vret X hr hlk h ⟨_, _, rfl, rfl, hw⟩ dxQ_branch_69
  · have hw := hw.2 c3
    refine lv_aload_n hx hb dxQ_branch_14 rfl (lv_at hl 0 rfl) ?_
    refine gx_xQ_47 X hG h dxQ_branch_15 ?_
    refine lv_iload_n hx hb dxQ_branch_18 rfl (lv_at hl 1 rfl) ?_
    refine lq_5 X hG h o1 (x := S 12 x.toNatClampNeg) rfl dxQ_branch_19 ?_
    refine lv_goto (tgt := 29) hx hb dxQ_branch_20 (by decide) ?_
    refine lv_istore_n (lv' := [(3, .int (S 12 x.toNatClampNeg)), (0, .ref (θ 0)), (1, .int x), (2, .int y)]) hx hb dxQ_branch_29 rfl hl (by decide) rfl (fun ls hl => ?_)
    refine lv_iload_n hx hb dxQ_branch_30 rfl (lv_at hl 3 rfl) ?_
    refine lv_iconst (v := 1) hx hb dxQ_branch_31 (by decide) ?_
    refine lv_icmp_ne (tgt := 50) hx hb dxQ_branch_32 (by decide) (fun c12 => ?_) (fun c12 => ?_)
    · have hw := hw.1 c12
      refine lv_iload_n hx hb dxQ_branch_50 rfl (lv_at hl 0 rfl) ?_
      refine lv_if_ge (tgt := 63) hx hb dxQ_branch_51 (by decide) (fun c13 => ?_) (fun c13 => ?_)
      · have hw := hw.1 c13
        refine lv_aload_n hx hb dxQ_branch_63 rfl (lv_at hl 1 rfl) ?_
        refine lv_iload_n hx hb dxQ_branch_64 rfl (lv_at hl 0 rfl) ?_
        refine cx_xQ_194 (As := [.int (S 12 x.toNatClampNeg)]) (rest := []) X hG h hl.1 (mxQ_begin l Γ θ S Z (S 12 x.toNatClampNeg) _ hw) ⟨show 0 + 1 ≤ 1 from by omega, show 8 + (2 + 11) + 0 ≤ 22 from by omega⟩ (q0 := 0) rfl rfl (Nat.le_of_ble_eq_true rfl) dxQ_branch_65 ⟨Nat.le_of_ble_eq_true rfl, Nat.le_of_ble_eq_true rfl⟩ (fun v W1 hK H locs h => ?_)
        obtain ⟨r14, S15, rfl, rfl, hw⟩ := hK
        refine W.eq (g2 := F0 m 68 ls [.int r14]) rfl ?_
        refine lv_pop hx hb dxQ_branch_68 rfl ?_
        exact z_vret X hr hlk h ⟨_, _, rfl, rfl, hw⟩ dxQ_branch_69
      · have hw := hw.2 c13
        refine lv_aload_n hx hb dxQ_branch_54 rfl (lv_at hl 1 rfl) ?_
        refine lv_iconst (v := 0) hx hb dxQ_branch_55 (by decide) ?_
        refine lv_iconst (v := 0) hx hb dxQ_branch_56 (by decide) ?_
        refine cx_xQ_157 (As := [.int 0, .int 0]) (rest := []) X hG h hl.1 (mxQ_end l Γ θ S Z (0) (0) _ hw) ⟨show 0 + 1 ≤ 1 from by omega, show 8 + (3 + 11) + 0 ≤ 22 from by omega⟩ (q0 := 0) rfl rfl (Nat.le_of_ble_eq_true rfl) dxQ_branch_57 ⟨Nat.le_of_ble_eq_true rfl, Nat.le_of_ble_eq_true rfl⟩ (fun v W1 hK H locs h => ?_)
        obtain ⟨r16, S17, rfl, rfl, hw⟩ := hK
        refine W.eq (g2 := F0 m 60 ls []) rfl ?_
        refine lv_goto (tgt := 69) hx hb dxQ_branch_60 (by decide) ?_
        exact z_vret X hr hlk h ⟨_, _, rfl, rfl, hw⟩ dxQ_branch_69
    · have hw := hw.2 c12
      refine lv_aload_n hx hb dxQ_branch_35 rfl (lv_at hl 1 rfl) ?_
      refine lv_aload_n hx hb dxQ_branch_36 rfl (lv_at hl 1 rfl) ?_
      refine gx_xQ_148 X hG h (x := S 27 3) rfl dxQ_branch_37 ?_
      refine lv_aload_n hx hb dxQ_branch_40 rfl (lv_at hl 1 rfl) ?_
      refine gx_xQ_151 X hG h (x := S 27 4) rfl dxQ_branch_41 ?_
      refine cx_xQ_157 (As := [.int (S 27 3), .int (S 27 4)]) (rest := []) X hG h hl.1 (mxQ_end l Γ θ S Z (S 27 3) (S 27 4) _ hw) ⟨show 0 + 1 ≤ 1 from by omega, show 8 + (3 + 11) + 0 ≤ 22 from by omega⟩ (q0 := 0) rfl rfl (Nat.le_of_ble_eq_true rfl) dxQ_branch_44 ⟨Nat.le_of_ble_eq_true rfl, Nat.le_of_ble_eq_true rfl⟩ (fun v W1 hK H locs h => ?_)
      obtain ⟨r18, S19, rfl, rfl, hw⟩ := hK
      refine W.eq (g2 := F0 m 47 ls []) rfl ?_
      refine lv_goto (tgt := 69) hx hb dxQ_branch_47 (by decide) ?_
      exact z_vret X hr hlk h ⟨_, _, rfl, rfl, hw⟩ dxQ_branch_69
def wxQ_loop  (post : Unit → Rg → Prop) (S : Rg) (x : Int32) (y : Int32) (q : Int32) : Prop := ((q ≤ (0 : Int32)) → (vp_in x 112) ∧ (vp_in y 64) ∧ ((¬ ((S 22 x.toNatClampNeg) = (S 11 y.toNatClampNeg))) → wxQ_begin (fun r5 S6 => post () S6) (uu S 22 x.toNatClampNeg ((S 22 x.toNatClampNeg) + 1)) (S 12 y.toNatClampNeg)) ∧ (((S 22 x.toNatClampNeg) = (S 11 y.toNatClampNeg)) → wxQ_end (fun (_ : Unit) S8 => post () S8) S (0) (0))) ∧ ((¬ (q ≤ (0 : Int32))) → (((S 27 3) = (0 : Int32)) → (vp_in x 112) ∧ (vp_in y 64) ∧ ((¬ ((S 22 x.toNatClampNeg) = (S 11 y.toNatClampNeg))) → wxQ_begin (fun r13 S14 => post () S14) (uu S 22 x.toNatClampNeg ((S 22 x.toNatClampNeg) + 1)) (S 12 y.toNatClampNeg)) ∧ (((S 22 x.toNatClampNeg) = (S 11 y.toNatClampNeg)) → wxQ_end (fun (_ : Unit) S16 => post () S16) S (0) (0))) ∧ ((¬ ((S 27 3) = (0 : Int32))) → ((¬ ((S 27 3) = (1 : Int32))) → wxQ_end (fun (_ : Unit) S19 => post () S19) S (S 27 3) (S 27 4)) ∧ (((S 27 3) = (1 : Int32)) → wxQ_end (fun (_ : Unit) S21 => post () S21) S (0) (S 27 4))))
set_option maxHeartbeats 4000000 in
set_option maxRecDepth 100000 in
theorem mxQ_loop (l : Launch) (Γ : Gm) (θ : Nat → Nat) (S : Rg) (Z : va_W) (x : Int32) (y : Int32) (q : Int32) (post : Unit → Rg → Prop) (hw : wxQ_loop post S x y q) : MM l yxQ_loop cxQ_loop 4 none 1 22 Γ [.ref (θ 0), .int x, .int y, .int q] (WM Γ θ S Z) (KK (fun _ : Unit => none) (fun S' => WM Γ θ S' Z) post) 0 0 := by
  refine MM_of (by decide) (Nat.le_of_ble_eq_true rfl) ?_
  intro p e s m below meth c X hr hlk hnm hG h ls hl
  have hx := X.1
  have hb := X.2.1
  have hl : lv_has ls 4 [(0, .ref (θ 0)), (1, .int x), (2, .int y), (3, .int q)] := hl
  unfold wxQ_loop at hw
  refine lv_iload_n hx hb dxQ_loop_0 rfl (lv_at hl 3 rfl) ?_
  refine lv_if_le (tgt := 36) hx hb dxQ_loop_1 (by decide) (fun c1 => ?_) (fun c1 => ?_)
  · have hw := hw.1 c1
    refine lv_aload_n hx hb dxQ_loop_36 rfl (lv_at hl 0 rfl) ?_
    refine gx_xQ_95 X hG h dxQ_loop_37 ?_
    refine lv_iload_n hx hb dxQ_loop_40 rfl (lv_at hl 1 rfl) ?_
    obtain ⟨o2, hw⟩ := hw
    refine lq_18 X hG h o2 (x := S 22 x.toNatClampNeg) rfl dxQ_loop_41 ?_
    refine lv_aload_n hx hb dxQ_loop_42 rfl (lv_at hl 0 rfl) ?_
    refine gx_xQ_44 X hG h dxQ_loop_43 ?_
    refine lv_iload_n hx hb dxQ_loop_46 rfl (lv_at hl 2 rfl) ?_
    obtain ⟨o3, hw⟩ := hw
    refine lq_4 X hG h o3 (x := S 11 y.toNatClampNeg) rfl dxQ_loop_47 ?_
    refine lv_icmp_ne (tgt := 58) hx hb dxQ_loop_48 (by decide) (fun c4 => ?_) (fun c4 => ?_)
    · have hw := hw.1 c4
      refine lv_aload_n hx hb dxQ_loop_58 rfl (lv_at hl 0 rfl) ?_
      refine gx_xQ_95 X hG h dxQ_loop_59 ?_
      refine lv_iload_n hx hb dxQ_loop_62 rfl (lv_at hl 1 rfl) ?_
      refine lv_dup2_11 hx hb dxQ_loop_63 rfl rfl ?_
      refine lq_18 X hG h o2 (x := S 22 x.toNatClampNeg) rfl dxQ_loop_64 ?_
      refine lv_iconst (v := 1) hx hb dxQ_loop_65 (by decide) ?_
      refine lv_iadd hx hb dxQ_loop_66 ?_
      refine sq_18 X hG h o2 dxQ_loop_67 (fun H locs h => ?_)
      refine lv_aload_n hx hb dxQ_loop_68 rfl (lv_at hl 0 rfl) ?_
      refine lv_aload_n hx hb dxQ_loop_69 rfl (lv_at hl 0 rfl) ?_
      refine gx_xQ_47 X hG h dxQ_loop_70 ?_
      refine lv_iload_n hx hb dxQ_loop_73 rfl (lv_at hl 2 rfl) ?_
      refine lq_5 X hG h o3 (x := S 12 y.toNatClampNeg) rfl dxQ_loop_74 ?_
      refine cx_xQ_194 (As := [.int (S 12 y.toNatClampNeg)]) (rest := []) X hG h hl.1 (mxQ_begin l Γ θ (uu S 22 x.toNatClampNeg ((S 22 x.toNatClampNeg) + 1)) Z (S 12 y.toNatClampNeg) _ hw) ⟨show 0 + 1 ≤ 1 from by omega, show 8 + (2 + 11) + 0 ≤ 22 from by omega⟩ (q0 := 0) rfl rfl (Nat.le_of_ble_eq_true rfl) dxQ_loop_75 ⟨Nat.le_of_ble_eq_true rfl, Nat.le_of_ble_eq_true rfl⟩ (fun v W1 hK H locs h => ?_)
      obtain ⟨r5, S6, rfl, rfl, hw⟩ := hK
      refine W.eq (g2 := F0 m 78 ls [.int r5]) rfl ?_
      refine lv_pop hx hb dxQ_loop_78 rfl ?_
      exact z_vret X hr hlk h ⟨_, _, rfl, rfl, hw⟩ dxQ_loop_79
    · have hw := hw.2 c4
      refine lv_aload_n hx hb dxQ_loop_51 rfl (lv_at hl 0 rfl) ?_
      refine lv_iconst (v := 0) hx hb dxQ_loop_52 (by decide) ?_
      refine lv_iconst (v := 0) hx hb dxQ_loop_53 (by decide) ?_
      refine cx_xQ_157 (As := [.int 0, .int 0]) (rest := []) X hG h hl.1 (mxQ_end l Γ θ S Z (0) (0) _ hw) ⟨show 0 + 1 ≤ 1 from by omega, show 8 + (3 + 11) + 0 ≤ 22 from by omega⟩ (q0 := 0) rfl rfl (Nat.le_of_ble_eq_true rfl) dxQ_loop_54 ⟨Nat.le_of_ble_eq_true rfl, Nat.le_of_ble_eq_true rfl⟩ (fun v W1 hK H locs h => ?_)
      obtain ⟨r7, S8, rfl, rfl, hw⟩ := hK
      refine W.eq (g2 := F0 m 57 ls []) rfl ?_
      exact z_vret X hr hlk h ⟨_, _, rfl, rfl, hw⟩ dxQ_loop_57
  · have hw := hw.2 c1
    refine lv_aload_n hx hb dxQ_loop_4 rfl (lv_at hl 0 rfl) ?_
    refine gx_xQ_148 X hG h (x := S 27 3) rfl dxQ_loop_5 ?_
    refine lv_if_eq (tgt := 36) hx hb dxQ_loop_8 (by decide) (fun c9 => ?_) (fun c9 => ?_)
    · have hw := hw.1 c9
      refine lv_aload_n hx hb dxQ_loop_36 rfl (lv_at hl 0 rfl) ?_
      refine gx_xQ_95 X hG h dxQ_loop_37 ?_
      refine lv_iload_n hx hb dxQ_loop_40 rfl (lv_at hl 1 rfl) ?_
      obtain ⟨o10, hw⟩ := hw
      refine lq_18 X hG h o10 (x := S 22 x.toNatClampNeg) rfl dxQ_loop_41 ?_
      refine lv_aload_n hx hb dxQ_loop_42 rfl (lv_at hl 0 rfl) ?_
      refine gx_xQ_44 X hG h dxQ_loop_43 ?_
      refine lv_iload_n hx hb dxQ_loop_46 rfl (lv_at hl 2 rfl) ?_
      obtain ⟨o11, hw⟩ := hw
      refine lq_4 X hG h o11 (x := S 11 y.toNatClampNeg) rfl dxQ_loop_47 ?_
      refine lv_icmp_ne (tgt := 58) hx hb dxQ_loop_48 (by decide) (fun c12 => ?_) (fun c12 => ?_)
      · have hw := hw.1 c12
        refine lv_aload_n hx hb dxQ_loop_58 rfl (lv_at hl 0 rfl) ?_
        refine gx_xQ_95 X hG h dxQ_loop_59 ?_
        refine lv_iload_n hx hb dxQ_loop_62 rfl (lv_at hl 1 rfl) ?_
        refine lv_dup2_11 hx hb dxQ_loop_63 rfl rfl ?_
        refine lq_18 X hG h o10 (x := S 22 x.toNatClampNeg) rfl dxQ_loop_64 ?_
        refine lv_iconst (v := 1) hx hb dxQ_loop_65 (by decide) ?_
        refine lv_iadd hx hb dxQ_loop_66 ?_
        refine sq_18 X hG h o10 dxQ_loop_67 (fun H locs h => ?_)
        refine lv_aload_n hx hb dxQ_loop_68 rfl (lv_at hl 0 rfl) ?_
        refine lv_aload_n hx hb dxQ_loop_69 rfl (lv_at hl 0 rfl) ?_
        refine gx_xQ_47 X hG h dxQ_loop_70 ?_
        refine lv_iload_n hx hb dxQ_loop_73 rfl (lv_at hl 2 rfl) ?_
        refine lq_5 X hG h o11 (x := S 12 y.toNatClampNeg) rfl dxQ_loop_74 ?_
        refine cx_xQ_194 (As := [.int (S 12 y.toNatClampNeg)]) (rest := []) X hG h hl.1 (mxQ_begin l Γ θ (uu S 22 x.toNatClampNeg ((S 22 x.toNatClampNeg) + 1)) Z (S 12 y.toNatClampNeg) _ hw) ⟨show 0 + 1 ≤ 1 from by omega, show 8 + (2 + 11) + 0 ≤ 22 from by omega⟩ (q0 := 0) rfl rfl (Nat.le_of_ble_eq_true rfl) dxQ_loop_75 ⟨Nat.le_of_ble_eq_true rfl, Nat.le_of_ble_eq_true rfl⟩ (fun v W1 hK H locs h => ?_)
        obtain ⟨r13, S14, rfl, rfl, hw⟩ := hK
        refine W.eq (g2 := F0 m 78 ls [.int r13]) rfl ?_
        refine lv_pop hx hb dxQ_loop_78 rfl ?_
        exact z_vret X hr hlk h ⟨_, _, rfl, rfl, hw⟩ dxQ_loop_79
      · have hw := hw.2 c12
        refine lv_aload_n hx hb dxQ_loop_51 rfl (lv_at hl 0 rfl) ?_
        refine lv_iconst (v := 0) hx hb dxQ_loop_52 (by decide) ?_
        refine lv_iconst (v := 0) hx hb dxQ_loop_53 (by decide) ?_
        refine cx_xQ_157 (As := [.int 0, .int 0]) (rest := []) X hG h hl.1 (mxQ_end l Γ θ S Z (0) (0) _ hw) ⟨show 0 + 1 ≤ 1 from by omega, show 8 + (3 + 11) + 0 ≤ 22 from by omega⟩ (q0 := 0) rfl rfl (Nat.le_of_ble_eq_true rfl) dxQ_loop_54 ⟨Nat.le_of_ble_eq_true rfl, Nat.le_of_ble_eq_true rfl⟩ (fun v W1 hK H locs h => ?_)
        obtain ⟨r15, S16, rfl, rfl, hw⟩ := hK
        refine W.eq (g2 := F0 m 57 ls []) rfl ?_
        exact z_vret X hr hlk h ⟨_, _, rfl, rfl, hw⟩ dxQ_loop_57
    · have hw := hw.2 c9
      refine lv_aload_n hx hb dxQ_loop_11 rfl (lv_at hl 0 rfl) ?_
      refine lv_aload_n hx hb dxQ_loop_12 rfl (lv_at hl 0 rfl) ?_
      refine gx_xQ_148 X hG h (x := S 27 3) rfl dxQ_loop_13 ?_
      refine lv_iconst (v := 1) hx hb dxQ_loop_16 (by decide) ?_
      refine lv_icmp_ne (tgt := 24) hx hb dxQ_loop_17 (by decide) (fun c17 => ?_) (fun c17 => ?_)
      · have hw := hw.1 c17
        refine lv_aload_n hx hb dxQ_loop_24 rfl (lv_at hl 0 rfl) ?_
        refine gx_xQ_148 X hG h (x := S 27 3) rfl dxQ_loop_25 ?_
        refine lv_aload_n hx hb dxQ_loop_28 rfl (lv_at hl 0 rfl) ?_
        refine gx_xQ_151 X hG h (x := S 27 4) rfl dxQ_loop_29 ?_
        refine cx_xQ_157 (As := [.int (S 27 3), .int (S 27 4)]) (rest := []) X hG h hl.1 (mxQ_end l Γ θ S Z (S 27 3) (S 27 4) _ hw) ⟨show 0 + 1 ≤ 1 from by omega, show 8 + (3 + 11) + 0 ≤ 22 from by omega⟩ (q0 := 0) rfl rfl (Nat.le_of_ble_eq_true rfl) dxQ_loop_32 ⟨Nat.le_of_ble_eq_true rfl, Nat.le_of_ble_eq_true rfl⟩ (fun v W1 hK H locs h => ?_)
        obtain ⟨r18, S19, rfl, rfl, hw⟩ := hK
        refine W.eq (g2 := F0 m 35 ls []) rfl ?_
        exact z_vret X hr hlk h ⟨_, _, rfl, rfl, hw⟩ dxQ_loop_35
      · have hw := hw.2 c17
        refine lv_iconst (v := 0) hx hb dxQ_loop_20 (by decide) ?_
        refine lv_goto (tgt := 28) hx hb dxQ_loop_21 (by decide) ?_
        refine lv_aload_n hx hb dxQ_loop_28 rfl (lv_at hl 0 rfl) ?_
        refine gx_xQ_151 X hG h (x := S 27 4) rfl dxQ_loop_29 ?_
        refine cx_xQ_157 (As := [.int 0, .int (S 27 4)]) (rest := []) X hG h hl.1 (mxQ_end l Γ θ S Z (0) (S 27 4) _ hw) ⟨show 0 + 1 ≤ 1 from by omega, show 8 + (3 + 11) + 0 ≤ 22 from by omega⟩ (q0 := 0) rfl rfl (Nat.le_of_ble_eq_true rfl) dxQ_loop_32 ⟨Nat.le_of_ble_eq_true rfl, Nat.le_of_ble_eq_true rfl⟩ (fun v W1 hK H locs h => ?_)
        obtain ⟨r20, S21, rfl, rfl, hw⟩ := hK
        refine W.eq (g2 := F0 m 35 ls []) rfl ?_
        exact z_vret X hr hlk h ⟨_, _, rfl, rfl, hw⟩ dxQ_loop_35
def wxQ_call  (post : Unit → Rg → Prop) (S : Rg) (x : Int32) (y : Int32) (q : Int32) : Prop := ((¬ (q = (0 : Int32))) → (vp_in x 112) ∧ ((¬ ((S 27 3) = (2 : Int32))) → ((¬ ((S 27 3) = (3 : Int32))) → wxQ_end (fun (_ : Unit) S6 => post () S6) (uu (uu S 27 1 ((S 27 1) - 1)) 27 2 (S 25 x.toNatClampNeg)) (0) (0)) ∧ (((S 27 3) = (3 : Int32)) → wxQ_end (fun (_ : Unit) S8 => post () S8) (uu (uu S 27 1 ((S 27 1) - 1)) 27 2 (S 25 x.toNatClampNeg)) (3) (S 27 4))) ∧ (((S 27 3) = (2 : Int32)) → (vp_in (0 : Int32) 4) ∧ ((¬ ((S 27 3) = (3 : Int32))) → wxQ_end (fun (_ : Unit) S12 => post () S12) (uu (uu (uu S 27 1 ((S 27 1) - 1)) 27 2 (S 25 x.toNatClampNeg)) 0 0 (S 27 4)) (0) (0)) ∧ (((S 27 3) = (3 : Int32)) → wxQ_end (fun (_ : Unit) S14 => post () S14) (uu (uu (uu S 27 1 ((S 27 1) - 1)) 27 2 (S 25 x.toNatClampNeg)) 0 0 (S 27 4)) (3) (S 27 4)))) ∧ ((q = (0 : Int32)) → (vp_in y 64) ∧ (vp_in (S 11 y.toNatClampNeg) 6) ∧ (((0 : Int32) ≤ (S 15 ((S 11 y.toNatClampNeg).toNatClampNeg))) → ((¬ ((S 27 1) = (S 17 3))) → (vp_in x 112) ∧ wxQ_begin (fun r20 S21 => ((¬ (r20 = (0 : Int32))) → ((((S21 27 1) + 1) ≤ (S21 7 5)) → post () (uu (uu S21 27 1 ((S21 27 1) + 1)) 27 2 (-1))) ∧ ((¬ (((S21 27 1) + 1) ≤ (S21 7 5))) → post () (uu (uu (uu S21 27 1 ((S21 27 1) + 1)) 7 5 ((S21 27 1) + 1)) 27 2 (-1)))) ∧ ((r20 = (0 : Int32)) → post () S21)) (uu S 25 x.toNatClampNeg (S 27 2)) (S 15 ((S 11 y.toNatClampNeg).toNatClampNeg))) ∧ (((S 27 1) = (S 17 3)) → wxQ_endThrow (fun (_ : Unit) S25 => post () S25) S (5) (S 17 3) (-1))) ∧ ((¬ ((0 : Int32) ≤ (S 15 ((S 11 y.toNatClampNeg).toNatClampNeg)))) → wxQ_end (fun (_ : Unit) S27 => post () S27) S (0) (0)))
set_option maxHeartbeats 4000000 in
set_option maxRecDepth 100000 in
theorem mxQ_call (l : Launch) (Γ : Gm) (θ : Nat → Nat) (S : Rg) (Z : va_W) (x : Int32) (y : Int32) (q : Int32) (post : Unit → Rg → Prop) (hw : wxQ_call post S x y q) : MM l yxQ_call cxQ_call 4 none 2 45 Γ [.ref (θ 0), .int x, .int y, .int q] (WM Γ θ S Z) (KK (fun _ : Unit => none) (fun S' => WM Γ θ S' Z) post) 0 0 := by
  refine MM_of (by decide) (Nat.le_of_ble_eq_true rfl) ?_
  intro p e s m below meth c X hr hlk hnm hG h ls hl
  have hx := X.1
  have hb := X.2.1
  have hl : lv_has ls 4 [(0, .ref (θ 0)), (1, .int x), (2, .int y), (3, .int q)] := hl
  unfold wxQ_call at hw
  refine lv_iload_n hx hb dxQ_call_0 rfl (lv_at hl 3 rfl) ?_
  refine lv_if_ne (tgt := 111) hx hb dxQ_call_1 (by decide) (fun c1 => ?_) (fun c1 => ?_)
  · have hw := hw.1 c1
    refine lv_aload_n hx hb dxQ_call_111 rfl (lv_at hl 0 rfl) ?_
    refine lv_dup hx hb dxQ_call_112 rfl ?_
    refine gx_xQ_215 X hG h (x := S 27 1) rfl dxQ_call_113 ?_
    refine lv_iconst (v := 1) hx hb dxQ_call_116 (by decide) ?_
    refine lv_isub hx hb dxQ_call_117 ?_
    refine px_xQ_215 X hG h dxQ_call_118 (fun H locs h => ?_)
    refine lv_aload_n hx hb dxQ_call_121 rfl (lv_at hl 0 rfl) ?_
    refine lv_aload_n hx hb dxQ_call_122 rfl (lv_at hl 0 rfl) ?_
    refine gx_xQ_104 X hG h dxQ_call_123 ?_
    refine lv_iload_n hx hb dxQ_call_126 rfl (lv_at hl 1 rfl) ?_
    obtain ⟨o2, hw⟩ := hw
    refine lq_21 X hG h o2 (x := S 25 x.toNatClampNeg) rfl dxQ_call_127 ?_
    refine px_xQ_172 X hG h dxQ_call_128 (fun H locs h => ?_)
    refine lv_aload_n hx hb dxQ_call_131 rfl (lv_at hl 0 rfl) ?_
    refine gx_xQ_148 X hG h (x := S 27 3) rfl dxQ_call_132 ?_
    refine lv_iconst (v := 2) hx hb dxQ_call_135 (by decide) ?_
    refine lv_icmp_ne (tgt := 149) hx hb dxQ_call_136 (by decide) (fun c3 => ?_) (fun c3 => ?_)
    · have hw := hw.1 c3
      refine lv_aload_n hx hb dxQ_call_149 rfl (lv_at hl 0 rfl) ?_
      refine gx_xQ_148 X hG h (x := S 27 3) rfl dxQ_call_150 ?_
      refine lv_iconst (v := 3) hx hb dxQ_call_153 (by decide) ?_
      refine lv_icmp_ne (tgt := 169) hx hb dxQ_call_154 (by decide) (fun c4 => ?_) (fun c4 => ?_)
      · have hw := hw.1 c4
        refine lv_aload_n hx hb dxQ_call_169 rfl (lv_at hl 0 rfl) ?_
        refine lv_iconst (v := 0) hx hb dxQ_call_170 (by decide) ?_
        refine lv_iconst (v := 0) hx hb dxQ_call_171 (by decide) ?_
        refine cx_xQ_157 (As := [.int 0, .int 0]) (rest := []) X hG h hl.1 (mxQ_end l Γ θ (uu (uu S 27 1 ((S 27 1) - 1)) 27 2 (S 25 x.toNatClampNeg)) Z (0) (0) _ hw) ⟨show 0 + 1 ≤ 2 from by omega, show 8 + (3 + 11) + 0 ≤ 45 from by omega⟩ (q0 := 0) rfl rfl (Nat.le_of_ble_eq_true rfl) dxQ_call_172 ⟨Nat.le_of_ble_eq_true rfl, Nat.le_of_ble_eq_true rfl⟩ (fun v W1 hK H locs h => ?_)
        obtain ⟨r5, S6, rfl, rfl, hw⟩ := hK
        refine W.eq (g2 := F0 m 175 ls []) rfl ?_
        exact z_vret X hr hlk h ⟨_, _, rfl, rfl, hw⟩ dxQ_call_175
      · have hw := hw.2 c4
        refine lv_aload_n hx hb dxQ_call_157 rfl (lv_at hl 0 rfl) ?_
        refine lv_iconst (v := 3) hx hb dxQ_call_158 (by decide) ?_
        refine lv_aload_n hx hb dxQ_call_159 rfl (lv_at hl 0 rfl) ?_
        refine gx_xQ_151 X hG h (x := S 27 4) rfl dxQ_call_160 ?_
        refine cx_xQ_157 (As := [.int 3, .int (S 27 4)]) (rest := []) X hG h hl.1 (mxQ_end l Γ θ (uu (uu S 27 1 ((S 27 1) - 1)) 27 2 (S 25 x.toNatClampNeg)) Z (3) (S 27 4) _ hw) ⟨show 0 + 1 ≤ 2 from by omega, show 8 + (3 + 11) + 0 ≤ 45 from by omega⟩ (q0 := 0) rfl rfl (Nat.le_of_ble_eq_true rfl) dxQ_call_163 ⟨Nat.le_of_ble_eq_true rfl, Nat.le_of_ble_eq_true rfl⟩ (fun v W1 hK H locs h => ?_)
        obtain ⟨r7, S8, rfl, rfl, hw⟩ := hK
        refine W.eq (g2 := F0 m 166 ls []) rfl ?_
        refine lv_goto (tgt := 175) hx hb dxQ_call_166 (by decide) ?_
        exact z_vret X hr hlk h ⟨_, _, rfl, rfl, hw⟩ dxQ_call_175
    · have hw := hw.2 c3
      refine lv_aload_n hx hb dxQ_call_139 rfl (lv_at hl 0 rfl) ?_
      refine gx_xQ_74 X hG h dxQ_call_140 ?_
      refine lv_iconst (v := 0) hx hb dxQ_call_143 (by decide) ?_
      refine lv_aload_n hx hb dxQ_call_144 rfl (lv_at hl 0 rfl) ?_
      refine gx_xQ_151 X hG h (x := S 27 4) rfl dxQ_call_145 ?_
      obtain ⟨o9, hw⟩ := hw
      refine sq_13 X hG h o9 dxQ_call_148 (fun H locs h => ?_)
      refine lv_aload_n hx hb dxQ_call_149 rfl (lv_at hl 0 rfl) ?_
      refine gx_xQ_148 X hG h (x := S 27 3) rfl dxQ_call_150 ?_
      refine lv_iconst (v := 3) hx hb dxQ_call_153 (by decide) ?_
      refine lv_icmp_ne (tgt := 169) hx hb dxQ_call_154 (by decide) (fun c10 => ?_) (fun c10 => ?_)
      · have hw := hw.1 c10
        refine lv_aload_n hx hb dxQ_call_169 rfl (lv_at hl 0 rfl) ?_
        refine lv_iconst (v := 0) hx hb dxQ_call_170 (by decide) ?_
        refine lv_iconst (v := 0) hx hb dxQ_call_171 (by decide) ?_
        refine cx_xQ_157 (As := [.int 0, .int 0]) (rest := []) X hG h hl.1 (mxQ_end l Γ θ (uu (uu (uu S 27 1 ((S 27 1) - 1)) 27 2 (S 25 x.toNatClampNeg)) 0 0 (S 27 4)) Z (0) (0) _ hw) ⟨show 0 + 1 ≤ 2 from by omega, show 8 + (3 + 11) + 0 ≤ 45 from by omega⟩ (q0 := 0) rfl rfl (Nat.le_of_ble_eq_true rfl) dxQ_call_172 ⟨Nat.le_of_ble_eq_true rfl, Nat.le_of_ble_eq_true rfl⟩ (fun v W1 hK H locs h => ?_)
        obtain ⟨r11, S12, rfl, rfl, hw⟩ := hK
        refine W.eq (g2 := F0 m 175 ls []) rfl ?_
        exact z_vret X hr hlk h ⟨_, _, rfl, rfl, hw⟩ dxQ_call_175
      · have hw := hw.2 c10
        refine lv_aload_n hx hb dxQ_call_157 rfl (lv_at hl 0 rfl) ?_
        refine lv_iconst (v := 3) hx hb dxQ_call_158 (by decide) ?_
        refine lv_aload_n hx hb dxQ_call_159 rfl (lv_at hl 0 rfl) ?_
        refine gx_xQ_151 X hG h (x := S 27 4) rfl dxQ_call_160 ?_
        refine cx_xQ_157 (As := [.int 3, .int (S 27 4)]) (rest := []) X hG h hl.1 (mxQ_end l Γ θ (uu (uu (uu S 27 1 ((S 27 1) - 1)) 27 2 (S 25 x.toNatClampNeg)) 0 0 (S 27 4)) Z (3) (S 27 4) _ hw) ⟨show 0 + 1 ≤ 2 from by omega, show 8 + (3 + 11) + 0 ≤ 45 from by omega⟩ (q0 := 0) rfl rfl (Nat.le_of_ble_eq_true rfl) dxQ_call_163 ⟨Nat.le_of_ble_eq_true rfl, Nat.le_of_ble_eq_true rfl⟩ (fun v W1 hK H locs h => ?_)
        obtain ⟨r13, S14, rfl, rfl, hw⟩ := hK
        refine W.eq (g2 := F0 m 166 ls []) rfl ?_
        refine lv_goto (tgt := 175) hx hb dxQ_call_166 (by decide) ?_
        exact z_vret X hr hlk h ⟨_, _, rfl, rfl, hw⟩ dxQ_call_175
  · have hw := hw.2 c1
    refine lv_aload_n hx hb dxQ_call_4 rfl (lv_at hl 0 rfl) ?_
    refine gx_xQ_56 X hG h dxQ_call_5 ?_
    refine lv_aload_n hx hb dxQ_call_8 rfl (lv_at hl 0 rfl) ?_
    refine gx_xQ_44 X hG h dxQ_call_9 ?_
    refine lv_iload_n hx hb dxQ_call_12 rfl (lv_at hl 2 rfl) ?_
    obtain ⟨o15, hw⟩ := hw
    refine lq_4 X hG h o15 (x := S 11 y.toNatClampNeg) rfl dxQ_call_13 ?_
    obtain ⟨o16, hw⟩ := hw
    refine lq_8 X hG h o16 (x := S 15 ((S 11 y.toNatClampNeg).toNatClampNeg)) rfl dxQ_call_14 ?_
    refine lv_if_ge (tgt := 25) hx hb dxQ_call_15 (by decide) (fun c17 => ?_) (fun c17 => ?_)
    · have hw := hw.1 c17
      refine lv_aload_n hx hb dxQ_call_25 rfl (lv_at hl 0 rfl) ?_
      refine gx_xQ_215 X hG h (x := S 27 1) rfl dxQ_call_26 ?_
      refine lv_aload_n hx hb dxQ_call_29 rfl (lv_at hl 0 rfl) ?_
      refine gx_xQ_110 X hG h (x := S 17 3) rfl dxQ_call_30 ?_
      refine lv_icmp_ne (tgt := 47) hx hb dxQ_call_33 (by decide) (fun c18 => ?_) (fun c18 => ?_)
      · have hw := hw.1 c18
        refine lv_aload_n hx hb dxQ_call_47 rfl (lv_at hl 0 rfl) ?_
        refine gx_xQ_104 X hG h dxQ_call_48 ?_
        refine lv_iload_n hx hb dxQ_call_51 rfl (lv_at hl 1 rfl) ?_
        refine lv_aload_n hx hb dxQ_call_52 rfl (lv_at hl 0 rfl) ?_
        refine gx_xQ_172 X hG h (x := S 27 2) rfl dxQ_call_53 ?_
        obtain ⟨o19, hw⟩ := hw
        refine sq_21 X hG h o19 dxQ_call_56 (fun H locs h => ?_)
        refine lv_aload_n hx hb dxQ_call_57 rfl (lv_at hl 0 rfl) ?_
        refine lv_aload_n hx hb dxQ_call_58 rfl (lv_at hl 0 rfl) ?_
        refine gx_xQ_56 X hG h dxQ_call_59 ?_
        refine lv_aload_n hx hb dxQ_call_62 rfl (lv_at hl 0 rfl) ?_
        refine gx_xQ_44 X hG h dxQ_call_63 ?_
        refine lv_iload_n hx hb dxQ_call_66 rfl (lv_at hl 2 rfl) ?_
        refine lq_4 X hG h o15 (x := S 11 y.toNatClampNeg) rfl dxQ_call_67 ?_
        refine lq_8 X hG h o16 (x := S 15 ((S 11 y.toNatClampNeg).toNatClampNeg)) rfl dxQ_call_68 ?_
        refine cx_xQ_194 (As := [.int (S 15 ((S 11 y.toNatClampNeg).toNatClampNeg))]) (rest := []) X hG h hl.1 (mxQ_begin l Γ θ (uu S 25 x.toNatClampNeg (S 27 2)) Z (S 15 ((S 11 y.toNatClampNeg).toNatClampNeg)) _ hw) ⟨show 0 + 1 ≤ 2 from by omega, show 8 + (2 + 11) + 0 ≤ 45 from by omega⟩ (q0 := 0) rfl rfl (Nat.le_of_ble_eq_true rfl) dxQ_call_69 ⟨Nat.le_of_ble_eq_true rfl, Nat.le_of_ble_eq_true rfl⟩ (fun v W1 hK H locs h => ?_)
        obtain ⟨r20, S21, rfl, rfl, hw⟩ := hK
        refine W.eq (g2 := F0 m 72 ls [.int r20]) rfl ?_
        refine lv_if_ne (tgt := 76) hx hb dxQ_call_72 (by decide) (fun c22 => ?_) (fun c22 => ?_)
        · have hw := hw.1 c22
          refine lv_aload_n hx hb dxQ_call_76 rfl (lv_at hl 0 rfl) ?_
          refine lv_dup hx hb dxQ_call_77 rfl ?_
          refine gx_xQ_215 X hG h (x := S21 27 1) rfl dxQ_call_78 ?_
          refine lv_iconst (v := 1) hx hb dxQ_call_81 (by decide) ?_
          refine lv_iadd hx hb dxQ_call_82 ?_
          refine px_xQ_215 X hG h dxQ_call_83 (fun H locs h => ?_)
          refine lv_aload_n hx hb dxQ_call_86 rfl (lv_at hl 0 rfl) ?_
          refine gx_xQ_215 X hG h (x := (S21 27 1) + 1) rfl dxQ_call_87 ?_
          refine lv_aload_n hx hb dxQ_call_90 rfl (lv_at hl 0 rfl) ?_
          refine gx_xQ_218 X hG h (x := S21 7 5) rfl dxQ_call_91 ?_
          refine lv_icmp_le (tgt := 105) hx hb dxQ_call_94 (by decide) (fun c23 => ?_) (fun c23 => ?_)
          · have hw := hw.1 c23
            refine lv_aload_n hx hb dxQ_call_105 rfl (lv_at hl 0 rfl) ?_
            refine lv_iconst (v := -1) hx hb dxQ_call_106 (by decide) ?_
            refine px_xQ_172 X hG h dxQ_call_107 (fun H locs h => ?_)
            exact z_vret X hr hlk h ⟨_, _, rfl, rfl, hw⟩ dxQ_call_110
          · have hw := hw.2 c23
            refine lv_aload_n hx hb dxQ_call_97 rfl (lv_at hl 0 rfl) ?_
            refine lv_aload_n hx hb dxQ_call_98 rfl (lv_at hl 0 rfl) ?_
            refine gx_xQ_215 X hG h (x := (S21 27 1) + 1) rfl dxQ_call_99 ?_
            refine px_xQ_218 X hG h dxQ_call_102 (fun H locs h => ?_)
            refine lv_aload_n hx hb dxQ_call_105 rfl (lv_at hl 0 rfl) ?_
            refine lv_iconst (v := -1) hx hb dxQ_call_106 (by decide) ?_
            refine px_xQ_172 X hG h dxQ_call_107 (fun H locs h => ?_)
            exact z_vret X hr hlk h ⟨_, _, rfl, rfl, hw⟩ dxQ_call_110
        · have hw := hw.2 c22
          exact z_vret X hr hlk h ⟨_, _, rfl, rfl, hw⟩ dxQ_call_75
      · have hw := hw.2 c18
        refine lv_aload_n hx hb dxQ_call_36 rfl (lv_at hl 0 rfl) ?_
        refine lv_iconst (v := 5) hx hb dxQ_call_37 (by decide) ?_
        refine lv_aload_n hx hb dxQ_call_38 rfl (lv_at hl 0 rfl) ?_
        refine gx_xQ_110 X hG h (x := S 17 3) rfl dxQ_call_39 ?_
        refine lv_iconst (v := -1) hx hb dxQ_call_42 (by decide) ?_
        refine cx_xQ_168 (As := [.int 5, .int (S 17 3), .int (-1)]) (rest := []) X hG h hl.1 (mxQ_endThrow l Γ θ S Z (5) (S 17 3) (-1) _ hw) ⟨show 1 + 1 ≤ 2 from by omega, show 8 + (4 + 11) + 22 ≤ 45 from by omega⟩ (q0 := 0) rfl rfl (Nat.le_of_ble_eq_true rfl) dxQ_call_43 ⟨Nat.le_of_ble_eq_true rfl, Nat.le_of_ble_eq_true rfl⟩ (fun v W1 hK H locs h => ?_)
        obtain ⟨r24, S25, rfl, rfl, hw⟩ := hK
        refine W.eq (g2 := F0 m 46 ls []) rfl ?_
        exact z_vret X hr hlk h ⟨_, _, rfl, rfl, hw⟩ dxQ_call_46
    · have hw := hw.2 c17
      refine lv_aload_n hx hb dxQ_call_18 rfl (lv_at hl 0 rfl) ?_
      refine lv_iconst (v := 0) hx hb dxQ_call_19 (by decide) ?_
      refine lv_iconst (v := 0) hx hb dxQ_call_20 (by decide) ?_
      refine cx_xQ_157 (As := [.int 0, .int 0]) (rest := []) X hG h hl.1 (mxQ_end l Γ θ S Z (0) (0) _ hw) ⟨show 0 + 1 ≤ 2 from by omega, show 8 + (3 + 11) + 0 ≤ 45 from by omega⟩ (q0 := 0) rfl rfl (Nat.le_of_ble_eq_true rfl) dxQ_call_21 ⟨Nat.le_of_ble_eq_true rfl, Nat.le_of_ble_eq_true rfl⟩ (fun v W1 hK H locs h => ?_)
      obtain ⟨r26, S27, rfl, rfl, hw⟩ := hK
      refine W.eq (g2 := F0 m 24 ls []) rfl ?_
      exact z_vret X hr hlk h ⟨_, _, rfl, rfl, hw⟩ dxQ_call_24
def wxQ_attempt  (post : Unit → Rg → Prop) (S : Rg) (x : Int32) (y : Int32) (q : Int32) : Prop := ((¬ (q = (0 : Int32))) → ((¬ (q = (1 : Int32))) → ((¬ (q = (2 : Int32))) → wxQ_end (fun (_ : Unit) S5 => post () S5) S (S 27 3) (S 27 4)) ∧ ((q = (2 : Int32)) → (vp_in x 112) ∧ wxQ_end (fun (_ : Unit) S8 => post () S8) (uu S 27 2 (S 25 x.toNatClampNeg)) (S 27 3) (S 27 4))) ∧ ((q = (1 : Int32)) → ((¬ ((S 27 3) = (3 : Int32))) → ((¬ (q = (2 : Int32))) → wxQ_end (fun (_ : Unit) S12 => post () S12) S (S 27 3) (S 27 4)) ∧ ((q = (2 : Int32)) → (vp_in x 112) ∧ wxQ_end (fun (_ : Unit) S15 => post () S15) (uu S 27 2 (S 25 x.toNatClampNeg)) (S 27 3) (S 27 4))) ∧ (((S 27 3) = (3 : Int32)) → (vp_in (S 27 4) 302) ∧ (vp_in y 64) ∧ wxQ_is (fun r18 S19 => ((r18 = (0 : Int32)) → ((¬ (q = (2 : Int32))) → wxQ_end (fun (_ : Unit) S23 => post () S23) S19 (S19 27 3) (S19 27 4)) ∧ ((q = (2 : Int32)) → (vp_in x 112) ∧ wxQ_end (fun (_ : Unit) S26 => post () S26) (uu S19 27 2 (S19 25 x.toNatClampNeg)) (S19 27 3) (S19 27 4))) ∧ ((¬ (r18 = (0 : Int32))) → wxQ_begin (fun r27 S28 => ((¬ (r27 = (0 : Int32))) → (vp_in x 112) ∧ post () (uu (uu (uu S28 7 3 ((S28 7 3) + 1)) 25 x.toNatClampNeg (S28 27 2)) 27 2 (S19 27 4))) ∧ ((r27 = (0 : Int32)) → post () S28)) S19 (S19 13 y.toNatClampNeg))) S (S 3 ((S 27 4).toNatClampNeg)) (S 12 y.toNatClampNeg)))) ∧ ((q = (0 : Int32)) → (vp_in y 64) ∧ wxQ_begin (fun r32 S33 => post () S33) S (S 11 y.toNatClampNeg))
set_option maxHeartbeats 4000000 in
set_option maxRecDepth 100000 in
theorem mxQ_attempt (l : Launch) (Γ : Gm) (θ : Nat → Nat) (S : Rg) (Z : va_W) (x : Int32) (y : Int32) (q : Int32) (post : Unit → Rg → Prop) (hw : wxQ_attempt post S x y q) : MM l yxQ_attempt cxQ_attempt 5 none 1 23 Γ [.ref (θ 0), .int x, .int y, .int q] (WM Γ θ S Z) (KK (fun _ : Unit => none) (fun S' => WM Γ θ S' Z) post) 0 0 := by
  refine MM_of (by decide) (Nat.le_of_ble_eq_true rfl) ?_
  intro p e s m below meth c X hr hlk hnm hG h ls hl
  have hx := X.1
  have hb := X.2.1
  have hl : lv_has ls 5 [(0, .ref (θ 0)), (1, .int x), (2, .int y), (3, .int q)] := hl
  unfold wxQ_attempt at hw
  refine lv_iload_n hx hb dxQ_attempt_0 rfl (lv_at hl 3 rfl) ?_
  refine lv_if_ne (tgt := 18) hx hb dxQ_attempt_1 (by decide) (fun c1 => ?_) (fun c1 => ?_)
  · have hw := hw.1 c1
    refine lv_iload_n hx hb dxQ_attempt_18 rfl (lv_at hl 3 rfl) ?_
    refine lv_iconst (v := 1) hx hb dxQ_attempt_19 (by decide) ?_
    refine lv_icmp_ne (tgt := 102) hx hb dxQ_attempt_20 (by decide) (fun c2 => ?_) (fun c2 => ?_)
    · have hw := hw.1 c2
      refine lv_iload_n hx hb dxQ_attempt_102 rfl (lv_at hl 3 rfl) ?_
      refine lv_iconst (v := 2) hx hb dxQ_attempt_103 (by decide) ?_
      refine lv_icmp_ne (tgt := 117) hx hb dxQ_attempt_104 (by decide) (fun c3 => ?_) (fun c3 => ?_)
      · have hw := hw.1 c3
        refine lv_aload_n hx hb dxQ_attempt_117 rfl (lv_at hl 0 rfl) ?_
        refine lv_aload_n hx hb dxQ_attempt_118 rfl (lv_at hl 0 rfl) ?_
        refine gx_xQ_148 X hG h (x := S 27 3) rfl dxQ_attempt_119 ?_
        refine lv_aload_n hx hb dxQ_attempt_122 rfl (lv_at hl 0 rfl) ?_
        refine gx_xQ_151 X hG h (x := S 27 4) rfl dxQ_attempt_123 ?_
        refine cx_xQ_157 (As := [.int (S 27 3), .int (S 27 4)]) (rest := []) X hG h hl.1 (mxQ_end l Γ θ S Z (S 27 3) (S 27 4) _ hw) ⟨show 0 + 1 ≤ 1 from by omega, show 8 + (3 + 11) + 0 ≤ 23 from by omega⟩ (q0 := 0) rfl rfl (Nat.le_of_ble_eq_true rfl) dxQ_attempt_126 ⟨Nat.le_of_ble_eq_true rfl, Nat.le_of_ble_eq_true rfl⟩ (fun v W1 hK H locs h => ?_)
        obtain ⟨r4, S5, rfl, rfl, hw⟩ := hK
        refine W.eq (g2 := F0 m 129 ls []) rfl ?_
        exact z_vret X hr hlk h ⟨_, _, rfl, rfl, hw⟩ dxQ_attempt_129
      · have hw := hw.2 c3
        refine lv_aload_n hx hb dxQ_attempt_107 rfl (lv_at hl 0 rfl) ?_
        refine lv_aload_n hx hb dxQ_attempt_108 rfl (lv_at hl 0 rfl) ?_
        refine gx_xQ_104 X hG h dxQ_attempt_109 ?_
        refine lv_iload_n hx hb dxQ_attempt_112 rfl (lv_at hl 1 rfl) ?_
        obtain ⟨o6, hw⟩ := hw
        refine lq_21 X hG h o6 (x := S 25 x.toNatClampNeg) rfl dxQ_attempt_113 ?_
        refine px_xQ_172 X hG h dxQ_attempt_114 (fun H locs h => ?_)
        refine lv_aload_n hx hb dxQ_attempt_117 rfl (lv_at hl 0 rfl) ?_
        refine lv_aload_n hx hb dxQ_attempt_118 rfl (lv_at hl 0 rfl) ?_
        refine gx_xQ_148 X hG h (x := S 27 3) rfl dxQ_attempt_119 ?_
        refine lv_aload_n hx hb dxQ_attempt_122 rfl (lv_at hl 0 rfl) ?_
        refine gx_xQ_151 X hG h (x := S 27 4) rfl dxQ_attempt_123 ?_
        refine cx_xQ_157 (As := [.int (S 27 3), .int (S 27 4)]) (rest := []) X hG h hl.1 (mxQ_end l Γ θ (uu S 27 2 (S 25 x.toNatClampNeg)) Z (S 27 3) (S 27 4) _ hw) ⟨show 0 + 1 ≤ 1 from by omega, show 8 + (3 + 11) + 0 ≤ 23 from by omega⟩ (q0 := 0) rfl rfl (Nat.le_of_ble_eq_true rfl) dxQ_attempt_126 ⟨Nat.le_of_ble_eq_true rfl, Nat.le_of_ble_eq_true rfl⟩ (fun v W1 hK H locs h => ?_)
        obtain ⟨r7, S8, rfl, rfl, hw⟩ := hK
        refine W.eq (g2 := F0 m 129 ls []) rfl ?_
        exact z_vret X hr hlk h ⟨_, _, rfl, rfl, hw⟩ dxQ_attempt_129
    · have hw := hw.2 c2
      refine lv_aload_n hx hb dxQ_attempt_23 rfl (lv_at hl 0 rfl) ?_
      refine gx_xQ_148 X hG h (x := S 27 3) rfl dxQ_attempt_24 ?_
      refine lv_iconst (v := 3) hx hb dxQ_attempt_27 (by decide) ?_
      refine lv_icmp_ne (tgt := 102) hx hb dxQ_attempt_28 (by decide) (fun c9 => ?_) (fun c9 => ?_)
      · have hw := hw.1 c9
        refine lv_iload_n hx hb dxQ_attempt_102 rfl (lv_at hl 3 rfl) ?_
        refine lv_iconst (v := 2) hx hb dxQ_attempt_103 (by decide) ?_
        refine lv_icmp_ne (tgt := 117) hx hb dxQ_attempt_104 (by decide) (fun c10 => ?_) (fun c10 => ?_)
        · have hw := hw.1 c10
          refine lv_aload_n hx hb dxQ_attempt_117 rfl (lv_at hl 0 rfl) ?_
          refine lv_aload_n hx hb dxQ_attempt_118 rfl (lv_at hl 0 rfl) ?_
          refine gx_xQ_148 X hG h (x := S 27 3) rfl dxQ_attempt_119 ?_
          refine lv_aload_n hx hb dxQ_attempt_122 rfl (lv_at hl 0 rfl) ?_
          refine gx_xQ_151 X hG h (x := S 27 4) rfl dxQ_attempt_123 ?_
          refine cx_xQ_157 (As := [.int (S 27 3), .int (S 27 4)]) (rest := []) X hG h hl.1 (mxQ_end l Γ θ S Z (S 27 3) (S 27 4) _ hw) ⟨show 0 + 1 ≤ 1 from by omega, show 8 + (3 + 11) + 0 ≤ 23 from by omega⟩ (q0 := 0) rfl rfl (Nat.le_of_ble_eq_true rfl) dxQ_attempt_126 ⟨Nat.le_of_ble_eq_true rfl, Nat.le_of_ble_eq_true rfl⟩ (fun v W1 hK H locs h => ?_)
          obtain ⟨r11, S12, rfl, rfl, hw⟩ := hK
          refine W.eq (g2 := F0 m 129 ls []) rfl ?_
          exact z_vret X hr hlk h ⟨_, _, rfl, rfl, hw⟩ dxQ_attempt_129
        · have hw := hw.2 c10
          refine lv_aload_n hx hb dxQ_attempt_107 rfl (lv_at hl 0 rfl) ?_
          refine lv_aload_n hx hb dxQ_attempt_108 rfl (lv_at hl 0 rfl) ?_
          refine gx_xQ_104 X hG h dxQ_attempt_109 ?_
          refine lv_iload_n hx hb dxQ_attempt_112 rfl (lv_at hl 1 rfl) ?_
          obtain ⟨o13, hw⟩ := hw
          refine lq_21 X hG h o13 (x := S 25 x.toNatClampNeg) rfl dxQ_attempt_113 ?_
          refine px_xQ_172 X hG h dxQ_attempt_114 (fun H locs h => ?_)
          refine lv_aload_n hx hb dxQ_attempt_117 rfl (lv_at hl 0 rfl) ?_
          refine lv_aload_n hx hb dxQ_attempt_118 rfl (lv_at hl 0 rfl) ?_
          refine gx_xQ_148 X hG h (x := S 27 3) rfl dxQ_attempt_119 ?_
          refine lv_aload_n hx hb dxQ_attempt_122 rfl (lv_at hl 0 rfl) ?_
          refine gx_xQ_151 X hG h (x := S 27 4) rfl dxQ_attempt_123 ?_
          refine cx_xQ_157 (As := [.int (S 27 3), .int (S 27 4)]) (rest := []) X hG h hl.1 (mxQ_end l Γ θ (uu S 27 2 (S 25 x.toNatClampNeg)) Z (S 27 3) (S 27 4) _ hw) ⟨show 0 + 1 ≤ 1 from by omega, show 8 + (3 + 11) + 0 ≤ 23 from by omega⟩ (q0 := 0) rfl rfl (Nat.le_of_ble_eq_true rfl) dxQ_attempt_126 ⟨Nat.le_of_ble_eq_true rfl, Nat.le_of_ble_eq_true rfl⟩ (fun v W1 hK H locs h => ?_)
          obtain ⟨r14, S15, rfl, rfl, hw⟩ := hK
          refine W.eq (g2 := F0 m 129 ls []) rfl ?_
          exact z_vret X hr hlk h ⟨_, _, rfl, rfl, hw⟩ dxQ_attempt_129
      · have hw := hw.2 c9
        refine lv_aload_n hx hb dxQ_attempt_31 rfl (lv_at hl 0 rfl) ?_
        refine lv_aload_n hx hb dxQ_attempt_32 rfl (lv_at hl 0 rfl) ?_
        refine gx_xQ_62 X hG h dxQ_attempt_33 ?_
        refine lv_aload_n hx hb dxQ_attempt_36 rfl (lv_at hl 0 rfl) ?_
        refine gx_xQ_151 X hG h (x := S 27 4) rfl dxQ_attempt_37 ?_
        obtain ⟨o16, hw⟩ := hw
        refine lq_9 X hG h o16 (x := S 3 ((S 27 4).toNatClampNeg)) rfl dxQ_attempt_40 ?_
        refine lv_aload_n hx hb dxQ_attempt_41 rfl (lv_at hl 0 rfl) ?_
        refine gx_xQ_47 X hG h dxQ_attempt_42 ?_
        refine lv_iload_n hx hb dxQ_attempt_45 rfl (lv_at hl 2 rfl) ?_
        obtain ⟨o17, hw⟩ := hw
        refine lq_5 X hG h o17 (x := S 12 y.toNatClampNeg) rfl dxQ_attempt_46 ?_
        refine cx_xQ_178 (As := [.int (S 3 ((S 27 4).toNatClampNeg)), .int (S 12 y.toNatClampNeg)]) (rest := []) X hG h hl.1 (mxQ_is l Γ θ S Z (S 3 ((S 27 4).toNatClampNeg)) (S 12 y.toNatClampNeg) _ hw) ⟨show 0 + 1 ≤ 1 from by omega, show 8 + (4 + 11) + 0 ≤ 23 from by omega⟩ (q0 := 0) rfl rfl (Nat.le_of_ble_eq_true rfl) dxQ_attempt_47 ⟨Nat.le_of_ble_eq_true rfl, Nat.le_of_ble_eq_true rfl⟩ (fun v W1 hK H locs h => ?_)
        obtain ⟨r18, S19, rfl, rfl, hw⟩ := hK
        refine W.eq (g2 := F0 m 50 ls [.int r18]) rfl ?_
        refine lv_if_eq (tgt := 102) hx hb dxQ_attempt_50 (by decide) (fun c20 => ?_) (fun c20 => ?_)
        · have hw := hw.1 c20
          refine lv_iload_n hx hb dxQ_attempt_102 rfl (lv_at hl 3 rfl) ?_
          refine lv_iconst (v := 2) hx hb dxQ_attempt_103 (by decide) ?_
          refine lv_icmp_ne (tgt := 117) hx hb dxQ_attempt_104 (by decide) (fun c21 => ?_) (fun c21 => ?_)
          · have hw := hw.1 c21
            refine lv_aload_n hx hb dxQ_attempt_117 rfl (lv_at hl 0 rfl) ?_
            refine lv_aload_n hx hb dxQ_attempt_118 rfl (lv_at hl 0 rfl) ?_
            refine gx_xQ_148 X hG h (x := S19 27 3) rfl dxQ_attempt_119 ?_
            refine lv_aload_n hx hb dxQ_attempt_122 rfl (lv_at hl 0 rfl) ?_
            refine gx_xQ_151 X hG h (x := S19 27 4) rfl dxQ_attempt_123 ?_
            refine cx_xQ_157 (As := [.int (S19 27 3), .int (S19 27 4)]) (rest := []) X hG h hl.1 (mxQ_end l Γ θ S19 Z (S19 27 3) (S19 27 4) _ hw) ⟨show 0 + 1 ≤ 1 from by omega, show 8 + (3 + 11) + 0 ≤ 23 from by omega⟩ (q0 := 0) rfl rfl (Nat.le_of_ble_eq_true rfl) dxQ_attempt_126 ⟨Nat.le_of_ble_eq_true rfl, Nat.le_of_ble_eq_true rfl⟩ (fun v W1 hK H locs h => ?_)
            obtain ⟨r22, S23, rfl, rfl, hw⟩ := hK
            refine W.eq (g2 := F0 m 129 ls []) rfl ?_
            exact z_vret X hr hlk h ⟨_, _, rfl, rfl, hw⟩ dxQ_attempt_129
          · have hw := hw.2 c21
            refine lv_aload_n hx hb dxQ_attempt_107 rfl (lv_at hl 0 rfl) ?_
            refine lv_aload_n hx hb dxQ_attempt_108 rfl (lv_at hl 0 rfl) ?_
            refine gx_xQ_104 X hG h dxQ_attempt_109 ?_
            refine lv_iload_n hx hb dxQ_attempt_112 rfl (lv_at hl 1 rfl) ?_
            obtain ⟨o24, hw⟩ := hw
            refine lq_21 X hG h o24 (x := S19 25 x.toNatClampNeg) rfl dxQ_attempt_113 ?_
            refine px_xQ_172 X hG h dxQ_attempt_114 (fun H locs h => ?_)
            refine lv_aload_n hx hb dxQ_attempt_117 rfl (lv_at hl 0 rfl) ?_
            refine lv_aload_n hx hb dxQ_attempt_118 rfl (lv_at hl 0 rfl) ?_
            refine gx_xQ_148 X hG h (x := S19 27 3) rfl dxQ_attempt_119 ?_
            refine lv_aload_n hx hb dxQ_attempt_122 rfl (lv_at hl 0 rfl) ?_
            refine gx_xQ_151 X hG h (x := S19 27 4) rfl dxQ_attempt_123 ?_
            refine cx_xQ_157 (As := [.int (S19 27 3), .int (S19 27 4)]) (rest := []) X hG h hl.1 (mxQ_end l Γ θ (uu S19 27 2 (S19 25 x.toNatClampNeg)) Z (S19 27 3) (S19 27 4) _ hw) ⟨show 0 + 1 ≤ 1 from by omega, show 8 + (3 + 11) + 0 ≤ 23 from by omega⟩ (q0 := 0) rfl rfl (Nat.le_of_ble_eq_true rfl) dxQ_attempt_126 ⟨Nat.le_of_ble_eq_true rfl, Nat.le_of_ble_eq_true rfl⟩ (fun v W1 hK H locs h => ?_)
            obtain ⟨r25, S26, rfl, rfl, hw⟩ := hK
            refine W.eq (g2 := F0 m 129 ls []) rfl ?_
            exact z_vret X hr hlk h ⟨_, _, rfl, rfl, hw⟩ dxQ_attempt_129
        · have hw := hw.2 c20
          refine lv_aload_n hx hb dxQ_attempt_53 rfl (lv_at hl 0 rfl) ?_
          refine gx_xQ_151 X hG h (x := S19 27 4) rfl dxQ_attempt_54 ?_
          refine lv_istore (lv' := [(4, .int (S19 27 4)), (0, .ref (θ 0)), (1, .int x), (2, .int y), (3, .int q)]) hx hb dxQ_attempt_57 hl (by decide) rfl (fun ls hl => ?_)
          refine lv_aload_n hx hb dxQ_attempt_59 rfl (lv_at hl 1 rfl) ?_
          refine lv_aload_n hx hb dxQ_attempt_60 rfl (lv_at hl 1 rfl) ?_
          refine gx_xQ_50 X hG h dxQ_attempt_61 ?_
          refine lv_iload_n hx hb dxQ_attempt_64 rfl (lv_at hl 3 rfl) ?_
          refine lq_6 X hG h o17 (x := S19 13 y.toNatClampNeg) rfl dxQ_attempt_65 ?_
          refine cx_xQ_194 (As := [.int (S19 13 y.toNatClampNeg)]) (rest := []) X hG h hl.1 (mxQ_begin l Γ θ S19 Z (S19 13 y.toNatClampNeg) _ hw) ⟨show 0 + 1 ≤ 1 from by omega, show 8 + (2 + 11) + 0 ≤ 23 from by omega⟩ (q0 := 0) rfl rfl (Nat.le_of_ble_eq_true rfl) dxQ_attempt_66 ⟨Nat.le_of_ble_eq_true rfl, Nat.le_of_ble_eq_true rfl⟩ (fun v W1 hK H locs h => ?_)
          obtain ⟨r27, S28, rfl, rfl, hw⟩ := hK
          refine W.eq (g2 := F0 m 69 ls [.int r27]) rfl ?_
          refine lv_if_ne (tgt := 73) hx hb dxQ_attempt_69 (by decide) (fun c29 => ?_) (fun c29 => ?_)
          · have hw := hw.1 c29
            refine lv_aload_n hx hb dxQ_attempt_73 rfl (lv_at hl 1 rfl) ?_
            refine lv_dup hx hb dxQ_attempt_74 rfl ?_
            refine gx_xQ_221 X hG h (x := S28 7 3) rfl dxQ_attempt_75 ?_
            refine lv_iconst (v := 1) hx hb dxQ_attempt_78 (by decide) ?_
            refine lv_iadd hx hb dxQ_attempt_79 ?_
            refine px_xQ_221 X hG h dxQ_attempt_80 (fun H locs h => ?_)
            refine lv_aload_n hx hb dxQ_attempt_83 rfl (lv_at hl 1 rfl) ?_
            refine gx_xQ_104 X hG h dxQ_attempt_84 ?_
            refine lv_iload_n hx hb dxQ_attempt_87 rfl (lv_at hl 2 rfl) ?_
            refine lv_aload_n hx hb dxQ_attempt_88 rfl (lv_at hl 1 rfl) ?_
            refine gx_xQ_172 X hG h (x := S28 27 2) rfl dxQ_attempt_89 ?_
            obtain ⟨o30, hw⟩ := hw
            refine sq_21 X hG h o30 dxQ_attempt_92 (fun H locs h => ?_)
            refine lv_aload_n hx hb dxQ_attempt_93 rfl (lv_at hl 1 rfl) ?_
            refine lv_iload hx hb dxQ_attempt_94 (lv_at hl 0 rfl) ?_
            refine px_xQ_172 X hG h dxQ_attempt_96 (fun H locs h => ?_)
            refine lv_goto (tgt := 129) hx hb dxQ_attempt_99 (by decide) ?_
            exact z_vret X hr hlk h ⟨_, _, rfl, rfl, hw⟩ dxQ_attempt_129
          · have hw := hw.2 c29
            exact z_vret X hr hlk h ⟨_, _, rfl, rfl, hw⟩ dxQ_attempt_72
  · have hw := hw.2 c1
    refine lv_aload_n hx hb dxQ_attempt_4 rfl (lv_at hl 0 rfl) ?_
    refine lv_aload_n hx hb dxQ_attempt_5 rfl (lv_at hl 0 rfl) ?_
    refine gx_xQ_44 X hG h dxQ_attempt_6 ?_
    refine lv_iload_n hx hb dxQ_attempt_9 rfl (lv_at hl 2 rfl) ?_
    obtain ⟨o31, hw⟩ := hw
    refine lq_4 X hG h o31 (x := S 11 y.toNatClampNeg) rfl dxQ_attempt_10 ?_
    refine cx_xQ_194 (As := [.int (S 11 y.toNatClampNeg)]) (rest := []) X hG h hl.1 (mxQ_begin l Γ θ S Z (S 11 y.toNatClampNeg) _ hw) ⟨show 0 + 1 ≤ 1 from by omega, show 8 + (2 + 11) + 0 ≤ 23 from by omega⟩ (q0 := 0) rfl rfl (Nat.le_of_ble_eq_true rfl) dxQ_attempt_11 ⟨Nat.le_of_ble_eq_true rfl, Nat.le_of_ble_eq_true rfl⟩ (fun v W1 hK H locs h => ?_)
    obtain ⟨r32, S33, rfl, rfl, hw⟩ := hK
    refine W.eq (g2 := F0 m 14 ls [.int r32]) rfl ?_
    refine lv_pop hx hb dxQ_attempt_14 rfl ?_
    refine lv_goto (tgt := 129) hx hb dxQ_attempt_15 (by decide) ?_
    exact z_vret X hr hlk h ⟨_, _, rfl, rfl, hw⟩ dxQ_attempt_129
def wxQ_lock  (post : Unit → Rg → Prop) (S : Rg) (x : Int32) (y : Int32) : Prop := ((¬ (y = (0 : Int32))) → (vp_in x 64) ∧ (vp_in (S 11 x.toNatClampNeg) 2) ∧ wxQ_end (fun (_ : Unit) S5 => post () S5) (uu S 1 ((S 11 x.toNatClampNeg).toNatClampNeg) ((S 1 ((S 11 x.toNatClampNeg).toNatClampNeg)) - 1)) (S 27 3) (S 27 4)) ∧ ((y = (0 : Int32)) → (vp_in x 64) ∧ (vp_in (S 11 x.toNatClampNeg) 2) ∧ wxQ_begin (fun r8 S9 => post () S9) (uu S 1 ((S 11 x.toNatClampNeg).toNatClampNeg) ((S 1 ((S 11 x.toNatClampNeg).toNatClampNeg)) + 1)) (S 12 x.toNatClampNeg))
set_option maxHeartbeats 4000000 in
set_option maxRecDepth 100000 in
theorem mxQ_lock (l : Launch) (Γ : Gm) (θ : Nat → Nat) (S : Rg) (Z : va_W) (x : Int32) (y : Int32) (post : Unit → Rg → Prop) (hw : wxQ_lock post S x y) : MM l yxQ_lock cxQ_lock 3 none 1 22 Γ [.ref (θ 0), .int x, .int y] (WM Γ θ S Z) (KK (fun _ : Unit => none) (fun S' => WM Γ θ S' Z) post) 0 0 := by
  refine MM_of (by decide) (Nat.le_of_ble_eq_true rfl) ?_
  intro p e s m below meth c X hr hlk hnm hG h ls hl
  have hx := X.1
  have hb := X.2.1
  have hl : lv_has ls 3 [(0, .ref (θ 0)), (1, .int x), (2, .int y)] := hl
  unfold wxQ_lock at hw
  refine lv_iload_n hx hb dxQ_lock_0 rfl (lv_at hl 2 rfl) ?_
  refine lv_if_ne (tgt := 33) hx hb dxQ_lock_1 (by decide) (fun c1 => ?_) (fun c1 => ?_)
  · have hw := hw.1 c1
    refine lv_aload_n hx hb dxQ_lock_33 rfl (lv_at hl 0 rfl) ?_
    refine gx_xQ_77 X hG h dxQ_lock_34 ?_
    refine lv_aload_n hx hb dxQ_lock_37 rfl (lv_at hl 0 rfl) ?_
    refine gx_xQ_44 X hG h dxQ_lock_38 ?_
    refine lv_iload_n hx hb dxQ_lock_41 rfl (lv_at hl 1 rfl) ?_
    obtain ⟨o2, hw⟩ := hw
    refine lq_4 X hG h o2 (x := S 11 x.toNatClampNeg) rfl dxQ_lock_42 ?_
    refine lv_dup2_11 hx hb dxQ_lock_43 rfl rfl ?_
    obtain ⟨o3, hw⟩ := hw
    refine lq_14 X hG h o3 (x := S 1 ((S 11 x.toNatClampNeg).toNatClampNeg)) rfl dxQ_lock_44 ?_
    refine lv_iconst (v := 1) hx hb dxQ_lock_45 (by decide) ?_
    refine lv_isub hx hb dxQ_lock_46 ?_
    refine sq_14 X hG h o3 dxQ_lock_47 (fun H locs h => ?_)
    refine lv_aload_n hx hb dxQ_lock_48 rfl (lv_at hl 0 rfl) ?_
    refine lv_aload_n hx hb dxQ_lock_49 rfl (lv_at hl 0 rfl) ?_
    refine gx_xQ_148 X hG h (x := S 27 3) rfl dxQ_lock_50 ?_
    refine lv_aload_n hx hb dxQ_lock_53 rfl (lv_at hl 0 rfl) ?_
    refine gx_xQ_151 X hG h (x := S 27 4) rfl dxQ_lock_54 ?_
    refine cx_xQ_157 (As := [.int (S 27 3), .int (S 27 4)]) (rest := []) X hG h hl.1 (mxQ_end l Γ θ (uu S 1 ((S 11 x.toNatClampNeg).toNatClampNeg) ((S 1 ((S 11 x.toNatClampNeg).toNatClampNeg)) - 1)) Z (S 27 3) (S 27 4) _ hw) ⟨show 0 + 1 ≤ 1 from by omega, show 8 + (3 + 11) + 0 ≤ 22 from by omega⟩ (q0 := 0) rfl rfl (Nat.le_of_ble_eq_true rfl) dxQ_lock_57 ⟨Nat.le_of_ble_eq_true rfl, Nat.le_of_ble_eq_true rfl⟩ (fun v W1 hK H locs h => ?_)
    obtain ⟨r4, S5, rfl, rfl, hw⟩ := hK
    refine W.eq (g2 := F0 m 60 ls []) rfl ?_
    exact z_vret X hr hlk h ⟨_, _, rfl, rfl, hw⟩ dxQ_lock_60
  · have hw := hw.2 c1
    refine lv_aload_n hx hb dxQ_lock_4 rfl (lv_at hl 0 rfl) ?_
    refine gx_xQ_77 X hG h dxQ_lock_5 ?_
    refine lv_aload_n hx hb dxQ_lock_8 rfl (lv_at hl 0 rfl) ?_
    refine gx_xQ_44 X hG h dxQ_lock_9 ?_
    refine lv_iload_n hx hb dxQ_lock_12 rfl (lv_at hl 1 rfl) ?_
    obtain ⟨o6, hw⟩ := hw
    refine lq_4 X hG h o6 (x := S 11 x.toNatClampNeg) rfl dxQ_lock_13 ?_
    refine lv_dup2_11 hx hb dxQ_lock_14 rfl rfl ?_
    obtain ⟨o7, hw⟩ := hw
    refine lq_14 X hG h o7 (x := S 1 ((S 11 x.toNatClampNeg).toNatClampNeg)) rfl dxQ_lock_15 ?_
    refine lv_iconst (v := 1) hx hb dxQ_lock_16 (by decide) ?_
    refine lv_iadd hx hb dxQ_lock_17 ?_
    refine sq_14 X hG h o7 dxQ_lock_18 (fun H locs h => ?_)
    refine lv_aload_n hx hb dxQ_lock_19 rfl (lv_at hl 0 rfl) ?_
    refine lv_aload_n hx hb dxQ_lock_20 rfl (lv_at hl 0 rfl) ?_
    refine gx_xQ_47 X hG h dxQ_lock_21 ?_
    refine lv_iload_n hx hb dxQ_lock_24 rfl (lv_at hl 1 rfl) ?_
    refine lq_5 X hG h o6 (x := S 12 x.toNatClampNeg) rfl dxQ_lock_25 ?_
    refine cx_xQ_194 (As := [.int (S 12 x.toNatClampNeg)]) (rest := []) X hG h hl.1 (mxQ_begin l Γ θ (uu S 1 ((S 11 x.toNatClampNeg).toNatClampNeg) ((S 1 ((S 11 x.toNatClampNeg).toNatClampNeg)) + 1)) Z (S 12 x.toNatClampNeg) _ hw) ⟨show 0 + 1 ≤ 1 from by omega, show 8 + (2 + 11) + 0 ≤ 22 from by omega⟩ (q0 := 0) rfl rfl (Nat.le_of_ble_eq_true rfl) dxQ_lock_26 ⟨Nat.le_of_ble_eq_true rfl, Nat.le_of_ble_eq_true rfl⟩ (fun v W1 hK H locs h => ?_)
    obtain ⟨r8, S9, rfl, rfl, hw⟩ := hK
    refine W.eq (g2 := F0 m 29 ls [.int r8]) rfl ?_
    refine lv_pop hx hb dxQ_lock_29 rfl ?_
    refine lv_goto (tgt := 60) hx hb dxQ_lock_30 (by decide) ?_
    exact z_vret X hr hlk h ⟨_, _, rfl, rfl, hw⟩ dxQ_lock_60
def wxQ_atLast  (post : Unit → Rg → Prop) (S : Rg) (x : Int32) (y : Int32) (q : Int32) : Prop := ((¬ (q = (0 : Int32))) → ((¬ (q = (1 : Int32))) → (vp_in y 64) ∧ ((¬ ((S 10 y.toNatClampNeg) = (15 : Int32))) → ((¬ ((S 27 3) = (0 : Int32))) → wxQ_end (fun (_ : Unit) S7 => post () S7) S (S 27 3) (S 27 4)) ∧ (((S 27 3) = (0 : Int32)) → (vp_in x 112) ∧ wxQ_end (fun (_ : Unit) S10 => post () S10) S (S 23 x.toNatClampNeg) (S 24 x.toNatClampNeg))) ∧ (((S 10 y.toNatClampNeg) = (15 : Int32)) → (vp_in x 112) ∧ ((¬ ((S 23 x.toNatClampNeg) = (3 : Int32))) → ((¬ ((S 27 3) = (0 : Int32))) → wxQ_end (fun (_ : Unit) S15 => post () S15) S (S 27 3) (S 27 4)) ∧ (((S 27 3) = (0 : Int32)) → wxQ_end (fun (_ : Unit) S17 => post () S17) S (S 23 x.toNatClampNeg) (S 24 x.toNatClampNeg))) ∧ (((S 23 x.toNatClampNeg) = (3 : Int32)) → ((¬ ((S 27 3) = (3 : Int32))) → wxQ_end (fun (_ : Unit) S20 => post () S20) S (S 23 x.toNatClampNeg) (S 24 x.toNatClampNeg)) ∧ (((S 27 3) = (3 : Int32)) → (vp_in (S 24 x.toNatClampNeg) 302) ∧ wxQ_end (fun (_ : Unit) S23 => post () S23) (uu S 6 ((S 24 x.toNatClampNeg).toNatClampNeg) ((S 6 ((S 24 x.toNatClampNeg).toNatClampNeg)) + 1)) (S 23 x.toNatClampNeg) (S 24 x.toNatClampNeg))))) ∧ ((q = (1 : Int32)) → (vp_in x 112) ∧ (vp_in y 64) ∧ wxQ_begin (fun r26 S27 => ((r26 = (0 : Int32)) → post () S27) ∧ ((¬ (r26 = (0 : Int32))) → post () (uu S27 7 4 ((S27 7 4) + 1)))) (uu (uu S 23 x.toNatClampNeg (S 27 3)) 24 x.toNatClampNeg (S 27 4)) (S 12 y.toNatClampNeg))) ∧ ((q = (0 : Int32)) → (vp_in y 64) ∧ wxQ_begin (fun r30 S31 => post () S31) S (S 11 y.toNatClampNeg))
set_option maxHeartbeats 4000000 in
set_option maxRecDepth 100000 in
theorem mxQ_atLast (l : Launch) (Γ : Gm) (θ : Nat → Nat) (S : Rg) (Z : va_W) (x : Int32) (y : Int32) (q : Int32) (post : Unit → Rg → Prop) (hw : wxQ_atLast post S x y q) : MM l yxQ_atLast cxQ_atLast 5 none 1 22 Γ [.ref (θ 0), .int x, .int y, .int q] (WM Γ θ S Z) (KK (fun _ : Unit => none) (fun S' => WM Γ θ S' Z) post) 0 0 := by
  refine MM_of (by decide) (Nat.le_of_ble_eq_true rfl) ?_
  intro p e s m below meth c X hr hlk hnm hG h ls hl
  have hx := X.1
  have hb := X.2.1
  have hl : lv_has ls 5 [(0, .ref (θ 0)), (1, .int x), (2, .int y), (3, .int q)] := hl
  unfold wxQ_atLast at hw
  refine lv_iload_n hx hb dxQ_atLast_0 rfl (lv_at hl 3 rfl) ?_
  refine lv_if_ne (tgt := 16) hx hb dxQ_atLast_1 (by decide) (fun c1 => ?_) (fun c1 => ?_)
  · have hw := hw.1 c1
    refine lv_iload_n hx hb dxQ_atLast_16 rfl (lv_at hl 3 rfl) ?_
    refine lv_iconst (v := 1) hx hb dxQ_atLast_17 (by decide) ?_
    refine lv_icmp_ne (tgt := 65) hx hb dxQ_atLast_18 (by decide) (fun c2 => ?_) (fun c2 => ?_)
    · have hw := hw.1 c2
      refine lv_aload_n hx hb dxQ_atLast_65 rfl (lv_at hl 0 rfl) ?_
      refine gx_xQ_41 X hG h dxQ_atLast_66 ?_
      refine lv_iload_n hx hb dxQ_atLast_69 rfl (lv_at hl 2 rfl) ?_
      obtain ⟨o3, hw⟩ := hw
      refine lq_3 X hG h o3 (x := S 10 y.toNatClampNeg) rfl dxQ_atLast_70 ?_
      refine lv_bipush (v := 15) hx hb dxQ_atLast_71 (by decide) ?_
      refine lv_icmp_ne (tgt := 90) hx hb dxQ_atLast_73 (by decide) (fun c4 => ?_) (fun c4 => ?_)
      · have hw := hw.1 c4
        refine lv_iconst (v := 0) hx hb dxQ_atLast_90 (by decide) ?_
        refine lv_istore (lv' := [(4, .int 0), (0, .ref (θ 0)), (1, .int x), (2, .int y), (3, .int q)]) hx hb dxQ_atLast_91 hl (by decide) rfl (fun ls hl => ?_)
        refine lv_iload hx hb dxQ_atLast_93 (lv_at hl 0 rfl) ?_
        refine lv_if_eq (tgt := 121) hx hb dxQ_atLast_95 (by decide) (fun c0 => ?_) (fun c0 => ?_)
        · refine lv_iload hx hb dxQ_atLast_121 (lv_at hl 0 rfl) ?_
          refine lv_if_ne (tgt := 133) hx hb dxQ_atLast_123 (by decide) (fun c0 => ?_) (fun c0 => ?_)
          · exact absurd c0 (by decide)
          · refine lv_aload_n hx hb dxQ_atLast_126 rfl (lv_at hl 1 rfl) ?_
            refine gx_xQ_148 X hG h (x := S 27 3) rfl dxQ_atLast_127 ?_
            refine lv_if_ne (tgt := 152) hx hb dxQ_atLast_130 (by decide) (fun c5 => ?_) (fun c5 => ?_)
            · have hw := hw.1 c5
              refine lv_aload_n hx hb dxQ_atLast_152 rfl (lv_at hl 1 rfl) ?_
              refine lv_aload_n hx hb dxQ_atLast_153 rfl (lv_at hl 1 rfl) ?_
              refine gx_xQ_148 X hG h (x := S 27 3) rfl dxQ_atLast_154 ?_
              refine lv_aload_n hx hb dxQ_atLast_157 rfl (lv_at hl 1 rfl) ?_
              refine gx_xQ_151 X hG h (x := S 27 4) rfl dxQ_atLast_158 ?_
              refine cx_xQ_157 (As := [.int (S 27 3), .int (S 27 4)]) (rest := []) X hG h hl.1 (mxQ_end l Γ θ S Z (S 27 3) (S 27 4) _ hw) ⟨show 0 + 1 ≤ 1 from by omega, show 8 + (3 + 11) + 0 ≤ 22 from by omega⟩ (q0 := 0) rfl rfl (Nat.le_of_ble_eq_true rfl) dxQ_atLast_161 ⟨Nat.le_of_ble_eq_true rfl, Nat.le_of_ble_eq_true rfl⟩ (fun v W1 hK H locs h => ?_)
              obtain ⟨r6, S7, rfl, rfl, hw⟩ := hK
              refine W.eq (g2 := F0 m 164 ls []) rfl ?_
              exact z_vret X hr hlk h ⟨_, _, rfl, rfl, hw⟩ dxQ_atLast_164
            · have hw := hw.2 c5
              refine lv_aload_n hx hb dxQ_atLast_133 rfl (lv_at hl 1 rfl) ?_
              refine lv_aload_n hx hb dxQ_atLast_134 rfl (lv_at hl 1 rfl) ?_
              refine gx_xQ_98 X hG h dxQ_atLast_135 ?_
              refine lv_iload_n hx hb dxQ_atLast_138 rfl (lv_at hl 2 rfl) ?_
              obtain ⟨o8, hw⟩ := hw
              refine lq_19 X hG h o8 (x := S 23 x.toNatClampNeg) rfl dxQ_atLast_139 ?_
              refine lv_aload_n hx hb dxQ_atLast_140 rfl (lv_at hl 1 rfl) ?_
              refine gx_xQ_101 X hG h dxQ_atLast_141 ?_
              refine lv_iload_n hx hb dxQ_atLast_144 rfl (lv_at hl 2 rfl) ?_
              refine lq_20 X hG h o8 (x := S 24 x.toNatClampNeg) rfl dxQ_atLast_145 ?_
              refine cx_xQ_157 (As := [.int (S 23 x.toNatClampNeg), .int (S 24 x.toNatClampNeg)]) (rest := []) X hG h hl.1 (mxQ_end l Γ θ S Z (S 23 x.toNatClampNeg) (S 24 x.toNatClampNeg) _ hw) ⟨show 0 + 1 ≤ 1 from by omega, show 8 + (3 + 11) + 0 ≤ 22 from by omega⟩ (q0 := 0) rfl rfl (Nat.le_of_ble_eq_true rfl) dxQ_atLast_146 ⟨Nat.le_of_ble_eq_true rfl, Nat.le_of_ble_eq_true rfl⟩ (fun v W1 hK H locs h => ?_)
              obtain ⟨r9, S10, rfl, rfl, hw⟩ := hK
              refine W.eq (g2 := F0 m 149 ls []) rfl ?_
              refine lv_goto (tgt := 164) hx hb dxQ_atLast_149 (by decide) ?_
              exact z_vret X hr hlk h ⟨_, _, rfl, rfl, hw⟩ dxQ_atLast_164
        · exact absurd c0 (by decide)
      · have hw := hw.2 c4
        refine lv_aload_n hx hb dxQ_atLast_76 rfl (lv_at hl 0 rfl) ?_
        refine gx_xQ_98 X hG h dxQ_atLast_77 ?_
        refine lv_iload_n hx hb dxQ_atLast_80 rfl (lv_at hl 1 rfl) ?_
        obtain ⟨o11, hw⟩ := hw
        refine lq_19 X hG h o11 (x := S 23 x.toNatClampNeg) rfl dxQ_atLast_81 ?_
        refine lv_iconst (v := 3) hx hb dxQ_atLast_82 (by decide) ?_
        refine lv_icmp_ne (tgt := 90) hx hb dxQ_atLast_83 (by decide) (fun c12 => ?_) (fun c12 => ?_)
        · have hw := hw.1 c12
          refine lv_iconst (v := 0) hx hb dxQ_atLast_90 (by decide) ?_
          refine lv_istore (lv' := [(4, .int 0), (0, .ref (θ 0)), (1, .int x), (2, .int y), (3, .int q)]) hx hb dxQ_atLast_91 hl (by decide) rfl (fun ls hl => ?_)
          refine lv_iload hx hb dxQ_atLast_93 (lv_at hl 0 rfl) ?_
          refine lv_if_eq (tgt := 121) hx hb dxQ_atLast_95 (by decide) (fun c0 => ?_) (fun c0 => ?_)
          · refine lv_iload hx hb dxQ_atLast_121 (lv_at hl 0 rfl) ?_
            refine lv_if_ne (tgt := 133) hx hb dxQ_atLast_123 (by decide) (fun c0 => ?_) (fun c0 => ?_)
            · exact absurd c0 (by decide)
            · refine lv_aload_n hx hb dxQ_atLast_126 rfl (lv_at hl 1 rfl) ?_
              refine gx_xQ_148 X hG h (x := S 27 3) rfl dxQ_atLast_127 ?_
              refine lv_if_ne (tgt := 152) hx hb dxQ_atLast_130 (by decide) (fun c13 => ?_) (fun c13 => ?_)
              · have hw := hw.1 c13
                refine lv_aload_n hx hb dxQ_atLast_152 rfl (lv_at hl 1 rfl) ?_
                refine lv_aload_n hx hb dxQ_atLast_153 rfl (lv_at hl 1 rfl) ?_
                refine gx_xQ_148 X hG h (x := S 27 3) rfl dxQ_atLast_154 ?_
                refine lv_aload_n hx hb dxQ_atLast_157 rfl (lv_at hl 1 rfl) ?_
                refine gx_xQ_151 X hG h (x := S 27 4) rfl dxQ_atLast_158 ?_
                refine cx_xQ_157 (As := [.int (S 27 3), .int (S 27 4)]) (rest := []) X hG h hl.1 (mxQ_end l Γ θ S Z (S 27 3) (S 27 4) _ hw) ⟨show 0 + 1 ≤ 1 from by omega, show 8 + (3 + 11) + 0 ≤ 22 from by omega⟩ (q0 := 0) rfl rfl (Nat.le_of_ble_eq_true rfl) dxQ_atLast_161 ⟨Nat.le_of_ble_eq_true rfl, Nat.le_of_ble_eq_true rfl⟩ (fun v W1 hK H locs h => ?_)
                obtain ⟨r14, S15, rfl, rfl, hw⟩ := hK
                refine W.eq (g2 := F0 m 164 ls []) rfl ?_
                exact z_vret X hr hlk h ⟨_, _, rfl, rfl, hw⟩ dxQ_atLast_164
              · have hw := hw.2 c13
                refine lv_aload_n hx hb dxQ_atLast_133 rfl (lv_at hl 1 rfl) ?_
                refine lv_aload_n hx hb dxQ_atLast_134 rfl (lv_at hl 1 rfl) ?_
                refine gx_xQ_98 X hG h dxQ_atLast_135 ?_
                refine lv_iload_n hx hb dxQ_atLast_138 rfl (lv_at hl 2 rfl) ?_
                refine lq_19 X hG h o11 (x := S 23 x.toNatClampNeg) rfl dxQ_atLast_139 ?_
                refine lv_aload_n hx hb dxQ_atLast_140 rfl (lv_at hl 1 rfl) ?_
                refine gx_xQ_101 X hG h dxQ_atLast_141 ?_
                refine lv_iload_n hx hb dxQ_atLast_144 rfl (lv_at hl 2 rfl) ?_
                refine lq_20 X hG h o11 (x := S 24 x.toNatClampNeg) rfl dxQ_atLast_145 ?_
                refine cx_xQ_157 (As := [.int (S 23 x.toNatClampNeg), .int (S 24 x.toNatClampNeg)]) (rest := []) X hG h hl.1 (mxQ_end l Γ θ S Z (S 23 x.toNatClampNeg) (S 24 x.toNatClampNeg) _ hw) ⟨show 0 + 1 ≤ 1 from by omega, show 8 + (3 + 11) + 0 ≤ 22 from by omega⟩ (q0 := 0) rfl rfl (Nat.le_of_ble_eq_true rfl) dxQ_atLast_146 ⟨Nat.le_of_ble_eq_true rfl, Nat.le_of_ble_eq_true rfl⟩ (fun v W1 hK H locs h => ?_)
                obtain ⟨r16, S17, rfl, rfl, hw⟩ := hK
                refine W.eq (g2 := F0 m 149 ls []) rfl ?_
                refine lv_goto (tgt := 164) hx hb dxQ_atLast_149 (by decide) ?_
                exact z_vret X hr hlk h ⟨_, _, rfl, rfl, hw⟩ dxQ_atLast_164
          · exact absurd c0 (by decide)
        · have hw := hw.2 c12
          refine lv_iconst (v := 1) hx hb dxQ_atLast_86 (by decide) ?_
          refine lv_goto (tgt := 91) hx hb dxQ_atLast_87 (by decide) ?_
          refine lv_istore (lv' := [(4, .int 1), (0, .ref (θ 0)), (1, .int x), (2, .int y), (3, .int q)]) hx hb dxQ_atLast_91 hl (by decide) rfl (fun ls hl => ?_)
          refine lv_iload hx hb dxQ_atLast_93 (lv_at hl 0 rfl) ?_
          refine lv_if_eq (tgt := 121) hx hb dxQ_atLast_95 (by decide) (fun c0 => ?_) (fun c0 => ?_)
          · exact absurd c0 (by decide)
          · refine lv_aload_n hx hb dxQ_atLast_98 rfl (lv_at hl 1 rfl) ?_
            refine gx_xQ_148 X hG h (x := S 27 3) rfl dxQ_atLast_99 ?_
            refine lv_iconst (v := 3) hx hb dxQ_atLast_102 (by decide) ?_
            refine lv_icmp_ne (tgt := 121) hx hb dxQ_atLast_103 (by decide) (fun c18 => ?_) (fun c18 => ?_)
            · have hw := hw.1 c18
              refine lv_iload hx hb dxQ_atLast_121 (lv_at hl 0 rfl) ?_
              refine lv_if_ne (tgt := 133) hx hb dxQ_atLast_123 (by decide) (fun c0 => ?_) (fun c0 => ?_)
              · refine lv_aload_n hx hb dxQ_atLast_133 rfl (lv_at hl 1 rfl) ?_
                refine lv_aload_n hx hb dxQ_atLast_134 rfl (lv_at hl 1 rfl) ?_
                refine gx_xQ_98 X hG h dxQ_atLast_135 ?_
                refine lv_iload_n hx hb dxQ_atLast_138 rfl (lv_at hl 2 rfl) ?_
                refine lq_19 X hG h o11 (x := S 23 x.toNatClampNeg) rfl dxQ_atLast_139 ?_
                refine lv_aload_n hx hb dxQ_atLast_140 rfl (lv_at hl 1 rfl) ?_
                refine gx_xQ_101 X hG h dxQ_atLast_141 ?_
                refine lv_iload_n hx hb dxQ_atLast_144 rfl (lv_at hl 2 rfl) ?_
                refine lq_20 X hG h o11 (x := S 24 x.toNatClampNeg) rfl dxQ_atLast_145 ?_
                refine cx_xQ_157 (As := [.int (S 23 x.toNatClampNeg), .int (S 24 x.toNatClampNeg)]) (rest := []) X hG h hl.1 (mxQ_end l Γ θ S Z (S 23 x.toNatClampNeg) (S 24 x.toNatClampNeg) _ hw) ⟨show 0 + 1 ≤ 1 from by omega, show 8 + (3 + 11) + 0 ≤ 22 from by omega⟩ (q0 := 0) rfl rfl (Nat.le_of_ble_eq_true rfl) dxQ_atLast_146 ⟨Nat.le_of_ble_eq_true rfl, Nat.le_of_ble_eq_true rfl⟩ (fun v W1 hK H locs h => ?_)
                obtain ⟨r19, S20, rfl, rfl, hw⟩ := hK
                refine W.eq (g2 := F0 m 149 ls []) rfl ?_
                refine lv_goto (tgt := 164) hx hb dxQ_atLast_149 (by decide) ?_
                exact z_vret X hr hlk h ⟨_, _, rfl, rfl, hw⟩ dxQ_atLast_164
              · exact absurd c0 (by decide)
            · have hw := hw.2 c18
              refine lv_aload_n hx hb dxQ_atLast_106 rfl (lv_at hl 1 rfl) ?_
              refine gx_xQ_71 X hG h dxQ_atLast_107 ?_
              refine lv_aload_n hx hb dxQ_atLast_110 rfl (lv_at hl 1 rfl) ?_
              refine gx_xQ_101 X hG h dxQ_atLast_111 ?_
              refine lv_iload_n hx hb dxQ_atLast_114 rfl (lv_at hl 2 rfl) ?_
              refine lq_20 X hG h o11 (x := S 24 x.toNatClampNeg) rfl dxQ_atLast_115 ?_
              refine lv_dup2_11 hx hb dxQ_atLast_116 rfl rfl ?_
              obtain ⟨o21, hw⟩ := hw
              refine lq_12 X hG h o21 (x := S 6 ((S 24 x.toNatClampNeg).toNatClampNeg)) rfl dxQ_atLast_117 ?_
              refine lv_iconst (v := 1) hx hb dxQ_atLast_118 (by decide) ?_
              refine lv_iadd hx hb dxQ_atLast_119 ?_
              refine sq_12 X hG h o21 dxQ_atLast_120 (fun H locs h => ?_)
              refine lv_iload hx hb dxQ_atLast_121 (lv_at hl 0 rfl) ?_
              refine lv_if_ne (tgt := 133) hx hb dxQ_atLast_123 (by decide) (fun c0 => ?_) (fun c0 => ?_)
              · refine lv_aload_n hx hb dxQ_atLast_133 rfl (lv_at hl 1 rfl) ?_
                refine lv_aload_n hx hb dxQ_atLast_134 rfl (lv_at hl 1 rfl) ?_
                refine gx_xQ_98 X hG h dxQ_atLast_135 ?_
                refine lv_iload_n hx hb dxQ_atLast_138 rfl (lv_at hl 2 rfl) ?_
                refine lq_19 X hG h o11 (x := S 23 x.toNatClampNeg) rfl dxQ_atLast_139 ?_
                refine lv_aload_n hx hb dxQ_atLast_140 rfl (lv_at hl 1 rfl) ?_
                refine gx_xQ_101 X hG h dxQ_atLast_141 ?_
                refine lv_iload_n hx hb dxQ_atLast_144 rfl (lv_at hl 2 rfl) ?_
                refine lq_20 X hG h o11 (x := S 24 x.toNatClampNeg) rfl dxQ_atLast_145 ?_
                refine cx_xQ_157 (As := [.int (S 23 x.toNatClampNeg), .int (S 24 x.toNatClampNeg)]) (rest := []) X hG h hl.1 (mxQ_end l Γ θ (uu S 6 ((S 24 x.toNatClampNeg).toNatClampNeg) ((S 6 ((S 24 x.toNatClampNeg).toNatClampNeg)) + 1)) Z (S 23 x.toNatClampNeg) (S 24 x.toNatClampNeg) _ hw) ⟨show 0 + 1 ≤ 1 from by omega, show 8 + (3 + 11) + 0 ≤ 22 from by omega⟩ (q0 := 0) rfl rfl (Nat.le_of_ble_eq_true rfl) dxQ_atLast_146 ⟨Nat.le_of_ble_eq_true rfl, Nat.le_of_ble_eq_true rfl⟩ (fun v W1 hK H locs h => ?_)
                obtain ⟨r22, S23, rfl, rfl, hw⟩ := hK
                refine W.eq (g2 := F0 m 149 ls []) rfl ?_
                refine lv_goto (tgt := 164) hx hb dxQ_atLast_149 (by decide) ?_
                exact z_vret X hr hlk h ⟨_, _, rfl, rfl, hw⟩ dxQ_atLast_164
              · exact absurd c0 (by decide)
    · have hw := hw.2 c2
      refine lv_aload_n hx hb dxQ_atLast_21 rfl (lv_at hl 0 rfl) ?_
      refine gx_xQ_98 X hG h dxQ_atLast_22 ?_
      refine lv_iload_n hx hb dxQ_atLast_25 rfl (lv_at hl 1 rfl) ?_
      refine lv_aload_n hx hb dxQ_atLast_26 rfl (lv_at hl 0 rfl) ?_
      refine gx_xQ_148 X hG h (x := S 27 3) rfl dxQ_atLast_27 ?_
      obtain ⟨o24, hw⟩ := hw
      refine sq_19 X hG h o24 dxQ_atLast_30 (fun H locs h => ?_)
      refine lv_aload_n hx hb dxQ_atLast_31 rfl (lv_at hl 0 rfl) ?_
      refine gx_xQ_101 X hG h dxQ_atLast_32 ?_
      refine lv_iload_n hx hb dxQ_atLast_35 rfl (lv_at hl 1 rfl) ?_
      refine lv_aload_n hx hb dxQ_atLast_36 rfl (lv_at hl 0 rfl) ?_
      refine gx_xQ_151 X hG h (x := S 27 4) rfl dxQ_atLast_37 ?_
      refine sq_20 X hG h o24 dxQ_atLast_40 (fun H locs h => ?_)
      refine lv_aload_n hx hb dxQ_atLast_41 rfl (lv_at hl 0 rfl) ?_
      refine lv_aload_n hx hb dxQ_atLast_42 rfl (lv_at hl 0 rfl) ?_
      refine gx_xQ_47 X hG h dxQ_atLast_43 ?_
      refine lv_iload_n hx hb dxQ_atLast_46 rfl (lv_at hl 2 rfl) ?_
      obtain ⟨o25, hw⟩ := hw
      refine lq_5 X hG h o25 (x := S 12 y.toNatClampNeg) rfl dxQ_atLast_47 ?_
      refine cx_xQ_194 (As := [.int (S 12 y.toNatClampNeg)]) (rest := []) X hG h hl.1 (mxQ_begin l Γ θ (uu (uu S 23 x.toNatClampNeg (S 27 3)) 24 x.toNatClampNeg (S 27 4)) Z (S 12 y.toNatClampNeg) _ hw) ⟨show 0 + 1 ≤ 1 from by omega, show 8 + (2 + 11) + 0 ≤ 22 from by omega⟩ (q0 := 0) rfl rfl (Nat.le_of_ble_eq_true rfl) dxQ_atLast_48 ⟨Nat.le_of_ble_eq_true rfl, Nat.le_of_ble_eq_true rfl⟩ (fun v W1 hK H locs h => ?_)
      obtain ⟨r26, S27, rfl, rfl, hw⟩ := hK
      refine W.eq (g2 := F0 m 51 ls [.int r26]) rfl ?_
      refine lv_if_eq (tgt := 64) hx hb dxQ_atLast_51 (by decide) (fun c28 => ?_) (fun c28 => ?_)
      · have hw := hw.1 c28
        exact z_vret X hr hlk h ⟨_, _, rfl, rfl, hw⟩ dxQ_atLast_64
      · have hw := hw.2 c28
        refine lv_aload_n hx hb dxQ_atLast_54 rfl (lv_at hl 0 rfl) ?_
        refine lv_dup hx hb dxQ_atLast_55 rfl ?_
        refine gx_xQ_224 X hG h (x := S27 7 4) rfl dxQ_atLast_56 ?_
        refine lv_iconst (v := 1) hx hb dxQ_atLast_59 (by decide) ?_
        refine lv_iadd hx hb dxQ_atLast_60 ?_
        refine px_xQ_224 X hG h dxQ_atLast_61 (fun H locs h => ?_)
        exact z_vret X hr hlk h ⟨_, _, rfl, rfl, hw⟩ dxQ_atLast_64
  · have hw := hw.2 c1
    refine lv_aload_n hx hb dxQ_atLast_4 rfl (lv_at hl 0 rfl) ?_
    refine lv_aload_n hx hb dxQ_atLast_5 rfl (lv_at hl 0 rfl) ?_
    refine gx_xQ_44 X hG h dxQ_atLast_6 ?_
    refine lv_iload_n hx hb dxQ_atLast_9 rfl (lv_at hl 2 rfl) ?_
    obtain ⟨o29, hw⟩ := hw
    refine lq_4 X hG h o29 (x := S 11 y.toNatClampNeg) rfl dxQ_atLast_10 ?_
    refine cx_xQ_194 (As := [.int (S 11 y.toNatClampNeg)]) (rest := []) X hG h hl.1 (mxQ_begin l Γ θ S Z (S 11 y.toNatClampNeg) _ hw) ⟨show 0 + 1 ≤ 1 from by omega, show 8 + (2 + 11) + 0 ≤ 22 from by omega⟩ (q0 := 0) rfl rfl (Nat.le_of_ble_eq_true rfl) dxQ_atLast_11 ⟨Nat.le_of_ble_eq_true rfl, Nat.le_of_ble_eq_true rfl⟩ (fun v W1 hK H locs h => ?_)
    obtain ⟨r30, S31, rfl, rfl, hw⟩ := hK
    refine W.eq (g2 := F0 m 14 ls [.int r30]) rfl ?_
    refine lv_pop hx hb dxQ_atLast_14 rfl ?_
    exact z_vret X hr hlk h ⟨_, _, rfl, rfl, hw⟩ dxQ_atLast_15
def wxQ_go  (post : Unit → Rg → Prop) (S : Rg)  : Prop := (vp_in ((S 27 0) - 1) 112) ∧ (vp_in (S 20 (((S 27 0) - 1).toNatClampNeg)) 64) ∧ wxQ_hasParts (fun r3 S4 => ((¬ (r3 = (0 : Int32))) → (vp_in (S 20 (((S 27 0) - 1).toNatClampNeg)) 64) ∧ (((S4 10 ((S 20 (((S 27 0) - 1).toNatClampNeg)).toNatClampNeg)).toInt < 4 ∨ 20 < (S4 10 ((S 20 (((S 27 0) - 1).toNatClampNeg)).toNatClampNeg)).toInt) → wxQ_atLast (fun (_ : Unit) S11 => post () S11) S4 ((S 27 0) - 1) (S 20 (((S 27 0) - 1).toNatClampNeg)) (S 21 (((S 27 0) - 1).toNatClampNeg))) ∧ ((S4 10 ((S 20 (((S 27 0) - 1).toNatClampNeg)).toNatClampNeg)) = 4 → ((¬ ((S 21 (((S 27 0) - 1).toNatClampNeg)) = (0 : Int32))) → ((¬ ((S 21 (((S 27 0) - 1).toNatClampNeg)) = (1 : Int32))) → wxQ_end (fun (_ : Unit) S15 => post () S15) S4 (S4 27 3) (S4 27 4)) ∧ (((S 21 (((S 27 0) - 1).toNatClampNeg)) = (1 : Int32)) → ((¬ ((S4 27 3) = (0 : Int32))) → wxQ_end (fun (_ : Unit) S18 => post () S18) S4 (S4 27 3) (S4 27 4)) ∧ (((S4 27 3) = (0 : Int32)) → wxQ_begin (fun r19 S20 => post () S20) S4 (S4 12 ((S 20 (((S 27 0) - 1).toNatClampNeg)).toNatClampNeg))))) ∧ (((S 21 (((S 27 0) - 1).toNatClampNeg)) = (0 : Int32)) → wxQ_begin (fun r21 S22 => post () S22) S4 (S4 11 ((S 20 (((S 27 0) - 1).toNatClampNeg)).toNatClampNeg)))) ∧ ((S4 10 ((S 20 (((S 27 0) - 1).toNatClampNeg)).toNatClampNeg)) = 5 → wxQ_branch (fun (_ : Unit) S24 => post () S24) S4 (S 20 (((S 27 0) - 1).toNatClampNeg)) (S 21 (((S 27 0) - 1).toNatClampNeg))) ∧ ((S4 10 ((S 20 (((S 27 0) - 1).toNatClampNeg)).toNatClampNeg)) = 6 → wxQ_loop (fun (_ : Unit) S26 => post () S26) S4 ((S 27 0) - 1) (S 20 (((S 27 0) - 1).toNatClampNeg)) (S 21 (((S 27 0) - 1).toNatClampNeg))) ∧ ((S4 10 ((S 20 (((S 27 0) - 1).toNatClampNeg)).toNatClampNeg)) = 7 → wxQ_atLast (fun (_ : Unit) S28 => post () S28) S4 ((S 27 0) - 1) (S 20 (((S 27 0) - 1).toNatClampNeg)) (S 21 (((S 27 0) - 1).toNatClampNeg))) ∧ ((S4 10 ((S 20 (((S 27 0) - 1).toNatClampNeg)).toNatClampNeg)) = 8 → wxQ_atLast (fun (_ : Unit) S30 => post () S30) S4 ((S 27 0) - 1) (S 20 (((S 27 0) - 1).toNatClampNeg)) (S 21 (((S 27 0) - 1).toNatClampNeg))) ∧ ((S4 10 ((S 20 (((S 27 0) - 1).toNatClampNeg)).toNatClampNeg)) = 9 → wxQ_call (fun (_ : Unit) S32 => post () S32) S4 ((S 27 0) - 1) (S 20 (((S 27 0) - 1).toNatClampNeg)) (S 21 (((S 27 0) - 1).toNatClampNeg))) ∧ ((S4 10 ((S 20 (((S 27 0) - 1).toNatClampNeg)).toNatClampNeg)) = 10 → wxQ_atLast (fun (_ : Unit) S34 => post () S34) S4 ((S 27 0) - 1) (S 20 (((S 27 0) - 1).toNatClampNeg)) (S 21 (((S 27 0) - 1).toNatClampNeg))) ∧ ((S4 10 ((S 20 (((S 27 0) - 1).toNatClampNeg)).toNatClampNeg)) = 11 → wxQ_atLast (fun (_ : Unit) S36 => post () S36) S4 ((S 27 0) - 1) (S 20 (((S 27 0) - 1).toNatClampNeg)) (S 21 (((S 27 0) - 1).toNatClampNeg))) ∧ ((S4 10 ((S 20 (((S 27 0) - 1).toNatClampNeg)).toNatClampNeg)) = 12 → wxQ_atLast (fun (_ : Unit) S38 => post () S38) S4 ((S 27 0) - 1) (S 20 (((S 27 0) - 1).toNatClampNeg)) (S 21 (((S 27 0) - 1).toNatClampNeg))) ∧ ((S4 10 ((S 20 (((S 27 0) - 1).toNatClampNeg)).toNatClampNeg)) = 13 → wxQ_attempt (fun (_ : Unit) S40 => post () S40) S4 ((S 27 0) - 1) (S 20 (((S 27 0) - 1).toNatClampNeg)) (S 21 (((S 27 0) - 1).toNatClampNeg))) ∧ ((S4 10 ((S 20 (((S 27 0) - 1).toNatClampNeg)).toNatClampNeg)) = 14 → wxQ_atLast (fun (_ : Unit) S42 => post () S42) S4 ((S 27 0) - 1) (S 20 (((S 27 0) - 1).toNatClampNeg)) (S 21 (((S 27 0) - 1).toNatClampNeg))) ∧ ((S4 10 ((S 20 (((S 27 0) - 1).toNatClampNeg)).toNatClampNeg)) = 15 → wxQ_atLast (fun (_ : Unit) S44 => post () S44) S4 ((S 27 0) - 1) (S 20 (((S 27 0) - 1).toNatClampNeg)) (S 21 (((S 27 0) - 1).toNatClampNeg))) ∧ ((S4 10 ((S 20 (((S 27 0) - 1).toNatClampNeg)).toNatClampNeg)) = 16 → wxQ_atLast (fun (_ : Unit) S46 => post () S46) S4 ((S 27 0) - 1) (S 20 (((S 27 0) - 1).toNatClampNeg)) (S 21 (((S 27 0) - 1).toNatClampNeg))) ∧ ((S4 10 ((S 20 (((S 27 0) - 1).toNatClampNeg)).toNatClampNeg)) = 17 → wxQ_atLast (fun (_ : Unit) S48 => post () S48) S4 ((S 27 0) - 1) (S 20 (((S 27 0) - 1).toNatClampNeg)) (S 21 (((S 27 0) - 1).toNatClampNeg))) ∧ ((S4 10 ((S 20 (((S 27 0) - 1).toNatClampNeg)).toNatClampNeg)) = 18 → wxQ_atLast (fun (_ : Unit) S50 => post () S50) S4 ((S 27 0) - 1) (S 20 (((S 27 0) - 1).toNatClampNeg)) (S 21 (((S 27 0) - 1).toNatClampNeg))) ∧ ((S4 10 ((S 20 (((S 27 0) - 1).toNatClampNeg)).toNatClampNeg)) = 19 → wxQ_atLast (fun (_ : Unit) S52 => post () S52) S4 ((S 27 0) - 1) (S 20 (((S 27 0) - 1).toNatClampNeg)) (S 21 (((S 27 0) - 1).toNatClampNeg))) ∧ ((S4 10 ((S 20 (((S 27 0) - 1).toNatClampNeg)).toNatClampNeg)) = 20 → wxQ_lock (fun (_ : Unit) S54 => post () S54) S4 (S 20 (((S 27 0) - 1).toNatClampNeg)) (S 21 (((S 27 0) - 1).toNatClampNeg)))) ∧ ((r3 = (0 : Int32)) → wxQ_simple (fun (_ : Unit) S56 => post () S56) S4 (S 20 (((S 27 0) - 1).toNatClampNeg)))) (uu S 21 (((S 27 0) - 1).toNatClampNeg) ((S 21 (((S 27 0) - 1).toNatClampNeg)) + 1)) (S 10 ((S 20 (((S 27 0) - 1).toNatClampNeg)).toNatClampNeg))
set_option maxHeartbeats 4000000 in
set_option maxRecDepth 100000 in
theorem mxQ_go (l : Launch) (Γ : Gm) (θ : Nat → Nat) (S : Rg) (Z : va_W)  (post : Unit → Rg → Prop) (hw : wxQ_go post S ) : MM l yxQ_go cxQ_go 4 none 4 90 Γ [.ref (θ 0)] (WM Γ θ S Z) (KK (fun _ : Unit => none) (fun S' => WM Γ θ S' Z) post) 0 0 := by
  refine MM_of (by decide) (Nat.le_of_ble_eq_true rfl) ?_
  intro p e s m below meth c X hr hlk hnm hG h ls hl
  have hx := X.1
  have hb := X.2.1
  have hl : lv_has ls 4 [(0, .ref (θ 0))] := hl
  unfold wxQ_go at hw
  refine lv_aload_n hx hb dxQ_go_0 rfl (lv_at hl 0 rfl) ?_
  refine gx_xQ_145 X hG h (x := S 27 0) rfl dxQ_go_1 ?_
  refine lv_iconst (v := 1) hx hb dxQ_go_4 (by decide) ?_
  refine lv_isub hx hb dxQ_go_5 ?_
  refine lv_istore_n (lv' := [(1, .int ((S 27 0) - 1)), (0, .ref (θ 0))]) hx hb dxQ_go_6 rfl hl (by decide) rfl (fun ls hl => ?_)
  refine lv_aload_n hx hb dxQ_go_7 rfl (lv_at hl 1 rfl) ?_
  refine gx_xQ_89 X hG h dxQ_go_8 ?_
  refine lv_iload_n hx hb dxQ_go_11 rfl (lv_at hl 0 rfl) ?_
  obtain ⟨o1, hw⟩ := hw
  refine lq_16 X hG h o1 (x := S 20 (((S 27 0) - 1).toNatClampNeg)) rfl dxQ_go_12 ?_
  refine lv_istore_n (lv' := [(2, .int (S 20 (((S 27 0) - 1).toNatClampNeg))), (1, .int ((S 27 0) - 1)), (0, .ref (θ 0))]) hx hb dxQ_go_13 rfl hl (by decide) rfl (fun ls hl => ?_)
  refine lv_aload_n hx hb dxQ_go_14 rfl (lv_at hl 2 rfl) ?_
  refine gx_xQ_92 X hG h dxQ_go_15 ?_
  refine lv_iload_n hx hb dxQ_go_18 rfl (lv_at hl 1 rfl) ?_
  refine lq_17 X hG h o1 (x := S 21 (((S 27 0) - 1).toNatClampNeg)) rfl dxQ_go_19 ?_
  refine lv_istore_n (lv' := [(3, .int (S 21 (((S 27 0) - 1).toNatClampNeg))), (2, .int (S 20 (((S 27 0) - 1).toNatClampNeg))), (1, .int ((S 27 0) - 1)), (0, .ref (θ 0))]) hx hb dxQ_go_20 rfl hl (by decide) rfl (fun ls hl => ?_)
  refine lv_aload_n hx hb dxQ_go_21 rfl (lv_at hl 3 rfl) ?_
  refine gx_xQ_92 X hG h dxQ_go_22 ?_
  refine lv_iload_n hx hb dxQ_go_25 rfl (lv_at hl 2 rfl) ?_
  refine lv_dup2_11 hx hb dxQ_go_26 rfl rfl ?_
  refine lq_17 X hG h o1 (x := S 21 (((S 27 0) - 1).toNatClampNeg)) rfl dxQ_go_27 ?_
  refine lv_iconst (v := 1) hx hb dxQ_go_28 (by decide) ?_
  refine lv_iadd hx hb dxQ_go_29 ?_
  refine sq_17 X hG h o1 dxQ_go_30 (fun H locs h => ?_)
  refine lv_aload_n hx hb dxQ_go_31 rfl (lv_at hl 3 rfl) ?_
  refine gx_xQ_41 X hG h dxQ_go_32 ?_
  refine lv_iload_n hx hb dxQ_go_35 rfl (lv_at hl 1 rfl) ?_
  obtain ⟨o2, hw⟩ := hw
  refine lq_3 X hG h o2 (x := S 10 ((S 20 (((S 27 0) - 1).toNatClampNeg)).toNatClampNeg)) rfl dxQ_go_36 ?_
  refine cx_xQ_188 (As := [.int (S 10 ((S 20 (((S 27 0) - 1).toNatClampNeg)).toNatClampNeg))]) (rest := []) X hG h hl.1 (mxQ_hasParts l Γ θ (uu S 21 (((S 27 0) - 1).toNatClampNeg) ((S 21 (((S 27 0) - 1).toNatClampNeg)) + 1)) Z (S 10 ((S 20 (((S 27 0) - 1).toNatClampNeg)).toNatClampNeg)) _ hw) ⟨show 0 + 1 ≤ 4 from by omega, show 8 + (1 + 11) + 0 ≤ 90 from by omega⟩ rfl (Nat.le_of_ble_eq_true rfl) dxQ_go_37 ⟨Nat.le_of_ble_eq_true rfl, Nat.le_of_ble_eq_true rfl⟩ (fun v W1 hK H locs h => ?_)
  obtain ⟨r3, S4, rfl, rfl, hw⟩ := hK
  refine W.eq (g2 := F0 m 40 ls [.int r3]) rfl ?_
  refine lv_if_ne (tgt := 49) hx hb dxQ_go_40 (by decide) (fun c5 => ?_) (fun c5 => ?_)
  · have hw := hw.1 c5
    refine lv_aload_n hx hb dxQ_go_49 rfl (lv_at hl 3 rfl) ?_
    refine gx_xQ_41 X hG h dxQ_go_50 ?_
    refine lv_iload_n hx hb dxQ_go_53 rfl (lv_at hl 1 rfl) ?_
    obtain ⟨o6, hw⟩ := hw
    refine lq_3 X hG h o6 (x := S4 10 ((S 20 (((S 27 0) - 1).toNatClampNeg)).toNatClampNeg)) rfl dxQ_go_54 ?_
    by_cases c7 : (S4 10 ((S 20 (((S 27 0) - 1).toNatClampNeg)).toNatClampNeg)).toInt < 4 ∨ 20 < (S4 10 ((S 20 (((S 27 0) - 1).toNatClampNeg)).toNatClampNeg)).toInt
    · have hw := hw.1 c7
      refine lv_tableOut (tgt := 231) hx hb dxQ_go_55 c7 (by decide) ?_
      refine lv_aload_n hx hb dxQ_go_231 rfl (lv_at hl 3 rfl) ?_
      refine lv_iload_n hx hb dxQ_go_232 rfl (lv_at hl 2 rfl) ?_
      refine lv_iload_n hx hb dxQ_go_233 rfl (lv_at hl 1 rfl) ?_
      refine lv_iload_n hx hb dxQ_go_234 rfl (lv_at hl 0 rfl) ?_
      refine cx_xQ_212 (As := [.int ((S 27 0) - 1), .int (S 20 (((S 27 0) - 1).toNatClampNeg)), .int (S 21 (((S 27 0) - 1).toNatClampNeg))]) (rest := []) X hG h hl.1 (mxQ_atLast l Γ θ S4 Z ((S 27 0) - 1) (S 20 (((S 27 0) - 1).toNatClampNeg)) (S 21 (((S 27 0) - 1).toNatClampNeg)) _ hw) ⟨show 1 + 1 ≤ 4 from by omega, show 8 + (5 + 11) + 22 ≤ 90 from by omega⟩ (q0 := 0) rfl rfl (Nat.le_of_ble_eq_true rfl) dxQ_go_235 ⟨Nat.le_of_ble_eq_true rfl, Nat.le_of_ble_eq_true rfl⟩ (fun v W1 hK H locs h => ?_)
      obtain ⟨r10, S11, rfl, rfl, hw⟩ := hK
      refine W.eq (g2 := F0 m 238 ls []) rfl ?_
      exact z_vret X hr hlk h ⟨_, _, rfl, rfl, hw⟩ dxQ_go_238
    · have hw := hw.2
      obtain ⟨j9, j_h, e8⟩ := sw_in (lo := 4) (n := 16) c7
      match j9, j_h, e8 with
      | 0, _, e8 =>
        have e8 : (S4 10 ((S 20 (((S 27 0) - 1).toNatClampNeg)).toNatClampNeg)) = 4 := e8
        have hw := hw.1 e8
        refine lv_tableIn (off := 81) (tgt := 136) hx hb dxQ_go_55 (by rw [e8]; decide) (by rw [e8]; decide) (by rw [e8]; rfl) (by decide) ?_
        refine lv_iload_n hx hb dxQ_go_136 rfl (lv_at hl 0 rfl) ?_
        refine lv_if_ne (tgt := 154) hx hb dxQ_go_137 (by decide) (fun c12 => ?_) (fun c12 => ?_)
        · have hw := hw.1 c12
          refine lv_iload_n hx hb dxQ_go_154 rfl (lv_at hl 0 rfl) ?_
          refine lv_iconst (v := 1) hx hb dxQ_go_155 (by decide) ?_
          refine lv_icmp_ne (tgt := 180) hx hb dxQ_go_156 (by decide) (fun c13 => ?_) (fun c13 => ?_)
          · have hw := hw.1 c13
            refine lv_aload_n hx hb dxQ_go_180 rfl (lv_at hl 3 rfl) ?_
            refine lv_aload_n hx hb dxQ_go_181 rfl (lv_at hl 3 rfl) ?_
            refine gx_xQ_148 X hG h (x := S4 27 3) rfl dxQ_go_182 ?_
            refine lv_aload_n hx hb dxQ_go_185 rfl (lv_at hl 3 rfl) ?_
            refine gx_xQ_151 X hG h (x := S4 27 4) rfl dxQ_go_186 ?_
            refine cx_xQ_157 (As := [.int (S4 27 3), .int (S4 27 4)]) (rest := []) X hG h hl.1 (mxQ_end l Γ θ S4 Z (S4 27 3) (S4 27 4) _ hw) ⟨show 0 + 1 ≤ 4 from by omega, show 8 + (3 + 11) + 0 ≤ 90 from by omega⟩ (q0 := 0) rfl rfl (Nat.le_of_ble_eq_true rfl) dxQ_go_189 ⟨Nat.le_of_ble_eq_true rfl, Nat.le_of_ble_eq_true rfl⟩ (fun v W1 hK H locs h => ?_)
            obtain ⟨r14, S15, rfl, rfl, hw⟩ := hK
            refine W.eq (g2 := F0 m 192 ls []) rfl ?_
            exact z_vret X hr hlk h ⟨_, _, rfl, rfl, hw⟩ dxQ_go_192
          · have hw := hw.2 c13
            refine lv_aload_n hx hb dxQ_go_159 rfl (lv_at hl 3 rfl) ?_
            refine gx_xQ_148 X hG h (x := S4 27 3) rfl dxQ_go_160 ?_
            refine lv_if_ne (tgt := 180) hx hb dxQ_go_163 (by decide) (fun c16 => ?_) (fun c16 => ?_)
            · have hw := hw.1 c16
              refine lv_aload_n hx hb dxQ_go_180 rfl (lv_at hl 3 rfl) ?_
              refine lv_aload_n hx hb dxQ_go_181 rfl (lv_at hl 3 rfl) ?_
              refine gx_xQ_148 X hG h (x := S4 27 3) rfl dxQ_go_182 ?_
              refine lv_aload_n hx hb dxQ_go_185 rfl (lv_at hl 3 rfl) ?_
              refine gx_xQ_151 X hG h (x := S4 27 4) rfl dxQ_go_186 ?_
              refine cx_xQ_157 (As := [.int (S4 27 3), .int (S4 27 4)]) (rest := []) X hG h hl.1 (mxQ_end l Γ θ S4 Z (S4 27 3) (S4 27 4) _ hw) ⟨show 0 + 1 ≤ 4 from by omega, show 8 + (3 + 11) + 0 ≤ 90 from by omega⟩ (q0 := 0) rfl rfl (Nat.le_of_ble_eq_true rfl) dxQ_go_189 ⟨Nat.le_of_ble_eq_true rfl, Nat.le_of_ble_eq_true rfl⟩ (fun v W1 hK H locs h => ?_)
              obtain ⟨r17, S18, rfl, rfl, hw⟩ := hK
              refine W.eq (g2 := F0 m 192 ls []) rfl ?_
              exact z_vret X hr hlk h ⟨_, _, rfl, rfl, hw⟩ dxQ_go_192
            · have hw := hw.2 c16
              refine lv_aload_n hx hb dxQ_go_166 rfl (lv_at hl 3 rfl) ?_
              refine lv_aload_n hx hb dxQ_go_167 rfl (lv_at hl 3 rfl) ?_
              refine gx_xQ_47 X hG h dxQ_go_168 ?_
              refine lv_iload_n hx hb dxQ_go_171 rfl (lv_at hl 1 rfl) ?_
              refine lq_5 X hG h o6 (x := S4 12 ((S 20 (((S 27 0) - 1).toNatClampNeg)).toNatClampNeg)) rfl dxQ_go_172 ?_
              refine cx_xQ_194 (As := [.int (S4 12 ((S 20 (((S 27 0) - 1).toNatClampNeg)).toNatClampNeg))]) (rest := []) X hG h hl.1 (mxQ_begin l Γ θ S4 Z (S4 12 ((S 20 (((S 27 0) - 1).toNatClampNeg)).toNatClampNeg)) _ hw) ⟨show 0 + 1 ≤ 4 from by omega, show 8 + (2 + 11) + 0 ≤ 90 from by omega⟩ (q0 := 0) rfl rfl (Nat.le_of_ble_eq_true rfl) dxQ_go_173 ⟨Nat.le_of_ble_eq_true rfl, Nat.le_of_ble_eq_true rfl⟩ (fun v W1 hK H locs h => ?_)
              obtain ⟨r19, S20, rfl, rfl, hw⟩ := hK
              refine W.eq (g2 := F0 m 176 ls [.int r19]) rfl ?_
              refine lv_pop hx hb dxQ_go_176 rfl ?_
              refine lv_goto (tgt := 192) hx hb dxQ_go_177 (by decide) ?_
              exact z_vret X hr hlk h ⟨_, _, rfl, rfl, hw⟩ dxQ_go_192
        · have hw := hw.2 c12
          refine lv_aload_n hx hb dxQ_go_140 rfl (lv_at hl 3 rfl) ?_
          refine lv_aload_n hx hb dxQ_go_141 rfl (lv_at hl 3 rfl) ?_
          refine gx_xQ_44 X hG h dxQ_go_142 ?_
          refine lv_iload_n hx hb dxQ_go_145 rfl (lv_at hl 1 rfl) ?_
          refine lq_4 X hG h o6 (x := S4 11 ((S 20 (((S 27 0) - 1).toNatClampNeg)).toNatClampNeg)) rfl dxQ_go_146 ?_
          refine cx_xQ_194 (As := [.int (S4 11 ((S 20 (((S 27 0) - 1).toNatClampNeg)).toNatClampNeg))]) (rest := []) X hG h hl.1 (mxQ_begin l Γ θ S4 Z (S4 11 ((S 20 (((S 27 0) - 1).toNatClampNeg)).toNatClampNeg)) _ hw) ⟨show 0 + 1 ≤ 4 from by omega, show 8 + (2 + 11) + 0 ≤ 90 from by omega⟩ (q0 := 0) rfl rfl (Nat.le_of_ble_eq_true rfl) dxQ_go_147 ⟨Nat.le_of_ble_eq_true rfl, Nat.le_of_ble_eq_true rfl⟩ (fun v W1 hK H locs h => ?_)
          obtain ⟨r21, S22, rfl, rfl, hw⟩ := hK
          refine W.eq (g2 := F0 m 150 ls [.int r21]) rfl ?_
          refine lv_pop hx hb dxQ_go_150 rfl ?_
          refine lv_goto (tgt := 192) hx hb dxQ_go_151 (by decide) ?_
          exact z_vret X hr hlk h ⟨_, _, rfl, rfl, hw⟩ dxQ_go_192
      | 1, _, e8 =>
        have e8 : (S4 10 ((S 20 (((S 27 0) - 1).toNatClampNeg)).toNatClampNeg)) = 5 := e8
        have hw := hw.2.1 e8
        refine lv_tableIn (off := 138) (tgt := 193) hx hb dxQ_go_55 (by rw [e8]; decide) (by rw [e8]; decide) (by rw [e8]; rfl) (by decide) ?_
        refine lv_aload_n hx hb dxQ_go_193 rfl (lv_at hl 3 rfl) ?_
        refine lv_iload_n hx hb dxQ_go_194 rfl (lv_at hl 1 rfl) ?_
        refine lv_iload_n hx hb dxQ_go_195 rfl (lv_at hl 0 rfl) ?_
        refine cx_xQ_197 (As := [.int (S 20 (((S 27 0) - 1).toNatClampNeg)), .int (S 21 (((S 27 0) - 1).toNatClampNeg))]) (rest := []) X hG h hl.1 (mxQ_branch l Γ θ S4 Z (S 20 (((S 27 0) - 1).toNatClampNeg)) (S 21 (((S 27 0) - 1).toNatClampNeg)) _ hw) ⟨show 1 + 1 ≤ 4 from by omega, show 8 + (4 + 11) + 22 ≤ 90 from by omega⟩ (q0 := 0) rfl rfl (Nat.le_of_ble_eq_true rfl) dxQ_go_196 ⟨Nat.le_of_ble_eq_true rfl, Nat.le_of_ble_eq_true rfl⟩ (fun v W1 hK H locs h => ?_)
        obtain ⟨r23, S24, rfl, rfl, hw⟩ := hK
        refine W.eq (g2 := F0 m 199 ls []) rfl ?_
        exact z_vret X hr hlk h ⟨_, _, rfl, rfl, hw⟩ dxQ_go_199
      | 2, _, e8 =>
        have e8 : (S4 10 ((S 20 (((S 27 0) - 1).toNatClampNeg)).toNatClampNeg)) = 6 := e8
        have hw := hw.2.2.1 e8
        refine lv_tableIn (off := 145) (tgt := 200) hx hb dxQ_go_55 (by rw [e8]; decide) (by rw [e8]; decide) (by rw [e8]; rfl) (by decide) ?_
        refine lv_aload_n hx hb dxQ_go_200 rfl (lv_at hl 3 rfl) ?_
        refine lv_iload_n hx hb dxQ_go_201 rfl (lv_at hl 2 rfl) ?_
        refine lv_iload_n hx hb dxQ_go_202 rfl (lv_at hl 1 rfl) ?_
        refine lv_iload_n hx hb dxQ_go_203 rfl (lv_at hl 0 rfl) ?_
        refine cx_xQ_200 (As := [.int ((S 27 0) - 1), .int (S 20 (((S 27 0) - 1).toNatClampNeg)), .int (S 21 (((S 27 0) - 1).toNatClampNeg))]) (rest := []) X hG h hl.1 (mxQ_loop l Γ θ S4 Z ((S 27 0) - 1) (S 20 (((S 27 0) - 1).toNatClampNeg)) (S 21 (((S 27 0) - 1).toNatClampNeg)) _ hw) ⟨show 1 + 1 ≤ 4 from by omega, show 8 + (4 + 11) + 22 ≤ 90 from by omega⟩ (q0 := 0) rfl rfl (Nat.le_of_ble_eq_true rfl) dxQ_go_204 ⟨Nat.le_of_ble_eq_true rfl, Nat.le_of_ble_eq_true rfl⟩ (fun v W1 hK H locs h => ?_)
        obtain ⟨r25, S26, rfl, rfl, hw⟩ := hK
        refine W.eq (g2 := F0 m 207 ls []) rfl ?_
        exact z_vret X hr hlk h ⟨_, _, rfl, rfl, hw⟩ dxQ_go_207
      | 3, _, e8 =>
        have e8 : (S4 10 ((S 20 (((S 27 0) - 1).toNatClampNeg)).toNatClampNeg)) = 7 := e8
        have hw := hw.2.2.2.1 e8
        refine lv_tableIn (off := 176) (tgt := 231) hx hb dxQ_go_55 (by rw [e8]; decide) (by rw [e8]; decide) (by rw [e8]; rfl) (by decide) ?_
        refine lv_aload_n hx hb dxQ_go_231 rfl (lv_at hl 3 rfl) ?_
        refine lv_iload_n hx hb dxQ_go_232 rfl (lv_at hl 2 rfl) ?_
        refine lv_iload_n hx hb dxQ_go_233 rfl (lv_at hl 1 rfl) ?_
        refine lv_iload_n hx hb dxQ_go_234 rfl (lv_at hl 0 rfl) ?_
        refine cx_xQ_212 (As := [.int ((S 27 0) - 1), .int (S 20 (((S 27 0) - 1).toNatClampNeg)), .int (S 21 (((S 27 0) - 1).toNatClampNeg))]) (rest := []) X hG h hl.1 (mxQ_atLast l Γ θ S4 Z ((S 27 0) - 1) (S 20 (((S 27 0) - 1).toNatClampNeg)) (S 21 (((S 27 0) - 1).toNatClampNeg)) _ hw) ⟨show 1 + 1 ≤ 4 from by omega, show 8 + (5 + 11) + 22 ≤ 90 from by omega⟩ (q0 := 0) rfl rfl (Nat.le_of_ble_eq_true rfl) dxQ_go_235 ⟨Nat.le_of_ble_eq_true rfl, Nat.le_of_ble_eq_true rfl⟩ (fun v W1 hK H locs h => ?_)
        obtain ⟨r27, S28, rfl, rfl, hw⟩ := hK
        refine W.eq (g2 := F0 m 238 ls []) rfl ?_
        exact z_vret X hr hlk h ⟨_, _, rfl, rfl, hw⟩ dxQ_go_238
      | 4, _, e8 =>
        have e8 : (S4 10 ((S 20 (((S 27 0) - 1).toNatClampNeg)).toNatClampNeg)) = 8 := e8
        have hw := hw.2.2.2.2.1 e8
        refine lv_tableIn (off := 176) (tgt := 231) hx hb dxQ_go_55 (by rw [e8]; decide) (by rw [e8]; decide) (by rw [e8]; rfl) (by decide) ?_
        refine lv_aload_n hx hb dxQ_go_231 rfl (lv_at hl 3 rfl) ?_
        refine lv_iload_n hx hb dxQ_go_232 rfl (lv_at hl 2 rfl) ?_
        refine lv_iload_n hx hb dxQ_go_233 rfl (lv_at hl 1 rfl) ?_
        refine lv_iload_n hx hb dxQ_go_234 rfl (lv_at hl 0 rfl) ?_
        refine cx_xQ_212 (As := [.int ((S 27 0) - 1), .int (S 20 (((S 27 0) - 1).toNatClampNeg)), .int (S 21 (((S 27 0) - 1).toNatClampNeg))]) (rest := []) X hG h hl.1 (mxQ_atLast l Γ θ S4 Z ((S 27 0) - 1) (S 20 (((S 27 0) - 1).toNatClampNeg)) (S 21 (((S 27 0) - 1).toNatClampNeg)) _ hw) ⟨show 1 + 1 ≤ 4 from by omega, show 8 + (5 + 11) + 22 ≤ 90 from by omega⟩ (q0 := 0) rfl rfl (Nat.le_of_ble_eq_true rfl) dxQ_go_235 ⟨Nat.le_of_ble_eq_true rfl, Nat.le_of_ble_eq_true rfl⟩ (fun v W1 hK H locs h => ?_)
        obtain ⟨r29, S30, rfl, rfl, hw⟩ := hK
        refine W.eq (g2 := F0 m 238 ls []) rfl ?_
        exact z_vret X hr hlk h ⟨_, _, rfl, rfl, hw⟩ dxQ_go_238
      | 5, _, e8 =>
        have e8 : (S4 10 ((S 20 (((S 27 0) - 1).toNatClampNeg)).toNatClampNeg)) = 9 := e8
        have hw := hw.2.2.2.2.2.1 e8
        refine lv_tableIn (off := 153) (tgt := 208) hx hb dxQ_go_55 (by rw [e8]; decide) (by rw [e8]; decide) (by rw [e8]; rfl) (by decide) ?_
        refine lv_aload_n hx hb dxQ_go_208 rfl (lv_at hl 3 rfl) ?_
        refine lv_iload_n hx hb dxQ_go_209 rfl (lv_at hl 2 rfl) ?_
        refine lv_iload_n hx hb dxQ_go_210 rfl (lv_at hl 1 rfl) ?_
        refine lv_iload_n hx hb dxQ_go_211 rfl (lv_at hl 0 rfl) ?_
        refine cx_xQ_203 (As := [.int ((S 27 0) - 1), .int (S 20 (((S 27 0) - 1).toNatClampNeg)), .int (S 21 (((S 27 0) - 1).toNatClampNeg))]) (rest := []) X hG h hl.1 (mxQ_call l Γ θ S4 Z ((S 27 0) - 1) (S 20 (((S 27 0) - 1).toNatClampNeg)) (S 21 (((S 27 0) - 1).toNatClampNeg)) _ hw) ⟨show 2 + 1 ≤ 4 from by omega, show 8 + (4 + 11) + 45 ≤ 90 from by omega⟩ (q0 := 0) rfl rfl (Nat.le_of_ble_eq_true rfl) dxQ_go_212 ⟨Nat.le_of_ble_eq_true rfl, Nat.le_of_ble_eq_true rfl⟩ (fun v W1 hK H locs h => ?_)
        obtain ⟨r31, S32, rfl, rfl, hw⟩ := hK
        refine W.eq (g2 := F0 m 215 ls []) rfl ?_
        exact z_vret X hr hlk h ⟨_, _, rfl, rfl, hw⟩ dxQ_go_215
      | 6, _, e8 =>
        have e8 : (S4 10 ((S 20 (((S 27 0) - 1).toNatClampNeg)).toNatClampNeg)) = 10 := e8
        have hw := hw.2.2.2.2.2.2.1 e8
        refine lv_tableIn (off := 176) (tgt := 231) hx hb dxQ_go_55 (by rw [e8]; decide) (by rw [e8]; decide) (by rw [e8]; rfl) (by decide) ?_
        refine lv_aload_n hx hb dxQ_go_231 rfl (lv_at hl 3 rfl) ?_
        refine lv_iload_n hx hb dxQ_go_232 rfl (lv_at hl 2 rfl) ?_
        refine lv_iload_n hx hb dxQ_go_233 rfl (lv_at hl 1 rfl) ?_
        refine lv_iload_n hx hb dxQ_go_234 rfl (lv_at hl 0 rfl) ?_
        refine cx_xQ_212 (As := [.int ((S 27 0) - 1), .int (S 20 (((S 27 0) - 1).toNatClampNeg)), .int (S 21 (((S 27 0) - 1).toNatClampNeg))]) (rest := []) X hG h hl.1 (mxQ_atLast l Γ θ S4 Z ((S 27 0) - 1) (S 20 (((S 27 0) - 1).toNatClampNeg)) (S 21 (((S 27 0) - 1).toNatClampNeg)) _ hw) ⟨show 1 + 1 ≤ 4 from by omega, show 8 + (5 + 11) + 22 ≤ 90 from by omega⟩ (q0 := 0) rfl rfl (Nat.le_of_ble_eq_true rfl) dxQ_go_235 ⟨Nat.le_of_ble_eq_true rfl, Nat.le_of_ble_eq_true rfl⟩ (fun v W1 hK H locs h => ?_)
        obtain ⟨r33, S34, rfl, rfl, hw⟩ := hK
        refine W.eq (g2 := F0 m 238 ls []) rfl ?_
        exact z_vret X hr hlk h ⟨_, _, rfl, rfl, hw⟩ dxQ_go_238
      | 7, _, e8 =>
        have e8 : (S4 10 ((S 20 (((S 27 0) - 1).toNatClampNeg)).toNatClampNeg)) = 11 := e8
        have hw := hw.2.2.2.2.2.2.2.1 e8
        refine lv_tableIn (off := 176) (tgt := 231) hx hb dxQ_go_55 (by rw [e8]; decide) (by rw [e8]; decide) (by rw [e8]; rfl) (by decide) ?_
        refine lv_aload_n hx hb dxQ_go_231 rfl (lv_at hl 3 rfl) ?_
        refine lv_iload_n hx hb dxQ_go_232 rfl (lv_at hl 2 rfl) ?_
        refine lv_iload_n hx hb dxQ_go_233 rfl (lv_at hl 1 rfl) ?_
        refine lv_iload_n hx hb dxQ_go_234 rfl (lv_at hl 0 rfl) ?_
        refine cx_xQ_212 (As := [.int ((S 27 0) - 1), .int (S 20 (((S 27 0) - 1).toNatClampNeg)), .int (S 21 (((S 27 0) - 1).toNatClampNeg))]) (rest := []) X hG h hl.1 (mxQ_atLast l Γ θ S4 Z ((S 27 0) - 1) (S 20 (((S 27 0) - 1).toNatClampNeg)) (S 21 (((S 27 0) - 1).toNatClampNeg)) _ hw) ⟨show 1 + 1 ≤ 4 from by omega, show 8 + (5 + 11) + 22 ≤ 90 from by omega⟩ (q0 := 0) rfl rfl (Nat.le_of_ble_eq_true rfl) dxQ_go_235 ⟨Nat.le_of_ble_eq_true rfl, Nat.le_of_ble_eq_true rfl⟩ (fun v W1 hK H locs h => ?_)
        obtain ⟨r35, S36, rfl, rfl, hw⟩ := hK
        refine W.eq (g2 := F0 m 238 ls []) rfl ?_
        exact z_vret X hr hlk h ⟨_, _, rfl, rfl, hw⟩ dxQ_go_238
      | 8, _, e8 =>
        have e8 : (S4 10 ((S 20 (((S 27 0) - 1).toNatClampNeg)).toNatClampNeg)) = 12 := e8
        have hw := hw.2.2.2.2.2.2.2.2.1 e8
        refine lv_tableIn (off := 176) (tgt := 231) hx hb dxQ_go_55 (by rw [e8]; decide) (by rw [e8]; decide) (by rw [e8]; rfl) (by decide) ?_
        refine lv_aload_n hx hb dxQ_go_231 rfl (lv_at hl 3 rfl) ?_
        refine lv_iload_n hx hb dxQ_go_232 rfl (lv_at hl 2 rfl) ?_
        refine lv_iload_n hx hb dxQ_go_233 rfl (lv_at hl 1 rfl) ?_
        refine lv_iload_n hx hb dxQ_go_234 rfl (lv_at hl 0 rfl) ?_
        refine cx_xQ_212 (As := [.int ((S 27 0) - 1), .int (S 20 (((S 27 0) - 1).toNatClampNeg)), .int (S 21 (((S 27 0) - 1).toNatClampNeg))]) (rest := []) X hG h hl.1 (mxQ_atLast l Γ θ S4 Z ((S 27 0) - 1) (S 20 (((S 27 0) - 1).toNatClampNeg)) (S 21 (((S 27 0) - 1).toNatClampNeg)) _ hw) ⟨show 1 + 1 ≤ 4 from by omega, show 8 + (5 + 11) + 22 ≤ 90 from by omega⟩ (q0 := 0) rfl rfl (Nat.le_of_ble_eq_true rfl) dxQ_go_235 ⟨Nat.le_of_ble_eq_true rfl, Nat.le_of_ble_eq_true rfl⟩ (fun v W1 hK H locs h => ?_)
        obtain ⟨r37, S38, rfl, rfl, hw⟩ := hK
        refine W.eq (g2 := F0 m 238 ls []) rfl ?_
        exact z_vret X hr hlk h ⟨_, _, rfl, rfl, hw⟩ dxQ_go_238
      | 9, _, e8 =>
        have e8 : (S4 10 ((S 20 (((S 27 0) - 1).toNatClampNeg)).toNatClampNeg)) = 13 := e8
        have hw := hw.2.2.2.2.2.2.2.2.2.1 e8
        refine lv_tableIn (off := 161) (tgt := 216) hx hb dxQ_go_55 (by rw [e8]; decide) (by rw [e8]; decide) (by rw [e8]; rfl) (by decide) ?_
        refine lv_aload_n hx hb dxQ_go_216 rfl (lv_at hl 3 rfl) ?_
        refine lv_iload_n hx hb dxQ_go_217 rfl (lv_at hl 2 rfl) ?_
        refine lv_iload_n hx hb dxQ_go_218 rfl (lv_at hl 1 rfl) ?_
        refine lv_iload_n hx hb dxQ_go_219 rfl (lv_at hl 0 rfl) ?_
        refine cx_xQ_206 (As := [.int ((S 27 0) - 1), .int (S 20 (((S 27 0) - 1).toNatClampNeg)), .int (S 21 (((S 27 0) - 1).toNatClampNeg))]) (rest := []) X hG h hl.1 (mxQ_attempt l Γ θ S4 Z ((S 27 0) - 1) (S 20 (((S 27 0) - 1).toNatClampNeg)) (S 21 (((S 27 0) - 1).toNatClampNeg)) _ hw) ⟨show 1 + 1 ≤ 4 from by omega, show 8 + (5 + 11) + 23 ≤ 90 from by omega⟩ (q0 := 0) rfl rfl (Nat.le_of_ble_eq_true rfl) dxQ_go_220 ⟨Nat.le_of_ble_eq_true rfl, Nat.le_of_ble_eq_true rfl⟩ (fun v W1 hK H locs h => ?_)
        obtain ⟨r39, S40, rfl, rfl, hw⟩ := hK
        refine W.eq (g2 := F0 m 223 ls []) rfl ?_
        exact z_vret X hr hlk h ⟨_, _, rfl, rfl, hw⟩ dxQ_go_223
      | 10, _, e8 =>
        have e8 : (S4 10 ((S 20 (((S 27 0) - 1).toNatClampNeg)).toNatClampNeg)) = 14 := e8
        have hw := hw.2.2.2.2.2.2.2.2.2.2.1 e8
        refine lv_tableIn (off := 176) (tgt := 231) hx hb dxQ_go_55 (by rw [e8]; decide) (by rw [e8]; decide) (by rw [e8]; rfl) (by decide) ?_
        refine lv_aload_n hx hb dxQ_go_231 rfl (lv_at hl 3 rfl) ?_
        refine lv_iload_n hx hb dxQ_go_232 rfl (lv_at hl 2 rfl) ?_
        refine lv_iload_n hx hb dxQ_go_233 rfl (lv_at hl 1 rfl) ?_
        refine lv_iload_n hx hb dxQ_go_234 rfl (lv_at hl 0 rfl) ?_
        refine cx_xQ_212 (As := [.int ((S 27 0) - 1), .int (S 20 (((S 27 0) - 1).toNatClampNeg)), .int (S 21 (((S 27 0) - 1).toNatClampNeg))]) (rest := []) X hG h hl.1 (mxQ_atLast l Γ θ S4 Z ((S 27 0) - 1) (S 20 (((S 27 0) - 1).toNatClampNeg)) (S 21 (((S 27 0) - 1).toNatClampNeg)) _ hw) ⟨show 1 + 1 ≤ 4 from by omega, show 8 + (5 + 11) + 22 ≤ 90 from by omega⟩ (q0 := 0) rfl rfl (Nat.le_of_ble_eq_true rfl) dxQ_go_235 ⟨Nat.le_of_ble_eq_true rfl, Nat.le_of_ble_eq_true rfl⟩ (fun v W1 hK H locs h => ?_)
        obtain ⟨r41, S42, rfl, rfl, hw⟩ := hK
        refine W.eq (g2 := F0 m 238 ls []) rfl ?_
        exact z_vret X hr hlk h ⟨_, _, rfl, rfl, hw⟩ dxQ_go_238
      | 11, _, e8 =>
        have e8 : (S4 10 ((S 20 (((S 27 0) - 1).toNatClampNeg)).toNatClampNeg)) = 15 := e8
        have hw := hw.2.2.2.2.2.2.2.2.2.2.2.1 e8
        refine lv_tableIn (off := 176) (tgt := 231) hx hb dxQ_go_55 (by rw [e8]; decide) (by rw [e8]; decide) (by rw [e8]; rfl) (by decide) ?_
        refine lv_aload_n hx hb dxQ_go_231 rfl (lv_at hl 3 rfl) ?_
        refine lv_iload_n hx hb dxQ_go_232 rfl (lv_at hl 2 rfl) ?_
        refine lv_iload_n hx hb dxQ_go_233 rfl (lv_at hl 1 rfl) ?_
        refine lv_iload_n hx hb dxQ_go_234 rfl (lv_at hl 0 rfl) ?_
        refine cx_xQ_212 (As := [.int ((S 27 0) - 1), .int (S 20 (((S 27 0) - 1).toNatClampNeg)), .int (S 21 (((S 27 0) - 1).toNatClampNeg))]) (rest := []) X hG h hl.1 (mxQ_atLast l Γ θ S4 Z ((S 27 0) - 1) (S 20 (((S 27 0) - 1).toNatClampNeg)) (S 21 (((S 27 0) - 1).toNatClampNeg)) _ hw) ⟨show 1 + 1 ≤ 4 from by omega, show 8 + (5 + 11) + 22 ≤ 90 from by omega⟩ (q0 := 0) rfl rfl (Nat.le_of_ble_eq_true rfl) dxQ_go_235 ⟨Nat.le_of_ble_eq_true rfl, Nat.le_of_ble_eq_true rfl⟩ (fun v W1 hK H locs h => ?_)
        obtain ⟨r43, S44, rfl, rfl, hw⟩ := hK
        refine W.eq (g2 := F0 m 238 ls []) rfl ?_
        exact z_vret X hr hlk h ⟨_, _, rfl, rfl, hw⟩ dxQ_go_238
      | 12, _, e8 =>
        have e8 : (S4 10 ((S 20 (((S 27 0) - 1).toNatClampNeg)).toNatClampNeg)) = 16 := e8
        have hw := hw.2.2.2.2.2.2.2.2.2.2.2.2.1 e8
        refine lv_tableIn (off := 176) (tgt := 231) hx hb dxQ_go_55 (by rw [e8]; decide) (by rw [e8]; decide) (by rw [e8]; rfl) (by decide) ?_
        refine lv_aload_n hx hb dxQ_go_231 rfl (lv_at hl 3 rfl) ?_
        refine lv_iload_n hx hb dxQ_go_232 rfl (lv_at hl 2 rfl) ?_
        refine lv_iload_n hx hb dxQ_go_233 rfl (lv_at hl 1 rfl) ?_
        refine lv_iload_n hx hb dxQ_go_234 rfl (lv_at hl 0 rfl) ?_
        refine cx_xQ_212 (As := [.int ((S 27 0) - 1), .int (S 20 (((S 27 0) - 1).toNatClampNeg)), .int (S 21 (((S 27 0) - 1).toNatClampNeg))]) (rest := []) X hG h hl.1 (mxQ_atLast l Γ θ S4 Z ((S 27 0) - 1) (S 20 (((S 27 0) - 1).toNatClampNeg)) (S 21 (((S 27 0) - 1).toNatClampNeg)) _ hw) ⟨show 1 + 1 ≤ 4 from by omega, show 8 + (5 + 11) + 22 ≤ 90 from by omega⟩ (q0 := 0) rfl rfl (Nat.le_of_ble_eq_true rfl) dxQ_go_235 ⟨Nat.le_of_ble_eq_true rfl, Nat.le_of_ble_eq_true rfl⟩ (fun v W1 hK H locs h => ?_)
        obtain ⟨r45, S46, rfl, rfl, hw⟩ := hK
        refine W.eq (g2 := F0 m 238 ls []) rfl ?_
        exact z_vret X hr hlk h ⟨_, _, rfl, rfl, hw⟩ dxQ_go_238
      | 13, _, e8 =>
        have e8 : (S4 10 ((S 20 (((S 27 0) - 1).toNatClampNeg)).toNatClampNeg)) = 17 := e8
        have hw := hw.2.2.2.2.2.2.2.2.2.2.2.2.2.1 e8
        refine lv_tableIn (off := 176) (tgt := 231) hx hb dxQ_go_55 (by rw [e8]; decide) (by rw [e8]; decide) (by rw [e8]; rfl) (by decide) ?_
        refine lv_aload_n hx hb dxQ_go_231 rfl (lv_at hl 3 rfl) ?_
        refine lv_iload_n hx hb dxQ_go_232 rfl (lv_at hl 2 rfl) ?_
        refine lv_iload_n hx hb dxQ_go_233 rfl (lv_at hl 1 rfl) ?_
        refine lv_iload_n hx hb dxQ_go_234 rfl (lv_at hl 0 rfl) ?_
        refine cx_xQ_212 (As := [.int ((S 27 0) - 1), .int (S 20 (((S 27 0) - 1).toNatClampNeg)), .int (S 21 (((S 27 0) - 1).toNatClampNeg))]) (rest := []) X hG h hl.1 (mxQ_atLast l Γ θ S4 Z ((S 27 0) - 1) (S 20 (((S 27 0) - 1).toNatClampNeg)) (S 21 (((S 27 0) - 1).toNatClampNeg)) _ hw) ⟨show 1 + 1 ≤ 4 from by omega, show 8 + (5 + 11) + 22 ≤ 90 from by omega⟩ (q0 := 0) rfl rfl (Nat.le_of_ble_eq_true rfl) dxQ_go_235 ⟨Nat.le_of_ble_eq_true rfl, Nat.le_of_ble_eq_true rfl⟩ (fun v W1 hK H locs h => ?_)
        obtain ⟨r47, S48, rfl, rfl, hw⟩ := hK
        refine W.eq (g2 := F0 m 238 ls []) rfl ?_
        exact z_vret X hr hlk h ⟨_, _, rfl, rfl, hw⟩ dxQ_go_238
      | 14, _, e8 =>
        have e8 : (S4 10 ((S 20 (((S 27 0) - 1).toNatClampNeg)).toNatClampNeg)) = 18 := e8
        have hw := hw.2.2.2.2.2.2.2.2.2.2.2.2.2.2.1 e8
        refine lv_tableIn (off := 176) (tgt := 231) hx hb dxQ_go_55 (by rw [e8]; decide) (by rw [e8]; decide) (by rw [e8]; rfl) (by decide) ?_
        refine lv_aload_n hx hb dxQ_go_231 rfl (lv_at hl 3 rfl) ?_
        refine lv_iload_n hx hb dxQ_go_232 rfl (lv_at hl 2 rfl) ?_
        refine lv_iload_n hx hb dxQ_go_233 rfl (lv_at hl 1 rfl) ?_
        refine lv_iload_n hx hb dxQ_go_234 rfl (lv_at hl 0 rfl) ?_
        refine cx_xQ_212 (As := [.int ((S 27 0) - 1), .int (S 20 (((S 27 0) - 1).toNatClampNeg)), .int (S 21 (((S 27 0) - 1).toNatClampNeg))]) (rest := []) X hG h hl.1 (mxQ_atLast l Γ θ S4 Z ((S 27 0) - 1) (S 20 (((S 27 0) - 1).toNatClampNeg)) (S 21 (((S 27 0) - 1).toNatClampNeg)) _ hw) ⟨show 1 + 1 ≤ 4 from by omega, show 8 + (5 + 11) + 22 ≤ 90 from by omega⟩ (q0 := 0) rfl rfl (Nat.le_of_ble_eq_true rfl) dxQ_go_235 ⟨Nat.le_of_ble_eq_true rfl, Nat.le_of_ble_eq_true rfl⟩ (fun v W1 hK H locs h => ?_)
        obtain ⟨r49, S50, rfl, rfl, hw⟩ := hK
        refine W.eq (g2 := F0 m 238 ls []) rfl ?_
        exact z_vret X hr hlk h ⟨_, _, rfl, rfl, hw⟩ dxQ_go_238
      | 15, _, e8 =>
        have e8 : (S4 10 ((S 20 (((S 27 0) - 1).toNatClampNeg)).toNatClampNeg)) = 19 := e8
        have hw := hw.2.2.2.2.2.2.2.2.2.2.2.2.2.2.2.1 e8
        refine lv_tableIn (off := 176) (tgt := 231) hx hb dxQ_go_55 (by rw [e8]; decide) (by rw [e8]; decide) (by rw [e8]; rfl) (by decide) ?_
        refine lv_aload_n hx hb dxQ_go_231 rfl (lv_at hl 3 rfl) ?_
        refine lv_iload_n hx hb dxQ_go_232 rfl (lv_at hl 2 rfl) ?_
        refine lv_iload_n hx hb dxQ_go_233 rfl (lv_at hl 1 rfl) ?_
        refine lv_iload_n hx hb dxQ_go_234 rfl (lv_at hl 0 rfl) ?_
        refine cx_xQ_212 (As := [.int ((S 27 0) - 1), .int (S 20 (((S 27 0) - 1).toNatClampNeg)), .int (S 21 (((S 27 0) - 1).toNatClampNeg))]) (rest := []) X hG h hl.1 (mxQ_atLast l Γ θ S4 Z ((S 27 0) - 1) (S 20 (((S 27 0) - 1).toNatClampNeg)) (S 21 (((S 27 0) - 1).toNatClampNeg)) _ hw) ⟨show 1 + 1 ≤ 4 from by omega, show 8 + (5 + 11) + 22 ≤ 90 from by omega⟩ (q0 := 0) rfl rfl (Nat.le_of_ble_eq_true rfl) dxQ_go_235 ⟨Nat.le_of_ble_eq_true rfl, Nat.le_of_ble_eq_true rfl⟩ (fun v W1 hK H locs h => ?_)
        obtain ⟨r51, S52, rfl, rfl, hw⟩ := hK
        refine W.eq (g2 := F0 m 238 ls []) rfl ?_
        exact z_vret X hr hlk h ⟨_, _, rfl, rfl, hw⟩ dxQ_go_238
      | 16, _, e8 =>
        have e8 : (S4 10 ((S 20 (((S 27 0) - 1).toNatClampNeg)).toNatClampNeg)) = 20 := e8
        have hw := hw.2.2.2.2.2.2.2.2.2.2.2.2.2.2.2.2 e8
        refine lv_tableIn (off := 169) (tgt := 224) hx hb dxQ_go_55 (by rw [e8]; decide) (by rw [e8]; decide) (by rw [e8]; rfl) (by decide) ?_
        refine lv_aload_n hx hb dxQ_go_224 rfl (lv_at hl 3 rfl) ?_
        refine lv_iload_n hx hb dxQ_go_225 rfl (lv_at hl 1 rfl) ?_
        refine lv_iload_n hx hb dxQ_go_226 rfl (lv_at hl 0 rfl) ?_
        refine cx_xQ_209 (As := [.int (S 20 (((S 27 0) - 1).toNatClampNeg)), .int (S 21 (((S 27 0) - 1).toNatClampNeg))]) (rest := []) X hG h hl.1 (mxQ_lock l Γ θ S4 Z (S 20 (((S 27 0) - 1).toNatClampNeg)) (S 21 (((S 27 0) - 1).toNatClampNeg)) _ hw) ⟨show 1 + 1 ≤ 4 from by omega, show 8 + (3 + 11) + 22 ≤ 90 from by omega⟩ (q0 := 0) rfl rfl (Nat.le_of_ble_eq_true rfl) dxQ_go_227 ⟨Nat.le_of_ble_eq_true rfl, Nat.le_of_ble_eq_true rfl⟩ (fun v W1 hK H locs h => ?_)
        obtain ⟨r53, S54, rfl, rfl, hw⟩ := hK
        refine W.eq (g2 := F0 m 230 ls []) rfl ?_
        exact z_vret X hr hlk h ⟨_, _, rfl, rfl, hw⟩ dxQ_go_230
      | k + 17, j_h, _ => exact absurd j_h (by omega)
  · have hw := hw.2 c5
    refine lv_aload_n hx hb dxQ_go_43 rfl (lv_at hl 3 rfl) ?_
    refine lv_iload_n hx hb dxQ_go_44 rfl (lv_at hl 1 rfl) ?_
    refine cx_xQ_191 (As := [.int (S 20 (((S 27 0) - 1).toNatClampNeg))]) (rest := []) X hG h hl.1 (mxQ_simple l Γ θ S4 Z (S 20 (((S 27 0) - 1).toNatClampNeg)) _ hw) ⟨show 3 + 1 ≤ 4 from by omega, show 8 + (3 + 11) + 68 ≤ 90 from by omega⟩ (q0 := 0) rfl rfl (Nat.le_of_ble_eq_true rfl) dxQ_go_45 ⟨Nat.le_of_ble_eq_true rfl, Nat.le_of_ble_eq_true rfl⟩ (fun v W1 hK H locs h => ?_)
    obtain ⟨r55, S56, rfl, rfl, hw⟩ := hK
    refine W.eq (g2 := F0 m 48 ls []) rfl ?_
    exact z_vret X hr hlk h ⟨_, _, rfl, rfl, hw⟩ dxQ_go_48
def wxQ_complete_c34  (post : Int32 → Rg → Prop) (x : Int32) (y : Int32) : Nat → Rg → Prop
  | 0, _ => False
  | d + 1, S => ((¬ ((S 27 5) = (0 : Int32))) → ((¬ ((S 27 5) = (0 : Int32))) → post (0 : Int32) S) ∧ (((S 27 5) = (0 : Int32)) → post (1 : Int32) S)) ∧ (((S 27 5) = (0 : Int32)) → (((S 27 0) ≤ (0 : Int32)) → ((¬ ((S 27 5) = (0 : Int32))) → post (0 : Int32) S) ∧ (((S 27 5) = (0 : Int32)) → post (1 : Int32) S)) ∧ ((¬ ((S 27 0) ≤ (0 : Int32))) → wxQ_go (fun (_ : Unit) S6 => wxQ_complete_c34 post x y d S6 ) S ))
set_option maxHeartbeats 4000000 in
set_option maxRecDepth 100000 in
theorem txQ_complete_c34 {p : Program} {l : Launch} {e : Env} {s : State} {m : MethodId} {below : List Frame} {meth : Method} {c : Code} (Γ : Gm) (θ : Nat → Nat) (Z : va_W) (x : Int32) (y : Int32)  (post : Int32 → Rg → Prop) (X : CallFix p m c cxQ_complete 3 s ([.ref (θ 0), .int x, .int y] : List Value).toArray big RxQ) (hr : meth.sig.returnType = (some .boolean)) (hlk : meth.locks = false) (hG : GX Γ s s.heap) :
    ∀ (d : Nat) (S : Rg)  (hw : wxQ_complete_c34 post x y d S ) (H : Heap) (locs : List Loc) (h : HS Γ s (WM Γ θ S Z) H locs) (ls : Array Slot) (hl : lv_has ls 3 [(0, .ref (θ 0)), (1, .int x), (2, .int y)]), W p l e { frames := 5, cells := 0, slots := 0, locals := 113 } s m ([.ref (θ 0), .int x, .int y] : List Value).toArray below meth c H locs 0 0 (MQ below (QM Γ (KK (fun r : Int32 => some (.int r)) (fun S' => WM Γ θ S' Z) post)) ([.ref (θ 0), .int x, .int y] : List Value).toArray s 0 0 (AA Γ)) (F0 m 34 ls []) := by
  have hx := X.1
  have hb := X.2.1
  intro d
  induction d with
  | zero => intro S  hw; exact absurd hw (by simp [wxQ_complete_c34])
  | succ d ih =>
    intro S  hw H locs h ls hl
    rw [wxQ_complete_c34] at hw
    refine lv_aload_n hx hb dxQ_complete_34 rfl (lv_at hl 0 rfl) ?_
    refine gx_xQ_141 X hG h (x := S 27 5) rfl dxQ_complete_35 ?_
    refine lv_if_ne (tgt := 55) hx hb dxQ_complete_38 (by decide) (fun c1 => ?_) (fun c1 => ?_)
    · have hw := hw.1 c1
      refine lv_aload_n hx hb dxQ_complete_55 rfl (lv_at hl 0 rfl) ?_
      refine gx_xQ_141 X hG h (x := S 27 5) rfl dxQ_complete_56 ?_
      refine lv_if_ne (tgt := 66) hx hb dxQ_complete_59 (by decide) (fun c2 => ?_) (fun c2 => ?_)
      · have hw := hw.1 c2
        refine lv_iconst (v := 0) hx hb dxQ_complete_66 (by decide) ?_
        exact z_zret X hr hlk h rfl ⟨_, _, rfl, rfl, hw⟩ dxQ_complete_67
      · have hw := hw.2 c2
        refine lv_iconst (v := 1) hx hb dxQ_complete_62 (by decide) ?_
        refine lv_goto (tgt := 67) hx hb dxQ_complete_63 (by decide) ?_
        exact z_zret X hr hlk h rfl ⟨_, _, rfl, rfl, hw⟩ dxQ_complete_67
    · have hw := hw.2 c1
      refine lv_aload_n hx hb dxQ_complete_41 rfl (lv_at hl 0 rfl) ?_
      refine gx_xQ_145 X hG h (x := S 27 0) rfl dxQ_complete_42 ?_
      refine lv_if_le (tgt := 55) hx hb dxQ_complete_45 (by decide) (fun c3 => ?_) (fun c3 => ?_)
      · have hw := hw.1 c3
        refine lv_aload_n hx hb dxQ_complete_55 rfl (lv_at hl 0 rfl) ?_
        refine gx_xQ_141 X hG h (x := S 27 5) rfl dxQ_complete_56 ?_
        refine lv_if_ne (tgt := 66) hx hb dxQ_complete_59 (by decide) (fun c4 => ?_) (fun c4 => ?_)
        · have hw := hw.1 c4
          refine lv_iconst (v := 0) hx hb dxQ_complete_66 (by decide) ?_
          exact z_zret X hr hlk h rfl ⟨_, _, rfl, rfl, hw⟩ dxQ_complete_67
        · have hw := hw.2 c4
          refine lv_iconst (v := 1) hx hb dxQ_complete_62 (by decide) ?_
          refine lv_goto (tgt := 67) hx hb dxQ_complete_63 (by decide) ?_
          exact z_zret X hr hlk h rfl ⟨_, _, rfl, rfl, hw⟩ dxQ_complete_67
      · have hw := hw.2 c3
        refine lv_aload_n hx hb dxQ_complete_48 rfl (lv_at hl 0 rfl) ?_
        refine cx_xQ_227 (As := []) (rest := []) X hG h hl.1 (mxQ_go l Γ θ S Z  _ hw) ⟨show 4 + 1 ≤ 5 from by omega, show 8 + (4 + 11) + 90 ≤ 113 from by omega⟩ (q0 := 0) rfl rfl (Nat.le_of_ble_eq_true rfl) dxQ_complete_49 ⟨Nat.le_of_ble_eq_true rfl, Nat.le_of_ble_eq_true rfl⟩ (fun v W1 hK H locs h => ?_)
        obtain ⟨r5, S6, rfl, rfl, hw⟩ := hK
        refine W.eq (g2 := F0 m 52 ls []) rfl ?_
        refine lv_goto (tgt := 34) hx hb dxQ_complete_52 (by decide) ?_
        exact ih S6  hw _ _ h ls (lv_sub hl [0, 1, 2] rfl)
def wxQ_complete  (post : Int32 → Rg → Prop) (S : Rg) (x : Int32) (y : Int32) : Prop := (((1 : Int32) ≤ (S 7 5)) → wxQ_begin (fun r2 S3 => ∃ d7 : Nat, wxQ_complete_c34 post x y d7 S3 ) (uu (uu (uu S 27 0 0) 27 1 1) 27 2 y) x) ∧ ((¬ ((1 : Int32) ≤ (S 7 5))) → wxQ_begin (fun r8 S9 => ∃ d10 : Nat, wxQ_complete_c34 post x y d10 S9 ) (uu (uu (uu (uu S 27 0 0) 27 1 1) 7 5 1) 27 2 y) x)
set_option maxHeartbeats 4000000 in
set_option maxRecDepth 100000 in
theorem mxQ_complete (l : Launch) (Γ : Gm) (θ : Nat → Nat) (S : Rg) (Z : va_W) (x : Int32) (y : Int32) (post : Int32 → Rg → Prop) (hw : wxQ_complete post S x y) : MM l yxQ_complete cxQ_complete 3 (some .boolean) 5 113 Γ [.ref (θ 0), .int x, .int y] (WM Γ θ S Z) (KK (fun r : Int32 => some (.int r)) (fun S' => WM Γ θ S' Z) post) 0 0 := by
  refine MM_of (by decide) (Nat.le_of_ble_eq_true rfl) ?_
  intro p e s m below meth c X hr hlk hnm hG h ls hl
  have hx := X.1
  have hb := X.2.1
  have hl : lv_has ls 3 [(0, .ref (θ 0)), (1, .int x), (2, .int y)] := hl
  unfold wxQ_complete at hw
  refine lv_aload_n hx hb dxQ_complete_0 rfl (lv_at hl 0 rfl) ?_
  refine lv_iconst (v := 0) hx hb dxQ_complete_1 (by decide) ?_
  refine px_xQ_145 X hG h dxQ_complete_2 (fun H locs h => ?_)
  refine lv_aload_n hx hb dxQ_complete_5 rfl (lv_at hl 0 rfl) ?_
  refine lv_iconst (v := 1) hx hb dxQ_complete_6 (by decide) ?_
  refine px_xQ_215 X hG h dxQ_complete_7 (fun H locs h => ?_)
  refine lv_aload_n hx hb dxQ_complete_10 rfl (lv_at hl 0 rfl) ?_
  refine gx_xQ_218 X hG h (x := S 7 5) rfl dxQ_complete_11 ?_
  refine lv_iconst (v := 1) hx hb dxQ_complete_14 (by decide) ?_
  refine lv_icmp_ge (tgt := 23) hx hb dxQ_complete_15 (by decide) (fun c1 => ?_) (fun c1 => ?_)
  · have hw := hw.1 c1
    refine lv_aload_n hx hb dxQ_complete_23 rfl (lv_at hl 0 rfl) ?_
    refine lv_iload_n hx hb dxQ_complete_24 rfl (lv_at hl 2 rfl) ?_
    refine px_xQ_172 X hG h dxQ_complete_25 (fun H locs h => ?_)
    refine lv_aload_n hx hb dxQ_complete_28 rfl (lv_at hl 0 rfl) ?_
    refine lv_iload_n hx hb dxQ_complete_29 rfl (lv_at hl 1 rfl) ?_
    refine cx_xQ_194 (As := [.int x]) (rest := []) X hG h hl.1 (mxQ_begin l Γ θ (uu (uu (uu S 27 0 0) 27 1 1) 27 2 y) Z x _ hw) ⟨show 0 + 1 ≤ 5 from by omega, show 8 + (2 + 11) + 0 ≤ 113 from by omega⟩ (q0 := 0) rfl rfl (Nat.le_of_ble_eq_true rfl) dxQ_complete_30 ⟨Nat.le_of_ble_eq_true rfl, Nat.le_of_ble_eq_true rfl⟩ (fun v W1 hK H locs h => ?_)
    obtain ⟨r2, S3, rfl, rfl, hw⟩ := hK
    refine W.eq (g2 := F0 m 33 ls [.int r2]) rfl ?_
    refine lv_pop hx hb dxQ_complete_33 rfl ?_
    obtain ⟨d7, hw⟩ := hw
    exact txQ_complete_c34 Γ θ Z x y post X hr hlk hG d7 S3  hw _ _ h ls (lv_sub hl [0, 1, 2] rfl)
  · have hw := hw.2 c1
    refine lv_aload_n hx hb dxQ_complete_18 rfl (lv_at hl 0 rfl) ?_
    refine lv_iconst (v := 1) hx hb dxQ_complete_19 (by decide) ?_
    refine px_xQ_218 X hG h dxQ_complete_20 (fun H locs h => ?_)
    refine lv_aload_n hx hb dxQ_complete_23 rfl (lv_at hl 0 rfl) ?_
    refine lv_iload_n hx hb dxQ_complete_24 rfl (lv_at hl 2 rfl) ?_
    refine px_xQ_172 X hG h dxQ_complete_25 (fun H locs h => ?_)
    refine lv_aload_n hx hb dxQ_complete_28 rfl (lv_at hl 0 rfl) ?_
    refine lv_iload_n hx hb dxQ_complete_29 rfl (lv_at hl 1 rfl) ?_
    refine cx_xQ_194 (As := [.int x]) (rest := []) X hG h hl.1 (mxQ_begin l Γ θ (uu (uu (uu (uu S 27 0 0) 27 1 1) 7 5 1) 27 2 y) Z x _ hw) ⟨show 0 + 1 ≤ 5 from by omega, show 8 + (2 + 11) + 0 ≤ 113 from by omega⟩ (q0 := 0) rfl rfl (Nat.le_of_ble_eq_true rfl) dxQ_complete_30 ⟨Nat.le_of_ble_eq_true rfl, Nat.le_of_ble_eq_true rfl⟩ (fun v W1 hK H locs h => ?_)
    obtain ⟨r8, S9, rfl, rfl, hw⟩ := hK
    refine W.eq (g2 := F0 m 33 ls [.int r8]) rfl ?_
    refine lv_pop hx hb dxQ_complete_33 rfl ?_
    obtain ⟨d10, hw⟩ := hw
    exact txQ_complete_c34 Γ θ Z x y post X hr hlk hG d10 S9  hw _ _ h ls (lv_sub hl [0, 1, 2] rfl)
def wxQ_settle  (post : Unit → Rg → Prop) (S : Rg)  : Prop := (((S 27 3) = (3 : Int32)) → (((S 17 2) < (0 : Int32)) → post () (uu (uu S 27 9 (S 27 4)) 27 6 1)) ∧ ((¬ ((S 17 2) < (0 : Int32))) → (vp_in (S 17 2) 6) ∧ (((S 15 ((S 17 2).toNatClampNeg)) < (0 : Int32)) → post () (uu (uu S 27 9 (S 27 4)) 27 6 1)) ∧ ((¬ ((S 15 ((S 17 2).toNatClampNeg)) < (0 : Int32))) → wxQ_complete (fun r5 S6 => ((¬ (r5 = (0 : Int32))) → ((¬ ((S6 27 3) = (3 : Int32))) → ((¬ ((S6 27 3) = (3 : Int32))) → post () (uu S6 27 6 2)) ∧ (((S6 27 3) = (3 : Int32)) → post () (uu (uu S6 27 6 2) 27 10 (S6 27 4)))) ∧ (((S6 27 3) = (3 : Int32)) → ((¬ ((S6 27 3) = (3 : Int32))) → post () (uu S6 27 6 3)) ∧ (((S6 27 3) = (3 : Int32)) → post () (uu (uu S6 27 6 3) 27 10 (S6 27 4))))) ∧ ((r5 = (0 : Int32)) → post () S6)) (uu (uu S 27 9 (S 27 4)) 27 6 1) (S 15 ((S 17 2).toNatClampNeg)) (S 27 4)))) ∧ ((¬ ((S 27 3) = (3 : Int32))) → ((¬ ((S 27 3) = (2 : Int32))) → post () (uu (uu (uu S 27 6 0) 27 8 0) 27 7 (S 27 4))) ∧ (((S 27 3) = (2 : Int32)) → post () (uu (uu (uu S 27 6 0) 27 8 1) 27 7 (S 27 4))))
set_option maxHeartbeats 4000000 in
set_option maxRecDepth 100000 in
theorem mxQ_settle (l : Launch) (Γ : Gm) (θ : Nat → Nat) (S : Rg) (Z : va_W)  (post : Unit → Rg → Prop) (hw : wxQ_settle post S ) : MM l yxQ_settle cxQ_settle 1 none 6 135 Γ [.ref (θ 0)] (WM Γ θ S Z) (KK (fun _ : Unit => none) (fun S' => WM Γ θ S' Z) post) 0 0 := by
  refine MM_of (by decide) (Nat.le_of_ble_eq_true rfl) ?_
  intro p e s m below meth c X hr hlk hnm hG h ls hl
  have hx := X.1
  have hb := X.2.1
  have hl : lv_has ls 1 [(0, .ref (θ 0))] := hl
  unfold wxQ_settle at hw
  refine lv_aload_n hx hb dxQ_settle_0 rfl (lv_at hl 0 rfl) ?_
  refine gx_xQ_148 X hG h (x := S 27 3) rfl dxQ_settle_1 ?_
  refine lv_iconst (v := 3) hx hb dxQ_settle_4 (by decide) ?_
  refine lv_icmp_eq (tgt := 39) hx hb dxQ_settle_5 (by decide) (fun c1 => ?_) (fun c1 => ?_)
  · have hw := hw.1 c1
    refine lv_aload_n hx hb dxQ_settle_39 rfl (lv_at hl 0 rfl) ?_
    refine lv_aload_n hx hb dxQ_settle_40 rfl (lv_at hl 0 rfl) ?_
    refine gx_xQ_151 X hG h (x := S 27 4) rfl dxQ_settle_41 ?_
    refine px_xQ_83 X hG h dxQ_settle_44 (fun H locs h => ?_)
    refine lv_aload_n hx hb dxQ_settle_47 rfl (lv_at hl 0 rfl) ?_
    refine lv_iconst (v := 1) hx hb dxQ_settle_48 (by decide) ?_
    refine px_xQ_138 X hG h dxQ_settle_49 (fun H locs h => ?_)
    refine lv_aload_n hx hb dxQ_settle_52 rfl (lv_at hl 0 rfl) ?_
    refine gx_xQ_59 X hG h (x := S 17 2) rfl dxQ_settle_53 ?_
    refine lv_if_lt (tgt := 91) hx hb dxQ_settle_56 (by decide) (fun c2 => ?_) (fun c2 => ?_)
    · have hw := hw.1 c2
      exact z_vret X hr hlk h ⟨_, _, rfl, rfl, hw⟩ dxQ_settle_91
    · have hw := hw.2 c2
      refine lv_aload_n hx hb dxQ_settle_59 rfl (lv_at hl 0 rfl) ?_
      refine gx_xQ_56 X hG h dxQ_settle_60 ?_
      refine lv_aload_n hx hb dxQ_settle_63 rfl (lv_at hl 0 rfl) ?_
      refine gx_xQ_59 X hG h (x := S 17 2) rfl dxQ_settle_64 ?_
      obtain ⟨o3, hw⟩ := hw
      refine lq_8 X hG h o3 (x := S 15 ((S 17 2).toNatClampNeg)) rfl dxQ_settle_67 ?_
      refine lv_if_lt (tgt := 91) hx hb dxQ_settle_68 (by decide) (fun c4 => ?_) (fun c4 => ?_)
      · have hw := hw.1 c4
        exact z_vret X hr hlk h ⟨_, _, rfl, rfl, hw⟩ dxQ_settle_91
      · have hw := hw.2 c4
        refine lv_aload_n hx hb dxQ_settle_71 rfl (lv_at hl 0 rfl) ?_
        refine lv_aload_n hx hb dxQ_settle_72 rfl (lv_at hl 0 rfl) ?_
        refine gx_xQ_56 X hG h dxQ_settle_73 ?_
        refine lv_aload_n hx hb dxQ_settle_76 rfl (lv_at hl 0 rfl) ?_
        refine gx_xQ_59 X hG h (x := S 17 2) rfl dxQ_settle_77 ?_
        refine lq_8 X hG h o3 (x := S 15 ((S 17 2).toNatClampNeg)) rfl dxQ_settle_80 ?_
        refine lv_aload_n hx hb dxQ_settle_81 rfl (lv_at hl 0 rfl) ?_
        refine gx_xQ_83 X hG h (x := S 27 4) rfl dxQ_settle_82 ?_
        refine cx_xQ_236 (As := [.int (S 15 ((S 17 2).toNatClampNeg)), .int (S 27 4)]) (rest := []) X hG h hl.1 (mxQ_complete l Γ θ (uu (uu S 27 9 (S 27 4)) 27 6 1) Z (S 15 ((S 17 2).toNatClampNeg)) (S 27 4) _ hw) ⟨show 5 + 1 ≤ 6 from by omega, show 8 + (3 + 11) + 113 ≤ 135 from by omega⟩ (q0 := 0) rfl rfl (Nat.le_of_ble_eq_true rfl) dxQ_settle_85 ⟨Nat.le_of_ble_eq_true rfl, Nat.le_of_ble_eq_true rfl⟩ (fun v W1 hK H locs h => ?_)
        obtain ⟨r5, S6, rfl, rfl, hw⟩ := hK
        refine W.eq (g2 := F0 m 88 ls [.int r5]) rfl ?_
        refine lv_if_ne (tgt := 92) hx hb dxQ_settle_88 (by decide) (fun c7 => ?_) (fun c7 => ?_)
        · have hw := hw.1 c7
          refine lv_aload_n hx hb dxQ_settle_92 rfl (lv_at hl 0 rfl) ?_
          refine lv_aload_n hx hb dxQ_settle_93 rfl (lv_at hl 0 rfl) ?_
          refine gx_xQ_148 X hG h (x := S6 27 3) rfl dxQ_settle_94 ?_
          refine lv_iconst (v := 3) hx hb dxQ_settle_97 (by decide) ?_
          refine lv_icmp_ne (tgt := 105) hx hb dxQ_settle_98 (by decide) (fun c8 => ?_) (fun c8 => ?_)
          · have hw := hw.1 c8
            refine lv_iconst (v := 2) hx hb dxQ_settle_105 (by decide) ?_
            refine px_xQ_138 X hG h dxQ_settle_106 (fun H locs h => ?_)
            refine lv_aload_n hx hb dxQ_settle_109 rfl (lv_at hl 0 rfl) ?_
            refine gx_xQ_148 X hG h (x := S6 27 3) rfl dxQ_settle_110 ?_
            refine lv_iconst (v := 3) hx hb dxQ_settle_113 (by decide) ?_
            refine lv_icmp_ne (tgt := 125) hx hb dxQ_settle_114 (by decide) (fun c9 => ?_) (fun c9 => ?_)
            · have hw := hw.1 c9
              exact z_vret X hr hlk h ⟨_, _, rfl, rfl, hw⟩ dxQ_settle_125
            · have hw := hw.2 c9
              refine lv_aload_n hx hb dxQ_settle_117 rfl (lv_at hl 0 rfl) ?_
              refine lv_aload_n hx hb dxQ_settle_118 rfl (lv_at hl 0 rfl) ?_
              refine gx_xQ_151 X hG h (x := S6 27 4) rfl dxQ_settle_119 ?_
              refine px_xQ_86 X hG h dxQ_settle_122 (fun H locs h => ?_)
              exact z_vret X hr hlk h ⟨_, _, rfl, rfl, hw⟩ dxQ_settle_125
          · have hw := hw.2 c8
            refine lv_iconst (v := 3) hx hb dxQ_settle_101 (by decide) ?_
            refine lv_goto (tgt := 106) hx hb dxQ_settle_102 (by decide) ?_
            refine px_xQ_138 X hG h dxQ_settle_106 (fun H locs h => ?_)
            refine lv_aload_n hx hb dxQ_settle_109 rfl (lv_at hl 0 rfl) ?_
            refine gx_xQ_148 X hG h (x := S6 27 3) rfl dxQ_settle_110 ?_
            refine lv_iconst (v := 3) hx hb dxQ_settle_113 (by decide) ?_
            refine lv_icmp_ne (tgt := 125) hx hb dxQ_settle_114 (by decide) (fun c10 => ?_) (fun c10 => ?_)
            · have hw := hw.1 c10
              exact z_vret X hr hlk h ⟨_, _, rfl, rfl, hw⟩ dxQ_settle_125
            · have hw := hw.2 c10
              refine lv_aload_n hx hb dxQ_settle_117 rfl (lv_at hl 0 rfl) ?_
              refine lv_aload_n hx hb dxQ_settle_118 rfl (lv_at hl 0 rfl) ?_
              refine gx_xQ_151 X hG h (x := S6 27 4) rfl dxQ_settle_119 ?_
              refine px_xQ_86 X hG h dxQ_settle_122 (fun H locs h => ?_)
              exact z_vret X hr hlk h ⟨_, _, rfl, rfl, hw⟩ dxQ_settle_125
        · have hw := hw.2 c7
          exact z_vret X hr hlk h ⟨_, _, rfl, rfl, hw⟩ dxQ_settle_91
  · have hw := hw.2 c1
    refine lv_aload_n hx hb dxQ_settle_8 rfl (lv_at hl 0 rfl) ?_
    refine lv_iconst (v := 0) hx hb dxQ_settle_9 (by decide) ?_
    refine px_xQ_138 X hG h dxQ_settle_10 (fun H locs h => ?_)
    refine lv_aload_n hx hb dxQ_settle_13 rfl (lv_at hl 0 rfl) ?_
    refine lv_aload_n hx hb dxQ_settle_14 rfl (lv_at hl 0 rfl) ?_
    refine gx_xQ_148 X hG h (x := S 27 3) rfl dxQ_settle_15 ?_
    refine lv_iconst (v := 2) hx hb dxQ_settle_18 (by decide) ?_
    refine lv_icmp_ne (tgt := 26) hx hb dxQ_settle_19 (by decide) (fun c11 => ?_) (fun c11 => ?_)
    · have hw := hw.1 c11
      refine lv_iconst (v := 0) hx hb dxQ_settle_26 (by decide) ?_
      refine px_xQ_233 X hG h rfl rfl dxQ_settle_27 (fun H locs h => ?_)
      refine lv_aload_n hx hb dxQ_settle_30 rfl (lv_at hl 0 rfl) ?_
      refine lv_aload_n hx hb dxQ_settle_31 rfl (lv_at hl 0 rfl) ?_
      refine gx_xQ_151 X hG h (x := S 27 4) rfl dxQ_settle_32 ?_
      refine px_xQ_181 X hG h dxQ_settle_35 (fun H locs h => ?_)
      exact z_vret X hr hlk h ⟨_, _, rfl, rfl, hw⟩ dxQ_settle_38
    · have hw := hw.2 c11
      refine lv_iconst (v := 1) hx hb dxQ_settle_22 (by decide) ?_
      refine lv_goto (tgt := 27) hx hb dxQ_settle_23 (by decide) ?_
      refine px_xQ_233 X hG h rfl rfl dxQ_settle_27 (fun H locs h => ?_)
      refine lv_aload_n hx hb dxQ_settle_30 rfl (lv_at hl 0 rfl) ?_
      refine lv_aload_n hx hb dxQ_settle_31 rfl (lv_at hl 0 rfl) ?_
      refine gx_xQ_151 X hG h (x := S 27 4) rfl dxQ_settle_32 ?_
      refine px_xQ_181 X hG h dxQ_settle_35 (fun H locs h => ?_)
      exact z_vret X hr hlk h ⟨_, _, rfl, rfl, hw⟩ dxQ_settle_38
def wxQ_letter  (post : Unit → Rg → Prop) (S : Rg) (x : Int32) : Prop := (vp_in (S 28 0) 400) ∧ (((300 : Int32) ≤ (S 28 0)) → post () (uu S 26 ((S 28 0).toNatClampNeg) x)) ∧ ((¬ ((300 : Int32) ≤ (S 28 0))) → post () (uu (uu S 26 ((S 28 0).toNatClampNeg) x) 28 0 ((S 28 0) + 1)))
set_option maxHeartbeats 4000000 in
set_option maxRecDepth 100000 in
theorem mxQ_letter (l : Launch) (Γ : Gm) (θ : Nat → Nat) (S : Rg) (Z : va_W) (x : Int32) (post : Unit → Rg → Prop) (hw : wxQ_letter post S x) : MM l yxQ_letter cxQ_letter 2 none 0 0 Γ [.ref (θ 0), .int x] (WM Γ θ S Z) (KK (fun _ : Unit => none) (fun S' => WM Γ θ S' Z) post) 0 0 := by
  refine MM_of (by decide) (Nat.le_of_ble_eq_true rfl) ?_
  intro p e s m below meth c X hr hlk hnm hG h ls hl
  have hx := X.1
  have hb := X.2.1
  have hl : lv_has ls 2 [(0, .ref (θ 0)), (1, .int x)] := hl
  unfold wxQ_letter at hw
  refine lv_aload_n hx hb dxQ_letter_0 rfl (lv_at hl 0 rfl) ?_
  refine gx_xQ_107 X hG h dxQ_letter_1 ?_
  refine lv_aload_n hx hb dxQ_letter_4 rfl (lv_at hl 0 rfl) ?_
  refine gx_xQ_245 X hG h (x := S 28 0) rfl dxQ_letter_5 ?_
  refine lv_iload_n hx hb dxQ_letter_8 rfl (lv_at hl 1 rfl) ?_
  obtain ⟨o1, hw⟩ := hw
  refine sq_22 X hG h o1 dxQ_letter_9 (fun H locs h => ?_)
  refine lv_aload_n hx hb dxQ_letter_10 rfl (lv_at hl 0 rfl) ?_
  refine gx_xQ_245 X hG h (x := S 28 0) rfl dxQ_letter_11 ?_
  refine lv_sipush (v := 300) hx hb dxQ_letter_14 (by decide) ?_
  refine lv_icmp_ge (tgt := 30) hx hb dxQ_letter_17 (by decide) (fun c2 => ?_) (fun c2 => ?_)
  · have hw := hw.1 c2
    exact z_vret X hr hlk h ⟨_, _, rfl, rfl, hw⟩ dxQ_letter_30
  · have hw := hw.2 c2
    refine lv_aload_n hx hb dxQ_letter_20 rfl (lv_at hl 0 rfl) ?_
    refine lv_dup hx hb dxQ_letter_21 rfl ?_
    refine gx_xQ_245 X hG h (x := S 28 0) rfl dxQ_letter_22 ?_
    refine lv_iconst (v := 1) hx hb dxQ_letter_25 (by decide) ?_
    refine lv_iadd hx hb dxQ_letter_26 ?_
    refine px_xQ_245 X hG h dxQ_letter_27 (fun H locs h => ?_)
    exact z_vret X hr hlk h ⟨_, _, rfl, rfl, hw⟩ dxQ_letter_30
def wxQ_word_c7  (post : Unit → Rg → Prop) (x : Int64) (y : Int32) : Nat → Rg → Int32 → Int32 → Prop
  | 0, _, _, _ => False
  | d + 1, S, a4, a5 => ((a5 < (0 : Int32)) → post () S) ∧ ((¬ (a5 < (0 : Int32))) → ((¬ ((((x >>> (a5.toInt64 &&& 63)).toInt32) &&& 31) = (0 : Int32))) → ((a4 = (0 : Int32)) → wxQ_letter (fun (_ : Unit) S5 => wxQ_word_c7 post x y d S5 (0 : Int32) (a5 + -5)) S ((((x >>> (a5.toInt64 &&& 63)).toInt32) &&& 31) + 96)) ∧ ((¬ (a4 = (0 : Int32))) → ((y = (0 : Int32)) → wxQ_letter (fun (_ : Unit) S8 => wxQ_word_c7 post x y d S8 (0 : Int32) (a5 + -5)) S ((((x >>> (a5.toInt64 &&& 63)).toInt32) &&& 31) + 96)) ∧ ((¬ (y = (0 : Int32))) → wxQ_letter (fun (_ : Unit) S10 => wxQ_word_c7 post x y d S10 (0 : Int32) (a5 + -5)) S ((((x >>> (a5.toInt64 &&& 63)).toInt32) &&& 31) + 64)))) ∧ (((((x >>> (a5.toInt64 &&& 63)).toInt32) &&& 31) = (0 : Int32)) → wxQ_word_c7 post x y d S a4 (a5 + -5)))
set_option maxHeartbeats 4000000 in
set_option maxRecDepth 100000 in
theorem txQ_word_c7 {p : Program} {l : Launch} {e : Env} {s : State} {m : MethodId} {below : List Frame} {meth : Method} {c : Code} (Γ : Gm) (θ : Nat → Nat) (Z : va_W) (x : Int64) (y : Int32)  (post : Unit → Rg → Prop) (X : CallFix p m c cxQ_word 7 s ([.ref (θ 0), .long x, .int y] : List Value).toArray big RxQ) (hr : meth.sig.returnType = none) (hlk : meth.locks = false) (hG : GX Γ s s.heap) :
    ∀ (d : Nat) (S : Rg) (a4 : Int32) (a5 : Int32) (hw : wxQ_word_c7 post x y d S a4 a5) (H : Heap) (locs : List Loc) (h : HS Γ s (WM Γ θ S Z) H locs) (ls : Array Slot) (hl : lv_has ls 7 [(0, .ref (θ 0)), (1, .long x), (3, .int y), (4, .int a4), (5, .int a5)]), W p l e { frames := 1, cells := 0, slots := 0, locals := 21 } s m ([.ref (θ 0), .long x, .int y] : List Value).toArray below meth c H locs 0 0 (MQ below (QM Γ (KK (fun _ : Unit => none) (fun S' => WM Γ θ S' Z) post)) ([.ref (θ 0), .long x, .int y] : List Value).toArray s 0 0 (AA Γ)) (F0 m 7 ls []) := by
  have hx := X.1
  have hb := X.2.1
  intro d
  induction d with
  | zero => intro S a4 a5 hw; exact absurd hw (by simp [wxQ_word_c7])
  | succ d ih =>
    intro S a4 a5 hw H locs h ls hl
    rw [wxQ_word_c7] at hw
    refine lv_iload hx hb dxQ_word_7 (lv_at hl 4 rfl) ?_
    refine lv_if_lt (tgt := 62) hx hb dxQ_word_9 (by decide) (fun c1 => ?_) (fun c1 => ?_)
    · have hw := hw.1 c1
      exact z_vret X hr hlk h ⟨_, _, rfl, rfl, hw⟩ dxQ_word_62
    · have hw := hw.2 c1
      refine lv_lload_n hx hb dxQ_word_12 rfl (lv_at hl 1 rfl) ?_
      refine lv_iload hx hb dxQ_word_13 (lv_at hl 4 rfl) ?_
      refine lv_lshr (v := x >>> (a5.toInt64 &&& 63)) hx hb dxQ_word_15 rfl ?_
      refine lv_l2i (v := (x >>> (a5.toInt64 &&& 63)).toInt32) hx hb dxQ_word_16 rfl ?_
      refine lv_bipush (v := 31) hx hb dxQ_word_17 (by decide) ?_
      refine lv_iand hx hb dxQ_word_19 ?_
      refine lv_istore (lv' := [(6, .int (((x >>> (a5.toInt64 &&& 63)).toInt32) &&& 31)), (0, .ref (θ 0)), (1, .long x), (3, .int y), (4, .int a4), (5, .int a5)]) hx hb dxQ_word_20 hl (by decide) rfl (fun ls hl => ?_)
      refine lv_iload hx hb dxQ_word_22 (lv_at hl 0 rfl) ?_
      refine lv_if_ne (tgt := 30) hx hb dxQ_word_24 (by decide) (fun c2 => ?_) (fun c2 => ?_)
      · have hw := hw.1 c2
        refine lv_aload_n hx hb dxQ_word_30 rfl (lv_at hl 1 rfl) ?_
        refine lv_iload hx hb dxQ_word_31 (lv_at hl 0 rfl) ?_
        refine lv_iload hx hb dxQ_word_33 (lv_at hl 4 rfl) ?_
        refine lv_if_eq (tgt := 47) hx hb dxQ_word_35 (by decide) (fun c3 => ?_) (fun c3 => ?_)
        · have hw := hw.1 c3
          refine lv_bipush (v := 96) hx hb dxQ_word_47 (by decide) ?_
          refine lv_iadd hx hb dxQ_word_49 ?_
          refine cx_xQ_248 (As := [.int ((((x >>> (a5.toInt64 &&& 63)).toInt32) &&& 31) + 96)]) (rest := []) X hG h hl.1 (mxQ_letter l Γ θ S Z ((((x >>> (a5.toInt64 &&& 63)).toInt32) &&& 31) + 96) _ hw) ⟨show 0 + 1 ≤ 1 from by omega, show 8 + (2 + 11) + 0 ≤ 21 from by omega⟩ (q0 := 0) rfl rfl (Nat.le_of_ble_eq_true rfl) dxQ_word_50 ⟨Nat.le_of_ble_eq_true rfl, Nat.le_of_ble_eq_true rfl⟩ (fun v W1 hK H locs h => ?_)
          obtain ⟨r4, S5, rfl, rfl, hw⟩ := hK
          refine W.eq (g2 := F0 m 53 ls []) rfl ?_
          refine lv_iconst (v := 0) hx hb dxQ_word_53 (by decide) ?_
          refine lv_istore (lv' := [(4, .int 0), (6, .int (((x >>> (a5.toInt64 &&& 63)).toInt32) &&& 31)), (0, .ref (θ 0)), (1, .long x), (3, .int y), (5, .int a5)]) hx hb dxQ_word_54 hl (by decide) rfl (fun ls hl => ?_)
          refine lv_iinc (v := a5 + -5) (lv' := [(5, .int (a5 + -5)), (4, .int 0), (6, .int (((x >>> (a5.toInt64 &&& 63)).toInt32) &&& 31)), (0, .ref (θ 0)), (1, .long x), (3, .int y)]) hx hb dxQ_word_56 hl (k := 5) rfl rfl (by decide) rfl (fun ls hl => ?_)
          refine lv_goto (tgt := 7) hx hb dxQ_word_59 (by decide) ?_
          exact ih S5 (0 : Int32) (a5 + -5) hw _ _ h ls (lv_sub hl [3, 4, 5, 1, 0] rfl)
        · have hw := hw.2 c3
          refine lv_iload_n hx hb dxQ_word_38 rfl (lv_at hl 3 rfl) ?_
          refine lv_if_eq (tgt := 47) hx hb dxQ_word_39 (by decide) (fun c6 => ?_) (fun c6 => ?_)
          · have hw := hw.1 c6
            refine lv_bipush (v := 96) hx hb dxQ_word_47 (by decide) ?_
            refine lv_iadd hx hb dxQ_word_49 ?_
            refine cx_xQ_248 (As := [.int ((((x >>> (a5.toInt64 &&& 63)).toInt32) &&& 31) + 96)]) (rest := []) X hG h hl.1 (mxQ_letter l Γ θ S Z ((((x >>> (a5.toInt64 &&& 63)).toInt32) &&& 31) + 96) _ hw) ⟨show 0 + 1 ≤ 1 from by omega, show 8 + (2 + 11) + 0 ≤ 21 from by omega⟩ (q0 := 0) rfl rfl (Nat.le_of_ble_eq_true rfl) dxQ_word_50 ⟨Nat.le_of_ble_eq_true rfl, Nat.le_of_ble_eq_true rfl⟩ (fun v W1 hK H locs h => ?_)
            obtain ⟨r7, S8, rfl, rfl, hw⟩ := hK
            refine W.eq (g2 := F0 m 53 ls []) rfl ?_
            refine lv_iconst (v := 0) hx hb dxQ_word_53 (by decide) ?_
            refine lv_istore (lv' := [(4, .int 0), (6, .int (((x >>> (a5.toInt64 &&& 63)).toInt32) &&& 31)), (0, .ref (θ 0)), (1, .long x), (3, .int y), (5, .int a5)]) hx hb dxQ_word_54 hl (by decide) rfl (fun ls hl => ?_)
            refine lv_iinc (v := a5 + -5) (lv' := [(5, .int (a5 + -5)), (4, .int 0), (6, .int (((x >>> (a5.toInt64 &&& 63)).toInt32) &&& 31)), (0, .ref (θ 0)), (1, .long x), (3, .int y)]) hx hb dxQ_word_56 hl (k := 5) rfl rfl (by decide) rfl (fun ls hl => ?_)
            refine lv_goto (tgt := 7) hx hb dxQ_word_59 (by decide) ?_
            exact ih S8 (0 : Int32) (a5 + -5) hw _ _ h ls (lv_sub hl [3, 4, 5, 1, 0] rfl)
          · have hw := hw.2 c6
            refine lv_bipush (v := 64) hx hb dxQ_word_42 (by decide) ?_
            refine lv_goto (tgt := 49) hx hb dxQ_word_44 (by decide) ?_
            refine lv_iadd hx hb dxQ_word_49 ?_
            refine cx_xQ_248 (As := [.int ((((x >>> (a5.toInt64 &&& 63)).toInt32) &&& 31) + 64)]) (rest := []) X hG h hl.1 (mxQ_letter l Γ θ S Z ((((x >>> (a5.toInt64 &&& 63)).toInt32) &&& 31) + 64) _ hw) ⟨show 0 + 1 ≤ 1 from by omega, show 8 + (2 + 11) + 0 ≤ 21 from by omega⟩ (q0 := 0) rfl rfl (Nat.le_of_ble_eq_true rfl) dxQ_word_50 ⟨Nat.le_of_ble_eq_true rfl, Nat.le_of_ble_eq_true rfl⟩ (fun v W1 hK H locs h => ?_)
            obtain ⟨r9, S10, rfl, rfl, hw⟩ := hK
            refine W.eq (g2 := F0 m 53 ls []) rfl ?_
            refine lv_iconst (v := 0) hx hb dxQ_word_53 (by decide) ?_
            refine lv_istore (lv' := [(4, .int 0), (6, .int (((x >>> (a5.toInt64 &&& 63)).toInt32) &&& 31)), (0, .ref (θ 0)), (1, .long x), (3, .int y), (5, .int a5)]) hx hb dxQ_word_54 hl (by decide) rfl (fun ls hl => ?_)
            refine lv_iinc (v := a5 + -5) (lv' := [(5, .int (a5 + -5)), (4, .int 0), (6, .int (((x >>> (a5.toInt64 &&& 63)).toInt32) &&& 31)), (0, .ref (θ 0)), (1, .long x), (3, .int y)]) hx hb dxQ_word_56 hl (k := 5) rfl rfl (by decide) rfl (fun ls hl => ?_)
            refine lv_goto (tgt := 7) hx hb dxQ_word_59 (by decide) ?_
            exact ih S10 (0 : Int32) (a5 + -5) hw _ _ h ls (lv_sub hl [3, 4, 5, 1, 0] rfl)
      · have hw := hw.2 c2
        refine lv_goto (tgt := 56) hx hb dxQ_word_27 (by decide) ?_
        refine lv_iinc (v := a5 + -5) (lv' := [(5, .int (a5 + -5)), (6, .int (((x >>> (a5.toInt64 &&& 63)).toInt32) &&& 31)), (0, .ref (θ 0)), (1, .long x), (3, .int y), (4, .int a4)]) hx hb dxQ_word_56 hl (k := 5) rfl rfl (by decide) rfl (fun ls hl => ?_)
        refine lv_goto (tgt := 7) hx hb dxQ_word_59 (by decide) ?_
        exact ih S a4 (a5 + -5) hw _ _ h ls (lv_sub hl [2, 3, 4, 5, 0] rfl)
def wxQ_word  (post : Unit → Rg → Prop) (S : Rg) (x : Int64) (y : Int32) : Prop := ∃ d11 : Nat, wxQ_word_c7 post x y d11 S (1 : Int32) (60 : Int32)
set_option maxHeartbeats 4000000 in
set_option maxRecDepth 100000 in
theorem mxQ_word (l : Launch) (Γ : Gm) (θ : Nat → Nat) (S : Rg) (Z : va_W) (x : Int64) (y : Int32) (post : Unit → Rg → Prop) (hw : wxQ_word post S x y) : MM l yxQ_word cxQ_word 7 none 1 21 Γ [.ref (θ 0), .long x, .int y] (WM Γ θ S Z) (KK (fun _ : Unit => none) (fun S' => WM Γ θ S' Z) post) 0 0 := by
  refine MM_of (by decide) (Nat.le_of_ble_eq_true rfl) ?_
  intro p e s m below meth c X hr hlk hnm hG h ls hl
  have hx := X.1
  have hb := X.2.1
  have hl : lv_has ls 7 [(0, .ref (θ 0)), (1, .long x), (3, .int y)] := hl
  unfold wxQ_word at hw
  refine lv_iconst (v := 1) hx hb dxQ_word_0 (by decide) ?_
  refine lv_istore (lv' := [(4, .int 1), (0, .ref (θ 0)), (1, .long x), (3, .int y)]) hx hb dxQ_word_1 hl (by decide) rfl (fun ls hl => ?_)
  refine lv_bipush (v := 60) hx hb dxQ_word_3 (by decide) ?_
  refine lv_istore (lv' := [(5, .int 60), (4, .int 1), (0, .ref (θ 0)), (1, .long x), (3, .int y)]) hx hb dxQ_word_5 hl (by decide) rfl (fun ls hl => ?_)
  obtain ⟨d11, hw⟩ := hw
  exact txQ_word_c7 Γ θ Z x y post X hr hlk hG d11 S (1 : Int32) (60 : Int32) hw _ _ h ls (lv_sub hl [2, 3, 4, 1, 0] rfl)
def wxQ_number_c49  (post : Unit → Rg → Prop) (x : Int32) : Nat → Rg → Int64 → Int64 → Prop
  | 0, _, _, _ => False
  | d + 1, S, a2, a4 => (((lg_cmp a4 (0 : Int64)) ≤ (0 : Int32)) → post () S) ∧ ((¬ ((lg_cmp a4 (0 : Int64)) ≤ (0 : Int32))) → (¬ a4 = 0) ∧ wxQ_letter (fun (_ : Unit) S4 => wxQ_number_c49 post x d S4 a2 (a4 / (10 : Int64))) S (48 + (((a2 / a4) - (a2 / a4) / (10 : Int64) * (10 : Int64)).toInt32)))
set_option maxHeartbeats 4000000 in
set_option maxRecDepth 100000 in
theorem txQ_number_c49 {p : Program} {l : Launch} {e : Env} {s : State} {m : MethodId} {below : List Frame} {meth : Method} {c : Code} (Γ : Gm) (θ : Nat → Nat) (Z : va_W) (x : Int32)  (post : Unit → Rg → Prop) (X : CallFix p m c cxQ_number 6 s ([.ref (θ 0), .int x] : List Value).toArray big RxQ) (hr : meth.sig.returnType = none) (hlk : meth.locks = false) (hG : GX Γ s s.heap) :
    ∀ (d : Nat) (S : Rg) (a2 : Int64) (a4 : Int64) (hw : wxQ_number_c49 post x d S a2 a4) (H : Heap) (locs : List Loc) (h : HS Γ s (WM Γ θ S Z) H locs) (ls : Array Slot) (hl : lv_has ls 6 [(0, .ref (θ 0)), (1, .int x), (2, .long a2), (4, .long a4)]), W p l e { frames := 1, cells := 0, slots := 0, locals := 21 } s m ([.ref (θ 0), .int x] : List Value).toArray below meth c H locs 0 0 (MQ below (QM Γ (KK (fun _ : Unit => none) (fun S' => WM Γ θ S' Z) post)) ([.ref (θ 0), .int x] : List Value).toArray s 0 0 (AA Γ)) (F0 m 49 ls []) := by
  have hx := X.1
  have hb := X.2.1
  intro d
  induction d with
  | zero => intro S a2 a4 hw; exact absurd hw (by simp [wxQ_number_c49])
  | succ d ih =>
    intro S a2 a4 hw H locs h ls hl
    rw [wxQ_number_c49] at hw
    refine lv_lload hx hb dxQ_number_49 (lv_at hl 3 rfl) ?_
    refine lv_lconst (v := 0) hx hb dxQ_number_51 (by decide) ?_
    refine W.lcmp hx hb dxQ_number_52 ?_
    refine lv_if_le (tgt := 83) hx hb dxQ_number_53 (by decide) (fun c1 => ?_) (fun c1 => ?_)
    · have hw := hw.1 c1
      exact z_vret X hr hlk h ⟨_, _, rfl, rfl, hw⟩ dxQ_number_83
    · have hw := hw.2 c1
      refine lv_aload_n hx hb dxQ_number_56 rfl (lv_at hl 0 rfl) ?_
      refine lv_bipush (v := 48) hx hb dxQ_number_57 (by decide) ?_
      refine lv_lload_n hx hb dxQ_number_59 rfl (lv_at hl 2 rfl) ?_
      refine lv_lload hx hb dxQ_number_60 (lv_at hl 3 rfl) ?_
      obtain ⟨o2, hw⟩ := hw
      refine lv_ldiv hx hb dxQ_number_62 o2 ?_
      refine lv_ldc2 (v := 10) hx hb X.2.2.2.1 (X.2.2.2.2 _ kL_xQ_251) dxQ_number_63 ?_
      refine lv_lrem hx hb dxQ_number_66 (by decide) ?_
      refine lv_l2i (v := ((a2 / a4) - (a2 / a4) / (10 : Int64) * (10 : Int64)).toInt32) hx hb dxQ_number_67 rfl ?_
      refine lv_iadd hx hb dxQ_number_68 ?_
      refine cx_xQ_248 (As := [.int (48 + (((a2 / a4) - (a2 / a4) / (10 : Int64) * (10 : Int64)).toInt32))]) (rest := []) X hG h hl.1 (mxQ_letter l Γ θ S Z (48 + (((a2 / a4) - (a2 / a4) / (10 : Int64) * (10 : Int64)).toInt32)) _ hw) ⟨show 0 + 1 ≤ 1 from by omega, show 8 + (2 + 11) + 0 ≤ 21 from by omega⟩ (q0 := 0) rfl rfl (Nat.le_of_ble_eq_true rfl) dxQ_number_69 ⟨Nat.le_of_ble_eq_true rfl, Nat.le_of_ble_eq_true rfl⟩ (fun v W1 hK H locs h => ?_)
      obtain ⟨r3, S4, rfl, rfl, hw⟩ := hK
      refine W.eq (g2 := F0 m 72 ls []) rfl ?_
      refine lv_lload hx hb dxQ_number_72 (lv_at hl 3 rfl) ?_
      refine lv_ldc2 (v := 10) hx hb X.2.2.2.1 (X.2.2.2.2 _ kL_xQ_251) dxQ_number_74 ?_
      refine lv_ldiv hx hb dxQ_number_77 (by decide) ?_
      refine lv_lstore (lv' := [(4, .long (a4 / (10 : Int64))), (0, .ref (θ 0)), (1, .int x), (2, .long a2)]) hx hb dxQ_number_78 hl (by decide) rfl (fun ls hl => ?_)
      refine lv_goto (tgt := 49) hx hb dxQ_number_80 (by decide) ?_
      exact ih S4 a2 (a4 / (10 : Int64)) hw _ _ h ls (lv_sub hl [1, 2, 3, 0] rfl)
def wxQ_number_c27  (post : Unit → Rg → Prop) (x : Int32) : Nat → Rg → Int64 → Int64 → Prop
  | 0, _, _, _ => False
  | d + 1, S, a2, a4 => (((0 : Int32) < (lg_cmp (a4 * (10 : Int64)) a2)) → ∃ d5 : Nat, wxQ_number_c49 post x d5 S a2 a4) ∧ ((¬ ((0 : Int32) < (lg_cmp (a4 * (10 : Int64)) a2))) → wxQ_number_c27 post x d S a2 (a4 * (10 : Int64)))
set_option maxHeartbeats 4000000 in
set_option maxRecDepth 100000 in
theorem txQ_number_c27 {p : Program} {l : Launch} {e : Env} {s : State} {m : MethodId} {below : List Frame} {meth : Method} {c : Code} (Γ : Gm) (θ : Nat → Nat) (Z : va_W) (x : Int32)  (post : Unit → Rg → Prop) (X : CallFix p m c cxQ_number 6 s ([.ref (θ 0), .int x] : List Value).toArray big RxQ) (hr : meth.sig.returnType = none) (hlk : meth.locks = false) (hG : GX Γ s s.heap) :
    ∀ (d : Nat) (S : Rg) (a2 : Int64) (a4 : Int64) (hw : wxQ_number_c27 post x d S a2 a4) (H : Heap) (locs : List Loc) (h : HS Γ s (WM Γ θ S Z) H locs) (ls : Array Slot) (hl : lv_has ls 6 [(0, .ref (θ 0)), (1, .int x), (2, .long a2), (4, .long a4)]), W p l e { frames := 1, cells := 0, slots := 0, locals := 21 } s m ([.ref (θ 0), .int x] : List Value).toArray below meth c H locs 0 0 (MQ below (QM Γ (KK (fun _ : Unit => none) (fun S' => WM Γ θ S' Z) post)) ([.ref (θ 0), .int x] : List Value).toArray s 0 0 (AA Γ)) (F0 m 27 ls []) := by
  have hx := X.1
  have hb := X.2.1
  intro d
  induction d with
  | zero => intro S a2 a4 hw; exact absurd hw (by simp [wxQ_number_c27])
  | succ d ih =>
    intro S a2 a4 hw H locs h ls hl
    rw [wxQ_number_c27] at hw
    refine lv_lload hx hb dxQ_number_27 (lv_at hl 3 rfl) ?_
    refine lv_ldc2 (v := 10) hx hb X.2.2.2.1 (X.2.2.2.2 _ kL_xQ_251) dxQ_number_29 ?_
    refine lv_lmul hx hb dxQ_number_32 ?_
    refine lv_lload_n hx hb dxQ_number_33 rfl (lv_at hl 2 rfl) ?_
    refine W.lcmp hx hb dxQ_number_34 ?_
    refine lv_if_gt (tgt := 49) hx hb dxQ_number_35 (by decide) (fun c1 => ?_) (fun c1 => ?_)
    · have hw := hw.1 c1
      obtain ⟨d5, hw⟩ := hw
      exact txQ_number_c49 Γ θ Z x post X hr hlk hG d5 S a2 a4 hw _ _ h ls (lv_sub hl [0, 1, 2, 3] rfl)
    · have hw := hw.2 c1
      refine lv_lload hx hb dxQ_number_38 (lv_at hl 3 rfl) ?_
      refine lv_ldc2 (v := 10) hx hb X.2.2.2.1 (X.2.2.2.2 _ kL_xQ_251) dxQ_number_40 ?_
      refine lv_lmul hx hb dxQ_number_43 ?_
      refine lv_lstore (lv' := [(4, .long (a4 * (10 : Int64))), (0, .ref (θ 0)), (1, .int x), (2, .long a2)]) hx hb dxQ_number_44 hl (by decide) rfl (fun ls hl => ?_)
      refine lv_goto (tgt := 27) hx hb dxQ_number_46 (by decide) ?_
      exact ih S a2 (a4 * (10 : Int64)) hw _ _ h ls (lv_sub hl [1, 2, 3, 0] rfl)
def wxQ_number  (post : Unit → Rg → Prop) (S : Rg) (x : Int32) : Prop := (((0 : Int32) ≤ (lg_cmp x.toInt64 (0 : Int64))) → (((0 : Int32) ≤ (lg_cmp x.toInt64 (0 : Int64))) → ∃ d6 : Nat, wxQ_number_c27 post x d6 S x.toInt64 (1 : Int64)) ∧ ((¬ ((0 : Int32) ≤ (lg_cmp x.toInt64 (0 : Int64)))) → ∃ d7 : Nat, wxQ_number_c27 post x d7 S (-x.toInt64) (1 : Int64))) ∧ ((¬ ((0 : Int32) ≤ (lg_cmp x.toInt64 (0 : Int64)))) → wxQ_letter (fun (_ : Unit) S9 => (((0 : Int32) ≤ (lg_cmp x.toInt64 (0 : Int64))) → ∃ d11 : Nat, wxQ_number_c27 post x d11 S9 x.toInt64 (1 : Int64)) ∧ ((¬ ((0 : Int32) ≤ (lg_cmp x.toInt64 (0 : Int64)))) → ∃ d12 : Nat, wxQ_number_c27 post x d12 S9 (-x.toInt64) (1 : Int64))) S (45))
set_option maxHeartbeats 4000000 in
set_option maxRecDepth 100000 in
theorem mxQ_number (l : Launch) (Γ : Gm) (θ : Nat → Nat) (S : Rg) (Z : va_W) (x : Int32) (post : Unit → Rg → Prop) (hw : wxQ_number post S x) : MM l yxQ_number cxQ_number 6 none 1 21 Γ [.ref (θ 0), .int x] (WM Γ θ S Z) (KK (fun _ : Unit => none) (fun S' => WM Γ θ S' Z) post) 0 0 := by
  refine MM_of (by decide) (Nat.le_of_ble_eq_true rfl) ?_
  intro p e s m below meth c X hr hlk hnm hG h ls hl
  have hx := X.1
  have hb := X.2.1
  have hl : lv_has ls 6 [(0, .ref (θ 0)), (1, .int x)] := hl
  unfold wxQ_number at hw
  refine lv_iload_n hx hb dxQ_number_0 rfl (lv_at hl 1 rfl) ?_
  refine lv_i2l (v := x.toInt64) hx hb dxQ_number_1 rfl ?_
  refine lv_lstore_n (lv' := [(2, .long x.toInt64), (0, .ref (θ 0)), (1, .int x)]) hx hb dxQ_number_2 rfl hl (by decide) rfl (fun ls hl => ?_)
  refine lv_lload_n hx hb dxQ_number_3 rfl (lv_at hl 0 rfl) ?_
  refine lv_lconst (v := 0) hx hb dxQ_number_4 (by decide) ?_
  refine W.lcmp hx hb dxQ_number_5 ?_
  refine lv_if_ge (tgt := 15) hx hb dxQ_number_6 (by decide) (fun c1 => ?_) (fun c1 => ?_)
  · have hw := hw.1 c1
    refine lv_lload_n hx hb dxQ_number_15 rfl (lv_at hl 0 rfl) ?_
    refine lv_lconst (v := 0) hx hb dxQ_number_16 (by decide) ?_
    refine W.lcmp hx hb dxQ_number_17 ?_
    refine lv_if_ge (tgt := 24) hx hb dxQ_number_18 (by decide) (fun c2 => ?_) (fun c2 => ?_)
    · have hw := hw.1 c2
      refine lv_lconst (v := 1) hx hb dxQ_number_24 (by decide) ?_
      refine lv_lstore (lv' := [(4, .long (1 : Int64)), (2, .long x.toInt64), (0, .ref (θ 0)), (1, .int x)]) hx hb dxQ_number_25 hl (by decide) rfl (fun ls hl => ?_)
      obtain ⟨d6, hw⟩ := hw
      exact txQ_number_c27 Γ θ Z x post X hr hlk hG d6 S x.toInt64 (1 : Int64) hw _ _ h ls (lv_sub hl [2, 3, 1, 0] rfl)
    · have hw := hw.2 c2
      refine lv_lload_n hx hb dxQ_number_21 rfl (lv_at hl 0 rfl) ?_
      refine lv_lneg hx hb dxQ_number_22 ?_
      refine lv_lstore_n (lv' := [(2, .long (-x.toInt64)), (0, .ref (θ 0)), (1, .int x)]) hx hb dxQ_number_23 rfl hl (by decide) rfl (fun ls hl => ?_)
      refine lv_lconst (v := 1) hx hb dxQ_number_24 (by decide) ?_
      refine lv_lstore (lv' := [(4, .long (1 : Int64)), (2, .long (-x.toInt64)), (0, .ref (θ 0)), (1, .int x)]) hx hb dxQ_number_25 hl (by decide) rfl (fun ls hl => ?_)
      obtain ⟨d7, hw⟩ := hw
      exact txQ_number_c27 Γ θ Z x post X hr hlk hG d7 S (-x.toInt64) (1 : Int64) hw _ _ h ls (lv_sub hl [2, 3, 1, 0] rfl)
  · have hw := hw.2 c1
    refine lv_aload_n hx hb dxQ_number_9 rfl (lv_at hl 1 rfl) ?_
    refine lv_bipush (v := 45) hx hb dxQ_number_10 (by decide) ?_
    refine cx_xQ_248 (As := [.int 45]) (rest := []) X hG h hl.1 (mxQ_letter l Γ θ S Z (45) _ hw) ⟨show 0 + 1 ≤ 1 from by omega, show 8 + (2 + 11) + 0 ≤ 21 from by omega⟩ (q0 := 0) rfl rfl (Nat.le_of_ble_eq_true rfl) dxQ_number_12 ⟨Nat.le_of_ble_eq_true rfl, Nat.le_of_ble_eq_true rfl⟩ (fun v W1 hK H locs h => ?_)
    obtain ⟨r8, S9, rfl, rfl, hw⟩ := hK
    refine W.eq (g2 := F0 m 15 ls []) rfl ?_
    refine lv_lload_n hx hb dxQ_number_15 rfl (lv_at hl 0 rfl) ?_
    refine lv_lconst (v := 0) hx hb dxQ_number_16 (by decide) ?_
    refine W.lcmp hx hb dxQ_number_17 ?_
    refine lv_if_ge (tgt := 24) hx hb dxQ_number_18 (by decide) (fun c10 => ?_) (fun c10 => ?_)
    · have hw := hw.1 c10
      refine lv_lconst (v := 1) hx hb dxQ_number_24 (by decide) ?_
      refine lv_lstore (lv' := [(4, .long (1 : Int64)), (2, .long x.toInt64), (0, .ref (θ 0)), (1, .int x)]) hx hb dxQ_number_25 hl (by decide) rfl (fun ls hl => ?_)
      obtain ⟨d11, hw⟩ := hw
      exact txQ_number_c27 Γ θ Z x post X hr hlk hG d11 S9 x.toInt64 (1 : Int64) hw _ _ h ls (lv_sub hl [2, 3, 1, 0] rfl)
    · have hw := hw.2 c10
      refine lv_lload_n hx hb dxQ_number_21 rfl (lv_at hl 0 rfl) ?_
      refine lv_lneg hx hb dxQ_number_22 ?_
      refine lv_lstore_n (lv' := [(2, .long (-x.toInt64)), (0, .ref (θ 0)), (1, .int x)]) hx hb dxQ_number_23 rfl hl (by decide) rfl (fun ls hl => ?_)
      refine lv_lconst (v := 1) hx hb dxQ_number_24 (by decide) ?_
      refine lv_lstore (lv' := [(4, .long (1 : Int64)), (2, .long (-x.toInt64)), (0, .ref (θ 0)), (1, .int x)]) hx hb dxQ_number_25 hl (by decide) rfl (fun ls hl => ?_)
      obtain ⟨d12, hw⟩ := hw
      exact txQ_number_c27 Γ θ Z x post X hr hlk hG d12 S9 (-x.toInt64) (1 : Int64) hw _ _ h ls (lv_sub hl [2, 3, 1, 0] rfl)
def wxQ_name  (post : Unit → Rg → Prop) (S : Rg) (x : Int32) : Prop := (vp_in x 302) ∧ (((10 : Int32) ≤ (S 3 x.toNatClampNeg)) → wxQ_word (fun (_ : Unit) S4 => wxQ_number (fun (_ : Unit) S6 => wxQ_letter (fun (_ : Unit) S8 => wxQ_number (fun (_ : Unit) S10 => wxQ_letter (fun (_ : Unit) S12 => ((¬ ((S12 6 x.toNatClampNeg) = (0 : Int32))) → wxQ_letter (fun (_ : Unit) S15 => wxQ_number (fun (_ : Unit) S17 => post () S17) S15 (S15 6 x.toNatClampNeg)) S12 (43)) ∧ (((S12 6 x.toNatClampNeg) = (0 : Int32)) → post () S12)) S10 (41)) S8 (S8 4 x.toNatClampNeg)) S6 (40)) S4 (S 3 x.toNatClampNeg)) S (16110 : Int64) (1)) ∧ ((¬ ((10 : Int32) ≤ (S 3 x.toNatClampNeg))) → (vp_in (S 3 x.toNatClampNeg) 10) ∧ wxQ_word (fun (_ : Unit) S20 => wxQ_letter (fun (_ : Unit) S22 => wxQ_number (fun (_ : Unit) S24 => wxQ_letter (fun (_ : Unit) S26 => ((¬ ((S26 6 x.toNatClampNeg) = (0 : Int32))) → wxQ_letter (fun (_ : Unit) S29 => wxQ_number (fun (_ : Unit) S31 => post () S31) S29 (S29 6 x.toNatClampNeg)) S26 (43)) ∧ (((S26 6 x.toNatClampNeg) = (0 : Int32)) → post () S26)) S24 (41)) S22 (S22 4 x.toNatClampNeg)) S20 (40)) S (wds ((S 3 x.toNatClampNeg).toNatClampNeg)) (1))
set_option maxHeartbeats 4000000 in
set_option maxRecDepth 100000 in
theorem mxQ_name (l : Launch) (Γ : Gm) (θ : Nat → Nat) (S : Rg) (Z : va_W) (x : Int32) (post : Unit → Rg → Prop) (hw : wxQ_name post S x) : MM l yxQ_name cxQ_name 3 none 2 47 Γ [.ref (θ 0), .int x] (WM Γ θ S Z) (KK (fun _ : Unit => none) (fun S' => WM Γ θ S' Z) post) 0 0 := by
  refine MM_of (by decide) (Nat.le_of_ble_eq_true rfl) ?_
  intro p e s m below meth c X hr hlk hnm hG h ls hl
  have hx := X.1
  have hb := X.2.1
  have hl : lv_has ls 3 [(0, .ref (θ 0)), (1, .int x)] := hl
  unfold wxQ_name at hw
  refine lv_aload_n hx hb dxQ_name_0 rfl (lv_at hl 0 rfl) ?_
  refine gx_xQ_62 X hG h dxQ_name_1 ?_
  refine lv_iload_n hx hb dxQ_name_4 rfl (lv_at hl 1 rfl) ?_
  obtain ⟨o1, hw⟩ := hw
  refine lq_9 X hG h o1 (x := S 3 x.toNatClampNeg) rfl dxQ_name_5 ?_
  refine lv_istore_n (lv' := [(2, .int (S 3 x.toNatClampNeg)), (0, .ref (θ 0)), (1, .int x)]) hx hb dxQ_name_6 rfl hl (by decide) rfl (fun ls hl => ?_)
  refine lv_iload_n hx hb dxQ_name_7 rfl (lv_at hl 0 rfl) ?_
  refine lv_bipush (v := 10) hx hb dxQ_name_8 (by decide) ?_
  refine lv_icmp_ge (tgt := 27) hx hb dxQ_name_10 (by decide) (fun c2 => ?_) (fun c2 => ?_)
  · have hw := hw.1 c2
    refine lv_aload_n hx hb dxQ_name_27 rfl (lv_at hl 1 rfl) ?_
    refine lv_ldc2 (v := 16110) hx hb X.2.2.2.1 (X.2.2.2.2 _ kL_xQ_257) dxQ_name_28 ?_
    refine lv_iconst (v := 1) hx hb dxQ_name_31 (by decide) ?_
    refine cx_xQ_253 (As := [.long (16110 : Int64), .int 1]) (rest := []) X hG h hl.1 (mxQ_word l Γ θ S Z (16110 : Int64) (1) _ hw) ⟨show 1 + 1 ≤ 2 from by omega, show 8 + (7 + 11) + 21 ≤ 47 from by omega⟩ (q0 := 0) rfl rfl (Nat.le_of_ble_eq_true rfl) dxQ_name_32 ⟨Nat.le_of_ble_eq_true rfl, Nat.le_of_ble_eq_true rfl⟩ (fun v W1 hK H locs h => ?_)
    obtain ⟨r3, S4, rfl, rfl, hw⟩ := hK
    refine W.eq (g2 := F0 m 35 ls []) rfl ?_
    refine lv_aload_n hx hb dxQ_name_35 rfl (lv_at hl 1 rfl) ?_
    refine lv_iload_n hx hb dxQ_name_36 rfl (lv_at hl 0 rfl) ?_
    refine cx_xQ_259 (As := [.int (S 3 x.toNatClampNeg)]) (rest := []) X hG h hl.1 (mxQ_number l Γ θ S4 Z (S 3 x.toNatClampNeg) _ hw) ⟨show 1 + 1 ≤ 2 from by omega, show 8 + (6 + 11) + 21 ≤ 47 from by omega⟩ (q0 := 0) rfl rfl (Nat.le_of_ble_eq_true rfl) dxQ_name_37 ⟨Nat.le_of_ble_eq_true rfl, Nat.le_of_ble_eq_true rfl⟩ (fun v W1 hK H locs h => ?_)
    obtain ⟨r5, S6, rfl, rfl, hw⟩ := hK
    refine W.eq (g2 := F0 m 40 ls []) rfl ?_
    refine lv_aload_n hx hb dxQ_name_40 rfl (lv_at hl 1 rfl) ?_
    refine lv_bipush (v := 40) hx hb dxQ_name_41 (by decide) ?_
    refine cx_xQ_248 (As := [.int 40]) (rest := []) X hG h hl.1 (mxQ_letter l Γ θ S6 Z (40) _ hw) ⟨show 0 + 1 ≤ 2 from by omega, show 8 + (2 + 11) + 0 ≤ 47 from by omega⟩ (q0 := 0) rfl rfl (Nat.le_of_ble_eq_true rfl) dxQ_name_43 ⟨Nat.le_of_ble_eq_true rfl, Nat.le_of_ble_eq_true rfl⟩ (fun v W1 hK H locs h => ?_)
    obtain ⟨r7, S8, rfl, rfl, hw⟩ := hK
    refine W.eq (g2 := F0 m 46 ls []) rfl ?_
    refine lv_aload_n hx hb dxQ_name_46 rfl (lv_at hl 1 rfl) ?_
    refine lv_aload_n hx hb dxQ_name_47 rfl (lv_at hl 1 rfl) ?_
    refine gx_xQ_65 X hG h dxQ_name_48 ?_
    refine lv_iload_n hx hb dxQ_name_51 rfl (lv_at hl 2 rfl) ?_
    refine lq_10 X hG h o1 (x := S8 4 x.toNatClampNeg) rfl dxQ_name_52 ?_
    refine cx_xQ_259 (As := [.int (S8 4 x.toNatClampNeg)]) (rest := []) X hG h hl.1 (mxQ_number l Γ θ S8 Z (S8 4 x.toNatClampNeg) _ hw) ⟨show 1 + 1 ≤ 2 from by omega, show 8 + (6 + 11) + 21 ≤ 47 from by omega⟩ (q0 := 0) rfl rfl (Nat.le_of_ble_eq_true rfl) dxQ_name_53 ⟨Nat.le_of_ble_eq_true rfl, Nat.le_of_ble_eq_true rfl⟩ (fun v W1 hK H locs h => ?_)
    obtain ⟨r9, S10, rfl, rfl, hw⟩ := hK
    refine W.eq (g2 := F0 m 56 ls []) rfl ?_
    refine lv_aload_n hx hb dxQ_name_56 rfl (lv_at hl 1 rfl) ?_
    refine lv_bipush (v := 41) hx hb dxQ_name_57 (by decide) ?_
    refine cx_xQ_248 (As := [.int 41]) (rest := []) X hG h hl.1 (mxQ_letter l Γ θ S10 Z (41) _ hw) ⟨show 0 + 1 ≤ 2 from by omega, show 8 + (2 + 11) + 0 ≤ 47 from by omega⟩ (q0 := 0) rfl rfl (Nat.le_of_ble_eq_true rfl) dxQ_name_59 ⟨Nat.le_of_ble_eq_true rfl, Nat.le_of_ble_eq_true rfl⟩ (fun v W1 hK H locs h => ?_)
    obtain ⟨r11, S12, rfl, rfl, hw⟩ := hK
    refine W.eq (g2 := F0 m 62 ls []) rfl ?_
    refine lv_aload_n hx hb dxQ_name_62 rfl (lv_at hl 1 rfl) ?_
    refine gx_xQ_71 X hG h dxQ_name_63 ?_
    refine lv_iload_n hx hb dxQ_name_66 rfl (lv_at hl 2 rfl) ?_
    refine lq_12 X hG h o1 (x := S12 6 x.toNatClampNeg) rfl dxQ_name_67 ?_
    refine lv_if_ne (tgt := 72) hx hb dxQ_name_68 (by decide) (fun c13 => ?_) (fun c13 => ?_)
    · have hw := hw.1 c13
      refine lv_aload_n hx hb dxQ_name_72 rfl (lv_at hl 1 rfl) ?_
      refine lv_bipush (v := 43) hx hb dxQ_name_73 (by decide) ?_
      refine cx_xQ_248 (As := [.int 43]) (rest := []) X hG h hl.1 (mxQ_letter l Γ θ S12 Z (43) _ hw) ⟨show 0 + 1 ≤ 2 from by omega, show 8 + (2 + 11) + 0 ≤ 47 from by omega⟩ (q0 := 0) rfl rfl (Nat.le_of_ble_eq_true rfl) dxQ_name_75 ⟨Nat.le_of_ble_eq_true rfl, Nat.le_of_ble_eq_true rfl⟩ (fun v W1 hK H locs h => ?_)
      obtain ⟨r14, S15, rfl, rfl, hw⟩ := hK
      refine W.eq (g2 := F0 m 78 ls []) rfl ?_
      refine lv_aload_n hx hb dxQ_name_78 rfl (lv_at hl 1 rfl) ?_
      refine lv_aload_n hx hb dxQ_name_79 rfl (lv_at hl 1 rfl) ?_
      refine gx_xQ_71 X hG h dxQ_name_80 ?_
      refine lv_iload_n hx hb dxQ_name_83 rfl (lv_at hl 2 rfl) ?_
      refine lq_12 X hG h o1 (x := S15 6 x.toNatClampNeg) rfl dxQ_name_84 ?_
      refine cx_xQ_259 (As := [.int (S15 6 x.toNatClampNeg)]) (rest := []) X hG h hl.1 (mxQ_number l Γ θ S15 Z (S15 6 x.toNatClampNeg) _ hw) ⟨show 1 + 1 ≤ 2 from by omega, show 8 + (6 + 11) + 21 ≤ 47 from by omega⟩ (q0 := 0) rfl rfl (Nat.le_of_ble_eq_true rfl) dxQ_name_85 ⟨Nat.le_of_ble_eq_true rfl, Nat.le_of_ble_eq_true rfl⟩ (fun v W1 hK H locs h => ?_)
      obtain ⟨r16, S17, rfl, rfl, hw⟩ := hK
      refine W.eq (g2 := F0 m 88 ls []) rfl ?_
      exact z_vret X hr hlk h ⟨_, _, rfl, rfl, hw⟩ dxQ_name_88
    · have hw := hw.2 c13
      exact z_vret X hr hlk h ⟨_, _, rfl, rfl, hw⟩ dxQ_name_71
  · have hw := hw.2 c2
    refine lv_aload_n hx hb dxQ_name_13 rfl (lv_at hl 1 rfl) ?_
    refine lv_aload_n hx hb dxQ_name_14 rfl (lv_at hl 1 rfl) ?_
    refine gx_xQ_27 X hG h dxQ_name_15 ?_
    refine lv_iload_n hx hb dxQ_name_18 rfl (lv_at hl 0 rfl) ?_
    obtain ⟨o18, hw⟩ := hw
    refine lq_1 X hG h o18 dxQ_name_19 ?_
    refine lv_iconst (v := 1) hx hb dxQ_name_20 (by decide) ?_
    refine cx_xQ_253 (As := [.long (wds ((S 3 x.toNatClampNeg).toNatClampNeg)), .int 1]) (rest := []) X hG h hl.1 (mxQ_word l Γ θ S Z (wds ((S 3 x.toNatClampNeg).toNatClampNeg)) (1) _ hw) ⟨show 1 + 1 ≤ 2 from by omega, show 8 + (7 + 11) + 21 ≤ 47 from by omega⟩ (q0 := 0) rfl rfl (Nat.le_of_ble_eq_true rfl) dxQ_name_21 ⟨Nat.le_of_ble_eq_true rfl, Nat.le_of_ble_eq_true rfl⟩ (fun v W1 hK H locs h => ?_)
    obtain ⟨r19, S20, rfl, rfl, hw⟩ := hK
    refine W.eq (g2 := F0 m 24 ls []) rfl ?_
    refine lv_goto (tgt := 40) hx hb dxQ_name_24 (by decide) ?_
    refine lv_aload_n hx hb dxQ_name_40 rfl (lv_at hl 1 rfl) ?_
    refine lv_bipush (v := 40) hx hb dxQ_name_41 (by decide) ?_
    refine cx_xQ_248 (As := [.int 40]) (rest := []) X hG h hl.1 (mxQ_letter l Γ θ S20 Z (40) _ hw) ⟨show 0 + 1 ≤ 2 from by omega, show 8 + (2 + 11) + 0 ≤ 47 from by omega⟩ (q0 := 0) rfl rfl (Nat.le_of_ble_eq_true rfl) dxQ_name_43 ⟨Nat.le_of_ble_eq_true rfl, Nat.le_of_ble_eq_true rfl⟩ (fun v W1 hK H locs h => ?_)
    obtain ⟨r21, S22, rfl, rfl, hw⟩ := hK
    refine W.eq (g2 := F0 m 46 ls []) rfl ?_
    refine lv_aload_n hx hb dxQ_name_46 rfl (lv_at hl 1 rfl) ?_
    refine lv_aload_n hx hb dxQ_name_47 rfl (lv_at hl 1 rfl) ?_
    refine gx_xQ_65 X hG h dxQ_name_48 ?_
    refine lv_iload_n hx hb dxQ_name_51 rfl (lv_at hl 2 rfl) ?_
    refine lq_10 X hG h o1 (x := S22 4 x.toNatClampNeg) rfl dxQ_name_52 ?_
    refine cx_xQ_259 (As := [.int (S22 4 x.toNatClampNeg)]) (rest := []) X hG h hl.1 (mxQ_number l Γ θ S22 Z (S22 4 x.toNatClampNeg) _ hw) ⟨show 1 + 1 ≤ 2 from by omega, show 8 + (6 + 11) + 21 ≤ 47 from by omega⟩ (q0 := 0) rfl rfl (Nat.le_of_ble_eq_true rfl) dxQ_name_53 ⟨Nat.le_of_ble_eq_true rfl, Nat.le_of_ble_eq_true rfl⟩ (fun v W1 hK H locs h => ?_)
    obtain ⟨r23, S24, rfl, rfl, hw⟩ := hK
    refine W.eq (g2 := F0 m 56 ls []) rfl ?_
    refine lv_aload_n hx hb dxQ_name_56 rfl (lv_at hl 1 rfl) ?_
    refine lv_bipush (v := 41) hx hb dxQ_name_57 (by decide) ?_
    refine cx_xQ_248 (As := [.int 41]) (rest := []) X hG h hl.1 (mxQ_letter l Γ θ S24 Z (41) _ hw) ⟨show 0 + 1 ≤ 2 from by omega, show 8 + (2 + 11) + 0 ≤ 47 from by omega⟩ (q0 := 0) rfl rfl (Nat.le_of_ble_eq_true rfl) dxQ_name_59 ⟨Nat.le_of_ble_eq_true rfl, Nat.le_of_ble_eq_true rfl⟩ (fun v W1 hK H locs h => ?_)
    obtain ⟨r25, S26, rfl, rfl, hw⟩ := hK
    refine W.eq (g2 := F0 m 62 ls []) rfl ?_
    refine lv_aload_n hx hb dxQ_name_62 rfl (lv_at hl 1 rfl) ?_
    refine gx_xQ_71 X hG h dxQ_name_63 ?_
    refine lv_iload_n hx hb dxQ_name_66 rfl (lv_at hl 2 rfl) ?_
    refine lq_12 X hG h o1 (x := S26 6 x.toNatClampNeg) rfl dxQ_name_67 ?_
    refine lv_if_ne (tgt := 72) hx hb dxQ_name_68 (by decide) (fun c27 => ?_) (fun c27 => ?_)
    · have hw := hw.1 c27
      refine lv_aload_n hx hb dxQ_name_72 rfl (lv_at hl 1 rfl) ?_
      refine lv_bipush (v := 43) hx hb dxQ_name_73 (by decide) ?_
      refine cx_xQ_248 (As := [.int 43]) (rest := []) X hG h hl.1 (mxQ_letter l Γ θ S26 Z (43) _ hw) ⟨show 0 + 1 ≤ 2 from by omega, show 8 + (2 + 11) + 0 ≤ 47 from by omega⟩ (q0 := 0) rfl rfl (Nat.le_of_ble_eq_true rfl) dxQ_name_75 ⟨Nat.le_of_ble_eq_true rfl, Nat.le_of_ble_eq_true rfl⟩ (fun v W1 hK H locs h => ?_)
      obtain ⟨r28, S29, rfl, rfl, hw⟩ := hK
      refine W.eq (g2 := F0 m 78 ls []) rfl ?_
      refine lv_aload_n hx hb dxQ_name_78 rfl (lv_at hl 1 rfl) ?_
      refine lv_aload_n hx hb dxQ_name_79 rfl (lv_at hl 1 rfl) ?_
      refine gx_xQ_71 X hG h dxQ_name_80 ?_
      refine lv_iload_n hx hb dxQ_name_83 rfl (lv_at hl 2 rfl) ?_
      refine lq_12 X hG h o1 (x := S29 6 x.toNatClampNeg) rfl dxQ_name_84 ?_
      refine cx_xQ_259 (As := [.int (S29 6 x.toNatClampNeg)]) (rest := []) X hG h hl.1 (mxQ_number l Γ θ S29 Z (S29 6 x.toNatClampNeg) _ hw) ⟨show 1 + 1 ≤ 2 from by omega, show 8 + (6 + 11) + 21 ≤ 47 from by omega⟩ (q0 := 0) rfl rfl (Nat.le_of_ble_eq_true rfl) dxQ_name_85 ⟨Nat.le_of_ble_eq_true rfl, Nat.le_of_ble_eq_true rfl⟩ (fun v W1 hK H locs h => ?_)
      obtain ⟨r30, S31, rfl, rfl, hw⟩ := hK
      refine W.eq (g2 := F0 m 88 ls []) rfl ?_
      exact z_vret X hr hlk h ⟨_, _, rfl, rfl, hw⟩ dxQ_name_88
    · have hw := hw.2 c27
      exact z_vret X hr hlk h ⟨_, _, rfl, rfl, hw⟩ dxQ_name_71
def wxQ_outcomeWord  (post : Unit → Rg → Prop) (S : Rg)  : Prop := (((S 27 6).toInt < 0 ∨ 5 < (S 27 6).toInt) → wxQ_word (fun (_ : Unit) S5 => wxQ_letter (fun (_ : Unit) S7 => wxQ_word (fun (_ : Unit) S9 => post () S9) S7 (21252279 : Int64) (0)) S5 (32)) S (8638312626 : Int64) (0)) ∧ ((S 27 6) = 0 → wxQ_word (fun (_ : Unit) S11 => post () S11) S (5705892 : Int64) (0)) ∧ ((S 27 6) = 1 → wxQ_word (fun (_ : Unit) S13 => post () S13) S (736689298708 : Int64) (0)) ∧ ((S 27 6) = 2 → wxQ_word (fun (_ : Unit) S15 => post () S15) S (151303162536100 : Int64) (0)) ∧ ((S 27 6) = 3 → wxQ_word (fun (_ : Unit) S17 => wxQ_letter (fun (_ : Unit) S19 => wxQ_word (fun (_ : Unit) S21 => post () S21) S19 (21252279 : Int64) (0)) S17 (32)) S (8638312626 : Int64) (0)) ∧ ((S 27 6) = 4 → wxQ_word (fun (_ : Unit) S23 => post () S23) S (188724 : Int64) (0)) ∧ ((S 27 6) = 5 → wxQ_word (fun (_ : Unit) S25 => post () S25) S (21285028 : Int64) (0))
set_option maxHeartbeats 4000000 in
set_option maxRecDepth 100000 in
theorem mxQ_outcomeWord (l : Launch) (Γ : Gm) (θ : Nat → Nat) (S : Rg) (Z : va_W)  (post : Unit → Rg → Prop) (hw : wxQ_outcomeWord post S ) : MM l yxQ_outcomeWord cxQ_outcomeWord 1 none 2 47 Γ [.ref (θ 0)] (WM Γ θ S Z) (KK (fun _ : Unit => none) (fun S' => WM Γ θ S' Z) post) 0 0 := by
  refine MM_of (by decide) (Nat.le_of_ble_eq_true rfl) ?_
  intro p e s m below meth c X hr hlk hnm hG h ls hl
  have hx := X.1
  have hb := X.2.1
  have hl : lv_has ls 1 [(0, .ref (θ 0))] := hl
  unfold wxQ_outcomeWord at hw
  refine lv_aload_n hx hb dxQ_outcomeWord_0 rfl (lv_at hl 0 rfl) ?_
  refine gx_xQ_138 X hG h (x := S 27 6) rfl dxQ_outcomeWord_1 ?_
  by_cases c1 : (S 27 6).toInt < 0 ∨ 5 < (S 27 6).toInt
  · have hw := hw.1 c1
    refine lv_tableOut (tgt := 89) hx hb dxQ_outcomeWord_4 c1 (by decide) ?_
    refine lv_aload_n hx hb dxQ_outcomeWord_89 rfl (lv_at hl 0 rfl) ?_
    refine lv_ldc2 (v := 8638312626) hx hb X.2.2.2.1 (X.2.2.2.2 _ kL_xQ_272) dxQ_outcomeWord_90 ?_
    refine lv_iconst (v := 0) hx hb dxQ_outcomeWord_93 (by decide) ?_
    refine cx_xQ_253 (As := [.long (8638312626 : Int64), .int 0]) (rest := []) X hG h hl.1 (mxQ_word l Γ θ S Z (8638312626 : Int64) (0) _ hw) ⟨show 1 + 1 ≤ 2 from by omega, show 8 + (7 + 11) + 21 ≤ 47 from by omega⟩ (q0 := 0) rfl rfl (Nat.le_of_ble_eq_true rfl) dxQ_outcomeWord_94 ⟨Nat.le_of_ble_eq_true rfl, Nat.le_of_ble_eq_true rfl⟩ (fun v W1 hK H locs h => ?_)
    obtain ⟨r4, S5, rfl, rfl, hw⟩ := hK
    refine W.eq (g2 := F0 m 97 ls []) rfl ?_
    refine lv_aload_n hx hb dxQ_outcomeWord_97 rfl (lv_at hl 0 rfl) ?_
    refine lv_bipush (v := 32) hx hb dxQ_outcomeWord_98 (by decide) ?_
    refine cx_xQ_248 (As := [.int 32]) (rest := []) X hG h hl.1 (mxQ_letter l Γ θ S5 Z (32) _ hw) ⟨show 0 + 1 ≤ 2 from by omega, show 8 + (2 + 11) + 0 ≤ 47 from by omega⟩ (q0 := 0) rfl rfl (Nat.le_of_ble_eq_true rfl) dxQ_outcomeWord_100 ⟨Nat.le_of_ble_eq_true rfl, Nat.le_of_ble_eq_true rfl⟩ (fun v W1 hK H locs h => ?_)
    obtain ⟨r6, S7, rfl, rfl, hw⟩ := hK
    refine W.eq (g2 := F0 m 103 ls []) rfl ?_
    refine lv_aload_n hx hb dxQ_outcomeWord_103 rfl (lv_at hl 0 rfl) ?_
    refine lv_ldc2 (v := 21252279) hx hb X.2.2.2.1 (X.2.2.2.2 _ kL_xQ_274) dxQ_outcomeWord_104 ?_
    refine lv_iconst (v := 0) hx hb dxQ_outcomeWord_107 (by decide) ?_
    refine cx_xQ_253 (As := [.long (21252279 : Int64), .int 0]) (rest := []) X hG h hl.1 (mxQ_word l Γ θ S7 Z (21252279 : Int64) (0) _ hw) ⟨show 1 + 1 ≤ 2 from by omega, show 8 + (7 + 11) + 21 ≤ 47 from by omega⟩ (q0 := 0) rfl rfl (Nat.le_of_ble_eq_true rfl) dxQ_outcomeWord_108 ⟨Nat.le_of_ble_eq_true rfl, Nat.le_of_ble_eq_true rfl⟩ (fun v W1 hK H locs h => ?_)
    obtain ⟨r8, S9, rfl, rfl, hw⟩ := hK
    refine W.eq (g2 := F0 m 111 ls []) rfl ?_
    exact z_vret X hr hlk h ⟨_, _, rfl, rfl, hw⟩ dxQ_outcomeWord_111
  · have hw := hw.2
    obtain ⟨j3, j_h, e2⟩ := sw_in (lo := 0) (n := 5) c1
    match j3, j_h, e2 with
    | 0, _, e2 =>
      have e2 : (S 27 6) = 0 := e2
      have hw := hw.1 e2
      refine lv_tableIn (off := 40) (tgt := 44) hx hb dxQ_outcomeWord_4 (by rw [e2]; decide) (by rw [e2]; decide) (by rw [e2]; rfl) (by decide) ?_
      refine lv_aload_n hx hb dxQ_outcomeWord_44 rfl (lv_at hl 0 rfl) ?_
      refine lv_ldc2 (v := 5705892) hx hb X.2.2.2.1 (X.2.2.2.2 _ kL_xQ_262) dxQ_outcomeWord_45 ?_
      refine lv_iconst (v := 0) hx hb dxQ_outcomeWord_48 (by decide) ?_
      refine cx_xQ_253 (As := [.long (5705892 : Int64), .int 0]) (rest := []) X hG h hl.1 (mxQ_word l Γ θ S Z (5705892 : Int64) (0) _ hw) ⟨show 1 + 1 ≤ 2 from by omega, show 8 + (7 + 11) + 21 ≤ 47 from by omega⟩ (q0 := 0) rfl rfl (Nat.le_of_ble_eq_true rfl) dxQ_outcomeWord_49 ⟨Nat.le_of_ble_eq_true rfl, Nat.le_of_ble_eq_true rfl⟩ (fun v W1 hK H locs h => ?_)
      obtain ⟨r10, S11, rfl, rfl, hw⟩ := hK
      refine W.eq (g2 := F0 m 52 ls []) rfl ?_
      exact z_vret X hr hlk h ⟨_, _, rfl, rfl, hw⟩ dxQ_outcomeWord_52
    | 1, _, e2 =>
      have e2 : (S 27 6) = 1 := e2
      have hw := hw.2.1 e2
      refine lv_tableIn (off := 49) (tgt := 53) hx hb dxQ_outcomeWord_4 (by rw [e2]; decide) (by rw [e2]; decide) (by rw [e2]; rfl) (by decide) ?_
      refine lv_aload_n hx hb dxQ_outcomeWord_53 rfl (lv_at hl 0 rfl) ?_
      refine lv_ldc2 (v := 736689298708) hx hb X.2.2.2.1 (X.2.2.2.2 _ kL_xQ_264) dxQ_outcomeWord_54 ?_
      refine lv_iconst (v := 0) hx hb dxQ_outcomeWord_57 (by decide) ?_
      refine cx_xQ_253 (As := [.long (736689298708 : Int64), .int 0]) (rest := []) X hG h hl.1 (mxQ_word l Γ θ S Z (736689298708 : Int64) (0) _ hw) ⟨show 1 + 1 ≤ 2 from by omega, show 8 + (7 + 11) + 21 ≤ 47 from by omega⟩ (q0 := 0) rfl rfl (Nat.le_of_ble_eq_true rfl) dxQ_outcomeWord_58 ⟨Nat.le_of_ble_eq_true rfl, Nat.le_of_ble_eq_true rfl⟩ (fun v W1 hK H locs h => ?_)
      obtain ⟨r12, S13, rfl, rfl, hw⟩ := hK
      refine W.eq (g2 := F0 m 61 ls []) rfl ?_
      exact z_vret X hr hlk h ⟨_, _, rfl, rfl, hw⟩ dxQ_outcomeWord_61
    | 2, _, e2 =>
      have e2 : (S 27 6) = 2 := e2
      have hw := hw.2.2.1 e2
      refine lv_tableIn (off := 58) (tgt := 62) hx hb dxQ_outcomeWord_4 (by rw [e2]; decide) (by rw [e2]; decide) (by rw [e2]; rfl) (by decide) ?_
      refine lv_aload_n hx hb dxQ_outcomeWord_62 rfl (lv_at hl 0 rfl) ?_
      refine lv_ldc2 (v := 151303162536100) hx hb X.2.2.2.1 (X.2.2.2.2 _ kL_xQ_266) dxQ_outcomeWord_63 ?_
      refine lv_iconst (v := 0) hx hb dxQ_outcomeWord_66 (by decide) ?_
      refine cx_xQ_253 (As := [.long (151303162536100 : Int64), .int 0]) (rest := []) X hG h hl.1 (mxQ_word l Γ θ S Z (151303162536100 : Int64) (0) _ hw) ⟨show 1 + 1 ≤ 2 from by omega, show 8 + (7 + 11) + 21 ≤ 47 from by omega⟩ (q0 := 0) rfl rfl (Nat.le_of_ble_eq_true rfl) dxQ_outcomeWord_67 ⟨Nat.le_of_ble_eq_true rfl, Nat.le_of_ble_eq_true rfl⟩ (fun v W1 hK H locs h => ?_)
      obtain ⟨r14, S15, rfl, rfl, hw⟩ := hK
      refine W.eq (g2 := F0 m 70 ls []) rfl ?_
      exact z_vret X hr hlk h ⟨_, _, rfl, rfl, hw⟩ dxQ_outcomeWord_70
    | 3, _, e2 =>
      have e2 : (S 27 6) = 3 := e2
      have hw := hw.2.2.2.1 e2
      refine lv_tableIn (off := 85) (tgt := 89) hx hb dxQ_outcomeWord_4 (by rw [e2]; decide) (by rw [e2]; decide) (by rw [e2]; rfl) (by decide) ?_
      refine lv_aload_n hx hb dxQ_outcomeWord_89 rfl (lv_at hl 0 rfl) ?_
      refine lv_ldc2 (v := 8638312626) hx hb X.2.2.2.1 (X.2.2.2.2 _ kL_xQ_272) dxQ_outcomeWord_90 ?_
      refine lv_iconst (v := 0) hx hb dxQ_outcomeWord_93 (by decide) ?_
      refine cx_xQ_253 (As := [.long (8638312626 : Int64), .int 0]) (rest := []) X hG h hl.1 (mxQ_word l Γ θ S Z (8638312626 : Int64) (0) _ hw) ⟨show 1 + 1 ≤ 2 from by omega, show 8 + (7 + 11) + 21 ≤ 47 from by omega⟩ (q0 := 0) rfl rfl (Nat.le_of_ble_eq_true rfl) dxQ_outcomeWord_94 ⟨Nat.le_of_ble_eq_true rfl, Nat.le_of_ble_eq_true rfl⟩ (fun v W1 hK H locs h => ?_)
      obtain ⟨r16, S17, rfl, rfl, hw⟩ := hK
      refine W.eq (g2 := F0 m 97 ls []) rfl ?_
      refine lv_aload_n hx hb dxQ_outcomeWord_97 rfl (lv_at hl 0 rfl) ?_
      refine lv_bipush (v := 32) hx hb dxQ_outcomeWord_98 (by decide) ?_
      refine cx_xQ_248 (As := [.int 32]) (rest := []) X hG h hl.1 (mxQ_letter l Γ θ S17 Z (32) _ hw) ⟨show 0 + 1 ≤ 2 from by omega, show 8 + (2 + 11) + 0 ≤ 47 from by omega⟩ (q0 := 0) rfl rfl (Nat.le_of_ble_eq_true rfl) dxQ_outcomeWord_100 ⟨Nat.le_of_ble_eq_true rfl, Nat.le_of_ble_eq_true rfl⟩ (fun v W1 hK H locs h => ?_)
      obtain ⟨r18, S19, rfl, rfl, hw⟩ := hK
      refine W.eq (g2 := F0 m 103 ls []) rfl ?_
      refine lv_aload_n hx hb dxQ_outcomeWord_103 rfl (lv_at hl 0 rfl) ?_
      refine lv_ldc2 (v := 21252279) hx hb X.2.2.2.1 (X.2.2.2.2 _ kL_xQ_274) dxQ_outcomeWord_104 ?_
      refine lv_iconst (v := 0) hx hb dxQ_outcomeWord_107 (by decide) ?_
      refine cx_xQ_253 (As := [.long (21252279 : Int64), .int 0]) (rest := []) X hG h hl.1 (mxQ_word l Γ θ S19 Z (21252279 : Int64) (0) _ hw) ⟨show 1 + 1 ≤ 2 from by omega, show 8 + (7 + 11) + 21 ≤ 47 from by omega⟩ (q0 := 0) rfl rfl (Nat.le_of_ble_eq_true rfl) dxQ_outcomeWord_108 ⟨Nat.le_of_ble_eq_true rfl, Nat.le_of_ble_eq_true rfl⟩ (fun v W1 hK H locs h => ?_)
      obtain ⟨r20, S21, rfl, rfl, hw⟩ := hK
      refine W.eq (g2 := F0 m 111 ls []) rfl ?_
      exact z_vret X hr hlk h ⟨_, _, rfl, rfl, hw⟩ dxQ_outcomeWord_111
    | 4, _, e2 =>
      have e2 : (S 27 6) = 4 := e2
      have hw := hw.2.2.2.2.1 e2
      refine lv_tableIn (off := 67) (tgt := 71) hx hb dxQ_outcomeWord_4 (by rw [e2]; decide) (by rw [e2]; decide) (by rw [e2]; rfl) (by decide) ?_
      refine lv_aload_n hx hb dxQ_outcomeWord_71 rfl (lv_at hl 0 rfl) ?_
      refine lv_ldc2 (v := 188724) hx hb X.2.2.2.1 (X.2.2.2.2 _ kL_xQ_268) dxQ_outcomeWord_72 ?_
      refine lv_iconst (v := 0) hx hb dxQ_outcomeWord_75 (by decide) ?_
      refine cx_xQ_253 (As := [.long (188724 : Int64), .int 0]) (rest := []) X hG h hl.1 (mxQ_word l Γ θ S Z (188724 : Int64) (0) _ hw) ⟨show 1 + 1 ≤ 2 from by omega, show 8 + (7 + 11) + 21 ≤ 47 from by omega⟩ (q0 := 0) rfl rfl (Nat.le_of_ble_eq_true rfl) dxQ_outcomeWord_76 ⟨Nat.le_of_ble_eq_true rfl, Nat.le_of_ble_eq_true rfl⟩ (fun v W1 hK H locs h => ?_)
      obtain ⟨r22, S23, rfl, rfl, hw⟩ := hK
      refine W.eq (g2 := F0 m 79 ls []) rfl ?_
      exact z_vret X hr hlk h ⟨_, _, rfl, rfl, hw⟩ dxQ_outcomeWord_79
    | 5, _, e2 =>
      have e2 : (S 27 6) = 5 := e2
      have hw := hw.2.2.2.2.2 e2
      refine lv_tableIn (off := 76) (tgt := 80) hx hb dxQ_outcomeWord_4 (by rw [e2]; decide) (by rw [e2]; decide) (by rw [e2]; rfl) (by decide) ?_
      refine lv_aload_n hx hb dxQ_outcomeWord_80 rfl (lv_at hl 0 rfl) ?_
      refine lv_ldc2 (v := 21285028) hx hb X.2.2.2.1 (X.2.2.2.2 _ kL_xQ_270) dxQ_outcomeWord_81 ?_
      refine lv_iconst (v := 0) hx hb dxQ_outcomeWord_84 (by decide) ?_
      refine cx_xQ_253 (As := [.long (21285028 : Int64), .int 0]) (rest := []) X hG h hl.1 (mxQ_word l Γ θ S Z (21285028 : Int64) (0) _ hw) ⟨show 1 + 1 ≤ 2 from by omega, show 8 + (7 + 11) + 21 ≤ 47 from by omega⟩ (q0 := 0) rfl rfl (Nat.le_of_ble_eq_true rfl) dxQ_outcomeWord_85 ⟨Nat.le_of_ble_eq_true rfl, Nat.le_of_ble_eq_true rfl⟩ (fun v W1 hK H locs h => ?_)
      obtain ⟨r24, S25, rfl, rfl, hw⟩ := hK
      refine W.eq (g2 := F0 m 88 ls []) rfl ?_
      exact z_vret X hr hlk h ⟨_, _, rfl, rfl, hw⟩ dxQ_outcomeWord_88
    | k + 6, j_h, _ => exact absurd j_h (by omega)
def wxQ_write_c144  (post : Unit → Rg → Prop)  (S : Rg)  : Prop := (((S 28 0) ≤ (120 : Int32)) → post () S) ∧ ((¬ ((S 28 0) ≤ (120 : Int32))) → post () (uu S 28 0 120))
set_option maxHeartbeats 4000000 in
set_option maxRecDepth 100000 in
theorem txQ_write_c144 {p : Program} {l : Launch} {e : Env} {s : State} {m : MethodId} {below : List Frame} {meth : Method} {c : Code} (Γ : Gm) (θ : Nat → Nat) (Z : va_W)   (post : Unit → Rg → Prop) (X : CallFix p m c cxQ_write 2 s ([.ref (θ 0)] : List Value).toArray big RxQ) (hr : meth.sig.returnType = none) (hlk : meth.locks = false) (hG : GX Γ s s.heap) :
    ∀ (S : Rg)  (hw : wxQ_write_c144 post  S ) (H : Heap) (locs : List Loc) (h : HS Γ s (WM Γ θ S Z) H locs) (ls : Array Slot) (hl : lv_has ls 2 [(0, .ref (θ 0))]), W p l e { frames := 3, cells := 0, slots := 0, locals := 69 } s m ([.ref (θ 0)] : List Value).toArray below meth c H locs 0 0 (MQ below (QM Γ (KK (fun _ : Unit => none) (fun S' => WM Γ θ S' Z) post)) ([.ref (θ 0)] : List Value).toArray s 0 0 (AA Γ)) (F0 m 144 ls []) := by
  have hx := X.1
  have hb := X.2.1
  intro S  hw H locs h ls hl
  unfold wxQ_write_c144 at hw
  refine lv_aload_n hx hb dxQ_write_144 rfl (lv_at hl 0 rfl) ?_
  refine gx_xQ_245 X hG h (x := S 28 0) rfl dxQ_write_145 ?_
  refine lv_bipush (v := 120) hx hb dxQ_write_148 (by decide) ?_
  refine lv_icmp_le (tgt := 159) hx hb dxQ_write_150 (by decide) (fun c1 => ?_) (fun c1 => ?_)
  · have hw := hw.1 c1
    exact z_vret X hr hlk h ⟨_, _, rfl, rfl, hw⟩ dxQ_write_159
  · have hw := hw.2 c1
    refine lv_aload_n hx hb dxQ_write_153 rfl (lv_at hl 0 rfl) ?_
    refine lv_bipush (v := 120) hx hb dxQ_write_154 (by decide) ?_
    refine px_xQ_245 X hG h dxQ_write_156 (fun H locs h => ?_)
    exact z_vret X hr hlk h ⟨_, _, rfl, rfl, hw⟩ dxQ_write_159
def wxQ_write_c109  (post : Unit → Rg → Prop)  (S : Rg)  : Prop := (((S 27 10) < (0 : Int32)) → wxQ_write_c144 post  S ) ∧ ((¬ ((S 27 10) < (0 : Int32))) → wxQ_letter (fun (_ : Unit) S3 => wxQ_word (fun (_ : Unit) S5 => wxQ_letter (fun (_ : Unit) S7 => wxQ_name (fun (_ : Unit) S9 => wxQ_write_c144 post  S9 ) S7 (S7 27 10)) S5 (32)) S3 (663726 : Int64) (0)) S (32))
set_option maxHeartbeats 4000000 in
set_option maxRecDepth 100000 in
theorem txQ_write_c109 {p : Program} {l : Launch} {e : Env} {s : State} {m : MethodId} {below : List Frame} {meth : Method} {c : Code} (Γ : Gm) (θ : Nat → Nat) (Z : va_W)   (post : Unit → Rg → Prop) (X : CallFix p m c cxQ_write 2 s ([.ref (θ 0)] : List Value).toArray big RxQ) (hr : meth.sig.returnType = none) (hlk : meth.locks = false) (hG : GX Γ s s.heap) :
    ∀ (S : Rg)  (hw : wxQ_write_c109 post  S ) (H : Heap) (locs : List Loc) (h : HS Γ s (WM Γ θ S Z) H locs) (ls : Array Slot) (hl : lv_has ls 2 [(0, .ref (θ 0))]), W p l e { frames := 3, cells := 0, slots := 0, locals := 69 } s m ([.ref (θ 0)] : List Value).toArray below meth c H locs 0 0 (MQ below (QM Γ (KK (fun _ : Unit => none) (fun S' => WM Γ θ S' Z) post)) ([.ref (θ 0)] : List Value).toArray s 0 0 (AA Γ)) (F0 m 109 ls []) := by
  have hx := X.1
  have hb := X.2.1
  intro S  hw H locs h ls hl
  unfold wxQ_write_c109 at hw
  refine lv_aload_n hx hb dxQ_write_109 rfl (lv_at hl 0 rfl) ?_
  refine gx_xQ_86 X hG h (x := S 27 10) rfl dxQ_write_110 ?_
  refine lv_if_lt (tgt := 144) hx hb dxQ_write_113 (by decide) (fun c1 => ?_) (fun c1 => ?_)
  · have hw := hw.1 c1
    exact txQ_write_c144 Γ θ Z  post X hr hlk hG S  hw _ _ h ls (lv_sub hl [0] rfl)
  · have hw := hw.2 c1
    refine lv_aload_n hx hb dxQ_write_116 rfl (lv_at hl 0 rfl) ?_
    refine lv_bipush (v := 32) hx hb dxQ_write_117 (by decide) ?_
    refine cx_xQ_248 (As := [.int 32]) (rest := []) X hG h hl.1 (mxQ_letter l Γ θ S Z (32) _ hw) ⟨show 0 + 1 ≤ 3 from by omega, show 8 + (2 + 11) + 0 ≤ 69 from by omega⟩ (q0 := 0) rfl rfl (Nat.le_of_ble_eq_true rfl) dxQ_write_119 ⟨Nat.le_of_ble_eq_true rfl, Nat.le_of_ble_eq_true rfl⟩ (fun v W1 hK H locs h => ?_)
    obtain ⟨r2, S3, rfl, rfl, hw⟩ := hK
    refine W.eq (g2 := F0 m 122 ls []) rfl ?_
    refine lv_aload_n hx hb dxQ_write_122 rfl (lv_at hl 0 rfl) ?_
    refine lv_ldc2 (v := 663726) hx hb X.2.2.2.1 (X.2.2.2.2 _ kL_xQ_284) dxQ_write_123 ?_
    refine lv_iconst (v := 0) hx hb dxQ_write_126 (by decide) ?_
    refine cx_xQ_253 (As := [.long (663726 : Int64), .int 0]) (rest := []) X hG h hl.1 (mxQ_word l Γ θ S3 Z (663726 : Int64) (0) _ hw) ⟨show 1 + 1 ≤ 3 from by omega, show 8 + (7 + 11) + 21 ≤ 69 from by omega⟩ (q0 := 0) rfl rfl (Nat.le_of_ble_eq_true rfl) dxQ_write_127 ⟨Nat.le_of_ble_eq_true rfl, Nat.le_of_ble_eq_true rfl⟩ (fun v W1 hK H locs h => ?_)
    obtain ⟨r4, S5, rfl, rfl, hw⟩ := hK
    refine W.eq (g2 := F0 m 130 ls []) rfl ?_
    refine lv_aload_n hx hb dxQ_write_130 rfl (lv_at hl 0 rfl) ?_
    refine lv_bipush (v := 32) hx hb dxQ_write_131 (by decide) ?_
    refine cx_xQ_248 (As := [.int 32]) (rest := []) X hG h hl.1 (mxQ_letter l Γ θ S5 Z (32) _ hw) ⟨show 0 + 1 ≤ 3 from by omega, show 8 + (2 + 11) + 0 ≤ 69 from by omega⟩ (q0 := 0) rfl rfl (Nat.le_of_ble_eq_true rfl) dxQ_write_133 ⟨Nat.le_of_ble_eq_true rfl, Nat.le_of_ble_eq_true rfl⟩ (fun v W1 hK H locs h => ?_)
    obtain ⟨r6, S7, rfl, rfl, hw⟩ := hK
    refine W.eq (g2 := F0 m 136 ls []) rfl ?_
    refine lv_aload_n hx hb dxQ_write_136 rfl (lv_at hl 0 rfl) ?_
    refine lv_aload_n hx hb dxQ_write_137 rfl (lv_at hl 0 rfl) ?_
    refine gx_xQ_86 X hG h (x := S7 27 10) rfl dxQ_write_138 ?_
    refine cx_xQ_279 (As := [.int (S7 27 10)]) (rest := []) X hG h hl.1 (mxQ_name l Γ θ S7 Z (S7 27 10) _ hw) ⟨show 2 + 1 ≤ 3 from by omega, show 8 + (3 + 11) + 47 ≤ 69 from by omega⟩ (q0 := 0) rfl rfl (Nat.le_of_ble_eq_true rfl) dxQ_write_141 ⟨Nat.le_of_ble_eq_true rfl, Nat.le_of_ble_eq_true rfl⟩ (fun v W1 hK H locs h => ?_)
    obtain ⟨r8, S9, rfl, rfl, hw⟩ := hK
    refine W.eq (g2 := F0 m 144 ls []) rfl ?_
    exact txQ_write_c144 Γ θ Z  post X hr hlk hG S9  hw _ _ h ls (lv_sub hl [0] rfl)
def wxQ_write_c53  (post : Unit → Rg → Prop)  : Nat → Rg → Int32 → Prop
  | 0, _, _ => False
  | d + 1, S, a1 => ((a1 < (0 : Int32)) → wxQ_write_c109 post  S ) ∧ ((¬ (a1 < (0 : Int32))) → (((200 : Int32) ≤ (S 28 0)) → wxQ_write_c109 post  S ) ∧ ((¬ ((200 : Int32) ≤ (S 28 0))) → wxQ_name (fun (_ : Unit) S12 => (vp_in a1 302) ∧ (((0 : Int32) ≤ (S12 5 a1.toNatClampNeg)) → wxQ_letter (fun (_ : Unit) S16 => wxQ_word (fun (_ : Unit) S18 => wxQ_letter (fun (_ : Unit) S20 => wxQ_write_c53 post  d S20 (S12 5 a1.toNatClampNeg)) S18 (32)) S16 (215533 : Int64) (0)) S12 (32)) ∧ ((¬ ((0 : Int32) ≤ (S12 5 a1.toNatClampNeg))) → wxQ_write_c53 post  d S12 (S12 5 a1.toNatClampNeg))) S a1))
set_option maxHeartbeats 4000000 in
set_option maxRecDepth 100000 in
theorem txQ_write_c53 {p : Program} {l : Launch} {e : Env} {s : State} {m : MethodId} {below : List Frame} {meth : Method} {c : Code} (Γ : Gm) (θ : Nat → Nat) (Z : va_W)   (post : Unit → Rg → Prop) (X : CallFix p m c cxQ_write 2 s ([.ref (θ 0)] : List Value).toArray big RxQ) (hr : meth.sig.returnType = none) (hlk : meth.locks = false) (hG : GX Γ s s.heap) :
    ∀ (d : Nat) (S : Rg) (a1 : Int32) (hw : wxQ_write_c53 post  d S a1) (H : Heap) (locs : List Loc) (h : HS Γ s (WM Γ θ S Z) H locs) (ls : Array Slot) (hl : lv_has ls 2 [(0, .ref (θ 0)), (1, .int a1)]), W p l e { frames := 3, cells := 0, slots := 0, locals := 69 } s m ([.ref (θ 0)] : List Value).toArray below meth c H locs 0 0 (MQ below (QM Γ (KK (fun _ : Unit => none) (fun S' => WM Γ θ S' Z) post)) ([.ref (θ 0)] : List Value).toArray s 0 0 (AA Γ)) (F0 m 53 ls []) := by
  have hx := X.1
  have hb := X.2.1
  intro d
  induction d with
  | zero => intro S a1 hw; exact absurd hw (by simp [wxQ_write_c53])
  | succ d ih =>
    intro S a1 hw H locs h ls hl
    rw [wxQ_write_c53] at hw
    refine lv_iload_n hx hb dxQ_write_53 rfl (lv_at hl 1 rfl) ?_
    refine lv_if_lt (tgt := 109) hx hb dxQ_write_54 (by decide) (fun c1 => ?_) (fun c1 => ?_)
    · have hw := hw.1 c1
      exact txQ_write_c109 Γ θ Z  post X hr hlk hG S  hw _ _ h ls (lv_sub hl [0] rfl)
    · have hw := hw.2 c1
      refine lv_aload_n hx hb dxQ_write_57 rfl (lv_at hl 0 rfl) ?_
      refine gx_xQ_245 X hG h (x := S 28 0) rfl dxQ_write_58 ?_
      refine lv_sipush (v := 200) hx hb dxQ_write_61 (by decide) ?_
      refine lv_icmp_ge (tgt := 109) hx hb dxQ_write_64 (by decide) (fun c10 => ?_) (fun c10 => ?_)
      · have hw := hw.1 c10
        exact txQ_write_c109 Γ θ Z  post X hr hlk hG S  hw _ _ h ls (lv_sub hl [0] rfl)
      · have hw := hw.2 c10
        refine lv_aload_n hx hb dxQ_write_67 rfl (lv_at hl 0 rfl) ?_
        refine lv_iload_n hx hb dxQ_write_68 rfl (lv_at hl 1 rfl) ?_
        refine cx_xQ_279 (As := [.int a1]) (rest := []) X hG h hl.1 (mxQ_name l Γ θ S Z a1 _ hw) ⟨show 2 + 1 ≤ 3 from by omega, show 8 + (3 + 11) + 47 ≤ 69 from by omega⟩ (q0 := 0) rfl rfl (Nat.le_of_ble_eq_true rfl) dxQ_write_69 ⟨Nat.le_of_ble_eq_true rfl, Nat.le_of_ble_eq_true rfl⟩ (fun v W1 hK H locs h => ?_)
        obtain ⟨r11, S12, rfl, rfl, hw⟩ := hK
        refine W.eq (g2 := F0 m 72 ls []) rfl ?_
        refine lv_aload_n hx hb dxQ_write_72 rfl (lv_at hl 0 rfl) ?_
        refine gx_xQ_68 X hG h dxQ_write_73 ?_
        refine lv_iload_n hx hb dxQ_write_76 rfl (lv_at hl 1 rfl) ?_
        obtain ⟨o13, hw⟩ := hw
        refine lq_11 X hG h o13 (x := S12 5 a1.toNatClampNeg) rfl dxQ_write_77 ?_
        refine lv_istore_n (lv' := [(1, .int (S12 5 a1.toNatClampNeg)), (0, .ref (θ 0))]) hx hb dxQ_write_78 rfl hl (by decide) rfl (fun ls hl => ?_)
        refine lv_iload_n hx hb dxQ_write_79 rfl (lv_at hl 0 rfl) ?_
        refine lv_if_ge (tgt := 86) hx hb dxQ_write_80 (by decide) (fun c14 => ?_) (fun c14 => ?_)
        · have hw := hw.1 c14
          refine lv_aload_n hx hb dxQ_write_86 rfl (lv_at hl 1 rfl) ?_
          refine lv_bipush (v := 32) hx hb dxQ_write_87 (by decide) ?_
          refine cx_xQ_248 (As := [.int 32]) (rest := []) X hG h hl.1 (mxQ_letter l Γ θ S12 Z (32) _ hw) ⟨show 0 + 1 ≤ 3 from by omega, show 8 + (2 + 11) + 0 ≤ 69 from by omega⟩ (q0 := 0) rfl rfl (Nat.le_of_ble_eq_true rfl) dxQ_write_89 ⟨Nat.le_of_ble_eq_true rfl, Nat.le_of_ble_eq_true rfl⟩ (fun v W1 hK H locs h => ?_)
          obtain ⟨r15, S16, rfl, rfl, hw⟩ := hK
          refine W.eq (g2 := F0 m 92 ls []) rfl ?_
          refine lv_aload_n hx hb dxQ_write_92 rfl (lv_at hl 1 rfl) ?_
          refine lv_ldc2 (v := 215533) hx hb X.2.2.2.1 (X.2.2.2.2 _ kL_xQ_282) dxQ_write_93 ?_
          refine lv_iconst (v := 0) hx hb dxQ_write_96 (by decide) ?_
          refine cx_xQ_253 (As := [.long (215533 : Int64), .int 0]) (rest := []) X hG h hl.1 (mxQ_word l Γ θ S16 Z (215533 : Int64) (0) _ hw) ⟨show 1 + 1 ≤ 3 from by omega, show 8 + (7 + 11) + 21 ≤ 69 from by omega⟩ (q0 := 0) rfl rfl (Nat.le_of_ble_eq_true rfl) dxQ_write_97 ⟨Nat.le_of_ble_eq_true rfl, Nat.le_of_ble_eq_true rfl⟩ (fun v W1 hK H locs h => ?_)
          obtain ⟨r17, S18, rfl, rfl, hw⟩ := hK
          refine W.eq (g2 := F0 m 100 ls []) rfl ?_
          refine lv_aload_n hx hb dxQ_write_100 rfl (lv_at hl 1 rfl) ?_
          refine lv_bipush (v := 32) hx hb dxQ_write_101 (by decide) ?_
          refine cx_xQ_248 (As := [.int 32]) (rest := []) X hG h hl.1 (mxQ_letter l Γ θ S18 Z (32) _ hw) ⟨show 0 + 1 ≤ 3 from by omega, show 8 + (2 + 11) + 0 ≤ 69 from by omega⟩ (q0 := 0) rfl rfl (Nat.le_of_ble_eq_true rfl) dxQ_write_103 ⟨Nat.le_of_ble_eq_true rfl, Nat.le_of_ble_eq_true rfl⟩ (fun v W1 hK H locs h => ?_)
          obtain ⟨r19, S20, rfl, rfl, hw⟩ := hK
          refine W.eq (g2 := F0 m 106 ls []) rfl ?_
          refine lv_goto (tgt := 53) hx hb dxQ_write_106 (by decide) ?_
          exact ih S20 (S12 5 a1.toNatClampNeg) hw _ _ h ls (lv_sub hl [1, 0] rfl)
        · have hw := hw.2 c14
          refine lv_goto (tgt := 53) hx hb dxQ_write_83 (by decide) ?_
          exact ih S12 (S12 5 a1.toNatClampNeg) hw _ _ h ls (lv_sub hl [1, 0] rfl)
def wxQ_write_c38  (post : Unit → Rg → Prop)  (S : Rg)  : Prop := (((S 27 9) < (0 : Int32)) → ∃ d21 : Nat, wxQ_write_c53 post  d21 S (S 27 9)) ∧ ((¬ ((S 27 9) < (0 : Int32))) → wxQ_letter (fun (_ : Unit) S23 => ∃ d24 : Nat, wxQ_write_c53 post  d24 S23 (S 27 9)) S (32))
set_option maxHeartbeats 4000000 in
set_option maxRecDepth 100000 in
theorem txQ_write_c38 {p : Program} {l : Launch} {e : Env} {s : State} {m : MethodId} {below : List Frame} {meth : Method} {c : Code} (Γ : Gm) (θ : Nat → Nat) (Z : va_W)   (post : Unit → Rg → Prop) (X : CallFix p m c cxQ_write 2 s ([.ref (θ 0)] : List Value).toArray big RxQ) (hr : meth.sig.returnType = none) (hlk : meth.locks = false) (hG : GX Γ s s.heap) :
    ∀ (S : Rg)  (hw : wxQ_write_c38 post  S ) (H : Heap) (locs : List Loc) (h : HS Γ s (WM Γ θ S Z) H locs) (ls : Array Slot) (hl : lv_has ls 2 [(0, .ref (θ 0))]), W p l e { frames := 3, cells := 0, slots := 0, locals := 69 } s m ([.ref (θ 0)] : List Value).toArray below meth c H locs 0 0 (MQ below (QM Γ (KK (fun _ : Unit => none) (fun S' => WM Γ θ S' Z) post)) ([.ref (θ 0)] : List Value).toArray s 0 0 (AA Γ)) (F0 m 38 ls []) := by
  have hx := X.1
  have hb := X.2.1
  intro S  hw H locs h ls hl
  unfold wxQ_write_c38 at hw
  refine lv_aload_n hx hb dxQ_write_38 rfl (lv_at hl 0 rfl) ?_
  refine gx_xQ_83 X hG h (x := S 27 9) rfl dxQ_write_39 ?_
  refine lv_istore_n (lv' := [(1, .int (S 27 9)), (0, .ref (θ 0))]) hx hb dxQ_write_42 rfl hl (by decide) rfl (fun ls hl => ?_)
  refine lv_iload_n hx hb dxQ_write_43 rfl (lv_at hl 0 rfl) ?_
  refine lv_if_lt (tgt := 53) hx hb dxQ_write_44 (by decide) (fun c1 => ?_) (fun c1 => ?_)
  · have hw := hw.1 c1
    obtain ⟨d21, hw⟩ := hw
    exact txQ_write_c53 Γ θ Z  post X hr hlk hG d21 S (S 27 9) hw _ _ h ls (lv_sub hl [1, 0] rfl)
  · have hw := hw.2 c1
    refine lv_aload_n hx hb dxQ_write_47 rfl (lv_at hl 1 rfl) ?_
    refine lv_bipush (v := 32) hx hb dxQ_write_48 (by decide) ?_
    refine cx_xQ_248 (As := [.int 32]) (rest := []) X hG h hl.1 (mxQ_letter l Γ θ S Z (32) _ hw) ⟨show 0 + 1 ≤ 3 from by omega, show 8 + (2 + 11) + 0 ≤ 69 from by omega⟩ (q0 := 0) rfl rfl (Nat.le_of_ble_eq_true rfl) dxQ_write_50 ⟨Nat.le_of_ble_eq_true rfl, Nat.le_of_ble_eq_true rfl⟩ (fun v W1 hK H locs h => ?_)
    obtain ⟨r22, S23, rfl, rfl, hw⟩ := hK
    refine W.eq (g2 := F0 m 53 ls []) rfl ?_
    obtain ⟨d24, hw⟩ := hw
    exact txQ_write_c53 Γ θ Z  post X hr hlk hG d24 S23 (S 27 9) hw _ _ h ls (lv_sub hl [1, 0] rfl)
def wxQ_write  (post : Unit → Rg → Prop) (S : Rg)  : Prop := wxQ_outcomeWord (fun (_ : Unit) S2 => ((¬ ((S2 27 8) = (0 : Int32))) → wxQ_letter (fun (_ : Unit) S5 => wxQ_number (fun (_ : Unit) S7 => wxQ_write_c38 post  S7 ) S5 (S5 27 7)) S2 (32)) ∧ (((S2 27 8) = (0 : Int32)) → ((¬ ((S2 27 6) = (4 : Int32))) → wxQ_write_c38 post  S2 ) ∧ (((S2 27 6) = (4 : Int32)) → wxQ_letter (fun (_ : Unit) S27 => wxQ_number (fun (_ : Unit) S29 => wxQ_write_c38 post  S29 ) S27 (S27 27 7)) S2 (32)))) (uu S 28 0 0) 
set_option maxHeartbeats 4000000 in
set_option maxRecDepth 100000 in
theorem mxQ_write (l : Launch) (Γ : Gm) (θ : Nat → Nat) (S : Rg) (Z : va_W)  (post : Unit → Rg → Prop) (hw : wxQ_write post S ) : MM l yxQ_write cxQ_write 2 none 3 69 Γ [.ref (θ 0)] (WM Γ θ S Z) (KK (fun _ : Unit => none) (fun S' => WM Γ θ S' Z) post) 0 0 := by
  refine MM_of (by decide) (Nat.le_of_ble_eq_true rfl) ?_
  intro p e s m below meth c X hr hlk hnm hG h ls hl
  have hx := X.1
  have hb := X.2.1
  have hl : lv_has ls 2 [(0, .ref (θ 0))] := hl
  unfold wxQ_write at hw
  refine lv_aload_n hx hb dxQ_write_0 rfl (lv_at hl 0 rfl) ?_
  refine lv_iconst (v := 0) hx hb dxQ_write_1 (by decide) ?_
  refine px_xQ_245 X hG h dxQ_write_2 (fun H locs h => ?_)
  refine lv_aload_n hx hb dxQ_write_5 rfl (lv_at hl 0 rfl) ?_
  refine cx_xQ_276 (As := []) (rest := []) X hG h hl.1 (mxQ_outcomeWord l Γ θ (uu S 28 0 0) Z  _ hw) ⟨show 2 + 1 ≤ 3 from by omega, show 8 + (1 + 11) + 47 ≤ 69 from by omega⟩ (q0 := 0) rfl rfl (Nat.le_of_ble_eq_true rfl) dxQ_write_6 ⟨Nat.le_of_ble_eq_true rfl, Nat.le_of_ble_eq_true rfl⟩ (fun v W1 hK H locs h => ?_)
  obtain ⟨r1, S2, rfl, rfl, hw⟩ := hK
  refine W.eq (g2 := F0 m 9 ls []) rfl ?_
  refine lv_aload_n hx hb dxQ_write_9 rfl (lv_at hl 0 rfl) ?_
  refine gx_xQ_233 X hG h (x := S2 27 8) rfl dxQ_write_10 ?_
  refine lv_if_ne (tgt := 24) hx hb dxQ_write_13 (by decide) (fun c3 => ?_) (fun c3 => ?_)
  · have hw := hw.1 c3
    refine lv_aload_n hx hb dxQ_write_24 rfl (lv_at hl 0 rfl) ?_
    refine lv_bipush (v := 32) hx hb dxQ_write_25 (by decide) ?_
    refine cx_xQ_248 (As := [.int 32]) (rest := []) X hG h hl.1 (mxQ_letter l Γ θ S2 Z (32) _ hw) ⟨show 0 + 1 ≤ 3 from by omega, show 8 + (2 + 11) + 0 ≤ 69 from by omega⟩ (q0 := 0) rfl rfl (Nat.le_of_ble_eq_true rfl) dxQ_write_27 ⟨Nat.le_of_ble_eq_true rfl, Nat.le_of_ble_eq_true rfl⟩ (fun v W1 hK H locs h => ?_)
    obtain ⟨r4, S5, rfl, rfl, hw⟩ := hK
    refine W.eq (g2 := F0 m 30 ls []) rfl ?_
    refine lv_aload_n hx hb dxQ_write_30 rfl (lv_at hl 0 rfl) ?_
    refine lv_aload_n hx hb dxQ_write_31 rfl (lv_at hl 0 rfl) ?_
    refine gx_xQ_181 X hG h (x := S5 27 7) rfl dxQ_write_32 ?_
    refine cx_xQ_259 (As := [.int (S5 27 7)]) (rest := []) X hG h hl.1 (mxQ_number l Γ θ S5 Z (S5 27 7) _ hw) ⟨show 1 + 1 ≤ 3 from by omega, show 8 + (6 + 11) + 21 ≤ 69 from by omega⟩ (q0 := 0) rfl rfl (Nat.le_of_ble_eq_true rfl) dxQ_write_35 ⟨Nat.le_of_ble_eq_true rfl, Nat.le_of_ble_eq_true rfl⟩ (fun v W1 hK H locs h => ?_)
    obtain ⟨r6, S7, rfl, rfl, hw⟩ := hK
    refine W.eq (g2 := F0 m 38 ls []) rfl ?_
    exact txQ_write_c38 Γ θ Z  post X hr hlk hG S7  hw _ _ h ls (lv_sub hl [0] rfl)
  · have hw := hw.2 c3
    refine lv_aload_n hx hb dxQ_write_16 rfl (lv_at hl 0 rfl) ?_
    refine gx_xQ_138 X hG h (x := S2 27 6) rfl dxQ_write_17 ?_
    refine lv_iconst (v := 4) hx hb dxQ_write_20 (by decide) ?_
    refine lv_icmp_ne (tgt := 38) hx hb dxQ_write_21 (by decide) (fun c25 => ?_) (fun c25 => ?_)
    · have hw := hw.1 c25
      exact txQ_write_c38 Γ θ Z  post X hr hlk hG S2  hw _ _ h ls (lv_sub hl [0] rfl)
    · have hw := hw.2 c25
      refine lv_aload_n hx hb dxQ_write_24 rfl (lv_at hl 0 rfl) ?_
      refine lv_bipush (v := 32) hx hb dxQ_write_25 (by decide) ?_
      refine cx_xQ_248 (As := [.int 32]) (rest := []) X hG h hl.1 (mxQ_letter l Γ θ S2 Z (32) _ hw) ⟨show 0 + 1 ≤ 3 from by omega, show 8 + (2 + 11) + 0 ≤ 69 from by omega⟩ (q0 := 0) rfl rfl (Nat.le_of_ble_eq_true rfl) dxQ_write_27 ⟨Nat.le_of_ble_eq_true rfl, Nat.le_of_ble_eq_true rfl⟩ (fun v W1 hK H locs h => ?_)
      obtain ⟨r26, S27, rfl, rfl, hw⟩ := hK
      refine W.eq (g2 := F0 m 30 ls []) rfl ?_
      refine lv_aload_n hx hb dxQ_write_30 rfl (lv_at hl 0 rfl) ?_
      refine lv_aload_n hx hb dxQ_write_31 rfl (lv_at hl 0 rfl) ?_
      refine gx_xQ_181 X hG h (x := S27 27 7) rfl dxQ_write_32 ?_
      refine cx_xQ_259 (As := [.int (S27 27 7)]) (rest := []) X hG h hl.1 (mxQ_number l Γ θ S27 Z (S27 27 7) _ hw) ⟨show 1 + 1 ≤ 3 from by omega, show 8 + (6 + 11) + 21 ≤ 69 from by omega⟩ (q0 := 0) rfl rfl (Nat.le_of_ble_eq_true rfl) dxQ_write_35 ⟨Nat.le_of_ble_eq_true rfl, Nat.le_of_ble_eq_true rfl⟩ (fun v W1 hK H locs h => ?_)
      obtain ⟨r28, S29, rfl, rfl, hw⟩ := hK
      refine W.eq (g2 := F0 m 38 ls []) rfl ?_
      exact txQ_write_c38 Γ θ Z  post X hr hlk hG S29  hw _ _ h ls (lv_sub hl [0] rfl)
def wxQ_run  (post : Int32 → Rg → Prop) (S : Rg) (x : Int32) (y : Int32) (q : Int32) : Prop := wxQ_out (fun r1 S2 => ((¬ (r1 = (0 : Int32))) → post (-1 : Int32) S2) ∧ ((r1 = (0 : Int32)) → (vp_in x 6) ∧ (((0 : Int32) ≤ (S2 15 x.toNatClampNeg)) → (vp_in (0 : Int32) 4) ∧ (vp_in (1 : Int32) 4) ∧ (vp_in (1 : Int32) 2) ∧ (vp_in (0 : Int32) 2) ∧ (vp_in (3 : Int32) 4) ∧ (vp_in (2 : Int32) 4) ∧ wxQ_complete (fun r12 S13 => ((r12 = (0 : Int32)) → wxQ_write (fun (_ : Unit) S16 => post (S16 27 6) S16) S13 ) ∧ ((¬ (r12 = (0 : Int32))) → wxQ_settle (fun (_ : Unit) S18 => wxQ_write (fun (_ : Unit) S20 => post (S20 27 6) S20) S18 ) S13 )) (uu (uu (uu (uu (uu (uu (uu (uu (uu (uu (uu (uu (uu (uu (uu (uu (uu S2 27 11 1) 27 5 0) 7 1 0) 7 0 0) 7 5 0) 7 4 0) 7 3 0) 7 2 0) 0 0 y) 0 1 q) 1 1 0) 1 0 0) 0 3 0) 0 2 0) 27 10 (-1)) 27 9 (-1)) 27 8 0) (S2 15 x.toNatClampNeg) (-1)) ∧ ((¬ ((0 : Int32) ≤ (S2 15 x.toNatClampNeg))) → post (-1 : Int32) S2))) S x (0) (5)
set_option maxHeartbeats 4000000 in
set_option maxRecDepth 100000 in
theorem mxQ_run (l : Launch) (Γ : Gm) (θ : Nat → Nat) (S : Rg) (Z : va_W) (x : Int32) (y : Int32) (q : Int32) (post : Int32 → Rg → Prop) (hw : wxQ_run post S x y q) : MM l yxQ_run cxQ_run 4 (some .int) 7 155 Γ [.ref (θ 0), .int x, .int y, .int q] (WM Γ θ S Z) (KK (fun r : Int32 => some (.int r)) (fun S' => WM Γ θ S' Z) post) 0 0 := by
  refine MM_of (by decide) (Nat.le_of_ble_eq_true rfl) ?_
  intro p e s m below meth c X hr hlk hnm hG h ls hl
  have hx := X.1
  have hb := X.2.1
  have hl : lv_has ls 4 [(0, .ref (θ 0)), (1, .int x), (2, .int y), (3, .int q)] := hl
  unfold wxQ_run at hw
  refine lv_iload_n hx hb dxQ_run_0 rfl (lv_at hl 1 rfl) ?_
  refine lv_iconst (v := 0) hx hb dxQ_run_1 (by decide) ?_
  refine lv_iconst (v := 5) hx hb dxQ_run_2 (by decide) ?_
  refine cx_xQ_113 (As := [.int x, .int 0, .int 5]) (rest := []) X hG h hl.1 (mxQ_out l Γ θ S Z x (0) (5) _ hw) ⟨show 0 + 1 ≤ 7 from by omega, show 8 + (3 + 11) + 0 ≤ 155 from by omega⟩ rfl (Nat.le_of_ble_eq_true rfl) dxQ_run_3 ⟨Nat.le_of_ble_eq_true rfl, Nat.le_of_ble_eq_true rfl⟩ (fun v W1 hK H locs h => ?_)
  obtain ⟨r1, S2, rfl, rfl, hw⟩ := hK
  refine W.eq (g2 := F0 m 6 ls [.int r1]) rfl ?_
  refine lv_if_ne (tgt := 18) hx hb dxQ_run_6 (by decide) (fun c3 => ?_) (fun c3 => ?_)
  · have hw := hw.1 c3
    refine lv_iconst (v := -1) hx hb dxQ_run_18 (by decide) ?_
    exact z_iret X hr hlk h ⟨_, _, rfl, rfl, hw⟩ dxQ_run_19
  · have hw := hw.2 c3
    refine lv_aload_n hx hb dxQ_run_9 rfl (lv_at hl 0 rfl) ?_
    refine gx_xQ_56 X hG h dxQ_run_10 ?_
    refine lv_iload_n hx hb dxQ_run_13 rfl (lv_at hl 1 rfl) ?_
    obtain ⟨o4, hw⟩ := hw
    refine lq_8 X hG h o4 (x := S2 15 x.toNatClampNeg) rfl dxQ_run_14 ?_
    refine lv_if_ge (tgt := 20) hx hb dxQ_run_15 (by decide) (fun c5 => ?_) (fun c5 => ?_)
    · have hw := hw.1 c5
      refine lv_aload_n hx hb dxQ_run_20 rfl (lv_at hl 0 rfl) ?_
      refine lv_iconst (v := 1) hx hb dxQ_run_21 (by decide) ?_
      refine px_xQ_230 X hG h rfl rfl dxQ_run_22 (fun H locs h => ?_)
      refine lv_aload_n hx hb dxQ_run_25 rfl (lv_at hl 0 rfl) ?_
      refine lv_iconst (v := 0) hx hb dxQ_run_26 (by decide) ?_
      refine px_xQ_141 X hG h rfl rfl dxQ_run_27 (fun H locs h => ?_)
      refine lv_aload_n hx hb dxQ_run_30 rfl (lv_at hl 0 rfl) ?_
      refine lv_aload_n hx hb dxQ_run_31 rfl (lv_at hl 0 rfl) ?_
      refine lv_aload_n hx hb dxQ_run_32 rfl (lv_at hl 0 rfl) ?_
      refine lv_aload_n hx hb dxQ_run_33 rfl (lv_at hl 0 rfl) ?_
      refine lv_aload_n hx hb dxQ_run_34 rfl (lv_at hl 0 rfl) ?_
      refine lv_aload_n hx hb dxQ_run_35 rfl (lv_at hl 0 rfl) ?_
      refine lv_iconst (v := 0) hx hb dxQ_run_36 (by decide) ?_
      refine lv_dup_x1 hx hb dxQ_run_37 rfl rfl ?_
      refine px_xQ_154 X hG h dxQ_run_38 (fun H locs h => ?_)
      refine lv_dup_x1 hx hb dxQ_run_41 rfl rfl ?_
      refine px_xQ_161 X hG h dxQ_run_42 (fun H locs h => ?_)
      refine lv_dup_x1 hx hb dxQ_run_45 rfl rfl ?_
      refine px_xQ_218 X hG h dxQ_run_46 (fun H locs h => ?_)
      refine lv_dup_x1 hx hb dxQ_run_49 rfl rfl ?_
      refine px_xQ_224 X hG h dxQ_run_50 (fun H locs h => ?_)
      refine lv_dup_x1 hx hb dxQ_run_53 rfl rfl ?_
      refine px_xQ_221 X hG h dxQ_run_54 (fun H locs h => ?_)
      refine px_xQ_135 X hG h dxQ_run_57 (fun H locs h => ?_)
      refine lv_aload_n hx hb dxQ_run_60 rfl (lv_at hl 0 rfl) ?_
      refine gx_xQ_74 X hG h dxQ_run_61 ?_
      refine lv_iconst (v := 0) hx hb dxQ_run_64 (by decide) ?_
      refine lv_iload_n hx hb dxQ_run_65 rfl (lv_at hl 2 rfl) ?_
      obtain ⟨o6, hw⟩ := hw
      refine sq_13 X hG h o6 dxQ_run_66 (fun H locs h => ?_)
      refine lv_aload_n hx hb dxQ_run_67 rfl (lv_at hl 0 rfl) ?_
      refine gx_xQ_74 X hG h dxQ_run_68 ?_
      refine lv_iconst (v := 1) hx hb dxQ_run_71 (by decide) ?_
      refine lv_iload_n hx hb dxQ_run_72 rfl (lv_at hl 3 rfl) ?_
      obtain ⟨o7, hw⟩ := hw
      refine sq_13 X hG h o7 dxQ_run_73 (fun H locs h => ?_)
      refine lv_aload_n hx hb dxQ_run_74 rfl (lv_at hl 0 rfl) ?_
      refine gx_xQ_74 X hG h dxQ_run_75 ?_
      refine lv_iconst (v := 2) hx hb dxQ_run_78 (by decide) ?_
      refine lv_aload_n hx hb dxQ_run_79 rfl (lv_at hl 0 rfl) ?_
      refine gx_xQ_74 X hG h dxQ_run_80 ?_
      refine lv_iconst (v := 3) hx hb dxQ_run_83 (by decide) ?_
      refine lv_aload_n hx hb dxQ_run_84 rfl (lv_at hl 0 rfl) ?_
      refine gx_xQ_77 X hG h dxQ_run_85 ?_
      refine lv_iconst (v := 0) hx hb dxQ_run_88 (by decide) ?_
      refine lv_aload_n hx hb dxQ_run_89 rfl (lv_at hl 0 rfl) ?_
      refine gx_xQ_77 X hG h dxQ_run_90 ?_
      refine lv_iconst (v := 1) hx hb dxQ_run_93 (by decide) ?_
      refine lv_iconst (v := 0) hx hb dxQ_run_94 (by decide) ?_
      refine lv_dup_x2 hx hb dxQ_run_95 rfl rfl rfl ?_
      obtain ⟨o8, hw⟩ := hw
      refine sq_14 X hG h o8 dxQ_run_96 (fun H locs h => ?_)
      refine lv_dup_x2 hx hb dxQ_run_97 rfl rfl rfl ?_
      obtain ⟨o9, hw⟩ := hw
      refine sq_14 X hG h o9 dxQ_run_98 (fun H locs h => ?_)
      refine lv_dup_x2 hx hb dxQ_run_99 rfl rfl rfl ?_
      obtain ⟨o10, hw⟩ := hw
      refine sq_13 X hG h o10 dxQ_run_100 (fun H locs h => ?_)
      obtain ⟨o11, hw⟩ := hw
      refine sq_13 X hG h o11 dxQ_run_101 (fun H locs h => ?_)
      refine lv_aload_n hx hb dxQ_run_102 rfl (lv_at hl 0 rfl) ?_
      refine lv_aload_n hx hb dxQ_run_103 rfl (lv_at hl 0 rfl) ?_
      refine lv_iconst (v := -1) hx hb dxQ_run_104 (by decide) ?_
      refine lv_dup_x1 hx hb dxQ_run_105 rfl rfl ?_
      refine px_xQ_86 X hG h dxQ_run_106 (fun H locs h => ?_)
      refine px_xQ_83 X hG h dxQ_run_109 (fun H locs h => ?_)
      refine lv_aload_n hx hb dxQ_run_112 rfl (lv_at hl 0 rfl) ?_
      refine lv_iconst (v := 0) hx hb dxQ_run_113 (by decide) ?_
      refine px_xQ_233 X hG h rfl rfl dxQ_run_114 (fun H locs h => ?_)
      refine lv_aload_n hx hb dxQ_run_117 rfl (lv_at hl 0 rfl) ?_
      refine lv_aload_n hx hb dxQ_run_118 rfl (lv_at hl 0 rfl) ?_
      refine gx_xQ_56 X hG h dxQ_run_119 ?_
      refine lv_iload_n hx hb dxQ_run_122 rfl (lv_at hl 1 rfl) ?_
      refine lq_8 X hG h o4 (x := S2 15 x.toNatClampNeg) rfl dxQ_run_123 ?_
      refine lv_iconst (v := -1) hx hb dxQ_run_124 (by decide) ?_
      refine cx_xQ_236 (As := [.int (S2 15 x.toNatClampNeg), .int (-1)]) (rest := []) X hG h hl.1 (mxQ_complete l Γ θ (uu (uu (uu (uu (uu (uu (uu (uu (uu (uu (uu (uu (uu (uu (uu (uu (uu S2 27 11 1) 27 5 0) 7 1 0) 7 0 0) 7 5 0) 7 4 0) 7 3 0) 7 2 0) 0 0 y) 0 1 q) 1 1 0) 1 0 0) 0 3 0) 0 2 0) 27 10 (-1)) 27 9 (-1)) 27 8 0) Z (S2 15 x.toNatClampNeg) (-1) _ hw) ⟨show 5 + 1 ≤ 7 from by omega, show 8 + (3 + 11) + 113 ≤ 155 from by omega⟩ (q0 := 0) rfl rfl (Nat.le_of_ble_eq_true rfl) dxQ_run_125 ⟨Nat.le_of_ble_eq_true rfl, Nat.le_of_ble_eq_true rfl⟩ (fun v W1 hK H locs h => ?_)
      obtain ⟨r12, S13, rfl, rfl, hw⟩ := hK
      refine W.eq (g2 := F0 m 128 ls [.int r12]) rfl ?_
      refine lv_if_eq (tgt := 135) hx hb dxQ_run_128 (by decide) (fun c14 => ?_) (fun c14 => ?_)
      · have hw := hw.1 c14
        refine lv_aload_n hx hb dxQ_run_135 rfl (lv_at hl 0 rfl) ?_
        refine cx_xQ_242 (As := []) (rest := []) X hG h hl.1 (mxQ_write l Γ θ S13 Z  _ hw) ⟨show 3 + 1 ≤ 7 from by omega, show 8 + (2 + 11) + 69 ≤ 155 from by omega⟩ (q0 := 0) rfl rfl (Nat.le_of_ble_eq_true rfl) dxQ_run_136 ⟨Nat.le_of_ble_eq_true rfl, Nat.le_of_ble_eq_true rfl⟩ (fun v W1 hK H locs h => ?_)
        obtain ⟨r15, S16, rfl, rfl, hw⟩ := hK
        refine W.eq (g2 := F0 m 139 ls []) rfl ?_
        refine lv_aload_n hx hb dxQ_run_139 rfl (lv_at hl 0 rfl) ?_
        refine gx_xQ_138 X hG h (x := S16 27 6) rfl dxQ_run_140 ?_
        exact z_iret X hr hlk h ⟨_, _, rfl, rfl, hw⟩ dxQ_run_143
      · have hw := hw.2 c14
        refine lv_aload_n hx hb dxQ_run_131 rfl (lv_at hl 0 rfl) ?_
        refine cx_xQ_239 (As := []) (rest := []) X hG h hl.1 (mxQ_settle l Γ θ S13 Z  _ hw) ⟨show 6 + 1 ≤ 7 from by omega, show 8 + (1 + 11) + 135 ≤ 155 from by omega⟩ (q0 := 0) rfl rfl (Nat.le_of_ble_eq_true rfl) dxQ_run_132 ⟨Nat.le_of_ble_eq_true rfl, Nat.le_of_ble_eq_true rfl⟩ (fun v W1 hK H locs h => ?_)
        obtain ⟨r17, S18, rfl, rfl, hw⟩ := hK
        refine W.eq (g2 := F0 m 135 ls []) rfl ?_
        refine lv_aload_n hx hb dxQ_run_135 rfl (lv_at hl 0 rfl) ?_
        refine cx_xQ_242 (As := []) (rest := []) X hG h hl.1 (mxQ_write l Γ θ S18 Z  _ hw) ⟨show 3 + 1 ≤ 7 from by omega, show 8 + (2 + 11) + 69 ≤ 155 from by omega⟩ (q0 := 0) rfl rfl (Nat.le_of_ble_eq_true rfl) dxQ_run_136 ⟨Nat.le_of_ble_eq_true rfl, Nat.le_of_ble_eq_true rfl⟩ (fun v W1 hK H locs h => ?_)
        obtain ⟨r19, S20, rfl, rfl, hw⟩ := hK
        refine W.eq (g2 := F0 m 139 ls []) rfl ?_
        refine lv_aload_n hx hb dxQ_run_139 rfl (lv_at hl 0 rfl) ?_
        refine gx_xQ_138 X hG h (x := S20 27 6) rfl dxQ_run_140 ?_
        exact z_iret X hr hlk h ⟨_, _, rfl, rfl, hw⟩ dxQ_run_143
    · have hw := hw.2 c5
      refine lv_iconst (v := -1) hx hb dxQ_run_18 (by decide) ?_
      exact z_iret X hr hlk h ⟨_, _, rfl, rfl, hw⟩ dxQ_run_19
def wxQ_variable  (post : Int64 → Rg → Prop) (S : Rg) (x : Int32) : Prop := wxQ_out (fun r1 S2 => ((r1 = (0 : Int32)) → (vp_in x 4) ∧ post ((S2 0 x.toNatClampNeg).toInt64) S2) ∧ ((¬ (r1 = (0 : Int32))) → post (1000000000000 : Int64) S2)) S x (0) (3)
set_option maxHeartbeats 4000000 in
set_option maxRecDepth 100000 in
theorem mxQ_variable (l : Launch) (Γ : Gm) (θ : Nat → Nat) (S : Rg) (Z : va_W) (x : Int32) (post : Int64 → Rg → Prop) (hw : wxQ_variable post S x) : MM l yxQ_variable cxQ_variable 2 (some .long) 1 22 Γ [.ref (θ 0), .int x] (WM Γ θ S Z) (KK (fun r : Int64 => some (.long r)) (fun S' => WM Γ θ S' Z) post) 0 0 := by
  refine MM_of (by decide) (Nat.le_of_ble_eq_true rfl) ?_
  intro p e s m below meth c X hr hlk hnm hG h ls hl
  have hx := X.1
  have hb := X.2.1
  have hl : lv_has ls 2 [(0, .ref (θ 0)), (1, .int x)] := hl
  unfold wxQ_variable at hw
  refine lv_iload_n hx hb dxQ_variable_0 rfl (lv_at hl 1 rfl) ?_
  refine lv_iconst (v := 0) hx hb dxQ_variable_1 (by decide) ?_
  refine lv_iconst (v := 3) hx hb dxQ_variable_2 (by decide) ?_
  refine cx_xQ_113 (As := [.int x, .int 0, .int 3]) (rest := []) X hG h hl.1 (mxQ_out l Γ θ S Z x (0) (3) _ hw) ⟨show 0 + 1 ≤ 1 from by omega, show 8 + (3 + 11) + 0 ≤ 22 from by omega⟩ rfl (Nat.le_of_ble_eq_true rfl) dxQ_variable_3 ⟨Nat.le_of_ble_eq_true rfl, Nat.le_of_ble_eq_true rfl⟩ (fun v W1 hK H locs h => ?_)
  obtain ⟨r1, S2, rfl, rfl, hw⟩ := hK
  refine W.eq (g2 := F0 m 6 ls [.int r1]) rfl ?_
  refine lv_if_eq (tgt := 15) hx hb dxQ_variable_6 (by decide) (fun c3 => ?_) (fun c3 => ?_)
  · have hw := hw.1 c3
    refine lv_aload_n hx hb dxQ_variable_15 rfl (lv_at hl 0 rfl) ?_
    refine gx_xQ_74 X hG h dxQ_variable_16 ?_
    refine lv_iload_n hx hb dxQ_variable_19 rfl (lv_at hl 1 rfl) ?_
    obtain ⟨o4, hw⟩ := hw
    refine lq_13 X hG h o4 (x := S2 0 x.toNatClampNeg) rfl dxQ_variable_20 ?_
    refine lv_i2l (v := (S2 0 x.toNatClampNeg).toInt64) hx hb dxQ_variable_21 rfl ?_
    exact z_lret X hr hlk h ⟨_, _, rfl, rfl, hw⟩ dxQ_variable_22
  · have hw := hw.2 c3
    refine lv_ldc2 (v := 1000000000000) hx hb X.2.2.2.1 (X.2.2.2.2 _ kL_xQ_286) dxQ_variable_9 ?_
    refine lv_goto (tgt := 22) hx hb dxQ_variable_12 (by decide) ?_
    exact z_lret X hr hlk h ⟨_, _, rfl, rfl, hw⟩ dxQ_variable_22
def wxQ_value  (post : Int64 → Rg → Prop) (S : Rg)  : Prop := (((S 27 11) = (0 : Int32)) → post (1000000000000 : Int64) S) ∧ ((¬ ((S 27 11) = (0 : Int32))) → ((¬ ((S 27 8) = (0 : Int32))) → post ((S 27 7).toInt64) S) ∧ (((S 27 8) = (0 : Int32)) → ((¬ ((S 27 6) = (4 : Int32))) → post (1000000000000 : Int64) S) ∧ (((S 27 6) = (4 : Int32)) → post ((S 27 7).toInt64) S)))
set_option maxHeartbeats 4000000 in
set_option maxRecDepth 100000 in
theorem mxQ_value (l : Launch) (Γ : Gm) (θ : Nat → Nat) (S : Rg) (Z : va_W)  (post : Int64 → Rg → Prop) (hw : wxQ_value post S ) : MM l yxQ_value cxQ_value 1 (some .long) 0 0 Γ [.ref (θ 0)] (WM Γ θ S Z) (KK (fun r : Int64 => some (.long r)) (fun S' => WM Γ θ S' Z) post) 0 0 := by
  refine MM_of (by decide) (Nat.le_of_ble_eq_true rfl) ?_
  intro p e s m below meth c X hr hlk hnm hG h ls hl
  have hx := X.1
  have hb := X.2.1
  have hl : lv_has ls 1 [(0, .ref (θ 0))] := hl
  unfold wxQ_value at hw
  refine lv_aload_n hx hb dxQ_value_0 rfl (lv_at hl 0 rfl) ?_
  refine gx_xQ_230 X hG h (x := S 27 11) rfl dxQ_value_1 ?_
  refine lv_if_eq (tgt := 30) hx hb dxQ_value_4 (by decide) (fun c1 => ?_) (fun c1 => ?_)
  · have hw := hw.1 c1
    refine lv_ldc2 (v := 1000000000000) hx hb X.2.2.2.1 (X.2.2.2.2 _ kL_xQ_286) dxQ_value_30 ?_
    exact z_lret X hr hlk h ⟨_, _, rfl, rfl, hw⟩ dxQ_value_33
  · have hw := hw.2 c1
    refine lv_aload_n hx hb dxQ_value_7 rfl (lv_at hl 0 rfl) ?_
    refine gx_xQ_233 X hG h (x := S 27 8) rfl dxQ_value_8 ?_
    refine lv_if_ne (tgt := 22) hx hb dxQ_value_11 (by decide) (fun c2 => ?_) (fun c2 => ?_)
    · have hw := hw.1 c2
      refine lv_aload_n hx hb dxQ_value_22 rfl (lv_at hl 0 rfl) ?_
      refine gx_xQ_181 X hG h (x := S 27 7) rfl dxQ_value_23 ?_
      refine lv_i2l (v := (S 27 7).toInt64) hx hb dxQ_value_26 rfl ?_
      refine lv_goto (tgt := 33) hx hb dxQ_value_27 (by decide) ?_
      exact z_lret X hr hlk h ⟨_, _, rfl, rfl, hw⟩ dxQ_value_33
    · have hw := hw.2 c2
      refine lv_aload_n hx hb dxQ_value_14 rfl (lv_at hl 0 rfl) ?_
      refine gx_xQ_138 X hG h (x := S 27 6) rfl dxQ_value_15 ?_
      refine lv_iconst (v := 4) hx hb dxQ_value_18 (by decide) ?_
      refine lv_icmp_ne (tgt := 30) hx hb dxQ_value_19 (by decide) (fun c3 => ?_) (fun c3 => ?_)
      · have hw := hw.1 c3
        refine lv_ldc2 (v := 1000000000000) hx hb X.2.2.2.1 (X.2.2.2.2 _ kL_xQ_286) dxQ_value_30 ?_
        exact z_lret X hr hlk h ⟨_, _, rfl, rfl, hw⟩ dxQ_value_33
      · have hw := hw.2 c3
        refine lv_aload_n hx hb dxQ_value_22 rfl (lv_at hl 0 rfl) ?_
        refine gx_xQ_181 X hG h (x := S 27 7) rfl dxQ_value_23 ?_
        refine lv_i2l (v := (S 27 7).toInt64) hx hb dxQ_value_26 rfl ?_
        refine lv_goto (tgt := 33) hx hb dxQ_value_27 (by decide) ?_
        exact z_lret X hr hlk h ⟨_, _, rfl, rfl, hw⟩ dxQ_value_33
def wxQ_logged  (post : Int64 → Rg → Prop) (S : Rg) (x : Int32) : Prop := ((x < (0 : Int32)) → post (1000000000000 : Int64) S) ∧ ((¬ (x < (0 : Int32))) → ((x < (S 7 0)) → (vp_in x 302) ∧ post ((S 2 x.toNatClampNeg).toInt64) S) ∧ ((¬ (x < (S 7 0))) → post (1000000000000 : Int64) S))
set_option maxHeartbeats 4000000 in
set_option maxRecDepth 100000 in
theorem mxQ_logged (l : Launch) (Γ : Gm) (θ : Nat → Nat) (S : Rg) (Z : va_W) (x : Int32) (post : Int64 → Rg → Prop) (hw : wxQ_logged post S x) : MM l yxQ_logged cxQ_logged 2 (some .long) 0 0 Γ [.ref (θ 0), .int x] (WM Γ θ S Z) (KK (fun r : Int64 => some (.long r)) (fun S' => WM Γ θ S' Z) post) 0 0 := by
  refine MM_of (by decide) (Nat.le_of_ble_eq_true rfl) ?_
  intro p e s m below meth c X hr hlk hnm hG h ls hl
  have hx := X.1
  have hb := X.2.1
  have hl : lv_has ls 2 [(0, .ref (θ 0)), (1, .int x)] := hl
  unfold wxQ_logged at hw
  refine lv_iload_n hx hb dxQ_logged_0 rfl (lv_at hl 1 rfl) ?_
  refine lv_if_lt (tgt := 12) hx hb dxQ_logged_1 (by decide) (fun c1 => ?_) (fun c1 => ?_)
  · have hw := hw.1 c1
    refine lv_ldc2 (v := 1000000000000) hx hb X.2.2.2.1 (X.2.2.2.2 _ kL_xQ_286) dxQ_logged_12 ?_
    refine lv_goto (tgt := 25) hx hb dxQ_logged_15 (by decide) ?_
    exact z_lret X hr hlk h ⟨_, _, rfl, rfl, hw⟩ dxQ_logged_25
  · have hw := hw.2 c1
    refine lv_iload_n hx hb dxQ_logged_4 rfl (lv_at hl 1 rfl) ?_
    refine lv_aload_n hx hb dxQ_logged_5 rfl (lv_at hl 0 rfl) ?_
    refine gx_xQ_161 X hG h (x := S 7 0) rfl dxQ_logged_6 ?_
    refine lv_icmp_lt (tgt := 18) hx hb dxQ_logged_9 (by decide) (fun c2 => ?_) (fun c2 => ?_)
    · have hw := hw.1 c2
      refine lv_aload_n hx hb dxQ_logged_18 rfl (lv_at hl 0 rfl) ?_
      refine gx_xQ_80 X hG h dxQ_logged_19 ?_
      refine lv_iload_n hx hb dxQ_logged_22 rfl (lv_at hl 1 rfl) ?_
      obtain ⟨o3, hw⟩ := hw
      refine lq_15 X hG h o3 (x := S 2 x.toNatClampNeg) rfl dxQ_logged_23 ?_
      refine lv_i2l (v := (S 2 x.toNatClampNeg).toInt64) hx hb dxQ_logged_24 rfl ?_
      exact z_lret X hr hlk h ⟨_, _, rfl, rfl, hw⟩ dxQ_logged_25
    · have hw := hw.2 c2
      refine lv_ldc2 (v := 1000000000000) hx hb X.2.2.2.1 (X.2.2.2.2 _ kL_xQ_286) dxQ_logged_12 ?_
      refine lv_goto (tgt := 25) hx hb dxQ_logged_15 (by decide) ?_
      exact z_lret X hr hlk h ⟨_, _, rfl, rfl, hw⟩ dxQ_logged_25
def wxQ_chained_c6  (post : Int64 → Rg → Prop) (x : Int32) (y : Int32) (q : Int32) : Nat → Rg → Int32 → Int32 → Prop
  | 0, _, _, _ => False
  | d + 1, S, a4, a5 => ((y ≤ a5) → ((y < (0 : Int32)) → post (1000000000000 : Int64) S) ∧ ((¬ (y < (0 : Int32))) → (((0 : Int32) ≤ a4) → ((¬ (q = (0 : Int32))) → ((¬ (q = (1 : Int32))) → ((¬ (q = (2 : Int32))) → post (1000000000000 : Int64) S) ∧ ((q = (2 : Int32)) → (vp_in a4 302) ∧ post ((S 6 a4.toNatClampNeg).toInt64) S)) ∧ ((q = (1 : Int32)) → (vp_in a4 302) ∧ post ((S 4 a4.toNatClampNeg).toInt64) S)) ∧ ((q = (0 : Int32)) → (vp_in a4 302) ∧ post ((S 3 a4.toNatClampNeg).toInt64) S)) ∧ ((¬ ((0 : Int32) ≤ a4)) → post (1000000000000 : Int64) S))) ∧ ((¬ (y ≤ a5)) → ((a4 < (0 : Int32)) → ((y < (0 : Int32)) → post (1000000000000 : Int64) S) ∧ ((¬ (y < (0 : Int32))) → (((0 : Int32) ≤ a4) → ((¬ (q = (0 : Int32))) → ((¬ (q = (1 : Int32))) → ((¬ (q = (2 : Int32))) → post (1000000000000 : Int64) S) ∧ ((q = (2 : Int32)) → (vp_in a4 302) ∧ post ((S 6 a4.toNatClampNeg).toInt64) S)) ∧ ((q = (1 : Int32)) → (vp_in a4 302) ∧ post ((S 4 a4.toNatClampNeg).toInt64) S)) ∧ ((q = (0 : Int32)) → (vp_in a4 302) ∧ post ((S 3 a4.toNatClampNeg).toInt64) S)) ∧ ((¬ ((0 : Int32) ≤ a4)) → post (1000000000000 : Int64) S))) ∧ ((¬ (a4 < (0 : Int32))) → (vp_in a4 302) ∧ wxQ_chained_c6 post x y q d S (S 5 a4.toNatClampNeg) (a5 + 1)))
set_option maxHeartbeats 4000000 in
set_option maxRecDepth 100000 in
theorem txQ_chained_c6 {p : Program} {l : Launch} {e : Env} {s : State} {m : MethodId} {below : List Frame} {meth : Method} {c : Code} (Γ : Gm) (θ : Nat → Nat) (Z : va_W) (x : Int32) (y : Int32) (q : Int32)  (post : Int64 → Rg → Prop) (X : CallFix p m c cxQ_chained 6 s ([.ref (θ 0), .int x, .int y, .int q] : List Value).toArray big RxQ) (hr : meth.sig.returnType = (some .long)) (hlk : meth.locks = false) (hG : GX Γ s s.heap) :
    ∀ (d : Nat) (S : Rg) (a4 : Int32) (a5 : Int32) (hw : wxQ_chained_c6 post x y q d S a4 a5) (H : Heap) (locs : List Loc) (h : HS Γ s (WM Γ θ S Z) H locs) (ls : Array Slot) (hl : lv_has ls 6 [(0, .ref (θ 0)), (1, .int x), (2, .int y), (3, .int q), (4, .int a4), (5, .int a5)]), W p l e { frames := 0, cells := 0, slots := 0, locals := 0 } s m ([.ref (θ 0), .int x, .int y, .int q] : List Value).toArray below meth c H locs 0 0 (MQ below (QM Γ (KK (fun r : Int64 => some (.long r)) (fun S' => WM Γ θ S' Z) post)) ([.ref (θ 0), .int x, .int y, .int q] : List Value).toArray s 0 0 (AA Γ)) (F0 m 6 ls []) := by
  have hx := X.1
  have hb := X.2.1
  intro d
  induction d with
  | zero => intro S a4 a5 hw; exact absurd hw (by simp [wxQ_chained_c6])
  | succ d ih =>
    intro S a4 a5 hw H locs h ls hl
    rw [wxQ_chained_c6] at hw
    refine lv_iload hx hb dxQ_chained_6 (lv_at hl 5 rfl) ?_
    refine lv_iload_n hx hb dxQ_chained_8 rfl (lv_at hl 2 rfl) ?_
    refine lv_icmp_ge (tgt := 32) hx hb dxQ_chained_9 (by decide) (fun c1 => ?_) (fun c1 => ?_)
    · have hw := hw.1 c1
      refine lv_iload_n hx hb dxQ_chained_32 rfl (lv_at hl 2 rfl) ?_
      refine lv_if_lt (tgt := 41) hx hb dxQ_chained_33 (by decide) (fun c2 => ?_) (fun c2 => ?_)
      · have hw := hw.1 c2
        refine lv_ldc2 (v := 1000000000000) hx hb X.2.2.2.1 (X.2.2.2.2 _ kL_xQ_286) dxQ_chained_41 ?_
        exact z_lret X hr hlk h ⟨_, _, rfl, rfl, hw⟩ dxQ_chained_44
      · have hw := hw.2 c2
        refine lv_iload hx hb dxQ_chained_36 (lv_at hl 4 rfl) ?_
        refine lv_if_ge (tgt := 45) hx hb dxQ_chained_38 (by decide) (fun c3 => ?_) (fun c3 => ?_)
        · have hw := hw.1 c3
          refine lv_iload_n hx hb dxQ_chained_45 rfl (lv_at hl 3 rfl) ?_
          refine lv_if_ne (tgt := 60) hx hb dxQ_chained_46 (by decide) (fun c4 => ?_) (fun c4 => ?_)
          · have hw := hw.1 c4
            refine lv_iload_n hx hb dxQ_chained_60 rfl (lv_at hl 3 rfl) ?_
            refine lv_iconst (v := 1) hx hb dxQ_chained_61 (by decide) ?_
            refine lv_icmp_ne (tgt := 76) hx hb dxQ_chained_62 (by decide) (fun c5 => ?_) (fun c5 => ?_)
            · have hw := hw.1 c5
              refine lv_iload_n hx hb dxQ_chained_76 rfl (lv_at hl 3 rfl) ?_
              refine lv_iconst (v := 2) hx hb dxQ_chained_77 (by decide) ?_
              refine lv_icmp_ne (tgt := 92) hx hb dxQ_chained_78 (by decide) (fun c6 => ?_) (fun c6 => ?_)
              · have hw := hw.1 c6
                refine lv_ldc2 (v := 1000000000000) hx hb X.2.2.2.1 (X.2.2.2.2 _ kL_xQ_286) dxQ_chained_92 ?_
                exact z_lret X hr hlk h ⟨_, _, rfl, rfl, hw⟩ dxQ_chained_95
              · have hw := hw.2 c6
                refine lv_aload_n hx hb dxQ_chained_81 rfl (lv_at hl 0 rfl) ?_
                refine gx_xQ_71 X hG h dxQ_chained_82 ?_
                refine lv_iload hx hb dxQ_chained_85 (lv_at hl 4 rfl) ?_
                obtain ⟨o7, hw⟩ := hw
                refine lq_12 X hG h o7 (x := S 6 a4.toNatClampNeg) rfl dxQ_chained_87 ?_
                refine lv_i2l (v := (S 6 a4.toNatClampNeg).toInt64) hx hb dxQ_chained_88 rfl ?_
                refine lv_goto (tgt := 95) hx hb dxQ_chained_89 (by decide) ?_
                exact z_lret X hr hlk h ⟨_, _, rfl, rfl, hw⟩ dxQ_chained_95
            · have hw := hw.2 c5
              refine lv_aload_n hx hb dxQ_chained_65 rfl (lv_at hl 0 rfl) ?_
              refine gx_xQ_65 X hG h dxQ_chained_66 ?_
              refine lv_iload hx hb dxQ_chained_69 (lv_at hl 4 rfl) ?_
              obtain ⟨o8, hw⟩ := hw
              refine lq_10 X hG h o8 (x := S 4 a4.toNatClampNeg) rfl dxQ_chained_71 ?_
              refine lv_i2l (v := (S 4 a4.toNatClampNeg).toInt64) hx hb dxQ_chained_72 rfl ?_
              refine lv_goto (tgt := 95) hx hb dxQ_chained_73 (by decide) ?_
              exact z_lret X hr hlk h ⟨_, _, rfl, rfl, hw⟩ dxQ_chained_95
          · have hw := hw.2 c4
            refine lv_aload_n hx hb dxQ_chained_49 rfl (lv_at hl 0 rfl) ?_
            refine gx_xQ_62 X hG h dxQ_chained_50 ?_
            refine lv_iload hx hb dxQ_chained_53 (lv_at hl 4 rfl) ?_
            obtain ⟨o9, hw⟩ := hw
            refine lq_9 X hG h o9 (x := S 3 a4.toNatClampNeg) rfl dxQ_chained_55 ?_
            refine lv_i2l (v := (S 3 a4.toNatClampNeg).toInt64) hx hb dxQ_chained_56 rfl ?_
            refine lv_goto (tgt := 95) hx hb dxQ_chained_57 (by decide) ?_
            exact z_lret X hr hlk h ⟨_, _, rfl, rfl, hw⟩ dxQ_chained_95
        · have hw := hw.2 c3
          refine lv_ldc2 (v := 1000000000000) hx hb X.2.2.2.1 (X.2.2.2.2 _ kL_xQ_286) dxQ_chained_41 ?_
          exact z_lret X hr hlk h ⟨_, _, rfl, rfl, hw⟩ dxQ_chained_44
    · have hw := hw.2 c1
      refine lv_iload hx hb dxQ_chained_12 (lv_at hl 4 rfl) ?_
      refine lv_if_lt (tgt := 32) hx hb dxQ_chained_14 (by decide) (fun c10 => ?_) (fun c10 => ?_)
      · have hw := hw.1 c10
        refine lv_iload_n hx hb dxQ_chained_32 rfl (lv_at hl 2 rfl) ?_
        refine lv_if_lt (tgt := 41) hx hb dxQ_chained_33 (by decide) (fun c11 => ?_) (fun c11 => ?_)
        · have hw := hw.1 c11
          refine lv_ldc2 (v := 1000000000000) hx hb X.2.2.2.1 (X.2.2.2.2 _ kL_xQ_286) dxQ_chained_41 ?_
          exact z_lret X hr hlk h ⟨_, _, rfl, rfl, hw⟩ dxQ_chained_44
        · have hw := hw.2 c11
          refine lv_iload hx hb dxQ_chained_36 (lv_at hl 4 rfl) ?_
          refine lv_if_ge (tgt := 45) hx hb dxQ_chained_38 (by decide) (fun c12 => ?_) (fun c12 => ?_)
          · have hw := hw.1 c12
            refine lv_iload_n hx hb dxQ_chained_45 rfl (lv_at hl 3 rfl) ?_
            refine lv_if_ne (tgt := 60) hx hb dxQ_chained_46 (by decide) (fun c13 => ?_) (fun c13 => ?_)
            · have hw := hw.1 c13
              refine lv_iload_n hx hb dxQ_chained_60 rfl (lv_at hl 3 rfl) ?_
              refine lv_iconst (v := 1) hx hb dxQ_chained_61 (by decide) ?_
              refine lv_icmp_ne (tgt := 76) hx hb dxQ_chained_62 (by decide) (fun c14 => ?_) (fun c14 => ?_)
              · have hw := hw.1 c14
                refine lv_iload_n hx hb dxQ_chained_76 rfl (lv_at hl 3 rfl) ?_
                refine lv_iconst (v := 2) hx hb dxQ_chained_77 (by decide) ?_
                refine lv_icmp_ne (tgt := 92) hx hb dxQ_chained_78 (by decide) (fun c15 => ?_) (fun c15 => ?_)
                · have hw := hw.1 c15
                  refine lv_ldc2 (v := 1000000000000) hx hb X.2.2.2.1 (X.2.2.2.2 _ kL_xQ_286) dxQ_chained_92 ?_
                  exact z_lret X hr hlk h ⟨_, _, rfl, rfl, hw⟩ dxQ_chained_95
                · have hw := hw.2 c15
                  refine lv_aload_n hx hb dxQ_chained_81 rfl (lv_at hl 0 rfl) ?_
                  refine gx_xQ_71 X hG h dxQ_chained_82 ?_
                  refine lv_iload hx hb dxQ_chained_85 (lv_at hl 4 rfl) ?_
                  obtain ⟨o16, hw⟩ := hw
                  refine lq_12 X hG h o16 (x := S 6 a4.toNatClampNeg) rfl dxQ_chained_87 ?_
                  refine lv_i2l (v := (S 6 a4.toNatClampNeg).toInt64) hx hb dxQ_chained_88 rfl ?_
                  refine lv_goto (tgt := 95) hx hb dxQ_chained_89 (by decide) ?_
                  exact z_lret X hr hlk h ⟨_, _, rfl, rfl, hw⟩ dxQ_chained_95
              · have hw := hw.2 c14
                refine lv_aload_n hx hb dxQ_chained_65 rfl (lv_at hl 0 rfl) ?_
                refine gx_xQ_65 X hG h dxQ_chained_66 ?_
                refine lv_iload hx hb dxQ_chained_69 (lv_at hl 4 rfl) ?_
                obtain ⟨o17, hw⟩ := hw
                refine lq_10 X hG h o17 (x := S 4 a4.toNatClampNeg) rfl dxQ_chained_71 ?_
                refine lv_i2l (v := (S 4 a4.toNatClampNeg).toInt64) hx hb dxQ_chained_72 rfl ?_
                refine lv_goto (tgt := 95) hx hb dxQ_chained_73 (by decide) ?_
                exact z_lret X hr hlk h ⟨_, _, rfl, rfl, hw⟩ dxQ_chained_95
            · have hw := hw.2 c13
              refine lv_aload_n hx hb dxQ_chained_49 rfl (lv_at hl 0 rfl) ?_
              refine gx_xQ_62 X hG h dxQ_chained_50 ?_
              refine lv_iload hx hb dxQ_chained_53 (lv_at hl 4 rfl) ?_
              obtain ⟨o18, hw⟩ := hw
              refine lq_9 X hG h o18 (x := S 3 a4.toNatClampNeg) rfl dxQ_chained_55 ?_
              refine lv_i2l (v := (S 3 a4.toNatClampNeg).toInt64) hx hb dxQ_chained_56 rfl ?_
              refine lv_goto (tgt := 95) hx hb dxQ_chained_57 (by decide) ?_
              exact z_lret X hr hlk h ⟨_, _, rfl, rfl, hw⟩ dxQ_chained_95
          · have hw := hw.2 c12
            refine lv_ldc2 (v := 1000000000000) hx hb X.2.2.2.1 (X.2.2.2.2 _ kL_xQ_286) dxQ_chained_41 ?_
            exact z_lret X hr hlk h ⟨_, _, rfl, rfl, hw⟩ dxQ_chained_44
      · have hw := hw.2 c10
        refine lv_aload_n hx hb dxQ_chained_17 rfl (lv_at hl 0 rfl) ?_
        refine gx_xQ_68 X hG h dxQ_chained_18 ?_
        refine lv_iload hx hb dxQ_chained_21 (lv_at hl 4 rfl) ?_
        obtain ⟨o19, hw⟩ := hw
        refine lq_11 X hG h o19 (x := S 5 a4.toNatClampNeg) rfl dxQ_chained_23 ?_
        refine lv_istore (lv' := [(4, .int (S 5 a4.toNatClampNeg)), (0, .ref (θ 0)), (1, .int x), (2, .int y), (3, .int q), (5, .int a5)]) hx hb dxQ_chained_24 hl (by decide) rfl (fun ls hl => ?_)
        refine lv_iinc (v := a5 + 1) (lv' := [(5, .int (a5 + 1)), (4, .int (S 5 a4.toNatClampNeg)), (0, .ref (θ 0)), (1, .int x), (2, .int y), (3, .int q)]) hx hb dxQ_chained_26 hl (k := 5) rfl rfl (by decide) rfl (fun ls hl => ?_)
        refine lv_goto (tgt := 6) hx hb dxQ_chained_29 (by decide) ?_
        exact ih S (S 5 a4.toNatClampNeg) (a5 + 1) hw _ _ h ls (lv_sub hl [2, 3, 4, 5, 1, 0] rfl)
def wxQ_chained  (post : Int64 → Rg → Prop) (S : Rg) (x : Int32) (y : Int32) (q : Int32) : Prop := ∃ d20 : Nat, wxQ_chained_c6 post x y q d20 S x (0 : Int32)
set_option maxHeartbeats 4000000 in
set_option maxRecDepth 100000 in
theorem mxQ_chained (l : Launch) (Γ : Gm) (θ : Nat → Nat) (S : Rg) (Z : va_W) (x : Int32) (y : Int32) (q : Int32) (post : Int64 → Rg → Prop) (hw : wxQ_chained post S x y q) : MM l yxQ_chained cxQ_chained 6 (some .long) 0 0 Γ [.ref (θ 0), .int x, .int y, .int q] (WM Γ θ S Z) (KK (fun r : Int64 => some (.long r)) (fun S' => WM Γ θ S' Z) post) 0 0 := by
  refine MM_of (by decide) (Nat.le_of_ble_eq_true rfl) ?_
  intro p e s m below meth c X hr hlk hnm hG h ls hl
  have hx := X.1
  have hb := X.2.1
  have hl : lv_has ls 6 [(0, .ref (θ 0)), (1, .int x), (2, .int y), (3, .int q)] := hl
  unfold wxQ_chained at hw
  refine lv_iload_n hx hb dxQ_chained_0 rfl (lv_at hl 1 rfl) ?_
  refine lv_istore (lv' := [(4, .int x), (0, .ref (θ 0)), (1, .int x), (2, .int y), (3, .int q)]) hx hb dxQ_chained_1 hl (by decide) rfl (fun ls hl => ?_)
  refine lv_iconst (v := 0) hx hb dxQ_chained_3 (by decide) ?_
  refine lv_istore (lv' := [(5, .int 0), (4, .int x), (0, .ref (θ 0)), (1, .int x), (2, .int y), (3, .int q)]) hx hb dxQ_chained_4 hl (by decide) rfl (fun ls hl => ?_)
  obtain ⟨d20, hw⟩ := hw
  exact txQ_chained_c6 Γ θ Z x y q post X hr hlk hG d20 S x (0 : Int32) hw _ _ h ls (lv_sub hl [2, 3, 4, 5, 1, 0] rfl)
def wxQ_failure  (post : Int64 → Rg → Prop) (S : Rg) (x : Int32) (y : Int32) : Prop := wxQ_chained (fun r1 S2 => post r1 S2) S (S 27 9) x y
set_option maxHeartbeats 4000000 in
set_option maxRecDepth 100000 in
theorem mxQ_failure (l : Launch) (Γ : Gm) (θ : Nat → Nat) (S : Rg) (Z : va_W) (x : Int32) (y : Int32) (post : Int64 → Rg → Prop) (hw : wxQ_failure post S x y) : MM l yxQ_failure cxQ_failure 3 (some .long) 1 25 Γ [.ref (θ 0), .int x, .int y] (WM Γ θ S Z) (KK (fun r : Int64 => some (.long r)) (fun S' => WM Γ θ S' Z) post) 0 0 := by
  refine MM_of (by decide) (Nat.le_of_ble_eq_true rfl) ?_
  intro p e s m below meth c X hr hlk hnm hG h ls hl
  have hx := X.1
  have hb := X.2.1
  have hl : lv_has ls 3 [(0, .ref (θ 0)), (1, .int x), (2, .int y)] := hl
  unfold wxQ_failure at hw
  refine lv_aload_n hx hb dxQ_failure_0 rfl (lv_at hl 0 rfl) ?_
  refine lv_aload_n hx hb dxQ_failure_1 rfl (lv_at hl 0 rfl) ?_
  refine gx_xQ_83 X hG h (x := S 27 9) rfl dxQ_failure_2 ?_
  refine lv_iload_n hx hb dxQ_failure_5 rfl (lv_at hl 1 rfl) ?_
  refine lv_iload_n hx hb dxQ_failure_6 rfl (lv_at hl 2 rfl) ?_
  refine cx_xQ_288 (As := [.int (S 27 9), .int x, .int y]) (rest := []) X hG h hl.1 (mxQ_chained l Γ θ S Z (S 27 9) x y _ hw) ⟨show 0 + 1 ≤ 1 from by omega, show 8 + (6 + 11) + 0 ≤ 25 from by omega⟩ (q0 := 0) rfl rfl (Nat.le_of_ble_eq_true rfl) dxQ_failure_7 ⟨Nat.le_of_ble_eq_true rfl, Nat.le_of_ble_eq_true rfl⟩ (fun v W1 hK H locs h => ?_)
  obtain ⟨r1, S2, rfl, rfl, hw⟩ := hK
  refine W.eq (g2 := F0 m 10 ls [.long r1]) rfl ?_
  exact z_lret X hr hlk h ⟨_, _, rfl, rfl, hw⟩ dxQ_failure_10
def wxQ_second  (post : Int64 → Rg → Prop) (S : Rg) (x : Int32) (y : Int32) : Prop := wxQ_chained (fun r1 S2 => post r1 S2) S (S 27 10) x y
set_option maxHeartbeats 4000000 in
set_option maxRecDepth 100000 in
theorem mxQ_second (l : Launch) (Γ : Gm) (θ : Nat → Nat) (S : Rg) (Z : va_W) (x : Int32) (y : Int32) (post : Int64 → Rg → Prop) (hw : wxQ_second post S x y) : MM l yxQ_second cxQ_second 3 (some .long) 1 25 Γ [.ref (θ 0), .int x, .int y] (WM Γ θ S Z) (KK (fun r : Int64 => some (.long r)) (fun S' => WM Γ θ S' Z) post) 0 0 := by
  refine MM_of (by decide) (Nat.le_of_ble_eq_true rfl) ?_
  intro p e s m below meth c X hr hlk hnm hG h ls hl
  have hx := X.1
  have hb := X.2.1
  have hl : lv_has ls 3 [(0, .ref (θ 0)), (1, .int x), (2, .int y)] := hl
  unfold wxQ_second at hw
  refine lv_aload_n hx hb dxQ_second_0 rfl (lv_at hl 0 rfl) ?_
  refine lv_aload_n hx hb dxQ_second_1 rfl (lv_at hl 0 rfl) ?_
  refine gx_xQ_86 X hG h (x := S 27 10) rfl dxQ_second_2 ?_
  refine lv_iload_n hx hb dxQ_second_5 rfl (lv_at hl 1 rfl) ?_
  refine lv_iload_n hx hb dxQ_second_6 rfl (lv_at hl 2 rfl) ?_
  refine cx_xQ_288 (As := [.int (S 27 10), .int x, .int y]) (rest := []) X hG h hl.1 (mxQ_chained l Γ θ S Z (S 27 10) x y _ hw) ⟨show 0 + 1 ≤ 1 from by omega, show 8 + (6 + 11) + 0 ≤ 25 from by omega⟩ (q0 := 0) rfl rfl (Nat.le_of_ble_eq_true rfl) dxQ_second_7 ⟨Nat.le_of_ble_eq_true rfl, Nat.le_of_ble_eq_true rfl⟩ (fun v W1 hK H locs h => ?_)
  obtain ⟨r1, S2, rfl, rfl, hw⟩ := hK
  refine W.eq (g2 := F0 m 10 ls [.long r1]) rfl ?_
  exact z_lret X hr hlk h ⟨_, _, rfl, rfl, hw⟩ dxQ_second_10
def wxQ_report  (post : Int32 → Rg → Prop) (S : Rg) (x : Int32) : Prop := ((¬ (x = (-1 : Int32))) → ((x < (0 : Int32)) → post (-1 : Int32) S) ∧ ((¬ (x < (0 : Int32))) → ((x < (S 28 0)) → (vp_in x 400) ∧ post (S 26 x.toNatClampNeg) S) ∧ ((¬ (x < (S 28 0))) → post (-1 : Int32) S))) ∧ ((x = (-1 : Int32)) → post (S 28 0) S)
set_option maxHeartbeats 4000000 in
set_option maxRecDepth 100000 in
theorem mxQ_report (l : Launch) (Γ : Gm) (θ : Nat → Nat) (S : Rg) (Z : va_W) (x : Int32) (post : Int32 → Rg → Prop) (hw : wxQ_report post S x) : MM l yxQ_report cxQ_report 2 (some .int) 0 0 Γ [.ref (θ 0), .int x] (WM Γ θ S Z) (KK (fun r : Int32 => some (.int r)) (fun S' => WM Γ θ S' Z) post) 0 0 := by
  refine MM_of (by decide) (Nat.le_of_ble_eq_true rfl) ?_
  intro p e s m below meth c X hr hlk hnm hG h ls hl
  have hx := X.1
  have hb := X.2.1
  have hl : lv_has ls 2 [(0, .ref (θ 0)), (1, .int x)] := hl
  unfold wxQ_report at hw
  refine lv_iload_n hx hb dxQ_report_0 rfl (lv_at hl 1 rfl) ?_
  refine lv_iconst (v := -1) hx hb dxQ_report_1 (by decide) ?_
  refine lv_icmp_ne (tgt := 10) hx hb dxQ_report_2 (by decide) (fun c1 => ?_) (fun c1 => ?_)
  · have hw := hw.1 c1
    refine lv_iload_n hx hb dxQ_report_10 rfl (lv_at hl 1 rfl) ?_
    refine lv_if_lt (tgt := 22) hx hb dxQ_report_11 (by decide) (fun c2 => ?_) (fun c2 => ?_)
    · have hw := hw.1 c2
      refine lv_iconst (v := -1) hx hb dxQ_report_22 (by decide) ?_
      refine lv_goto (tgt := 32) hx hb dxQ_report_23 (by decide) ?_
      exact z_iret X hr hlk h ⟨_, _, rfl, rfl, hw⟩ dxQ_report_32
    · have hw := hw.2 c2
      refine lv_iload_n hx hb dxQ_report_14 rfl (lv_at hl 1 rfl) ?_
      refine lv_aload_n hx hb dxQ_report_15 rfl (lv_at hl 0 rfl) ?_
      refine gx_xQ_245 X hG h (x := S 28 0) rfl dxQ_report_16 ?_
      refine lv_icmp_lt (tgt := 26) hx hb dxQ_report_19 (by decide) (fun c3 => ?_) (fun c3 => ?_)
      · have hw := hw.1 c3
        refine lv_aload_n hx hb dxQ_report_26 rfl (lv_at hl 0 rfl) ?_
        refine gx_xQ_107 X hG h dxQ_report_27 ?_
        refine lv_iload_n hx hb dxQ_report_30 rfl (lv_at hl 1 rfl) ?_
        obtain ⟨o4, hw⟩ := hw
        refine lq_22 X hG h o4 (x := S 26 x.toNatClampNeg) rfl dxQ_report_31 ?_
        exact z_iret X hr hlk h ⟨_, _, rfl, rfl, hw⟩ dxQ_report_32
      · have hw := hw.2 c3
        refine lv_iconst (v := -1) hx hb dxQ_report_22 (by decide) ?_
        refine lv_goto (tgt := 32) hx hb dxQ_report_23 (by decide) ?_
        exact z_iret X hr hlk h ⟨_, _, rfl, rfl, hw⟩ dxQ_report_32
  · have hw := hw.2 c1
    refine lv_aload_n hx hb dxQ_report_5 rfl (lv_at hl 0 rfl) ?_
    refine gx_xQ_245 X hG h (x := S 28 0) rfl dxQ_report_6 ?_
    exact z_iret X hr hlk h ⟨_, _, rfl, rfl, hw⟩ dxQ_report_9
def wxQ_count  (post : Int32 → Rg → Prop) (S : Rg) (x : Int32) : Prop := ((x.toInt < 0 ∨ 9 < x.toInt) → post (-1 : Int32) S) ∧ (x = 0 → post (S 17 0) S) ∧ (x = 1 → post (S 17 1) S) ∧ (x = 2 → post (S 7 2) S) ∧ (x = 3 → post (S 7 1) S) ∧ (x = 4 → post (S 7 3) S) ∧ (x = 5 → post (S 7 4) S) ∧ (x = 6 → post (S 7 5) S) ∧ (x = 7 → post (S 7 0) S) ∧ (x = 8 → (vp_in (x - 8) 2) ∧ post (S 1 ((x - 8).toNatClampNeg)) S) ∧ (x = 9 → (vp_in (x - 8) 2) ∧ post (S 1 ((x - 8).toNatClampNeg)) S)
set_option maxHeartbeats 4000000 in
set_option maxRecDepth 100000 in
theorem mxQ_count (l : Launch) (Γ : Gm) (θ : Nat → Nat) (S : Rg) (Z : va_W) (x : Int32) (post : Int32 → Rg → Prop) (hw : wxQ_count post S x) : MM l yxQ_count cxQ_count 2 (some .int) 0 0 Γ [.ref (θ 0), .int x] (WM Γ θ S Z) (KK (fun r : Int32 => some (.int r)) (fun S' => WM Γ θ S' Z) post) 0 0 := by
  refine MM_of (by decide) (Nat.le_of_ble_eq_true rfl) ?_
  intro p e s m below meth c X hr hlk hnm hG h ls hl
  have hx := X.1
  have hb := X.2.1
  have hl : lv_has ls 2 [(0, .ref (θ 0)), (1, .int x)] := hl
  unfold wxQ_count at hw
  refine lv_iload_n hx hb dxQ_count_0 rfl (lv_at hl 1 rfl) ?_
  by_cases c1 : x.toInt < 0 ∨ 9 < x.toInt
  · have hw := hw.1 c1
    refine lv_tableOut (tgt := 106) hx hb dxQ_count_1 c1 (by decide) ?_
    refine lv_iconst (v := -1) hx hb dxQ_count_106 (by decide) ?_
    exact z_iret X hr hlk h ⟨_, _, rfl, rfl, hw⟩ dxQ_count_107
  · have hw := hw.2
    obtain ⟨j3, j_h, e2⟩ := sw_in (lo := 0) (n := 9) c1
    match j3, j_h, e2 with
    | 0, _, e2 =>
      have e2 : x = 0 := e2
      have hw := hw.1 e2
      refine lv_tableIn (off := 55) (tgt := 56) hx hb dxQ_count_1 (by rw [e2]; decide) (by rw [e2]; decide) (by rw [e2]; rfl) (by decide) ?_
      refine lv_aload_n hx hb dxQ_count_56 rfl (lv_at hl 0 rfl) ?_
      refine gx_xQ_37 X hG h (x := S 17 0) rfl dxQ_count_57 ?_
      exact z_iret X hr hlk h ⟨_, _, rfl, rfl, hw⟩ dxQ_count_60
    | 1, _, e2 =>
      have e2 : x = 1 := e2
      have hw := hw.2.1 e2
      refine lv_tableIn (off := 60) (tgt := 61) hx hb dxQ_count_1 (by rw [e2]; decide) (by rw [e2]; decide) (by rw [e2]; rfl) (by decide) ?_
      refine lv_aload_n hx hb dxQ_count_61 rfl (lv_at hl 0 rfl) ?_
      refine gx_xQ_117 X hG h (x := S 17 1) rfl dxQ_count_62 ?_
      exact z_iret X hr hlk h ⟨_, _, rfl, rfl, hw⟩ dxQ_count_65
    | 2, _, e2 =>
      have e2 : x = 2 := e2
      have hw := hw.2.2.1 e2
      refine lv_tableIn (off := 65) (tgt := 66) hx hb dxQ_count_1 (by rw [e2]; decide) (by rw [e2]; decide) (by rw [e2]; rfl) (by decide) ?_
      refine lv_aload_n hx hb dxQ_count_66 rfl (lv_at hl 0 rfl) ?_
      refine gx_xQ_135 X hG h (x := S 7 2) rfl dxQ_count_67 ?_
      exact z_iret X hr hlk h ⟨_, _, rfl, rfl, hw⟩ dxQ_count_70
    | 3, _, e2 =>
      have e2 : x = 3 := e2
      have hw := hw.2.2.2.1 e2
      refine lv_tableIn (off := 70) (tgt := 71) hx hb dxQ_count_1 (by rw [e2]; decide) (by rw [e2]; decide) (by rw [e2]; rfl) (by decide) ?_
      refine lv_aload_n hx hb dxQ_count_71 rfl (lv_at hl 0 rfl) ?_
      refine gx_xQ_154 X hG h (x := S 7 1) rfl dxQ_count_72 ?_
      exact z_iret X hr hlk h ⟨_, _, rfl, rfl, hw⟩ dxQ_count_75
    | 4, _, e2 =>
      have e2 : x = 4 := e2
      have hw := hw.2.2.2.2.1 e2
      refine lv_tableIn (off := 75) (tgt := 76) hx hb dxQ_count_1 (by rw [e2]; decide) (by rw [e2]; decide) (by rw [e2]; rfl) (by decide) ?_
      refine lv_aload_n hx hb dxQ_count_76 rfl (lv_at hl 0 rfl) ?_
      refine gx_xQ_221 X hG h (x := S 7 3) rfl dxQ_count_77 ?_
      exact z_iret X hr hlk h ⟨_, _, rfl, rfl, hw⟩ dxQ_count_80
    | 5, _, e2 =>
      have e2 : x = 5 := e2
      have hw := hw.2.2.2.2.2.1 e2
      refine lv_tableIn (off := 80) (tgt := 81) hx hb dxQ_count_1 (by rw [e2]; decide) (by rw [e2]; decide) (by rw [e2]; rfl) (by decide) ?_
      refine lv_aload_n hx hb dxQ_count_81 rfl (lv_at hl 0 rfl) ?_
      refine gx_xQ_224 X hG h (x := S 7 4) rfl dxQ_count_82 ?_
      exact z_iret X hr hlk h ⟨_, _, rfl, rfl, hw⟩ dxQ_count_85
    | 6, _, e2 =>
      have e2 : x = 6 := e2
      have hw := hw.2.2.2.2.2.2.1 e2
      refine lv_tableIn (off := 85) (tgt := 86) hx hb dxQ_count_1 (by rw [e2]; decide) (by rw [e2]; decide) (by rw [e2]; rfl) (by decide) ?_
      refine lv_aload_n hx hb dxQ_count_86 rfl (lv_at hl 0 rfl) ?_
      refine gx_xQ_218 X hG h (x := S 7 5) rfl dxQ_count_87 ?_
      exact z_iret X hr hlk h ⟨_, _, rfl, rfl, hw⟩ dxQ_count_90
    | 7, _, e2 =>
      have e2 : x = 7 := e2
      have hw := hw.2.2.2.2.2.2.2.1 e2
      refine lv_tableIn (off := 90) (tgt := 91) hx hb dxQ_count_1 (by rw [e2]; decide) (by rw [e2]; decide) (by rw [e2]; rfl) (by decide) ?_
      refine lv_aload_n hx hb dxQ_count_91 rfl (lv_at hl 0 rfl) ?_
      refine gx_xQ_161 X hG h (x := S 7 0) rfl dxQ_count_92 ?_
      exact z_iret X hr hlk h ⟨_, _, rfl, rfl, hw⟩ dxQ_count_95
    | 8, _, e2 =>
      have e2 : x = 8 := e2
      have hw := hw.2.2.2.2.2.2.2.2.1 e2
      refine lv_tableIn (off := 95) (tgt := 96) hx hb dxQ_count_1 (by rw [e2]; decide) (by rw [e2]; decide) (by rw [e2]; rfl) (by decide) ?_
      refine lv_aload_n hx hb dxQ_count_96 rfl (lv_at hl 0 rfl) ?_
      refine gx_xQ_77 X hG h dxQ_count_97 ?_
      refine lv_iload_n hx hb dxQ_count_100 rfl (lv_at hl 1 rfl) ?_
      refine lv_bipush (v := 8) hx hb dxQ_count_101 (by decide) ?_
      refine lv_isub hx hb dxQ_count_103 ?_
      obtain ⟨o4, hw⟩ := hw
      refine lq_14 X hG h o4 (x := S 1 ((x - 8).toNatClampNeg)) rfl dxQ_count_104 ?_
      exact z_iret X hr hlk h ⟨_, _, rfl, rfl, hw⟩ dxQ_count_105
    | 9, _, e2 =>
      have e2 : x = 9 := e2
      have hw := hw.2.2.2.2.2.2.2.2.2 e2
      refine lv_tableIn (off := 95) (tgt := 96) hx hb dxQ_count_1 (by rw [e2]; decide) (by rw [e2]; decide) (by rw [e2]; rfl) (by decide) ?_
      refine lv_aload_n hx hb dxQ_count_96 rfl (lv_at hl 0 rfl) ?_
      refine gx_xQ_77 X hG h dxQ_count_97 ?_
      refine lv_iload_n hx hb dxQ_count_100 rfl (lv_at hl 1 rfl) ?_
      refine lv_bipush (v := 8) hx hb dxQ_count_101 (by decide) ?_
      refine lv_isub hx hb dxQ_count_103 ?_
      obtain ⟨o5, hw⟩ := hw
      refine lq_14 X hG h o5 (x := S 1 ((x - 8).toNatClampNeg)) rfl dxQ_count_104 ?_
      exact z_iret X hr hlk h ⟨_, _, rfl, rfl, hw⟩ dxQ_count_105
    | k + 10, j_h, _ => exact absurd j_h (by omega)
