def wxC_size  (post : Int32 → Sg → Prop) (ρ : Rh) (S : Sg)  : Prop := post (ρ.2.2.1 7 0) S
set_option maxHeartbeats 4000000 in
set_option maxRecDepth 100000 in
theorem mxC_size (l : Launch) (Γ : Gm) (θ : Th) (ρ : Rh) (S : Sg) (Z : va_W)  (post : Int32 → Sg → Prop) (hw : wxC_size post ρ S ) : MM l yxC_size cxC_size 1 (some .int) 0 0 Γ [.ref (θ.1 1)] (WX Γ θ ρ S Z) (KK (fun r : Int32 => some (.int r)) (fun S' => WX Γ θ ρ S' Z) post) 0 0 := by
  refine MM_of (by decide) (Nat.le_of_ble_eq_true rfl) ?_
  intro p e s m below meth c X hr hlk hnm hG h ls hl
  have hx := X.1
  have hb := X.2.1
  have hl : lv_has ls 1 [(0, .ref (θ.1 1))] := hl
  unfold wxC_size at hw
  refine lv_aload_n hx hb dxC_size_0 rfl (lv_at hl 0 rfl) ?_
  refine gx_xC_13 X hG h (x := ρ.2.2.1 7 0) rfl dxC_size_1 ?_
  exact z_iret X hr hlk h ⟨_, _, rfl, rfl, hw⟩ dxC_size_4
def wxC_has  (post : Int32 → Sg → Prop) (ρ : Rh) (S : Sg) (x : Int32) : Prop := ((x < (0 : Int32)) → post (0 : Int32) S) ∧ ((¬ (x < (0 : Int32))) → (((ρ.2.2.1 7 0) ≤ x) → post (0 : Int32) S) ∧ ((¬ ((ρ.2.2.1 7 0) ≤ x)) → post (1 : Int32) S))
set_option maxHeartbeats 4000000 in
set_option maxRecDepth 100000 in
theorem mxC_has (l : Launch) (Γ : Gm) (θ : Th) (ρ : Rh) (S : Sg) (Z : va_W) (x : Int32) (post : Int32 → Sg → Prop) (hw : wxC_has post ρ S x) : MM l yxC_has cxC_has 2 (some .boolean) 0 0 Γ [.ref (θ.1 1), .int x] (WX Γ θ ρ S Z) (KK (fun r : Int32 => some (.int r)) (fun S' => WX Γ θ ρ S' Z) post) 0 0 := by
  refine MM_of (by decide) (Nat.le_of_ble_eq_true rfl) ?_
  intro p e s m below meth c X hr hlk hnm hG h ls hl
  have hx := X.1
  have hb := X.2.1
  have hl : lv_has ls 2 [(0, .ref (θ.1 1)), (1, .int x)] := hl
  unfold wxC_has at hw
  refine lv_iload_n hx hb dxC_has_0 rfl (lv_at hl 1 rfl) ?_
  refine lv_if_lt (tgt := 16) hx hb dxC_has_1 (by decide) (fun c1 => ?_) (fun c1 => ?_)
  · have hw := hw.1 c1
    refine lv_iconst (v := 0) hx hb dxC_has_16 (by decide) ?_
    exact z_zret X hr hlk h rfl ⟨_, _, rfl, rfl, hw⟩ dxC_has_17
  · have hw := hw.2 c1
    refine lv_iload_n hx hb dxC_has_4 rfl (lv_at hl 1 rfl) ?_
    refine lv_aload_n hx hb dxC_has_5 rfl (lv_at hl 0 rfl) ?_
    refine gx_xC_13 X hG h (x := ρ.2.2.1 7 0) rfl dxC_has_6 ?_
    refine lv_icmp_ge (tgt := 16) hx hb dxC_has_9 (by decide) (fun c2 => ?_) (fun c2 => ?_)
    · have hw := hw.1 c2
      refine lv_iconst (v := 0) hx hb dxC_has_16 (by decide) ?_
      exact z_zret X hr hlk h rfl ⟨_, _, rfl, rfl, hw⟩ dxC_has_17
    · have hw := hw.2 c2
      refine lv_iconst (v := 1) hx hb dxC_has_12 (by decide) ?_
      refine lv_goto (tgt := 17) hx hb dxC_has_13 (by decide) ?_
      exact z_zret X hr hlk h rfl ⟨_, _, rfl, rfl, hw⟩ dxC_has_17
def wxC_isFull  (post : Int32 → Sg → Prop) (ρ : Rh) (S : Sg)  : Prop := ((¬ ((ρ.2.2.1 7 0) = (16 : Int32))) → post (0 : Int32) S) ∧ (((ρ.2.2.1 7 0) = (16 : Int32)) → post (1 : Int32) S)
set_option maxHeartbeats 4000000 in
set_option maxRecDepth 100000 in
theorem mxC_isFull (l : Launch) (Γ : Gm) (θ : Th) (ρ : Rh) (S : Sg) (Z : va_W)  (post : Int32 → Sg → Prop) (hw : wxC_isFull post ρ S ) : MM l yxC_isFull cxC_isFull 1 (some .boolean) 0 0 Γ [.ref (θ.1 1)] (WX Γ θ ρ S Z) (KK (fun r : Int32 => some (.int r)) (fun S' => WX Γ θ ρ S' Z) post) 0 0 := by
  refine MM_of (by decide) (Nat.le_of_ble_eq_true rfl) ?_
  intro p e s m below meth c X hr hlk hnm hG h ls hl
  have hx := X.1
  have hb := X.2.1
  have hl : lv_has ls 1 [(0, .ref (θ.1 1))] := hl
  unfold wxC_isFull at hw
  refine lv_aload_n hx hb dxC_isFull_0 rfl (lv_at hl 0 rfl) ?_
  refine gx_xC_13 X hG h (x := ρ.2.2.1 7 0) rfl dxC_isFull_1 ?_
  refine lv_bipush (v := 16) hx hb dxC_isFull_4 (by decide) ?_
  refine lv_icmp_ne (tgt := 13) hx hb dxC_isFull_6 (by decide) (fun c1 => ?_) (fun c1 => ?_)
  · have hw := hw.1 c1
    refine lv_iconst (v := 0) hx hb dxC_isFull_13 (by decide) ?_
    exact z_zret X hr hlk h rfl ⟨_, _, rfl, rfl, hw⟩ dxC_isFull_14
  · have hw := hw.2 c1
    refine lv_iconst (v := 1) hx hb dxC_isFull_9 (by decide) ?_
    refine lv_goto (tgt := 14) hx hb dxC_isFull_10 (by decide) ?_
    exact z_zret X hr hlk h rfl ⟨_, _, rfl, rfl, hw⟩ dxC_isFull_14
def wxC_is_c5  (post : Int32 → Sg → Prop) (ρ : Rh) (x : Int32) (y : Int32) : Nat → Sg → Int32 → Int32 → Prop
  | 0, _, _, _ => False
  | d + 1, S, a3, a4 => (((16 : Int32) ≤ a4) → ((¬ (a3 = y)) → post (0 : Int32) S) ∧ ((a3 = y) → post (1 : Int32) S)) ∧ ((¬ ((16 : Int32) ≤ a4)) → wxC_has (fun r3 S4 => ((r3 = (0 : Int32)) → ((¬ (a3 = y)) → post (0 : Int32) S4) ∧ ((a3 = y) → post (1 : Int32) S4)) ∧ ((¬ (r3 = (0 : Int32))) → ((a3 = y) → ((¬ (a3 = y)) → post (0 : Int32) S4) ∧ ((a3 = y) → post (1 : Int32) S4)) ∧ ((¬ (a3 = y)) → (vp_in a3 16) ∧ wxC_is_c5 post ρ x y d S4 (ρ.2.2.1 6 a3.toNatClampNeg) (a4 + 1)))) ρ S a3)
set_option maxHeartbeats 4000000 in
set_option maxRecDepth 100000 in
theorem txC_is_c5 {p : Program} {l : Launch} {e : Env} {s : State} {m : MethodId} {below : List Frame} {meth : Method} {c : Code} (Γ : Gm) (θ : Th) (ρ : Rh) (Z : va_W) (x : Int32) (y : Int32)  (post : Int32 → Sg → Prop) (X : CallFix p m c cxC_is 5 s ([.ref (θ.1 1), .int x, .int y] : List Value).toArray big RxC) (hr : meth.sig.returnType = (some .boolean)) (hlk : meth.locks = false) (hG : GX Γ s s.heap) :
    ∀ (d : Nat) (S : Sg) (a3 : Int32) (a4 : Int32) (hw : wxC_is_c5 post ρ x y d S a3 a4) (H : Heap) (locs : List Loc) (h : HS Γ s (WX Γ θ ρ S Z) H locs) (ls : Array Slot) (hl : lv_has ls 5 [(0, .ref (θ.1 1)), (1, .int x), (2, .int y), (3, .int a3), (4, .int a4)]), W p l e { frames := 1, cells := 0, slots := 0, locals := 21 } s m ([.ref (θ.1 1), .int x, .int y] : List Value).toArray below meth c H locs 0 0 (MQ below (QM Γ (KK (fun r : Int32 => some (.int r)) (fun S' => WX Γ θ ρ S' Z) post)) ([.ref (θ.1 1), .int x, .int y] : List Value).toArray s 0 0 (AA Γ)) (F0 m 5 ls []) := by
  have hx := X.1
  have hb := X.2.1
  intro d
  induction d with
  | zero => intro S a3 a4 hw; exact absurd hw (by simp [wxC_is_c5])
  | succ d ih =>
    intro S a3 a4 hw H locs h ls hl
    rw [wxC_is_c5] at hw
    refine lv_iload hx hb dxC_is_5 (lv_at hl 4 rfl) ?_
    refine lv_bipush (v := 16) hx hb dxC_is_7 (by decide) ?_
    refine lv_icmp_ge (tgt := 38) hx hb dxC_is_9 (by decide) (fun c1 => ?_) (fun c1 => ?_)
    · have hw := hw.1 c1
      refine lv_iload_n hx hb dxC_is_38 rfl (lv_at hl 3 rfl) ?_
      refine lv_iload_n hx hb dxC_is_39 rfl (lv_at hl 2 rfl) ?_
      refine lv_icmp_ne (tgt := 47) hx hb dxC_is_40 (by decide) (fun c2 => ?_) (fun c2 => ?_)
      · have hw := hw.1 c2
        refine lv_iconst (v := 0) hx hb dxC_is_47 (by decide) ?_
        exact z_zret X hr hlk h rfl ⟨_, _, rfl, rfl, hw⟩ dxC_is_48
      · have hw := hw.2 c2
        refine lv_iconst (v := 1) hx hb dxC_is_43 (by decide) ?_
        refine lv_goto (tgt := 48) hx hb dxC_is_44 (by decide) ?_
        exact z_zret X hr hlk h rfl ⟨_, _, rfl, rfl, hw⟩ dxC_is_48
    · have hw := hw.2 c1
      refine lv_aload_n hx hb dxC_is_12 rfl (lv_at hl 0 rfl) ?_
      refine lv_iload_n hx hb dxC_is_13 rfl (lv_at hl 3 rfl) ?_
      refine cx_xC_26 (As := [.int a3]) (rest := []) X hG h hl.1 (mxC_has l Γ θ ρ S Z a3 _ hw) ⟨show 0 + 1 ≤ 1 from by omega, show 8 + (2 + 11) + 0 ≤ 21 from by omega⟩ (q0 := 1) rfl rfl (Nat.le_of_ble_eq_true rfl) dxC_is_14 ⟨Nat.le_of_ble_eq_true rfl, Nat.le_of_ble_eq_true rfl⟩ (fun v W1 hK H locs h => ?_)
      obtain ⟨r3, S4, rfl, rfl, hw⟩ := hK
      refine W.eq (g2 := F0 m 17 ls [.int r3]) rfl ?_
      refine lv_if_eq (tgt := 38) hx hb dxC_is_17 (by decide) (fun c5 => ?_) (fun c5 => ?_)
      · have hw := hw.1 c5
        refine lv_iload_n hx hb dxC_is_38 rfl (lv_at hl 3 rfl) ?_
        refine lv_iload_n hx hb dxC_is_39 rfl (lv_at hl 2 rfl) ?_
        refine lv_icmp_ne (tgt := 47) hx hb dxC_is_40 (by decide) (fun c6 => ?_) (fun c6 => ?_)
        · have hw := hw.1 c6
          refine lv_iconst (v := 0) hx hb dxC_is_47 (by decide) ?_
          exact z_zret X hr hlk h rfl ⟨_, _, rfl, rfl, hw⟩ dxC_is_48
        · have hw := hw.2 c6
          refine lv_iconst (v := 1) hx hb dxC_is_43 (by decide) ?_
          refine lv_goto (tgt := 48) hx hb dxC_is_44 (by decide) ?_
          exact z_zret X hr hlk h rfl ⟨_, _, rfl, rfl, hw⟩ dxC_is_48
      · have hw := hw.2 c5
        refine lv_iload_n hx hb dxC_is_20 rfl (lv_at hl 3 rfl) ?_
        refine lv_iload_n hx hb dxC_is_21 rfl (lv_at hl 2 rfl) ?_
        refine lv_icmp_eq (tgt := 38) hx hb dxC_is_22 (by decide) (fun c7 => ?_) (fun c7 => ?_)
        · have hw := hw.1 c7
          refine lv_iload_n hx hb dxC_is_38 rfl (lv_at hl 3 rfl) ?_
          refine lv_iload_n hx hb dxC_is_39 rfl (lv_at hl 2 rfl) ?_
          refine lv_icmp_ne (tgt := 47) hx hb dxC_is_40 (by decide) (fun c8 => ?_) (fun c8 => ?_)
          · have hw := hw.1 c8
            refine lv_iconst (v := 0) hx hb dxC_is_47 (by decide) ?_
            exact z_zret X hr hlk h rfl ⟨_, _, rfl, rfl, hw⟩ dxC_is_48
          · have hw := hw.2 c8
            refine lv_iconst (v := 1) hx hb dxC_is_43 (by decide) ?_
            refine lv_goto (tgt := 48) hx hb dxC_is_44 (by decide) ?_
            exact z_zret X hr hlk h rfl ⟨_, _, rfl, rfl, hw⟩ dxC_is_48
        · have hw := hw.2 c7
          refine lv_aload_n hx hb dxC_is_25 rfl (lv_at hl 0 rfl) ?_
          refine gx_xC_9 X hG h dxC_is_26 ?_
          refine lv_iload_n hx hb dxC_is_29 rfl (lv_at hl 3 rfl) ?_
          obtain ⟨o9, hw⟩ := hw
          refine lx_2 X hG h o9 (x := ρ.2.2.1 6 a3.toNatClampNeg) rfl dxC_is_30 ?_
          refine lv_istore_n (lv' := [(3, .int (ρ.2.2.1 6 a3.toNatClampNeg)), (0, .ref (θ.1 1)), (1, .int x), (2, .int y), (4, .int a4)]) hx hb dxC_is_31 rfl hl (by decide) rfl (fun ls hl => ?_)
          refine lv_iinc (v := a4 + 1) (lv' := [(4, .int (a4 + 1)), (3, .int (ρ.2.2.1 6 a3.toNatClampNeg)), (0, .ref (θ.1 1)), (1, .int x), (2, .int y)]) hx hb dxC_is_32 hl (k := 4) rfl rfl (by decide) rfl (fun ls hl => ?_)
          refine lv_goto (tgt := 5) hx hb dxC_is_35 (by decide) ?_
          exact ih S4 (ρ.2.2.1 6 a3.toNatClampNeg) (a4 + 1) hw _ _ h ls (lv_sub hl [2, 3, 4, 1, 0] rfl)
def wxC_is  (post : Int32 → Sg → Prop) (ρ : Rh) (S : Sg) (x : Int32) (y : Int32) : Prop := ∃ d10 : Nat, wxC_is_c5 post ρ x y d10 S x (0 : Int32)
set_option maxHeartbeats 4000000 in
set_option maxRecDepth 100000 in
theorem mxC_is (l : Launch) (Γ : Gm) (θ : Th) (ρ : Rh) (S : Sg) (Z : va_W) (x : Int32) (y : Int32) (post : Int32 → Sg → Prop) (hw : wxC_is post ρ S x y) : MM l yxC_is cxC_is 5 (some .boolean) 1 21 Γ [.ref (θ.1 1), .int x, .int y] (WX Γ θ ρ S Z) (KK (fun r : Int32 => some (.int r)) (fun S' => WX Γ θ ρ S' Z) post) 0 0 := by
  refine MM_of (by decide) (Nat.le_of_ble_eq_true rfl) ?_
  intro p e s m below meth c X hr hlk hnm hG h ls hl
  have hx := X.1
  have hb := X.2.1
  have hl : lv_has ls 5 [(0, .ref (θ.1 1)), (1, .int x), (2, .int y)] := hl
  unfold wxC_is at hw
  refine lv_iload_n hx hb dxC_is_0 rfl (lv_at hl 1 rfl) ?_
  refine lv_istore_n (lv' := [(3, .int x), (0, .ref (θ.1 1)), (1, .int x), (2, .int y)]) hx hb dxC_is_1 rfl hl (by decide) rfl (fun ls hl => ?_)
  refine lv_iconst (v := 0) hx hb dxC_is_2 (by decide) ?_
  refine lv_istore (lv' := [(4, .int 0), (3, .int x), (0, .ref (θ.1 1)), (1, .int x), (2, .int y)]) hx hb dxC_is_3 hl (by decide) rfl (fun ls hl => ?_)
  obtain ⟨d10, hw⟩ := hw
  exact txC_is_c5 Γ θ ρ Z x y post X hr hlk hG d10 S x (0 : Int32) hw _ _ h ls (lv_sub hl [2, 3, 4, 1, 0] rfl)
def wxP_size  (post : Int32 → Sg → Prop) (ρ : Rh) (S : Sg)  : Prop := post (ρ.2.2.1 7 1) S
set_option maxHeartbeats 4000000 in
set_option maxRecDepth 100000 in
theorem mxP_size (l : Launch) (Γ : Gm) (θ : Th) (ρ : Rh) (S : Sg) (Z : va_W)  (post : Int32 → Sg → Prop) (hw : wxP_size post ρ S ) : MM l yxP_size cxP_size 1 (some .int) 0 0 Γ [.ref (θ.1 3)] (WX Γ θ ρ S Z) (KK (fun r : Int32 => some (.int r)) (fun S' => WX Γ θ ρ S' Z) post) 0 0 := by
  refine MM_of (by decide) (Nat.le_of_ble_eq_true rfl) ?_
  intro p e s m below meth c X hr hlk hnm hG h ls hl
  have hx := X.1
  have hb := X.2.1
  have hl : lv_has ls 1 [(0, .ref (θ.1 3))] := hl
  unfold wxP_size at hw
  refine lv_aload_n hx hb dxP_size_0 rfl (lv_at hl 0 rfl) ?_
  refine gx_xP_19 X hG h (x := ρ.2.2.1 7 1) rfl dxP_size_1 ?_
  exact z_iret X hr hlk h ⟨_, _, rfl, rfl, hw⟩ dxP_size_4
def wxP_isFull  (post : Int32 → Sg → Prop) (ρ : Rh) (S : Sg)  : Prop := ((¬ ((ρ.2.2.1 7 1) = (64 : Int32))) → post (0 : Int32) S) ∧ (((ρ.2.2.1 7 1) = (64 : Int32)) → post (1 : Int32) S)
set_option maxHeartbeats 4000000 in
set_option maxRecDepth 100000 in
theorem mxP_isFull (l : Launch) (Γ : Gm) (θ : Th) (ρ : Rh) (S : Sg) (Z : va_W)  (post : Int32 → Sg → Prop) (hw : wxP_isFull post ρ S ) : MM l yxP_isFull cxP_isFull 1 (some .boolean) 0 0 Γ [.ref (θ.1 3)] (WX Γ θ ρ S Z) (KK (fun r : Int32 => some (.int r)) (fun S' => WX Γ θ ρ S' Z) post) 0 0 := by
  refine MM_of (by decide) (Nat.le_of_ble_eq_true rfl) ?_
  intro p e s m below meth c X hr hlk hnm hG h ls hl
  have hx := X.1
  have hb := X.2.1
  have hl : lv_has ls 1 [(0, .ref (θ.1 3))] := hl
  unfold wxP_isFull at hw
  refine lv_aload_n hx hb dxP_isFull_0 rfl (lv_at hl 0 rfl) ?_
  refine gx_xP_19 X hG h (x := ρ.2.2.1 7 1) rfl dxP_isFull_1 ?_
  refine lv_bipush (v := 64) hx hb dxP_isFull_4 (by decide) ?_
  refine lv_icmp_ne (tgt := 13) hx hb dxP_isFull_6 (by decide) (fun c1 => ?_) (fun c1 => ?_)
  · have hw := hw.1 c1
    refine lv_iconst (v := 0) hx hb dxP_isFull_13 (by decide) ?_
    exact z_zret X hr hlk h rfl ⟨_, _, rfl, rfl, hw⟩ dxP_isFull_14
  · have hw := hw.2 c1
    refine lv_iconst (v := 1) hx hb dxP_isFull_9 (by decide) ?_
    refine lv_goto (tgt := 14) hx hb dxP_isFull_10 (by decide) ?_
    exact z_zret X hr hlk h rfl ⟨_, _, rfl, rfl, hw⟩ dxP_isFull_14
def wxP_at  (post : Nat → Sg → Prop) (ρ : Rh) (S : Sg) (x : Int32) : Prop := (vp_in x 64) ∧ (x.toNatClampNeg < ρ.2.1) ∧ post x.toNatClampNeg S
set_option maxHeartbeats 4000000 in
set_option maxRecDepth 100000 in
theorem mxP_at (l : Launch) (Γ : Gm) (θ : Th) (ρ : Rh) (S : Sg) (Z : va_W) (x : Int32) (post : Nat → Sg → Prop) (hw : wxP_at post ρ S x) : MM l yxP_at cxP_at 2 (some (.object "ThrowScenario$Node")) 0 0 Γ [.ref (θ.1 3), .int x] (WX Γ θ ρ S Z) (KK (fun r : Nat => some (.ref (ρ.1 r))) (fun S' => WX Γ θ ρ S' Z) post) 0 0 := by
  refine MM_of (by decide) (Nat.le_of_ble_eq_true rfl) ?_
  intro p e s m below meth c X hr hlk hnm hG h ls hl
  have hx := X.1
  have hb := X.2.1
  have hl : lv_has ls 2 [(0, .ref (θ.1 3)), (1, .int x)] := hl
  unfold wxP_at at hw
  refine lv_aload_n hx hb dxP_at_0 rfl (lv_at hl 0 rfl) ?_
  refine gx_xP_11 X hG h dxP_at_1 ?_
  refine lv_iload_n hx hb dxP_at_4 rfl (lv_at hl 1 rfl) ?_
  obtain ⟨o1, hw⟩ := hw
  obtain ⟨o2, hw⟩ := hw
  refine lx_4 X hG h o1 o2 dxP_at_5 ?_
  exact z_aret X hr hlk h (Or.inr ⟨_, rfl⟩) ⟨_, _, rfl, rfl, hw⟩ dxP_at_6
def wxP_statementOf  (post : Int32 → Sg → Prop) (ρ : Rh) (S : Sg) (x : Int32) : Prop := (vp_in x 6) ∧ post (ρ.2.2.1 5 x.toNatClampNeg) S
set_option maxHeartbeats 4000000 in
set_option maxRecDepth 100000 in
theorem mxP_statementOf (l : Launch) (Γ : Gm) (θ : Th) (ρ : Rh) (S : Sg) (Z : va_W) (x : Int32) (post : Int32 → Sg → Prop) (hw : wxP_statementOf post ρ S x) : MM l yxP_statementOf cxP_statementOf 2 (some .int) 0 0 Γ [.ref (θ.1 3), .int x] (WX Γ θ ρ S Z) (KK (fun r : Int32 => some (.int r)) (fun S' => WX Γ θ ρ S' Z) post) 0 0 := by
  refine MM_of (by decide) (Nat.le_of_ble_eq_true rfl) ?_
  intro p e s m below meth c X hr hlk hnm hG h ls hl
  have hx := X.1
  have hb := X.2.1
  have hl : lv_has ls 2 [(0, .ref (θ.1 3)), (1, .int x)] := hl
  unfold wxP_statementOf at hw
  refine lv_aload_n hx hb dxP_statementOf_0 rfl (lv_at hl 0 rfl) ?_
  refine gx_xP_15 X hG h dxP_statementOf_1 ?_
  refine lv_iload_n hx hb dxP_statementOf_4 rfl (lv_at hl 1 rfl) ?_
  obtain ⟨o1, hw⟩ := hw
  refine lx_5 X hG h o1 (x := ρ.2.2.1 5 x.toNatClampNeg) rfl dxP_statementOf_5 ?_
  exact z_iret X hr hlk h ⟨_, _, rfl, rfl, hw⟩ dxP_statementOf_6
def wxP_isRoutine  (post : Int32 → Sg → Prop) (ρ : Rh) (S : Sg) (x : Int32) : Prop := ((x < (0 : Int32)) → post (0 : Int32) S) ∧ ((¬ (x < (0 : Int32))) → (((6 : Int32) ≤ x) → post (0 : Int32) S) ∧ ((¬ ((6 : Int32) ≤ x)) → post (1 : Int32) S))
set_option maxHeartbeats 4000000 in
set_option maxRecDepth 100000 in
theorem mxP_isRoutine (l : Launch) (Γ : Gm) (θ : Th) (ρ : Rh) (S : Sg) (Z : va_W) (x : Int32) (post : Int32 → Sg → Prop) (hw : wxP_isRoutine post ρ S x) : MM l yxP_isRoutine cxP_isRoutine 1 (some .boolean) 0 0 Γ [.int x] (WX Γ θ ρ S Z) (KK (fun r : Int32 => some (.int r)) (fun S' => WX Γ θ ρ S' Z) post) 0 0 := by
  refine MM_of (by decide) (Nat.le_of_ble_eq_true rfl) ?_
  intro p e s m below meth c X hr hlk hnm hG h ls hl
  have hx := X.1
  have hb := X.2.1
  have hl : lv_has ls 1 [(0, .int x)] := hl
  unfold wxP_isRoutine at hw
  refine lv_iload_n hx hb dxP_isRoutine_0 rfl (lv_at hl 0 rfl) ?_
  refine lv_if_lt (tgt := 14) hx hb dxP_isRoutine_1 (by decide) (fun c1 => ?_) (fun c1 => ?_)
  · have hw := hw.1 c1
    refine lv_iconst (v := 0) hx hb dxP_isRoutine_14 (by decide) ?_
    exact z_zret X hr hlk h rfl ⟨_, _, rfl, rfl, hw⟩ dxP_isRoutine_15
  · have hw := hw.2 c1
    refine lv_iload_n hx hb dxP_isRoutine_4 rfl (lv_at hl 0 rfl) ?_
    refine lv_bipush (v := 6) hx hb dxP_isRoutine_5 (by decide) ?_
    refine lv_icmp_ge (tgt := 14) hx hb dxP_isRoutine_7 (by decide) (fun c2 => ?_) (fun c2 => ?_)
    · have hw := hw.1 c2
      refine lv_iconst (v := 0) hx hb dxP_isRoutine_14 (by decide) ?_
      exact z_zret X hr hlk h rfl ⟨_, _, rfl, rfl, hw⟩ dxP_isRoutine_15
    · have hw := hw.2 c2
      refine lv_iconst (v := 1) hx hb dxP_isRoutine_10 (by decide) ?_
      refine lv_goto (tgt := 15) hx hb dxP_isRoutine_11 (by decide) ?_
      exact z_zret X hr hlk h rfl ⟨_, _, rfl, rfl, hw⟩ dxP_isRoutine_15
def wxP_isVariable  (post : Int32 → Sg → Prop) (ρ : Rh) (S : Sg) (x : Int32) : Prop := ((x < (0 : Int32)) → post (0 : Int32) S) ∧ ((¬ (x < (0 : Int32))) → (((4 : Int32) ≤ x) → post (0 : Int32) S) ∧ ((¬ ((4 : Int32) ≤ x)) → post (1 : Int32) S))
set_option maxHeartbeats 4000000 in
set_option maxRecDepth 100000 in
theorem mxP_isVariable (l : Launch) (Γ : Gm) (θ : Th) (ρ : Rh) (S : Sg) (Z : va_W) (x : Int32) (post : Int32 → Sg → Prop) (hw : wxP_isVariable post ρ S x) : MM l yxP_isVariable cxP_isVariable 1 (some .boolean) 0 0 Γ [.int x] (WX Γ θ ρ S Z) (KK (fun r : Int32 => some (.int r)) (fun S' => WX Γ θ ρ S' Z) post) 0 0 := by
  refine MM_of (by decide) (Nat.le_of_ble_eq_true rfl) ?_
  intro p e s m below meth c X hr hlk hnm hG h ls hl
  have hx := X.1
  have hb := X.2.1
  have hl : lv_has ls 1 [(0, .int x)] := hl
  unfold wxP_isVariable at hw
  refine lv_iload_n hx hb dxP_isVariable_0 rfl (lv_at hl 0 rfl) ?_
  refine lv_if_lt (tgt := 13) hx hb dxP_isVariable_1 (by decide) (fun c1 => ?_) (fun c1 => ?_)
  · have hw := hw.1 c1
    refine lv_iconst (v := 0) hx hb dxP_isVariable_13 (by decide) ?_
    exact z_zret X hr hlk h rfl ⟨_, _, rfl, rfl, hw⟩ dxP_isVariable_14
  · have hw := hw.2 c1
    refine lv_iload_n hx hb dxP_isVariable_4 rfl (lv_at hl 0 rfl) ?_
    refine lv_iconst (v := 4) hx hb dxP_isVariable_5 (by decide) ?_
    refine lv_icmp_ge (tgt := 13) hx hb dxP_isVariable_6 (by decide) (fun c2 => ?_) (fun c2 => ?_)
    · have hw := hw.1 c2
      refine lv_iconst (v := 0) hx hb dxP_isVariable_13 (by decide) ?_
      exact z_zret X hr hlk h rfl ⟨_, _, rfl, rfl, hw⟩ dxP_isVariable_14
    · have hw := hw.2 c2
      refine lv_iconst (v := 1) hx hb dxP_isVariable_9 (by decide) ?_
      refine lv_goto (tgt := 14) hx hb dxP_isVariable_10 (by decide) ?_
      exact z_zret X hr hlk h rfl ⟨_, _, rfl, rfl, hw⟩ dxP_isVariable_14
def wxP_isMonitor  (post : Int32 → Sg → Prop) (ρ : Rh) (S : Sg) (x : Int32) : Prop := ((x < (0 : Int32)) → post (0 : Int32) S) ∧ ((¬ (x < (0 : Int32))) → (((2 : Int32) ≤ x) → post (0 : Int32) S) ∧ ((¬ ((2 : Int32) ≤ x)) → post (1 : Int32) S))
set_option maxHeartbeats 4000000 in
set_option maxRecDepth 100000 in
theorem mxP_isMonitor (l : Launch) (Γ : Gm) (θ : Th) (ρ : Rh) (S : Sg) (Z : va_W) (x : Int32) (post : Int32 → Sg → Prop) (hw : wxP_isMonitor post ρ S x) : MM l yxP_isMonitor cxP_isMonitor 1 (some .boolean) 0 0 Γ [.int x] (WX Γ θ ρ S Z) (KK (fun r : Int32 => some (.int r)) (fun S' => WX Γ θ ρ S' Z) post) 0 0 := by
  refine MM_of (by decide) (Nat.le_of_ble_eq_true rfl) ?_
  intro p e s m below meth c X hr hlk hnm hG h ls hl
  have hx := X.1
  have hb := X.2.1
  have hl : lv_has ls 1 [(0, .int x)] := hl
  unfold wxP_isMonitor at hw
  refine lv_iload_n hx hb dxP_isMonitor_0 rfl (lv_at hl 0 rfl) ?_
  refine lv_if_lt (tgt := 13) hx hb dxP_isMonitor_1 (by decide) (fun c1 => ?_) (fun c1 => ?_)
  · have hw := hw.1 c1
    refine lv_iconst (v := 0) hx hb dxP_isMonitor_13 (by decide) ?_
    exact z_zret X hr hlk h rfl ⟨_, _, rfl, rfl, hw⟩ dxP_isMonitor_14
  · have hw := hw.2 c1
    refine lv_iload_n hx hb dxP_isMonitor_4 rfl (lv_at hl 0 rfl) ?_
    refine lv_iconst (v := 2) hx hb dxP_isMonitor_5 (by decide) ?_
    refine lv_icmp_ge (tgt := 13) hx hb dxP_isMonitor_6 (by decide) (fun c2 => ?_) (fun c2 => ?_)
    · have hw := hw.1 c2
      refine lv_iconst (v := 0) hx hb dxP_isMonitor_13 (by decide) ?_
      exact z_zret X hr hlk h rfl ⟨_, _, rfl, rfl, hw⟩ dxP_isMonitor_14
    · have hw := hw.2 c2
      refine lv_iconst (v := 1) hx hb dxP_isMonitor_9 (by decide) ?_
      refine lv_goto (tgt := 14) hx hb dxP_isMonitor_10 (by decide) ?_
      exact z_zret X hr hlk h rfl ⟨_, _, rfl, rfl, hw⟩ dxP_isMonitor_14
def wxP_isDefined  (post : Int32 → Sg → Prop) (ρ : Rh) (S : Sg) (x : Int32) : Prop := wxP_isRoutine (fun r1 S2 => ((r1 = (0 : Int32)) → post (0 : Int32) S2) ∧ ((¬ (r1 = (0 : Int32))) → (vp_in x 6) ∧ (((ρ.2.2.1 5 x.toNatClampNeg) = (-1 : Int32)) → post (0 : Int32) S2) ∧ ((¬ ((ρ.2.2.1 5 x.toNatClampNeg) = (-1 : Int32))) → post (1 : Int32) S2))) ρ S x
set_option maxHeartbeats 4000000 in
set_option maxRecDepth 100000 in
theorem mxP_isDefined (l : Launch) (Γ : Gm) (θ : Th) (ρ : Rh) (S : Sg) (Z : va_W) (x : Int32) (post : Int32 → Sg → Prop) (hw : wxP_isDefined post ρ S x) : MM l yxP_isDefined cxP_isDefined 2 (some .boolean) 1 20 Γ [.ref (θ.1 3), .int x] (WX Γ θ ρ S Z) (KK (fun r : Int32 => some (.int r)) (fun S' => WX Γ θ ρ S' Z) post) 0 0 := by
  refine MM_of (by decide) (Nat.le_of_ble_eq_true rfl) ?_
  intro p e s m below meth c X hr hlk hnm hG h ls hl
  have hx := X.1
  have hb := X.2.1
  have hl : lv_has ls 2 [(0, .ref (θ.1 3)), (1, .int x)] := hl
  unfold wxP_isDefined at hw
  refine lv_iload_n hx hb dxP_isDefined_0 rfl (lv_at hl 1 rfl) ?_
  refine cx_xP_34 (As := [.int x]) (rest := []) X hG h hl.1 (mxP_isRoutine l Γ θ ρ S Z x _ hw) ⟨show 0 + 1 ≤ 1 from by omega, show 8 + (1 + 11) + 0 ≤ 20 from by omega⟩ rfl (Nat.le_of_ble_eq_true rfl) dxP_isDefined_1 ⟨Nat.le_of_ble_eq_true rfl, Nat.le_of_ble_eq_true rfl⟩ (fun v W1 hK H locs h => ?_)
  obtain ⟨r1, S2, rfl, rfl, hw⟩ := hK
  refine W.eq (g2 := F0 m 4 ls [.int r1]) rfl ?_
  refine lv_if_eq (tgt := 21) hx hb dxP_isDefined_4 (by decide) (fun c3 => ?_) (fun c3 => ?_)
  · have hw := hw.1 c3
    refine lv_iconst (v := 0) hx hb dxP_isDefined_21 (by decide) ?_
    exact z_zret X hr hlk h rfl ⟨_, _, rfl, rfl, hw⟩ dxP_isDefined_22
  · have hw := hw.2 c3
    refine lv_aload_n hx hb dxP_isDefined_7 rfl (lv_at hl 0 rfl) ?_
    refine gx_xP_15 X hG h dxP_isDefined_8 ?_
    refine lv_iload_n hx hb dxP_isDefined_11 rfl (lv_at hl 1 rfl) ?_
    obtain ⟨o4, hw⟩ := hw
    refine lx_5 X hG h o4 (x := ρ.2.2.1 5 x.toNatClampNeg) rfl dxP_isDefined_12 ?_
    refine lv_iconst (v := -1) hx hb dxP_isDefined_13 (by decide) ?_
    refine lv_icmp_eq (tgt := 21) hx hb dxP_isDefined_14 (by decide) (fun c5 => ?_) (fun c5 => ?_)
    · have hw := hw.1 c5
      refine lv_iconst (v := 0) hx hb dxP_isDefined_21 (by decide) ?_
      exact z_zret X hr hlk h rfl ⟨_, _, rfl, rfl, hw⟩ dxP_isDefined_22
    · have hw := hw.2 c5
      refine lv_iconst (v := 1) hx hb dxP_isDefined_17 (by decide) ?_
      refine lv_goto (tgt := 22) hx hb dxP_isDefined_18 (by decide) ?_
      exact z_zret X hr hlk h rfl ⟨_, _, rfl, rfl, hw⟩ dxP_isDefined_22
def wxP_isNode  (post : Int32 → Sg → Prop) (ρ : Rh) (S : Sg) (x : Int32) : Prop := ((x < (0 : Int32)) → post (0 : Int32) S) ∧ ((¬ (x < (0 : Int32))) → (((ρ.2.2.1 7 1) ≤ x) → post (0 : Int32) S) ∧ ((¬ ((ρ.2.2.1 7 1) ≤ x)) → post (1 : Int32) S))
set_option maxHeartbeats 4000000 in
set_option maxRecDepth 100000 in
theorem mxP_isNode (l : Launch) (Γ : Gm) (θ : Th) (ρ : Rh) (S : Sg) (Z : va_W) (x : Int32) (post : Int32 → Sg → Prop) (hw : wxP_isNode post ρ S x) : MM l yxP_isNode cxP_isNode 2 (some .boolean) 0 0 Γ [.ref (θ.1 3), .int x] (WX Γ θ ρ S Z) (KK (fun r : Int32 => some (.int r)) (fun S' => WX Γ θ ρ S' Z) post) 0 0 := by
  refine MM_of (by decide) (Nat.le_of_ble_eq_true rfl) ?_
  intro p e s m below meth c X hr hlk hnm hG h ls hl
  have hx := X.1
  have hb := X.2.1
  have hl : lv_has ls 2 [(0, .ref (θ.1 3)), (1, .int x)] := hl
  unfold wxP_isNode at hw
  refine lv_iload_n hx hb dxP_isNode_0 rfl (lv_at hl 1 rfl) ?_
  refine lv_if_lt (tgt := 16) hx hb dxP_isNode_1 (by decide) (fun c1 => ?_) (fun c1 => ?_)
  · have hw := hw.1 c1
    refine lv_iconst (v := 0) hx hb dxP_isNode_16 (by decide) ?_
    exact z_zret X hr hlk h rfl ⟨_, _, rfl, rfl, hw⟩ dxP_isNode_17
  · have hw := hw.2 c1
    refine lv_iload_n hx hb dxP_isNode_4 rfl (lv_at hl 1 rfl) ?_
    refine lv_aload_n hx hb dxP_isNode_5 rfl (lv_at hl 0 rfl) ?_
    refine gx_xP_19 X hG h (x := ρ.2.2.1 7 1) rfl dxP_isNode_6 ?_
    refine lv_icmp_ge (tgt := 16) hx hb dxP_isNode_9 (by decide) (fun c2 => ?_) (fun c2 => ?_)
    · have hw := hw.1 c2
      refine lv_iconst (v := 0) hx hb dxP_isNode_16 (by decide) ?_
      exact z_zret X hr hlk h rfl ⟨_, _, rfl, rfl, hw⟩ dxP_isNode_17
    · have hw := hw.2 c2
      refine lv_iconst (v := 1) hx hb dxP_isNode_12 (by decide) ?_
      refine lv_goto (tgt := 17) hx hb dxP_isNode_13 (by decide) ?_
      exact z_zret X hr hlk h rfl ⟨_, _, rfl, rfl, hw⟩ dxP_isNode_17
def wxP_levelAt  (post : Int32 → Sg → Prop) (ρ : Rh) (S : Sg) (x : Int32) : Prop := wxP_isNode (fun r1 S2 => ((r1 = (0 : Int32)) → post (0 : Int32) S2) ∧ ((¬ (r1 = (0 : Int32))) → (vp_in x 64) ∧ (x.toNatClampNeg < ρ.2.1) ∧ post (ρ.2.2.1 4 x.toNatClampNeg) S2)) ρ S x
set_option maxHeartbeats 4000000 in
set_option maxRecDepth 100000 in
theorem mxP_levelAt (l : Launch) (Γ : Gm) (θ : Th) (ρ : Rh) (S : Sg) (Z : va_W) (x : Int32) (post : Int32 → Sg → Prop) (hw : wxP_levelAt post ρ S x) : MM l yxP_levelAt cxP_levelAt 2 (some .int) 1 21 Γ [.ref (θ.1 3), .int x] (WX Γ θ ρ S Z) (KK (fun r : Int32 => some (.int r)) (fun S' => WX Γ θ ρ S' Z) post) 0 0 := by
  refine MM_of (by decide) (Nat.le_of_ble_eq_true rfl) ?_
  intro p e s m below meth c X hr hlk hnm hG h ls hl
  have hx := X.1
  have hb := X.2.1
  have hl : lv_has ls 2 [(0, .ref (θ.1 3)), (1, .int x)] := hl
  unfold wxP_levelAt at hw
  refine lv_aload_n hx hb dxP_levelAt_0 rfl (lv_at hl 0 rfl) ?_
  refine lv_iload_n hx hb dxP_levelAt_1 rfl (lv_at hl 1 rfl) ?_
  refine cx_xP_41 (As := [.int x]) (rest := []) X hG h hl.1 (mxP_isNode l Γ θ ρ S Z x _ hw) ⟨show 0 + 1 ≤ 1 from by omega, show 8 + (2 + 11) + 0 ≤ 21 from by omega⟩ (q0 := 3) rfl rfl (Nat.le_of_ble_eq_true rfl) dxP_levelAt_2 ⟨Nat.le_of_ble_eq_true rfl, Nat.le_of_ble_eq_true rfl⟩ (fun v W1 hK H locs h => ?_)
  obtain ⟨r1, S2, rfl, rfl, hw⟩ := hK
  refine W.eq (g2 := F0 m 5 ls [.int r1]) rfl ?_
  refine lv_if_eq (tgt := 20) hx hb dxP_levelAt_5 (by decide) (fun c3 => ?_) (fun c3 => ?_)
  · have hw := hw.1 c3
    refine lv_iconst (v := 0) hx hb dxP_levelAt_20 (by decide) ?_
    exact z_iret X hr hlk h ⟨_, _, rfl, rfl, hw⟩ dxP_levelAt_21
  · have hw := hw.2 c3
    refine lv_aload_n hx hb dxP_levelAt_8 rfl (lv_at hl 0 rfl) ?_
    refine gx_xP_11 X hG h dxP_levelAt_9 ?_
    refine lv_iload_n hx hb dxP_levelAt_12 rfl (lv_at hl 1 rfl) ?_
    obtain ⟨o4, hw⟩ := hw
    obtain ⟨o5, hw⟩ := hw
    refine lx_4 X hG h o4 o5 dxP_levelAt_13 ?_
    refine gx_xP_62 X hG h o5 (x := ρ.2.2.1 4 x.toNatClampNeg) rfl dxP_levelAt_14 ?_
    refine lv_goto (tgt := 21) hx hb dxP_levelAt_17 (by decide) ?_
    exact z_iret X hr hlk h ⟨_, _, rfl, rfl, hw⟩ dxP_levelAt_21
def wxP_fits  (post : Int32 → Sg → Prop) (ρ : Rh) (S : Sg) (x : Int32) (a : Int32) (b : Int32) (q : Int32) : Prop := ((x.toInt < 0 ∨ 22 < x.toInt) → post (0 : Int32) S) ∧ (x = 0 → post (1 : Int32) S) ∧ (x = 1 → wxP_isVariable (fun r4 S5 => (r4 = 0 ∨ r4 = 1) ∧ post r4 S5) ρ S a) ∧ (x = 2 → wxP_isVariable (fun r7 S8 => (r7 = 0 ∨ r7 = 1) ∧ post r7 S8) ρ S a) ∧ (x = 3 → wxP_isVariable (fun r10 S11 => (r10 = 0 ∨ r10 = 1) ∧ post r10 S11) ρ S a) ∧ (x = 4 → wxP_isNode (fun r13 S14 => ((r13 = (0 : Int32)) → post (0 : Int32) S14) ∧ ((¬ (r13 = (0 : Int32))) → wxP_isNode (fun r16 S17 => ((r16 = (0 : Int32)) → post (0 : Int32) S17) ∧ ((¬ (r16 = (0 : Int32))) → post (1 : Int32) S17)) ρ S14 b)) ρ S a) ∧ (x = 5 → wxP_isVariable (fun r19 S20 => ((r19 = (0 : Int32)) → post (0 : Int32) S20) ∧ ((¬ (r19 = (0 : Int32))) → wxP_isNode (fun r22 S23 => ((r22 = (0 : Int32)) → post (0 : Int32) S23) ∧ ((¬ (r22 = (0 : Int32))) → ((q = (-1 : Int32)) → post (1 : Int32) S23) ∧ ((¬ (q = (-1 : Int32))) → wxP_isNode (fun r26 S27 => ((r26 = (0 : Int32)) → post (0 : Int32) S27) ∧ ((¬ (r26 = (0 : Int32))) → post (1 : Int32) S27)) ρ S23 q))) ρ S20 b)) ρ S a) ∧ (x = 6 → ((a < (1 : Int32)) → post (0 : Int32) S) ∧ ((¬ (a < (1 : Int32))) → (((8 : Int32) < a) → post (0 : Int32) S) ∧ ((¬ ((8 : Int32) < a)) → wxP_isNode (fun r31 S32 => ((r31 = (0 : Int32)) → post (0 : Int32) S32) ∧ ((¬ (r31 = (0 : Int32))) → post (1 : Int32) S32)) ρ S b))) ∧ (x = 7 → post (1 : Int32) S) ∧ (x = 8 → wxP_isVariable (fun r34 S35 => (r34 = 0 ∨ r34 = 1) ∧ post r34 S35) ρ S a) ∧ (x = 9 → wxP_isRoutine (fun r37 S38 => (r37 = 0 ∨ r37 = 1) ∧ post r37 S38) ρ S a) ∧ (x = 10 → wxC_has (fun r40 S41 => (r40 = 0 ∨ r40 = 1) ∧ post r40 S41) ρ S a) ∧ (x = 11 → post (1 : Int32) S) ∧ (x = 12 → wxC_has (fun r43 S44 => (r43 = 0 ∨ r43 = 1) ∧ post r43 S44) ρ S a) ∧ (x = 13 → wxP_isNode (fun r46 S47 => ((r46 = (0 : Int32)) → post (0 : Int32) S47) ∧ ((¬ (r46 = (0 : Int32))) → wxC_has (fun r49 S50 => ((r49 = (0 : Int32)) → post (0 : Int32) S50) ∧ ((¬ (r49 = (0 : Int32))) → wxP_isNode (fun r52 S53 => ((r52 = (0 : Int32)) → post (0 : Int32) S53) ∧ ((¬ (r52 = (0 : Int32))) → post (1 : Int32) S53)) ρ S50 q)) ρ S47 b)) ρ S a) ∧ (x = 14 → wxP_isNode (fun r55 S56 => ((r55 = (0 : Int32)) → post (0 : Int32) S56) ∧ ((¬ (r55 = (0 : Int32))) → wxP_isNode (fun r58 S59 => ((r58 = (0 : Int32)) → post (0 : Int32) S59) ∧ ((¬ (r58 = (0 : Int32))) → post (1 : Int32) S59)) ρ S56 b)) ρ S a) ∧ (x = 15 → wxP_isNode (fun r61 S62 => ((r61 = (0 : Int32)) → post (0 : Int32) S62) ∧ ((¬ (r61 = (0 : Int32))) → wxP_isNode (fun r64 S65 => ((r64 = (0 : Int32)) → post (0 : Int32) S65) ∧ ((¬ (r64 = (0 : Int32))) → post (1 : Int32) S65)) ρ S62 b)) ρ S a) ∧ (x = 16 → wxP_isVariable (fun r67 S68 => ((r67 = (0 : Int32)) → post (0 : Int32) S68) ∧ ((¬ (r67 = (0 : Int32))) → wxP_isVariable (fun r70 S71 => ((r70 = (0 : Int32)) → post (0 : Int32) S71) ∧ ((¬ (r70 = (0 : Int32))) → post (1 : Int32) S71)) ρ S68 b)) ρ S a) ∧ (x = 17 → wxP_isVariable (fun r73 S74 => ((r73 = (0 : Int32)) → post (0 : Int32) S74) ∧ ((¬ (r73 = (0 : Int32))) → ((b < (0 : Int32)) → post (0 : Int32) S74) ∧ ((¬ (b < (0 : Int32))) → (((4 : Int32) < b) → post (0 : Int32) S74) ∧ ((¬ ((4 : Int32) < b)) → post (1 : Int32) S74)))) ρ S a) ∧ (x = 18 → wxC_has (fun r78 S79 => (r78 = 0 ∨ r78 = 1) ∧ post r78 S79) ρ S a) ∧ (x = 19 → wxP_isVariable (fun r81 S82 => (r81 = 0 ∨ r81 = 1) ∧ post r81 S82) ρ S a) ∧ (x = 20 → wxP_isMonitor (fun r84 S85 => ((r84 = (0 : Int32)) → post (0 : Int32) S85) ∧ ((¬ (r84 = (0 : Int32))) → wxP_isNode (fun r87 S88 => ((r87 = (0 : Int32)) → post (0 : Int32) S88) ∧ ((¬ (r87 = (0 : Int32))) → post (1 : Int32) S88)) ρ S85 b)) ρ S a) ∧ (x = 21 → wxP_isMonitor (fun r90 S91 => (r90 = 0 ∨ r90 = 1) ∧ post r90 S91) ρ S a) ∧ (x = 22 → post (1 : Int32) S)
set_option maxHeartbeats 4000000 in
set_option maxRecDepth 100000 in
theorem mxP_fits (l : Launch) (Γ : Gm) (θ : Th) (ρ : Rh) (S : Sg) (Z : va_W) (x : Int32) (a : Int32) (b : Int32) (q : Int32) (post : Int32 → Sg → Prop) (hw : wxP_fits post ρ S x a b q) : MM l yxP_fits cxP_fits 5 (some .boolean) 1 21 Γ [.ref (θ.1 3), .int x, .int a, .int b, .int q] (WX Γ θ ρ S Z) (KK (fun r : Int32 => some (.int r)) (fun S' => WX Γ θ ρ S' Z) post) 0 0 := by
  refine MM_of (by decide) (Nat.le_of_ble_eq_true rfl) ?_
  intro p e s m below meth c X hr hlk hnm hG h ls hl
  have hx := X.1
  have hb := X.2.1
  have hl : lv_has ls 5 [(0, .ref (θ.1 3)), (1, .int x), (2, .int a), (3, .int b), (4, .int q)] := hl
  unfold wxP_fits at hw
  refine lv_iload_n hx hb dxP_fits_0 rfl (lv_at hl 1 rfl) ?_
  by_cases c1 : x.toInt < 0 ∨ 22 < x.toInt
  · have hw := hw.1 c1
    refine lv_tableOut (tgt := 314) hx hb dxP_fits_1 c1 (by decide) ?_
    refine lv_iconst (v := 0) hx hb dxP_fits_314 (by decide) ?_
    exact z_zret X hr hlk h rfl ⟨_, _, rfl, rfl, hw⟩ dxP_fits_315
  · have hw := hw.2
    obtain ⟨j3, j_h, e2⟩ := sw_in (lo := 0) (n := 22) c1
    match j3, j_h, e2 with
    | 0, _, e2 =>
      have e2 : x = 0 := e2
      have hw := hw.1 e2
      refine lv_tableIn (off := 107) (tgt := 108) hx hb dxP_fits_1 (by rw [e2]; decide) (by rw [e2]; decide) (by rw [e2]; rfl) (by decide) ?_
      refine lv_iconst (v := 1) hx hb dxP_fits_108 (by decide) ?_
      exact z_zret X hr hlk h rfl ⟨_, _, rfl, rfl, hw⟩ dxP_fits_109
    | 1, _, e2 =>
      have e2 : x = 1 := e2
      have hw := hw.2.1 e2
      refine lv_tableIn (off := 109) (tgt := 110) hx hb dxP_fits_1 (by rw [e2]; decide) (by rw [e2]; decide) (by rw [e2]; rfl) (by decide) ?_
      refine lv_iload_n hx hb dxP_fits_110 rfl (lv_at hl 2 rfl) ?_
      refine cx_xP_38 (As := [.int a]) (rest := []) X hG h hl.1 (mxP_isVariable l Γ θ ρ S Z a _ hw) ⟨show 0 + 1 ≤ 1 from by omega, show 8 + (1 + 11) + 0 ≤ 21 from by omega⟩ rfl (Nat.le_of_ble_eq_true rfl) dxP_fits_111 ⟨Nat.le_of_ble_eq_true rfl, Nat.le_of_ble_eq_true rfl⟩ (fun v W1 hK H locs h => ?_)
      obtain ⟨r4, S5, rfl, rfl, hw⟩ := hK
      refine W.eq (g2 := F0 m 114 ls [.int r4]) rfl ?_
      obtain ⟨o6, hw⟩ := hw
      exact z_zret X hr hlk h (nz o6) ⟨_, _, rfl, rfl, hw⟩ dxP_fits_114
    | 2, _, e2 =>
      have e2 : x = 2 := e2
      have hw := hw.2.2.1 e2
      refine lv_tableIn (off := 109) (tgt := 110) hx hb dxP_fits_1 (by rw [e2]; decide) (by rw [e2]; decide) (by rw [e2]; rfl) (by decide) ?_
      refine lv_iload_n hx hb dxP_fits_110 rfl (lv_at hl 2 rfl) ?_
      refine cx_xP_38 (As := [.int a]) (rest := []) X hG h hl.1 (mxP_isVariable l Γ θ ρ S Z a _ hw) ⟨show 0 + 1 ≤ 1 from by omega, show 8 + (1 + 11) + 0 ≤ 21 from by omega⟩ rfl (Nat.le_of_ble_eq_true rfl) dxP_fits_111 ⟨Nat.le_of_ble_eq_true rfl, Nat.le_of_ble_eq_true rfl⟩ (fun v W1 hK H locs h => ?_)
      obtain ⟨r7, S8, rfl, rfl, hw⟩ := hK
      refine W.eq (g2 := F0 m 114 ls [.int r7]) rfl ?_
      obtain ⟨o9, hw⟩ := hw
      exact z_zret X hr hlk h (nz o9) ⟨_, _, rfl, rfl, hw⟩ dxP_fits_114
    | 3, _, e2 =>
      have e2 : x = 3 := e2
      have hw := hw.2.2.2.1 e2
      refine lv_tableIn (off := 109) (tgt := 110) hx hb dxP_fits_1 (by rw [e2]; decide) (by rw [e2]; decide) (by rw [e2]; rfl) (by decide) ?_
      refine lv_iload_n hx hb dxP_fits_110 rfl (lv_at hl 2 rfl) ?_
      refine cx_xP_38 (As := [.int a]) (rest := []) X hG h hl.1 (mxP_isVariable l Γ θ ρ S Z a _ hw) ⟨show 0 + 1 ≤ 1 from by omega, show 8 + (1 + 11) + 0 ≤ 21 from by omega⟩ rfl (Nat.le_of_ble_eq_true rfl) dxP_fits_111 ⟨Nat.le_of_ble_eq_true rfl, Nat.le_of_ble_eq_true rfl⟩ (fun v W1 hK H locs h => ?_)
      obtain ⟨r10, S11, rfl, rfl, hw⟩ := hK
      refine W.eq (g2 := F0 m 114 ls [.int r10]) rfl ?_
      obtain ⟨o12, hw⟩ := hw
      exact z_zret X hr hlk h (nz o12) ⟨_, _, rfl, rfl, hw⟩ dxP_fits_114
    | 4, _, e2 =>
      have e2 : x = 4 := e2
      have hw := hw.2.2.2.2.1 e2
      refine lv_tableIn (off := 114) (tgt := 115) hx hb dxP_fits_1 (by rw [e2]; decide) (by rw [e2]; decide) (by rw [e2]; rfl) (by decide) ?_
      refine lv_aload_n hx hb dxP_fits_115 rfl (lv_at hl 0 rfl) ?_
      refine lv_iload_n hx hb dxP_fits_116 rfl (lv_at hl 2 rfl) ?_
      refine cx_xP_41 (As := [.int a]) (rest := []) X hG h hl.1 (mxP_isNode l Γ θ ρ S Z a _ hw) ⟨show 0 + 1 ≤ 1 from by omega, show 8 + (2 + 11) + 0 ≤ 21 from by omega⟩ (q0 := 3) rfl rfl (Nat.le_of_ble_eq_true rfl) dxP_fits_117 ⟨Nat.le_of_ble_eq_true rfl, Nat.le_of_ble_eq_true rfl⟩ (fun v W1 hK H locs h => ?_)
      obtain ⟨r13, S14, rfl, rfl, hw⟩ := hK
      refine W.eq (g2 := F0 m 120 ls [.int r13]) rfl ?_
      refine lv_if_eq (tgt := 135) hx hb dxP_fits_120 (by decide) (fun c15 => ?_) (fun c15 => ?_)
      · have hw := hw.1 c15
        refine lv_iconst (v := 0) hx hb dxP_fits_135 (by decide) ?_
        exact z_zret X hr hlk h rfl ⟨_, _, rfl, rfl, hw⟩ dxP_fits_136
      · have hw := hw.2 c15
        refine lv_aload_n hx hb dxP_fits_123 rfl (lv_at hl 0 rfl) ?_
        refine lv_iload_n hx hb dxP_fits_124 rfl (lv_at hl 3 rfl) ?_
        refine cx_xP_41 (As := [.int b]) (rest := []) X hG h hl.1 (mxP_isNode l Γ θ ρ S14 Z b _ hw) ⟨show 0 + 1 ≤ 1 from by omega, show 8 + (2 + 11) + 0 ≤ 21 from by omega⟩ (q0 := 3) rfl rfl (Nat.le_of_ble_eq_true rfl) dxP_fits_125 ⟨Nat.le_of_ble_eq_true rfl, Nat.le_of_ble_eq_true rfl⟩ (fun v W1 hK H locs h => ?_)
        obtain ⟨r16, S17, rfl, rfl, hw⟩ := hK
        refine W.eq (g2 := F0 m 128 ls [.int r16]) rfl ?_
        refine lv_if_eq (tgt := 135) hx hb dxP_fits_128 (by decide) (fun c18 => ?_) (fun c18 => ?_)
        · have hw := hw.1 c18
          refine lv_iconst (v := 0) hx hb dxP_fits_135 (by decide) ?_
          exact z_zret X hr hlk h rfl ⟨_, _, rfl, rfl, hw⟩ dxP_fits_136
        · have hw := hw.2 c18
          refine lv_iconst (v := 1) hx hb dxP_fits_131 (by decide) ?_
          refine lv_goto (tgt := 136) hx hb dxP_fits_132 (by decide) ?_
          exact z_zret X hr hlk h rfl ⟨_, _, rfl, rfl, hw⟩ dxP_fits_136
    | 5, _, e2 =>
      have e2 : x = 5 := e2
      have hw := hw.2.2.2.2.2.1 e2
      refine lv_tableIn (off := 136) (tgt := 137) hx hb dxP_fits_1 (by rw [e2]; decide) (by rw [e2]; decide) (by rw [e2]; rfl) (by decide) ?_
      refine lv_iload_n hx hb dxP_fits_137 rfl (lv_at hl 2 rfl) ?_
      refine cx_xP_38 (As := [.int a]) (rest := []) X hG h hl.1 (mxP_isVariable l Γ θ ρ S Z a _ hw) ⟨show 0 + 1 ≤ 1 from by omega, show 8 + (1 + 11) + 0 ≤ 21 from by omega⟩ rfl (Nat.le_of_ble_eq_true rfl) dxP_fits_138 ⟨Nat.le_of_ble_eq_true rfl, Nat.le_of_ble_eq_true rfl⟩ (fun v W1 hK H locs h => ?_)
      obtain ⟨r19, S20, rfl, rfl, hw⟩ := hK
      refine W.eq (g2 := F0 m 141 ls [.int r19]) rfl ?_
      refine lv_if_eq (tgt := 171) hx hb dxP_fits_141 (by decide) (fun c21 => ?_) (fun c21 => ?_)
      · have hw := hw.1 c21
        refine lv_iconst (v := 0) hx hb dxP_fits_171 (by decide) ?_
        exact z_zret X hr hlk h rfl ⟨_, _, rfl, rfl, hw⟩ dxP_fits_172
      · have hw := hw.2 c21
        refine lv_aload_n hx hb dxP_fits_144 rfl (lv_at hl 0 rfl) ?_
        refine lv_iload_n hx hb dxP_fits_145 rfl (lv_at hl 3 rfl) ?_
        refine cx_xP_41 (As := [.int b]) (rest := []) X hG h hl.1 (mxP_isNode l Γ θ ρ S20 Z b _ hw) ⟨show 0 + 1 ≤ 1 from by omega, show 8 + (2 + 11) + 0 ≤ 21 from by omega⟩ (q0 := 3) rfl rfl (Nat.le_of_ble_eq_true rfl) dxP_fits_146 ⟨Nat.le_of_ble_eq_true rfl, Nat.le_of_ble_eq_true rfl⟩ (fun v W1 hK H locs h => ?_)
        obtain ⟨r22, S23, rfl, rfl, hw⟩ := hK
        refine W.eq (g2 := F0 m 149 ls [.int r22]) rfl ?_
        refine lv_if_eq (tgt := 171) hx hb dxP_fits_149 (by decide) (fun c24 => ?_) (fun c24 => ?_)
        · have hw := hw.1 c24
          refine lv_iconst (v := 0) hx hb dxP_fits_171 (by decide) ?_
          exact z_zret X hr hlk h rfl ⟨_, _, rfl, rfl, hw⟩ dxP_fits_172
        · have hw := hw.2 c24
          refine lv_iload hx hb dxP_fits_152 (lv_at hl 4 rfl) ?_
          refine lv_iconst (v := -1) hx hb dxP_fits_154 (by decide) ?_
          refine lv_icmp_eq (tgt := 167) hx hb dxP_fits_155 (by decide) (fun c25 => ?_) (fun c25 => ?_)
          · have hw := hw.1 c25
            refine lv_iconst (v := 1) hx hb dxP_fits_167 (by decide) ?_
            refine lv_goto (tgt := 172) hx hb dxP_fits_168 (by decide) ?_
            exact z_zret X hr hlk h rfl ⟨_, _, rfl, rfl, hw⟩ dxP_fits_172
          · have hw := hw.2 c25
            refine lv_aload_n hx hb dxP_fits_158 rfl (lv_at hl 0 rfl) ?_
            refine lv_iload hx hb dxP_fits_159 (lv_at hl 4 rfl) ?_
            refine cx_xP_41 (As := [.int q]) (rest := []) X hG h hl.1 (mxP_isNode l Γ θ ρ S23 Z q _ hw) ⟨show 0 + 1 ≤ 1 from by omega, show 8 + (2 + 11) + 0 ≤ 21 from by omega⟩ (q0 := 3) rfl rfl (Nat.le_of_ble_eq_true rfl) dxP_fits_161 ⟨Nat.le_of_ble_eq_true rfl, Nat.le_of_ble_eq_true rfl⟩ (fun v W1 hK H locs h => ?_)
            obtain ⟨r26, S27, rfl, rfl, hw⟩ := hK
            refine W.eq (g2 := F0 m 164 ls [.int r26]) rfl ?_
            refine lv_if_eq (tgt := 171) hx hb dxP_fits_164 (by decide) (fun c28 => ?_) (fun c28 => ?_)
            · have hw := hw.1 c28
              refine lv_iconst (v := 0) hx hb dxP_fits_171 (by decide) ?_
              exact z_zret X hr hlk h rfl ⟨_, _, rfl, rfl, hw⟩ dxP_fits_172
            · have hw := hw.2 c28
              refine lv_iconst (v := 1) hx hb dxP_fits_167 (by decide) ?_
              refine lv_goto (tgt := 172) hx hb dxP_fits_168 (by decide) ?_
              exact z_zret X hr hlk h rfl ⟨_, _, rfl, rfl, hw⟩ dxP_fits_172
    | 6, _, e2 =>
      have e2 : x = 6 := e2
      have hw := hw.2.2.2.2.2.2.1 e2
      refine lv_tableIn (off := 172) (tgt := 173) hx hb dxP_fits_1 (by rw [e2]; decide) (by rw [e2]; decide) (by rw [e2]; rfl) (by decide) ?_
      refine lv_iload_n hx hb dxP_fits_173 rfl (lv_at hl 2 rfl) ?_
      refine lv_iconst (v := 1) hx hb dxP_fits_174 (by decide) ?_
      refine lv_icmp_lt (tgt := 196) hx hb dxP_fits_175 (by decide) (fun c29 => ?_) (fun c29 => ?_)
      · have hw := hw.1 c29
        refine lv_iconst (v := 0) hx hb dxP_fits_196 (by decide) ?_
        exact z_zret X hr hlk h rfl ⟨_, _, rfl, rfl, hw⟩ dxP_fits_197
      · have hw := hw.2 c29
        refine lv_iload_n hx hb dxP_fits_178 rfl (lv_at hl 2 rfl) ?_
        refine lv_bipush (v := 8) hx hb dxP_fits_179 (by decide) ?_
        refine lv_icmp_gt (tgt := 196) hx hb dxP_fits_181 (by decide) (fun c30 => ?_) (fun c30 => ?_)
        · have hw := hw.1 c30
          refine lv_iconst (v := 0) hx hb dxP_fits_196 (by decide) ?_
          exact z_zret X hr hlk h rfl ⟨_, _, rfl, rfl, hw⟩ dxP_fits_197
        · have hw := hw.2 c30
          refine lv_aload_n hx hb dxP_fits_184 rfl (lv_at hl 0 rfl) ?_
          refine lv_iload_n hx hb dxP_fits_185 rfl (lv_at hl 3 rfl) ?_
          refine cx_xP_41 (As := [.int b]) (rest := []) X hG h hl.1 (mxP_isNode l Γ θ ρ S Z b _ hw) ⟨show 0 + 1 ≤ 1 from by omega, show 8 + (2 + 11) + 0 ≤ 21 from by omega⟩ (q0 := 3) rfl rfl (Nat.le_of_ble_eq_true rfl) dxP_fits_186 ⟨Nat.le_of_ble_eq_true rfl, Nat.le_of_ble_eq_true rfl⟩ (fun v W1 hK H locs h => ?_)
          obtain ⟨r31, S32, rfl, rfl, hw⟩ := hK
          refine W.eq (g2 := F0 m 189 ls [.int r31]) rfl ?_
          refine lv_if_eq (tgt := 196) hx hb dxP_fits_189 (by decide) (fun c33 => ?_) (fun c33 => ?_)
          · have hw := hw.1 c33
            refine lv_iconst (v := 0) hx hb dxP_fits_196 (by decide) ?_
            exact z_zret X hr hlk h rfl ⟨_, _, rfl, rfl, hw⟩ dxP_fits_197
          · have hw := hw.2 c33
            refine lv_iconst (v := 1) hx hb dxP_fits_192 (by decide) ?_
            refine lv_goto (tgt := 197) hx hb dxP_fits_193 (by decide) ?_
            exact z_zret X hr hlk h rfl ⟨_, _, rfl, rfl, hw⟩ dxP_fits_197
    | 7, _, e2 =>
      have e2 : x = 7 := e2
      have hw := hw.2.2.2.2.2.2.2.1 e2
      refine lv_tableIn (off := 107) (tgt := 108) hx hb dxP_fits_1 (by rw [e2]; decide) (by rw [e2]; decide) (by rw [e2]; rfl) (by decide) ?_
      refine lv_iconst (v := 1) hx hb dxP_fits_108 (by decide) ?_
      exact z_zret X hr hlk h rfl ⟨_, _, rfl, rfl, hw⟩ dxP_fits_109
    | 8, _, e2 =>
      have e2 : x = 8 := e2
      have hw := hw.2.2.2.2.2.2.2.2.1 e2
      refine lv_tableIn (off := 109) (tgt := 110) hx hb dxP_fits_1 (by rw [e2]; decide) (by rw [e2]; decide) (by rw [e2]; rfl) (by decide) ?_
      refine lv_iload_n hx hb dxP_fits_110 rfl (lv_at hl 2 rfl) ?_
      refine cx_xP_38 (As := [.int a]) (rest := []) X hG h hl.1 (mxP_isVariable l Γ θ ρ S Z a _ hw) ⟨show 0 + 1 ≤ 1 from by omega, show 8 + (1 + 11) + 0 ≤ 21 from by omega⟩ rfl (Nat.le_of_ble_eq_true rfl) dxP_fits_111 ⟨Nat.le_of_ble_eq_true rfl, Nat.le_of_ble_eq_true rfl⟩ (fun v W1 hK H locs h => ?_)
      obtain ⟨r34, S35, rfl, rfl, hw⟩ := hK
      refine W.eq (g2 := F0 m 114 ls [.int r34]) rfl ?_
      obtain ⟨o36, hw⟩ := hw
      exact z_zret X hr hlk h (nz o36) ⟨_, _, rfl, rfl, hw⟩ dxP_fits_114
    | 9, _, e2 =>
      have e2 : x = 9 := e2
      have hw := hw.2.2.2.2.2.2.2.2.2.1 e2
      refine lv_tableIn (off := 197) (tgt := 198) hx hb dxP_fits_1 (by rw [e2]; decide) (by rw [e2]; decide) (by rw [e2]; rfl) (by decide) ?_
      refine lv_iload_n hx hb dxP_fits_198 rfl (lv_at hl 2 rfl) ?_
      refine cx_xP_34 (As := [.int a]) (rest := []) X hG h hl.1 (mxP_isRoutine l Γ θ ρ S Z a _ hw) ⟨show 0 + 1 ≤ 1 from by omega, show 8 + (1 + 11) + 0 ≤ 21 from by omega⟩ rfl (Nat.le_of_ble_eq_true rfl) dxP_fits_199 ⟨Nat.le_of_ble_eq_true rfl, Nat.le_of_ble_eq_true rfl⟩ (fun v W1 hK H locs h => ?_)
      obtain ⟨r37, S38, rfl, rfl, hw⟩ := hK
      refine W.eq (g2 := F0 m 202 ls [.int r37]) rfl ?_
      obtain ⟨o39, hw⟩ := hw
      exact z_zret X hr hlk h (nz o39) ⟨_, _, rfl, rfl, hw⟩ dxP_fits_202
    | 10, _, e2 =>
      have e2 : x = 10 := e2
      have hw := hw.2.2.2.2.2.2.2.2.2.2.1 e2
      refine lv_tableIn (off := 202) (tgt := 203) hx hb dxP_fits_1 (by rw [e2]; decide) (by rw [e2]; decide) (by rw [e2]; rfl) (by decide) ?_
      refine lv_aload_n hx hb dxP_fits_203 rfl (lv_at hl 0 rfl) ?_
      refine gx_xP_23 X hG h dxP_fits_204 ?_
      refine lv_iload_n hx hb dxP_fits_207 rfl (lv_at hl 2 rfl) ?_
      refine cx_xP_44 (As := [.int a]) (rest := []) X hG h hl.1 (mxC_has l Γ θ ρ S Z a _ hw) ⟨show 0 + 1 ≤ 1 from by omega, show 8 + (2 + 11) + 0 ≤ 21 from by omega⟩ (q0 := 1) rfl rfl (Nat.le_of_ble_eq_true rfl) dxP_fits_208 ⟨Nat.le_of_ble_eq_true rfl, Nat.le_of_ble_eq_true rfl⟩ (fun v W1 hK H locs h => ?_)
      obtain ⟨r40, S41, rfl, rfl, hw⟩ := hK
      refine W.eq (g2 := F0 m 211 ls [.int r40]) rfl ?_
      obtain ⟨o42, hw⟩ := hw
      exact z_zret X hr hlk h (nz o42) ⟨_, _, rfl, rfl, hw⟩ dxP_fits_211
    | 11, _, e2 =>
      have e2 : x = 11 := e2
      have hw := hw.2.2.2.2.2.2.2.2.2.2.2.1 e2
      refine lv_tableIn (off := 107) (tgt := 108) hx hb dxP_fits_1 (by rw [e2]; decide) (by rw [e2]; decide) (by rw [e2]; rfl) (by decide) ?_
      refine lv_iconst (v := 1) hx hb dxP_fits_108 (by decide) ?_
      exact z_zret X hr hlk h rfl ⟨_, _, rfl, rfl, hw⟩ dxP_fits_109
    | 12, _, e2 =>
      have e2 : x = 12 := e2
      have hw := hw.2.2.2.2.2.2.2.2.2.2.2.2.1 e2
      refine lv_tableIn (off := 202) (tgt := 203) hx hb dxP_fits_1 (by rw [e2]; decide) (by rw [e2]; decide) (by rw [e2]; rfl) (by decide) ?_
      refine lv_aload_n hx hb dxP_fits_203 rfl (lv_at hl 0 rfl) ?_
      refine gx_xP_23 X hG h dxP_fits_204 ?_
      refine lv_iload_n hx hb dxP_fits_207 rfl (lv_at hl 2 rfl) ?_
      refine cx_xP_44 (As := [.int a]) (rest := []) X hG h hl.1 (mxC_has l Γ θ ρ S Z a _ hw) ⟨show 0 + 1 ≤ 1 from by omega, show 8 + (2 + 11) + 0 ≤ 21 from by omega⟩ (q0 := 1) rfl rfl (Nat.le_of_ble_eq_true rfl) dxP_fits_208 ⟨Nat.le_of_ble_eq_true rfl, Nat.le_of_ble_eq_true rfl⟩ (fun v W1 hK H locs h => ?_)
      obtain ⟨r43, S44, rfl, rfl, hw⟩ := hK
      refine W.eq (g2 := F0 m 211 ls [.int r43]) rfl ?_
      obtain ⟨o45, hw⟩ := hw
      exact z_zret X hr hlk h (nz o45) ⟨_, _, rfl, rfl, hw⟩ dxP_fits_211
    | 13, _, e2 =>
      have e2 : x = 13 := e2
      have hw := hw.2.2.2.2.2.2.2.2.2.2.2.2.2.1 e2
      refine lv_tableIn (off := 211) (tgt := 212) hx hb dxP_fits_1 (by rw [e2]; decide) (by rw [e2]; decide) (by rw [e2]; rfl) (by decide) ?_
      refine lv_aload_n hx hb dxP_fits_212 rfl (lv_at hl 0 rfl) ?_
      refine lv_iload_n hx hb dxP_fits_213 rfl (lv_at hl 2 rfl) ?_
      refine cx_xP_41 (As := [.int a]) (rest := []) X hG h hl.1 (mxP_isNode l Γ θ ρ S Z a _ hw) ⟨show 0 + 1 ≤ 1 from by omega, show 8 + (2 + 11) + 0 ≤ 21 from by omega⟩ (q0 := 3) rfl rfl (Nat.le_of_ble_eq_true rfl) dxP_fits_214 ⟨Nat.le_of_ble_eq_true rfl, Nat.le_of_ble_eq_true rfl⟩ (fun v W1 hK H locs h => ?_)
      obtain ⟨r46, S47, rfl, rfl, hw⟩ := hK
      refine W.eq (g2 := F0 m 217 ls [.int r46]) rfl ?_
      refine lv_if_eq (tgt := 244) hx hb dxP_fits_217 (by decide) (fun c48 => ?_) (fun c48 => ?_)
      · have hw := hw.1 c48
        refine lv_iconst (v := 0) hx hb dxP_fits_244 (by decide) ?_
        exact z_zret X hr hlk h rfl ⟨_, _, rfl, rfl, hw⟩ dxP_fits_245
      · have hw := hw.2 c48
        refine lv_aload_n hx hb dxP_fits_220 rfl (lv_at hl 0 rfl) ?_
        refine gx_xP_23 X hG h dxP_fits_221 ?_
        refine lv_iload_n hx hb dxP_fits_224 rfl (lv_at hl 3 rfl) ?_
        refine cx_xP_44 (As := [.int b]) (rest := []) X hG h hl.1 (mxC_has l Γ θ ρ S47 Z b _ hw) ⟨show 0 + 1 ≤ 1 from by omega, show 8 + (2 + 11) + 0 ≤ 21 from by omega⟩ (q0 := 1) rfl rfl (Nat.le_of_ble_eq_true rfl) dxP_fits_225 ⟨Nat.le_of_ble_eq_true rfl, Nat.le_of_ble_eq_true rfl⟩ (fun v W1 hK H locs h => ?_)
        obtain ⟨r49, S50, rfl, rfl, hw⟩ := hK
        refine W.eq (g2 := F0 m 228 ls [.int r49]) rfl ?_
        refine lv_if_eq (tgt := 244) hx hb dxP_fits_228 (by decide) (fun c51 => ?_) (fun c51 => ?_)
        · have hw := hw.1 c51
          refine lv_iconst (v := 0) hx hb dxP_fits_244 (by decide) ?_
          exact z_zret X hr hlk h rfl ⟨_, _, rfl, rfl, hw⟩ dxP_fits_245
        · have hw := hw.2 c51
          refine lv_aload_n hx hb dxP_fits_231 rfl (lv_at hl 0 rfl) ?_
          refine lv_iload hx hb dxP_fits_232 (lv_at hl 4 rfl) ?_
          refine cx_xP_41 (As := [.int q]) (rest := []) X hG h hl.1 (mxP_isNode l Γ θ ρ S50 Z q _ hw) ⟨show 0 + 1 ≤ 1 from by omega, show 8 + (2 + 11) + 0 ≤ 21 from by omega⟩ (q0 := 3) rfl rfl (Nat.le_of_ble_eq_true rfl) dxP_fits_234 ⟨Nat.le_of_ble_eq_true rfl, Nat.le_of_ble_eq_true rfl⟩ (fun v W1 hK H locs h => ?_)
          obtain ⟨r52, S53, rfl, rfl, hw⟩ := hK
          refine W.eq (g2 := F0 m 237 ls [.int r52]) rfl ?_
          refine lv_if_eq (tgt := 244) hx hb dxP_fits_237 (by decide) (fun c54 => ?_) (fun c54 => ?_)
          · have hw := hw.1 c54
            refine lv_iconst (v := 0) hx hb dxP_fits_244 (by decide) ?_
            exact z_zret X hr hlk h rfl ⟨_, _, rfl, rfl, hw⟩ dxP_fits_245
          · have hw := hw.2 c54
            refine lv_iconst (v := 1) hx hb dxP_fits_240 (by decide) ?_
            refine lv_goto (tgt := 245) hx hb dxP_fits_241 (by decide) ?_
            exact z_zret X hr hlk h rfl ⟨_, _, rfl, rfl, hw⟩ dxP_fits_245
    | 14, _, e2 =>
      have e2 : x = 14 := e2
      have hw := hw.2.2.2.2.2.2.2.2.2.2.2.2.2.2.1 e2
      refine lv_tableIn (off := 114) (tgt := 115) hx hb dxP_fits_1 (by rw [e2]; decide) (by rw [e2]; decide) (by rw [e2]; rfl) (by decide) ?_
      refine lv_aload_n hx hb dxP_fits_115 rfl (lv_at hl 0 rfl) ?_
      refine lv_iload_n hx hb dxP_fits_116 rfl (lv_at hl 2 rfl) ?_
      refine cx_xP_41 (As := [.int a]) (rest := []) X hG h hl.1 (mxP_isNode l Γ θ ρ S Z a _ hw) ⟨show 0 + 1 ≤ 1 from by omega, show 8 + (2 + 11) + 0 ≤ 21 from by omega⟩ (q0 := 3) rfl rfl (Nat.le_of_ble_eq_true rfl) dxP_fits_117 ⟨Nat.le_of_ble_eq_true rfl, Nat.le_of_ble_eq_true rfl⟩ (fun v W1 hK H locs h => ?_)
      obtain ⟨r55, S56, rfl, rfl, hw⟩ := hK
      refine W.eq (g2 := F0 m 120 ls [.int r55]) rfl ?_
      refine lv_if_eq (tgt := 135) hx hb dxP_fits_120 (by decide) (fun c57 => ?_) (fun c57 => ?_)
      · have hw := hw.1 c57
        refine lv_iconst (v := 0) hx hb dxP_fits_135 (by decide) ?_
        exact z_zret X hr hlk h rfl ⟨_, _, rfl, rfl, hw⟩ dxP_fits_136
      · have hw := hw.2 c57
        refine lv_aload_n hx hb dxP_fits_123 rfl (lv_at hl 0 rfl) ?_
        refine lv_iload_n hx hb dxP_fits_124 rfl (lv_at hl 3 rfl) ?_
        refine cx_xP_41 (As := [.int b]) (rest := []) X hG h hl.1 (mxP_isNode l Γ θ ρ S56 Z b _ hw) ⟨show 0 + 1 ≤ 1 from by omega, show 8 + (2 + 11) + 0 ≤ 21 from by omega⟩ (q0 := 3) rfl rfl (Nat.le_of_ble_eq_true rfl) dxP_fits_125 ⟨Nat.le_of_ble_eq_true rfl, Nat.le_of_ble_eq_true rfl⟩ (fun v W1 hK H locs h => ?_)
        obtain ⟨r58, S59, rfl, rfl, hw⟩ := hK
        refine W.eq (g2 := F0 m 128 ls [.int r58]) rfl ?_
        refine lv_if_eq (tgt := 135) hx hb dxP_fits_128 (by decide) (fun c60 => ?_) (fun c60 => ?_)
        · have hw := hw.1 c60
          refine lv_iconst (v := 0) hx hb dxP_fits_135 (by decide) ?_
          exact z_zret X hr hlk h rfl ⟨_, _, rfl, rfl, hw⟩ dxP_fits_136
        · have hw := hw.2 c60
          refine lv_iconst (v := 1) hx hb dxP_fits_131 (by decide) ?_
          refine lv_goto (tgt := 136) hx hb dxP_fits_132 (by decide) ?_
          exact z_zret X hr hlk h rfl ⟨_, _, rfl, rfl, hw⟩ dxP_fits_136
    | 15, _, e2 =>
      have e2 : x = 15 := e2
      have hw := hw.2.2.2.2.2.2.2.2.2.2.2.2.2.2.2.1 e2
      refine lv_tableIn (off := 114) (tgt := 115) hx hb dxP_fits_1 (by rw [e2]; decide) (by rw [e2]; decide) (by rw [e2]; rfl) (by decide) ?_
      refine lv_aload_n hx hb dxP_fits_115 rfl (lv_at hl 0 rfl) ?_
      refine lv_iload_n hx hb dxP_fits_116 rfl (lv_at hl 2 rfl) ?_
      refine cx_xP_41 (As := [.int a]) (rest := []) X hG h hl.1 (mxP_isNode l Γ θ ρ S Z a _ hw) ⟨show 0 + 1 ≤ 1 from by omega, show 8 + (2 + 11) + 0 ≤ 21 from by omega⟩ (q0 := 3) rfl rfl (Nat.le_of_ble_eq_true rfl) dxP_fits_117 ⟨Nat.le_of_ble_eq_true rfl, Nat.le_of_ble_eq_true rfl⟩ (fun v W1 hK H locs h => ?_)
      obtain ⟨r61, S62, rfl, rfl, hw⟩ := hK
      refine W.eq (g2 := F0 m 120 ls [.int r61]) rfl ?_
      refine lv_if_eq (tgt := 135) hx hb dxP_fits_120 (by decide) (fun c63 => ?_) (fun c63 => ?_)
      · have hw := hw.1 c63
        refine lv_iconst (v := 0) hx hb dxP_fits_135 (by decide) ?_
        exact z_zret X hr hlk h rfl ⟨_, _, rfl, rfl, hw⟩ dxP_fits_136
      · have hw := hw.2 c63
        refine lv_aload_n hx hb dxP_fits_123 rfl (lv_at hl 0 rfl) ?_
        refine lv_iload_n hx hb dxP_fits_124 rfl (lv_at hl 3 rfl) ?_
        refine cx_xP_41 (As := [.int b]) (rest := []) X hG h hl.1 (mxP_isNode l Γ θ ρ S62 Z b _ hw) ⟨show 0 + 1 ≤ 1 from by omega, show 8 + (2 + 11) + 0 ≤ 21 from by omega⟩ (q0 := 3) rfl rfl (Nat.le_of_ble_eq_true rfl) dxP_fits_125 ⟨Nat.le_of_ble_eq_true rfl, Nat.le_of_ble_eq_true rfl⟩ (fun v W1 hK H locs h => ?_)
        obtain ⟨r64, S65, rfl, rfl, hw⟩ := hK
        refine W.eq (g2 := F0 m 128 ls [.int r64]) rfl ?_
        refine lv_if_eq (tgt := 135) hx hb dxP_fits_128 (by decide) (fun c66 => ?_) (fun c66 => ?_)
        · have hw := hw.1 c66
          refine lv_iconst (v := 0) hx hb dxP_fits_135 (by decide) ?_
          exact z_zret X hr hlk h rfl ⟨_, _, rfl, rfl, hw⟩ dxP_fits_136
        · have hw := hw.2 c66
          refine lv_iconst (v := 1) hx hb dxP_fits_131 (by decide) ?_
          refine lv_goto (tgt := 136) hx hb dxP_fits_132 (by decide) ?_
          exact z_zret X hr hlk h rfl ⟨_, _, rfl, rfl, hw⟩ dxP_fits_136
    | 16, _, e2 =>
      have e2 : x = 16 := e2
      have hw := hw.2.2.2.2.2.2.2.2.2.2.2.2.2.2.2.2.1 e2
      refine lv_tableIn (off := 245) (tgt := 246) hx hb dxP_fits_1 (by rw [e2]; decide) (by rw [e2]; decide) (by rw [e2]; rfl) (by decide) ?_
      refine lv_iload_n hx hb dxP_fits_246 rfl (lv_at hl 2 rfl) ?_
      refine cx_xP_38 (As := [.int a]) (rest := []) X hG h hl.1 (mxP_isVariable l Γ θ ρ S Z a _ hw) ⟨show 0 + 1 ≤ 1 from by omega, show 8 + (1 + 11) + 0 ≤ 21 from by omega⟩ rfl (Nat.le_of_ble_eq_true rfl) dxP_fits_247 ⟨Nat.le_of_ble_eq_true rfl, Nat.le_of_ble_eq_true rfl⟩ (fun v W1 hK H locs h => ?_)
      obtain ⟨r67, S68, rfl, rfl, hw⟩ := hK
      refine W.eq (g2 := F0 m 250 ls [.int r67]) rfl ?_
      refine lv_if_eq (tgt := 264) hx hb dxP_fits_250 (by decide) (fun c69 => ?_) (fun c69 => ?_)
      · have hw := hw.1 c69
        refine lv_iconst (v := 0) hx hb dxP_fits_264 (by decide) ?_
        exact z_zret X hr hlk h rfl ⟨_, _, rfl, rfl, hw⟩ dxP_fits_265
      · have hw := hw.2 c69
        refine lv_iload_n hx hb dxP_fits_253 rfl (lv_at hl 3 rfl) ?_
        refine cx_xP_38 (As := [.int b]) (rest := []) X hG h hl.1 (mxP_isVariable l Γ θ ρ S68 Z b _ hw) ⟨show 0 + 1 ≤ 1 from by omega, show 8 + (1 + 11) + 0 ≤ 21 from by omega⟩ rfl (Nat.le_of_ble_eq_true rfl) dxP_fits_254 ⟨Nat.le_of_ble_eq_true rfl, Nat.le_of_ble_eq_true rfl⟩ (fun v W1 hK H locs h => ?_)
        obtain ⟨r70, S71, rfl, rfl, hw⟩ := hK
        refine W.eq (g2 := F0 m 257 ls [.int r70]) rfl ?_
        refine lv_if_eq (tgt := 264) hx hb dxP_fits_257 (by decide) (fun c72 => ?_) (fun c72 => ?_)
        · have hw := hw.1 c72
          refine lv_iconst (v := 0) hx hb dxP_fits_264 (by decide) ?_
          exact z_zret X hr hlk h rfl ⟨_, _, rfl, rfl, hw⟩ dxP_fits_265
        · have hw := hw.2 c72
          refine lv_iconst (v := 1) hx hb dxP_fits_260 (by decide) ?_
          refine lv_goto (tgt := 265) hx hb dxP_fits_261 (by decide) ?_
          exact z_zret X hr hlk h rfl ⟨_, _, rfl, rfl, hw⟩ dxP_fits_265
    | 17, _, e2 =>
      have e2 : x = 17 := e2
      have hw := hw.2.2.2.2.2.2.2.2.2.2.2.2.2.2.2.2.2.1 e2
      refine lv_tableIn (off := 265) (tgt := 266) hx hb dxP_fits_1 (by rw [e2]; decide) (by rw [e2]; decide) (by rw [e2]; rfl) (by decide) ?_
      refine lv_iload_n hx hb dxP_fits_266 rfl (lv_at hl 2 rfl) ?_
      refine cx_xP_38 (As := [.int a]) (rest := []) X hG h hl.1 (mxP_isVariable l Γ θ ρ S Z a _ hw) ⟨show 0 + 1 ≤ 1 from by omega, show 8 + (1 + 11) + 0 ≤ 21 from by omega⟩ rfl (Nat.le_of_ble_eq_true rfl) dxP_fits_267 ⟨Nat.le_of_ble_eq_true rfl, Nat.le_of_ble_eq_true rfl⟩ (fun v W1 hK H locs h => ?_)
      obtain ⟨r73, S74, rfl, rfl, hw⟩ := hK
      refine W.eq (g2 := F0 m 270 ls [.int r73]) rfl ?_
      refine lv_if_eq (tgt := 286) hx hb dxP_fits_270 (by decide) (fun c75 => ?_) (fun c75 => ?_)
      · have hw := hw.1 c75
        refine lv_iconst (v := 0) hx hb dxP_fits_286 (by decide) ?_
        exact z_zret X hr hlk h rfl ⟨_, _, rfl, rfl, hw⟩ dxP_fits_287
      · have hw := hw.2 c75
        refine lv_iload_n hx hb dxP_fits_273 rfl (lv_at hl 3 rfl) ?_
        refine lv_if_lt (tgt := 286) hx hb dxP_fits_274 (by decide) (fun c76 => ?_) (fun c76 => ?_)
        · have hw := hw.1 c76
          refine lv_iconst (v := 0) hx hb dxP_fits_286 (by decide) ?_
          exact z_zret X hr hlk h rfl ⟨_, _, rfl, rfl, hw⟩ dxP_fits_287
        · have hw := hw.2 c76
          refine lv_iload_n hx hb dxP_fits_277 rfl (lv_at hl 3 rfl) ?_
          refine lv_iconst (v := 4) hx hb dxP_fits_278 (by decide) ?_
          refine lv_icmp_gt (tgt := 286) hx hb dxP_fits_279 (by decide) (fun c77 => ?_) (fun c77 => ?_)
          · have hw := hw.1 c77
            refine lv_iconst (v := 0) hx hb dxP_fits_286 (by decide) ?_
            exact z_zret X hr hlk h rfl ⟨_, _, rfl, rfl, hw⟩ dxP_fits_287
          · have hw := hw.2 c77
            refine lv_iconst (v := 1) hx hb dxP_fits_282 (by decide) ?_
            refine lv_goto (tgt := 287) hx hb dxP_fits_283 (by decide) ?_
            exact z_zret X hr hlk h rfl ⟨_, _, rfl, rfl, hw⟩ dxP_fits_287
    | 18, _, e2 =>
      have e2 : x = 18 := e2
      have hw := hw.2.2.2.2.2.2.2.2.2.2.2.2.2.2.2.2.2.2.1 e2
      refine lv_tableIn (off := 202) (tgt := 203) hx hb dxP_fits_1 (by rw [e2]; decide) (by rw [e2]; decide) (by rw [e2]; rfl) (by decide) ?_
      refine lv_aload_n hx hb dxP_fits_203 rfl (lv_at hl 0 rfl) ?_
      refine gx_xP_23 X hG h dxP_fits_204 ?_
      refine lv_iload_n hx hb dxP_fits_207 rfl (lv_at hl 2 rfl) ?_
      refine cx_xP_44 (As := [.int a]) (rest := []) X hG h hl.1 (mxC_has l Γ θ ρ S Z a _ hw) ⟨show 0 + 1 ≤ 1 from by omega, show 8 + (2 + 11) + 0 ≤ 21 from by omega⟩ (q0 := 1) rfl rfl (Nat.le_of_ble_eq_true rfl) dxP_fits_208 ⟨Nat.le_of_ble_eq_true rfl, Nat.le_of_ble_eq_true rfl⟩ (fun v W1 hK H locs h => ?_)
      obtain ⟨r78, S79, rfl, rfl, hw⟩ := hK
      refine W.eq (g2 := F0 m 211 ls [.int r78]) rfl ?_
      obtain ⟨o80, hw⟩ := hw
      exact z_zret X hr hlk h (nz o80) ⟨_, _, rfl, rfl, hw⟩ dxP_fits_211
    | 19, _, e2 =>
      have e2 : x = 19 := e2
      have hw := hw.2.2.2.2.2.2.2.2.2.2.2.2.2.2.2.2.2.2.2.1 e2
      refine lv_tableIn (off := 109) (tgt := 110) hx hb dxP_fits_1 (by rw [e2]; decide) (by rw [e2]; decide) (by rw [e2]; rfl) (by decide) ?_
      refine lv_iload_n hx hb dxP_fits_110 rfl (lv_at hl 2 rfl) ?_
      refine cx_xP_38 (As := [.int a]) (rest := []) X hG h hl.1 (mxP_isVariable l Γ θ ρ S Z a _ hw) ⟨show 0 + 1 ≤ 1 from by omega, show 8 + (1 + 11) + 0 ≤ 21 from by omega⟩ rfl (Nat.le_of_ble_eq_true rfl) dxP_fits_111 ⟨Nat.le_of_ble_eq_true rfl, Nat.le_of_ble_eq_true rfl⟩ (fun v W1 hK H locs h => ?_)
      obtain ⟨r81, S82, rfl, rfl, hw⟩ := hK
      refine W.eq (g2 := F0 m 114 ls [.int r81]) rfl ?_
      obtain ⟨o83, hw⟩ := hw
      exact z_zret X hr hlk h (nz o83) ⟨_, _, rfl, rfl, hw⟩ dxP_fits_114
    | 20, _, e2 =>
      have e2 : x = 20 := e2
      have hw := hw.2.2.2.2.2.2.2.2.2.2.2.2.2.2.2.2.2.2.2.2.1 e2
      refine lv_tableIn (off := 287) (tgt := 288) hx hb dxP_fits_1 (by rw [e2]; decide) (by rw [e2]; decide) (by rw [e2]; rfl) (by decide) ?_
      refine lv_iload_n hx hb dxP_fits_288 rfl (lv_at hl 2 rfl) ?_
      refine cx_xP_49 (As := [.int a]) (rest := []) X hG h hl.1 (mxP_isMonitor l Γ θ ρ S Z a _ hw) ⟨show 0 + 1 ≤ 1 from by omega, show 8 + (1 + 11) + 0 ≤ 21 from by omega⟩ rfl (Nat.le_of_ble_eq_true rfl) dxP_fits_289 ⟨Nat.le_of_ble_eq_true rfl, Nat.le_of_ble_eq_true rfl⟩ (fun v W1 hK H locs h => ?_)
      obtain ⟨r84, S85, rfl, rfl, hw⟩ := hK
      refine W.eq (g2 := F0 m 292 ls [.int r84]) rfl ?_
      refine lv_if_eq (tgt := 307) hx hb dxP_fits_292 (by decide) (fun c86 => ?_) (fun c86 => ?_)
      · have hw := hw.1 c86
        refine lv_iconst (v := 0) hx hb dxP_fits_307 (by decide) ?_
        exact z_zret X hr hlk h rfl ⟨_, _, rfl, rfl, hw⟩ dxP_fits_308
      · have hw := hw.2 c86
        refine lv_aload_n hx hb dxP_fits_295 rfl (lv_at hl 0 rfl) ?_
        refine lv_iload_n hx hb dxP_fits_296 rfl (lv_at hl 3 rfl) ?_
        refine cx_xP_41 (As := [.int b]) (rest := []) X hG h hl.1 (mxP_isNode l Γ θ ρ S85 Z b _ hw) ⟨show 0 + 1 ≤ 1 from by omega, show 8 + (2 + 11) + 0 ≤ 21 from by omega⟩ (q0 := 3) rfl rfl (Nat.le_of_ble_eq_true rfl) dxP_fits_297 ⟨Nat.le_of_ble_eq_true rfl, Nat.le_of_ble_eq_true rfl⟩ (fun v W1 hK H locs h => ?_)
        obtain ⟨r87, S88, rfl, rfl, hw⟩ := hK
        refine W.eq (g2 := F0 m 300 ls [.int r87]) rfl ?_
        refine lv_if_eq (tgt := 307) hx hb dxP_fits_300 (by decide) (fun c89 => ?_) (fun c89 => ?_)
        · have hw := hw.1 c89
          refine lv_iconst (v := 0) hx hb dxP_fits_307 (by decide) ?_
          exact z_zret X hr hlk h rfl ⟨_, _, rfl, rfl, hw⟩ dxP_fits_308
        · have hw := hw.2 c89
          refine lv_iconst (v := 1) hx hb dxP_fits_303 (by decide) ?_
          refine lv_goto (tgt := 308) hx hb dxP_fits_304 (by decide) ?_
          exact z_zret X hr hlk h rfl ⟨_, _, rfl, rfl, hw⟩ dxP_fits_308
    | 21, _, e2 =>
      have e2 : x = 21 := e2
      have hw := hw.2.2.2.2.2.2.2.2.2.2.2.2.2.2.2.2.2.2.2.2.2.1 e2
      refine lv_tableIn (off := 308) (tgt := 309) hx hb dxP_fits_1 (by rw [e2]; decide) (by rw [e2]; decide) (by rw [e2]; rfl) (by decide) ?_
      refine lv_iload_n hx hb dxP_fits_309 rfl (lv_at hl 2 rfl) ?_
      refine cx_xP_49 (As := [.int a]) (rest := []) X hG h hl.1 (mxP_isMonitor l Γ θ ρ S Z a _ hw) ⟨show 0 + 1 ≤ 1 from by omega, show 8 + (1 + 11) + 0 ≤ 21 from by omega⟩ rfl (Nat.le_of_ble_eq_true rfl) dxP_fits_310 ⟨Nat.le_of_ble_eq_true rfl, Nat.le_of_ble_eq_true rfl⟩ (fun v W1 hK H locs h => ?_)
      obtain ⟨r90, S91, rfl, rfl, hw⟩ := hK
      refine W.eq (g2 := F0 m 313 ls [.int r90]) rfl ?_
      obtain ⟨o92, hw⟩ := hw
      exact z_zret X hr hlk h (nz o92) ⟨_, _, rfl, rfl, hw⟩ dxP_fits_313
    | 22, _, e2 =>
      have e2 : x = 22 := e2
      have hw := hw.2.2.2.2.2.2.2.2.2.2.2.2.2.2.2.2.2.2.2.2.2.2 e2
      refine lv_tableIn (off := 107) (tgt := 108) hx hb dxP_fits_1 (by rw [e2]; decide) (by rw [e2]; decide) (by rw [e2]; rfl) (by decide) ?_
      refine lv_iconst (v := 1) hx hb dxP_fits_108 (by decide) ?_
      exact z_zret X hr hlk h rfl ⟨_, _, rfl, rfl, hw⟩ dxP_fits_109
    | k + 23, j_h, _ => exact absurd j_h (by omega)
def wxP_levelOf  (post : Int32 → Sg → Prop) (ρ : Rh) (S : Sg) (x : Int32) (a : Int32) (b : Int32) (q : Int32) : Prop := ((x.toInt < 4 ∨ 20 < x.toInt) → post (1 : Int32) S) ∧ (x = 4 → wxP_levelAt (fun r4 S5 => wxP_levelAt (fun r6 S7 => post (1 + (if r4 < r6 then r6 else r4)) S7) ρ S5 b) ρ S a) ∧ (x = 5 → wxP_levelAt (fun r8 S9 => wxP_levelAt (fun r10 S11 => post (1 + (if r8 < r10 then r10 else r8)) S11) ρ S9 q) ρ S b) ∧ (x = 6 → wxP_levelAt (fun r12 S13 => post (1 + r12) S13) ρ S b) ∧ (x = 7 → post (1 : Int32) S) ∧ (x = 8 → post (1 : Int32) S) ∧ (x = 9 → post (1 : Int32) S) ∧ (x = 10 → post (1 : Int32) S) ∧ (x = 11 → post (1 : Int32) S) ∧ (x = 12 → post (1 : Int32) S) ∧ (x = 13 → wxP_levelAt (fun r14 S15 => wxP_levelAt (fun r16 S17 => post (1 + (if r14 < r16 then r16 else r14)) S17) ρ S15 q) ρ S a) ∧ (x = 14 → wxP_levelAt (fun r18 S19 => wxP_levelAt (fun r20 S21 => post (1 + (if r18 < r20 then r20 else r18)) S21) ρ S19 b) ρ S a) ∧ (x = 15 → wxP_levelAt (fun r22 S23 => wxP_levelAt (fun r24 S25 => post (1 + (if r22 < r24 then r24 else r22)) S25) ρ S23 b) ρ S a) ∧ (x = 16 → post (1 : Int32) S) ∧ (x = 17 → post (1 : Int32) S) ∧ (x = 18 → post (1 : Int32) S) ∧ (x = 19 → post (1 : Int32) S) ∧ (x = 20 → wxP_levelAt (fun r26 S27 => post (1 + r26) S27) ρ S b)
set_option maxHeartbeats 4000000 in
set_option maxRecDepth 100000 in
theorem mxP_levelOf (l : Launch) (Γ : Gm) (θ : Th) (ρ : Rh) (S : Sg) (Z : va_W) (x : Int32) (a : Int32) (b : Int32) (q : Int32) (post : Int32 → Sg → Prop) (hw : wxP_levelOf post ρ S x a b q) : MM l yxP_levelOf cxP_levelOf 5 (some .int) 2 42 Γ [.ref (θ.1 3), .int x, .int a, .int b, .int q] (WX Γ θ ρ S Z) (KK (fun r : Int32 => some (.int r)) (fun S' => WX Γ θ ρ S' Z) post) 0 0 := by
  refine MM_of (by decide) (Nat.le_of_ble_eq_true rfl) ?_
  intro p e s m below meth c X hr hlk hnm hG h ls hl
  have hx := X.1
  have hb := X.2.1
  have hl : lv_has ls 5 [(0, .ref (θ.1 3)), (1, .int x), (2, .int a), (3, .int b), (4, .int q)] := hl
  unfold wxP_levelOf at hw
  refine lv_iload_n hx hb dxP_levelOf_0 rfl (lv_at hl 1 rfl) ?_
  by_cases c1 : x.toInt < 4 ∨ 20 < x.toInt
  · have hw := hw.1 c1
    refine lv_tableOut (tgt := 142) hx hb dxP_levelOf_1 c1 (by decide) ?_
    refine lv_iconst (v := 1) hx hb dxP_levelOf_142 (by decide) ?_
    exact z_iret X hr hlk h ⟨_, _, rfl, rfl, hw⟩ dxP_levelOf_143
  · have hw := hw.2
    obtain ⟨j3, j_h, e2⟩ := sw_in (lo := 4) (n := 16) c1
    match j3, j_h, e2 with
    | 0, _, e2 =>
      have e2 : x = 4 := e2
      have hw := hw.1 e2
      refine lv_tableIn (off := 83) (tgt := 84) hx hb dxP_levelOf_1 (by rw [e2]; decide) (by rw [e2]; decide) (by rw [e2]; rfl) (by decide) ?_
      refine lv_iconst (v := 1) hx hb dxP_levelOf_84 (by decide) ?_
      refine lv_aload_n hx hb dxP_levelOf_85 rfl (lv_at hl 0 rfl) ?_
      refine lv_iload_n hx hb dxP_levelOf_86 rfl (lv_at hl 2 rfl) ?_
      refine cx_xP_52 (As := [.int a]) (rest := [.int 1]) X hG h hl.1 (mxP_levelAt l Γ θ ρ S Z a _ hw) ⟨show 1 + 1 ≤ 2 from by omega, show 8 + (2 + 11) + 21 ≤ 42 from by omega⟩ (q0 := 3) rfl rfl (Nat.le_of_ble_eq_true rfl) dxP_levelOf_87 ⟨Nat.le_of_ble_eq_true rfl, Nat.le_of_ble_eq_true rfl⟩ (fun v W1 hK H locs h => ?_)
      obtain ⟨r4, S5, rfl, rfl, hw⟩ := hK
      refine W.eq (g2 := F0 m 90 ls [.int r4, .int 1]) rfl ?_
      refine lv_aload_n hx hb dxP_levelOf_90 rfl (lv_at hl 0 rfl) ?_
      refine lv_iload_n hx hb dxP_levelOf_91 rfl (lv_at hl 3 rfl) ?_
      refine cx_xP_52 (As := [.int b]) (rest := [.int r4, .int 1]) X hG h hl.1 (mxP_levelAt l Γ θ ρ S5 Z b _ hw) ⟨show 1 + 1 ≤ 2 from by omega, show 8 + (2 + 11) + 21 ≤ 42 from by omega⟩ (q0 := 3) rfl rfl (Nat.le_of_ble_eq_true rfl) dxP_levelOf_92 ⟨Nat.le_of_ble_eq_true rfl, Nat.le_of_ble_eq_true rfl⟩ (fun v W1 hK H locs h => ?_)
      obtain ⟨r6, S7, rfl, rfl, hw⟩ := hK
      refine W.eq (g2 := F0 m 95 ls [.int r6, .int r4, .int 1]) rfl ?_
      refine va_mmax hx hb (by rw [hl.1]; exact X.2.2.1) X.2.2.2.1 (X.2.2.2.2 _ kM_xP_56.1) (X.2.2.2.2 _ kM_xP_56.2.1) (X.2.2.2.2 _ kM_xP_56.2.2.1) (X.2.2.2.2 _ kM_xP_56.2.2.2) (show 1 ≤ 2 from by omega) (Nat.le_trans (Nat.add_le_add_right (m := 8) (Nat.le_of_ble_eq_true rfl) 13) (show 8 + 13 ≤ 42 from by omega)) (Nat.zero_le _) (Nat.zero_le _) dxP_levelOf_95 ?_
      refine lv_iadd hx hb dxP_levelOf_98 ?_
      exact z_iret X hr hlk h ⟨_, _, rfl, rfl, hw⟩ dxP_levelOf_99
    | 1, _, e2 =>
      have e2 : x = 5 := e2
      have hw := hw.2.1 e2
      refine lv_tableIn (off := 99) (tgt := 100) hx hb dxP_levelOf_1 (by rw [e2]; decide) (by rw [e2]; decide) (by rw [e2]; rfl) (by decide) ?_
      refine lv_iconst (v := 1) hx hb dxP_levelOf_100 (by decide) ?_
      refine lv_aload_n hx hb dxP_levelOf_101 rfl (lv_at hl 0 rfl) ?_
      refine lv_iload_n hx hb dxP_levelOf_102 rfl (lv_at hl 3 rfl) ?_
      refine cx_xP_52 (As := [.int b]) (rest := [.int 1]) X hG h hl.1 (mxP_levelAt l Γ θ ρ S Z b _ hw) ⟨show 1 + 1 ≤ 2 from by omega, show 8 + (2 + 11) + 21 ≤ 42 from by omega⟩ (q0 := 3) rfl rfl (Nat.le_of_ble_eq_true rfl) dxP_levelOf_103 ⟨Nat.le_of_ble_eq_true rfl, Nat.le_of_ble_eq_true rfl⟩ (fun v W1 hK H locs h => ?_)
      obtain ⟨r8, S9, rfl, rfl, hw⟩ := hK
      refine W.eq (g2 := F0 m 106 ls [.int r8, .int 1]) rfl ?_
      refine lv_aload_n hx hb dxP_levelOf_106 rfl (lv_at hl 0 rfl) ?_
      refine lv_iload hx hb dxP_levelOf_107 (lv_at hl 4 rfl) ?_
      refine cx_xP_52 (As := [.int q]) (rest := [.int r8, .int 1]) X hG h hl.1 (mxP_levelAt l Γ θ ρ S9 Z q _ hw) ⟨show 1 + 1 ≤ 2 from by omega, show 8 + (2 + 11) + 21 ≤ 42 from by omega⟩ (q0 := 3) rfl rfl (Nat.le_of_ble_eq_true rfl) dxP_levelOf_109 ⟨Nat.le_of_ble_eq_true rfl, Nat.le_of_ble_eq_true rfl⟩ (fun v W1 hK H locs h => ?_)
      obtain ⟨r10, S11, rfl, rfl, hw⟩ := hK
      refine W.eq (g2 := F0 m 112 ls [.int r10, .int r8, .int 1]) rfl ?_
      refine va_mmax hx hb (by rw [hl.1]; exact X.2.2.1) X.2.2.2.1 (X.2.2.2.2 _ kM_xP_56.1) (X.2.2.2.2 _ kM_xP_56.2.1) (X.2.2.2.2 _ kM_xP_56.2.2.1) (X.2.2.2.2 _ kM_xP_56.2.2.2) (show 1 ≤ 2 from by omega) (Nat.le_trans (Nat.add_le_add_right (m := 8) (Nat.le_of_ble_eq_true rfl) 13) (show 8 + 13 ≤ 42 from by omega)) (Nat.zero_le _) (Nat.zero_le _) dxP_levelOf_112 ?_
      refine lv_iadd hx hb dxP_levelOf_115 ?_
      exact z_iret X hr hlk h ⟨_, _, rfl, rfl, hw⟩ dxP_levelOf_116
    | 2, _, e2 =>
      have e2 : x = 6 := e2
      have hw := hw.2.2.1 e2
      refine lv_tableIn (off := 116) (tgt := 117) hx hb dxP_levelOf_1 (by rw [e2]; decide) (by rw [e2]; decide) (by rw [e2]; rfl) (by decide) ?_
      refine lv_iconst (v := 1) hx hb dxP_levelOf_117 (by decide) ?_
      refine lv_aload_n hx hb dxP_levelOf_118 rfl (lv_at hl 0 rfl) ?_
      refine lv_iload_n hx hb dxP_levelOf_119 rfl (lv_at hl 3 rfl) ?_
      refine cx_xP_52 (As := [.int b]) (rest := [.int 1]) X hG h hl.1 (mxP_levelAt l Γ θ ρ S Z b _ hw) ⟨show 1 + 1 ≤ 2 from by omega, show 8 + (2 + 11) + 21 ≤ 42 from by omega⟩ (q0 := 3) rfl rfl (Nat.le_of_ble_eq_true rfl) dxP_levelOf_120 ⟨Nat.le_of_ble_eq_true rfl, Nat.le_of_ble_eq_true rfl⟩ (fun v W1 hK H locs h => ?_)
      obtain ⟨r12, S13, rfl, rfl, hw⟩ := hK
      refine W.eq (g2 := F0 m 123 ls [.int r12, .int 1]) rfl ?_
      refine lv_iadd hx hb dxP_levelOf_123 ?_
      exact z_iret X hr hlk h ⟨_, _, rfl, rfl, hw⟩ dxP_levelOf_124
    | 3, _, e2 =>
      have e2 : x = 7 := e2
      have hw := hw.2.2.2.1 e2
      refine lv_tableIn (off := 141) (tgt := 142) hx hb dxP_levelOf_1 (by rw [e2]; decide) (by rw [e2]; decide) (by rw [e2]; rfl) (by decide) ?_
      refine lv_iconst (v := 1) hx hb dxP_levelOf_142 (by decide) ?_
      exact z_iret X hr hlk h ⟨_, _, rfl, rfl, hw⟩ dxP_levelOf_143
    | 4, _, e2 =>
      have e2 : x = 8 := e2
      have hw := hw.2.2.2.2.1 e2
      refine lv_tableIn (off := 141) (tgt := 142) hx hb dxP_levelOf_1 (by rw [e2]; decide) (by rw [e2]; decide) (by rw [e2]; rfl) (by decide) ?_
      refine lv_iconst (v := 1) hx hb dxP_levelOf_142 (by decide) ?_
      exact z_iret X hr hlk h ⟨_, _, rfl, rfl, hw⟩ dxP_levelOf_143
    | 5, _, e2 =>
      have e2 : x = 9 := e2
      have hw := hw.2.2.2.2.2.1 e2
      refine lv_tableIn (off := 141) (tgt := 142) hx hb dxP_levelOf_1 (by rw [e2]; decide) (by rw [e2]; decide) (by rw [e2]; rfl) (by decide) ?_
      refine lv_iconst (v := 1) hx hb dxP_levelOf_142 (by decide) ?_
      exact z_iret X hr hlk h ⟨_, _, rfl, rfl, hw⟩ dxP_levelOf_143
    | 6, _, e2 =>
      have e2 : x = 10 := e2
      have hw := hw.2.2.2.2.2.2.1 e2
      refine lv_tableIn (off := 141) (tgt := 142) hx hb dxP_levelOf_1 (by rw [e2]; decide) (by rw [e2]; decide) (by rw [e2]; rfl) (by decide) ?_
      refine lv_iconst (v := 1) hx hb dxP_levelOf_142 (by decide) ?_
      exact z_iret X hr hlk h ⟨_, _, rfl, rfl, hw⟩ dxP_levelOf_143
    | 7, _, e2 =>
      have e2 : x = 11 := e2
      have hw := hw.2.2.2.2.2.2.2.1 e2
      refine lv_tableIn (off := 141) (tgt := 142) hx hb dxP_levelOf_1 (by rw [e2]; decide) (by rw [e2]; decide) (by rw [e2]; rfl) (by decide) ?_
      refine lv_iconst (v := 1) hx hb dxP_levelOf_142 (by decide) ?_
      exact z_iret X hr hlk h ⟨_, _, rfl, rfl, hw⟩ dxP_levelOf_143
    | 8, _, e2 =>
      have e2 : x = 12 := e2
      have hw := hw.2.2.2.2.2.2.2.2.1 e2
      refine lv_tableIn (off := 141) (tgt := 142) hx hb dxP_levelOf_1 (by rw [e2]; decide) (by rw [e2]; decide) (by rw [e2]; rfl) (by decide) ?_
      refine lv_iconst (v := 1) hx hb dxP_levelOf_142 (by decide) ?_
      exact z_iret X hr hlk h ⟨_, _, rfl, rfl, hw⟩ dxP_levelOf_143
    | 9, _, e2 =>
      have e2 : x = 13 := e2
      have hw := hw.2.2.2.2.2.2.2.2.2.1 e2
      refine lv_tableIn (off := 124) (tgt := 125) hx hb dxP_levelOf_1 (by rw [e2]; decide) (by rw [e2]; decide) (by rw [e2]; rfl) (by decide) ?_
      refine lv_iconst (v := 1) hx hb dxP_levelOf_125 (by decide) ?_
      refine lv_aload_n hx hb dxP_levelOf_126 rfl (lv_at hl 0 rfl) ?_
      refine lv_iload_n hx hb dxP_levelOf_127 rfl (lv_at hl 2 rfl) ?_
      refine cx_xP_52 (As := [.int a]) (rest := [.int 1]) X hG h hl.1 (mxP_levelAt l Γ θ ρ S Z a _ hw) ⟨show 1 + 1 ≤ 2 from by omega, show 8 + (2 + 11) + 21 ≤ 42 from by omega⟩ (q0 := 3) rfl rfl (Nat.le_of_ble_eq_true rfl) dxP_levelOf_128 ⟨Nat.le_of_ble_eq_true rfl, Nat.le_of_ble_eq_true rfl⟩ (fun v W1 hK H locs h => ?_)
      obtain ⟨r14, S15, rfl, rfl, hw⟩ := hK
      refine W.eq (g2 := F0 m 131 ls [.int r14, .int 1]) rfl ?_
      refine lv_aload_n hx hb dxP_levelOf_131 rfl (lv_at hl 0 rfl) ?_
      refine lv_iload hx hb dxP_levelOf_132 (lv_at hl 4 rfl) ?_
      refine cx_xP_52 (As := [.int q]) (rest := [.int r14, .int 1]) X hG h hl.1 (mxP_levelAt l Γ θ ρ S15 Z q _ hw) ⟨show 1 + 1 ≤ 2 from by omega, show 8 + (2 + 11) + 21 ≤ 42 from by omega⟩ (q0 := 3) rfl rfl (Nat.le_of_ble_eq_true rfl) dxP_levelOf_134 ⟨Nat.le_of_ble_eq_true rfl, Nat.le_of_ble_eq_true rfl⟩ (fun v W1 hK H locs h => ?_)
      obtain ⟨r16, S17, rfl, rfl, hw⟩ := hK
      refine W.eq (g2 := F0 m 137 ls [.int r16, .int r14, .int 1]) rfl ?_
      refine va_mmax hx hb (by rw [hl.1]; exact X.2.2.1) X.2.2.2.1 (X.2.2.2.2 _ kM_xP_56.1) (X.2.2.2.2 _ kM_xP_56.2.1) (X.2.2.2.2 _ kM_xP_56.2.2.1) (X.2.2.2.2 _ kM_xP_56.2.2.2) (show 1 ≤ 2 from by omega) (Nat.le_trans (Nat.add_le_add_right (m := 8) (Nat.le_of_ble_eq_true rfl) 13) (show 8 + 13 ≤ 42 from by omega)) (Nat.zero_le _) (Nat.zero_le _) dxP_levelOf_137 ?_
      refine lv_iadd hx hb dxP_levelOf_140 ?_
      exact z_iret X hr hlk h ⟨_, _, rfl, rfl, hw⟩ dxP_levelOf_141
    | 10, _, e2 =>
      have e2 : x = 14 := e2
      have hw := hw.2.2.2.2.2.2.2.2.2.2.1 e2
      refine lv_tableIn (off := 83) (tgt := 84) hx hb dxP_levelOf_1 (by rw [e2]; decide) (by rw [e2]; decide) (by rw [e2]; rfl) (by decide) ?_
      refine lv_iconst (v := 1) hx hb dxP_levelOf_84 (by decide) ?_
      refine lv_aload_n hx hb dxP_levelOf_85 rfl (lv_at hl 0 rfl) ?_
      refine lv_iload_n hx hb dxP_levelOf_86 rfl (lv_at hl 2 rfl) ?_
      refine cx_xP_52 (As := [.int a]) (rest := [.int 1]) X hG h hl.1 (mxP_levelAt l Γ θ ρ S Z a _ hw) ⟨show 1 + 1 ≤ 2 from by omega, show 8 + (2 + 11) + 21 ≤ 42 from by omega⟩ (q0 := 3) rfl rfl (Nat.le_of_ble_eq_true rfl) dxP_levelOf_87 ⟨Nat.le_of_ble_eq_true rfl, Nat.le_of_ble_eq_true rfl⟩ (fun v W1 hK H locs h => ?_)
      obtain ⟨r18, S19, rfl, rfl, hw⟩ := hK
      refine W.eq (g2 := F0 m 90 ls [.int r18, .int 1]) rfl ?_
      refine lv_aload_n hx hb dxP_levelOf_90 rfl (lv_at hl 0 rfl) ?_
      refine lv_iload_n hx hb dxP_levelOf_91 rfl (lv_at hl 3 rfl) ?_
      refine cx_xP_52 (As := [.int b]) (rest := [.int r18, .int 1]) X hG h hl.1 (mxP_levelAt l Γ θ ρ S19 Z b _ hw) ⟨show 1 + 1 ≤ 2 from by omega, show 8 + (2 + 11) + 21 ≤ 42 from by omega⟩ (q0 := 3) rfl rfl (Nat.le_of_ble_eq_true rfl) dxP_levelOf_92 ⟨Nat.le_of_ble_eq_true rfl, Nat.le_of_ble_eq_true rfl⟩ (fun v W1 hK H locs h => ?_)
      obtain ⟨r20, S21, rfl, rfl, hw⟩ := hK
      refine W.eq (g2 := F0 m 95 ls [.int r20, .int r18, .int 1]) rfl ?_
      refine va_mmax hx hb (by rw [hl.1]; exact X.2.2.1) X.2.2.2.1 (X.2.2.2.2 _ kM_xP_56.1) (X.2.2.2.2 _ kM_xP_56.2.1) (X.2.2.2.2 _ kM_xP_56.2.2.1) (X.2.2.2.2 _ kM_xP_56.2.2.2) (show 1 ≤ 2 from by omega) (Nat.le_trans (Nat.add_le_add_right (m := 8) (Nat.le_of_ble_eq_true rfl) 13) (show 8 + 13 ≤ 42 from by omega)) (Nat.zero_le _) (Nat.zero_le _) dxP_levelOf_95 ?_
      refine lv_iadd hx hb dxP_levelOf_98 ?_
      exact z_iret X hr hlk h ⟨_, _, rfl, rfl, hw⟩ dxP_levelOf_99
    | 11, _, e2 =>
      have e2 : x = 15 := e2
      have hw := hw.2.2.2.2.2.2.2.2.2.2.2.1 e2
      refine lv_tableIn (off := 83) (tgt := 84) hx hb dxP_levelOf_1 (by rw [e2]; decide) (by rw [e2]; decide) (by rw [e2]; rfl) (by decide) ?_
      refine lv_iconst (v := 1) hx hb dxP_levelOf_84 (by decide) ?_
      refine lv_aload_n hx hb dxP_levelOf_85 rfl (lv_at hl 0 rfl) ?_
      refine lv_iload_n hx hb dxP_levelOf_86 rfl (lv_at hl 2 rfl) ?_
      refine cx_xP_52 (As := [.int a]) (rest := [.int 1]) X hG h hl.1 (mxP_levelAt l Γ θ ρ S Z a _ hw) ⟨show 1 + 1 ≤ 2 from by omega, show 8 + (2 + 11) + 21 ≤ 42 from by omega⟩ (q0 := 3) rfl rfl (Nat.le_of_ble_eq_true rfl) dxP_levelOf_87 ⟨Nat.le_of_ble_eq_true rfl, Nat.le_of_ble_eq_true rfl⟩ (fun v W1 hK H locs h => ?_)
      obtain ⟨r22, S23, rfl, rfl, hw⟩ := hK
      refine W.eq (g2 := F0 m 90 ls [.int r22, .int 1]) rfl ?_
      refine lv_aload_n hx hb dxP_levelOf_90 rfl (lv_at hl 0 rfl) ?_
      refine lv_iload_n hx hb dxP_levelOf_91 rfl (lv_at hl 3 rfl) ?_
      refine cx_xP_52 (As := [.int b]) (rest := [.int r22, .int 1]) X hG h hl.1 (mxP_levelAt l Γ θ ρ S23 Z b _ hw) ⟨show 1 + 1 ≤ 2 from by omega, show 8 + (2 + 11) + 21 ≤ 42 from by omega⟩ (q0 := 3) rfl rfl (Nat.le_of_ble_eq_true rfl) dxP_levelOf_92 ⟨Nat.le_of_ble_eq_true rfl, Nat.le_of_ble_eq_true rfl⟩ (fun v W1 hK H locs h => ?_)
      obtain ⟨r24, S25, rfl, rfl, hw⟩ := hK
      refine W.eq (g2 := F0 m 95 ls [.int r24, .int r22, .int 1]) rfl ?_
      refine va_mmax hx hb (by rw [hl.1]; exact X.2.2.1) X.2.2.2.1 (X.2.2.2.2 _ kM_xP_56.1) (X.2.2.2.2 _ kM_xP_56.2.1) (X.2.2.2.2 _ kM_xP_56.2.2.1) (X.2.2.2.2 _ kM_xP_56.2.2.2) (show 1 ≤ 2 from by omega) (Nat.le_trans (Nat.add_le_add_right (m := 8) (Nat.le_of_ble_eq_true rfl) 13) (show 8 + 13 ≤ 42 from by omega)) (Nat.zero_le _) (Nat.zero_le _) dxP_levelOf_95 ?_
      refine lv_iadd hx hb dxP_levelOf_98 ?_
      exact z_iret X hr hlk h ⟨_, _, rfl, rfl, hw⟩ dxP_levelOf_99
    | 12, _, e2 =>
      have e2 : x = 16 := e2
      have hw := hw.2.2.2.2.2.2.2.2.2.2.2.2.1 e2
      refine lv_tableIn (off := 141) (tgt := 142) hx hb dxP_levelOf_1 (by rw [e2]; decide) (by rw [e2]; decide) (by rw [e2]; rfl) (by decide) ?_
      refine lv_iconst (v := 1) hx hb dxP_levelOf_142 (by decide) ?_
      exact z_iret X hr hlk h ⟨_, _, rfl, rfl, hw⟩ dxP_levelOf_143
    | 13, _, e2 =>
      have e2 : x = 17 := e2
      have hw := hw.2.2.2.2.2.2.2.2.2.2.2.2.2.1 e2
      refine lv_tableIn (off := 141) (tgt := 142) hx hb dxP_levelOf_1 (by rw [e2]; decide) (by rw [e2]; decide) (by rw [e2]; rfl) (by decide) ?_
      refine lv_iconst (v := 1) hx hb dxP_levelOf_142 (by decide) ?_
      exact z_iret X hr hlk h ⟨_, _, rfl, rfl, hw⟩ dxP_levelOf_143
    | 14, _, e2 =>
      have e2 : x = 18 := e2
      have hw := hw.2.2.2.2.2.2.2.2.2.2.2.2.2.2.1 e2
      refine lv_tableIn (off := 141) (tgt := 142) hx hb dxP_levelOf_1 (by rw [e2]; decide) (by rw [e2]; decide) (by rw [e2]; rfl) (by decide) ?_
      refine lv_iconst (v := 1) hx hb dxP_levelOf_142 (by decide) ?_
      exact z_iret X hr hlk h ⟨_, _, rfl, rfl, hw⟩ dxP_levelOf_143
    | 15, _, e2 =>
      have e2 : x = 19 := e2
      have hw := hw.2.2.2.2.2.2.2.2.2.2.2.2.2.2.2.1 e2
      refine lv_tableIn (off := 141) (tgt := 142) hx hb dxP_levelOf_1 (by rw [e2]; decide) (by rw [e2]; decide) (by rw [e2]; rfl) (by decide) ?_
      refine lv_iconst (v := 1) hx hb dxP_levelOf_142 (by decide) ?_
      exact z_iret X hr hlk h ⟨_, _, rfl, rfl, hw⟩ dxP_levelOf_143
    | 16, _, e2 =>
      have e2 : x = 20 := e2
      have hw := hw.2.2.2.2.2.2.2.2.2.2.2.2.2.2.2.2 e2
      refine lv_tableIn (off := 116) (tgt := 117) hx hb dxP_levelOf_1 (by rw [e2]; decide) (by rw [e2]; decide) (by rw [e2]; rfl) (by decide) ?_
      refine lv_iconst (v := 1) hx hb dxP_levelOf_117 (by decide) ?_
      refine lv_aload_n hx hb dxP_levelOf_118 rfl (lv_at hl 0 rfl) ?_
      refine lv_iload_n hx hb dxP_levelOf_119 rfl (lv_at hl 3 rfl) ?_
      refine cx_xP_52 (As := [.int b]) (rest := [.int 1]) X hG h hl.1 (mxP_levelAt l Γ θ ρ S Z b _ hw) ⟨show 1 + 1 ≤ 2 from by omega, show 8 + (2 + 11) + 21 ≤ 42 from by omega⟩ (q0 := 3) rfl rfl (Nat.le_of_ble_eq_true rfl) dxP_levelOf_120 ⟨Nat.le_of_ble_eq_true rfl, Nat.le_of_ble_eq_true rfl⟩ (fun v W1 hK H locs h => ?_)
      obtain ⟨r26, S27, rfl, rfl, hw⟩ := hK
      refine W.eq (g2 := F0 m 123 ls [.int r26, .int 1]) rfl ?_
      refine lv_iadd hx hb dxP_levelOf_123 ?_
      exact z_iret X hr hlk h ⟨_, _, rfl, rfl, hw⟩ dxP_levelOf_124
    | k + 17, j_h, _ => exact absurd j_h (by omega)
def wxH_become  (post : Unit → Sg → Prop) (ρ : Rh) (S : Sg) (jT : Nat) (x : Int32) (y : Int32) (o : Option Nat) : Prop := (jT < 300) ∧ post () (sR (sC (sR (sR S 3 jT x) 4 jT y) jT o) 6 jT 0)
set_option maxHeartbeats 4000000 in
set_option maxRecDepth 100000 in
theorem mxH_become (l : Launch) (Γ : Gm) (θ : Th) (ρ : Rh) (S : Sg) (Z : va_W) (jT : Nat) (x : Int32) (y : Int32) (o : Option Nat) (post : Unit → Sg → Prop) (hw : wxH_become post ρ S jT x y o) : MM l yxH_become cxH_become 4 none 0 0 Γ [.ref (θ.2 jT), .int x, .int y, va_rf (Option.map θ.2 o)] (WX Γ θ ρ S Z) (KK (fun _ : Unit => none) (fun S' => WX Γ θ ρ S' Z) post) 0 0 := by
  refine MM_of (by decide) (by cases o <;> exact Nat.le_of_ble_eq_true rfl) ?_
  intro p e s m below meth c X hr hlk hnm hG h ls hl
  have hx := X.1
  have hb := X.2.1
  have hl : lv_has ls 4 [(0, .ref (θ.2 jT)), (1, .int x), (2, .int y), (3, va_rf (Option.map θ.2 o))] := hl
  unfold wxH_become at hw
  refine lv_aload_n hx hb dxH_become_0 rfl (lv_at hl 0 rfl) ?_
  refine lv_iload_n hx hb dxH_become_1 rfl (lv_at hl 1 rfl) ?_
  obtain ⟨o1, hw⟩ := hw
  refine px_xH_7 X hG h o1 dxH_become_2 (fun H locs h => ?_)
  refine lv_aload_n hx hb dxH_become_5 rfl (lv_at hl 0 rfl) ?_
  refine lv_iload_n hx hb dxH_become_6 rfl (lv_at hl 2 rfl) ?_
  refine px_xH_13 X hG h o1 dxH_become_7 (fun H locs h => ?_)
  refine lv_aload_n hx hb dxH_become_10 rfl (lv_at hl 0 rfl) ?_
  refine z_aload_nQ X dxH_become_11 rfl (lv_at hl 3 rfl) ?_
  refine px_xH_16 X hG h o1 (o := o) dxH_become_12 (fun H locs h => ?_)
  refine lv_aload_n hx hb dxH_become_15 rfl (lv_at hl 0 rfl) ?_
  refine lv_iconst (v := 0) hx hb dxH_become_16 (by decide) ?_
  refine px_xH_20 X hG h o1 dxH_become_17 (fun H locs h => ?_)
  exact z_vret X hr hlk h ⟨_, _, rfl, rfl, hw⟩ dxH_become_20
def wxH_origin_c2  (post : Nat → Sg → Prop) (ρ : Rh) (jT : Nat) : Nat → Sg → Nat → Prop
  | 0, _, _ => False
  | d + 1, S, a1 => (a1 < 300) ∧ ((S.2 a1) = none → post a1 S) ∧ (∀ j3 : Nat, (S.2 a1) = some j3 → wxH_origin_c2 post ρ jT d S j3)
set_option maxHeartbeats 4000000 in
set_option maxRecDepth 100000 in
theorem txH_origin_c2 {p : Program} {l : Launch} {e : Env} {s : State} {m : MethodId} {below : List Frame} {meth : Method} {c : Code} (Γ : Gm) (θ : Th) (ρ : Rh) (Z : va_W) (jT : Nat)  (post : Nat → Sg → Prop) (X : CallFix p m c cxH_origin 2 s ([.ref (θ.2 jT)] : List Value).toArray big RxH) (hr : meth.sig.returnType = (some (.object "ThrowScenario$Thrown"))) (hlk : meth.locks = false) (hG : GX Γ s s.heap) :
    ∀ (d : Nat) (S : Sg) (a1 : Nat) (hw : wxH_origin_c2 post ρ jT d S a1) (H : Heap) (locs : List Loc) (h : HS Γ s (WX Γ θ ρ S Z) H locs) (ls : Array Slot) (hl : lv_has ls 2 [(0, .ref (θ.2 jT)), (1, .ref (θ.2 a1))]), W p l e { frames := 0, cells := 0, slots := 0, locals := 0 } s m ([.ref (θ.2 jT)] : List Value).toArray below meth c H locs 0 0 (MQ below (QM Γ (KK (fun r : Nat => some (.ref (θ.2 r))) (fun S' => WX Γ θ ρ S' Z) post)) ([.ref (θ.2 jT)] : List Value).toArray s 0 0 (AA Γ)) (F0 m 2 ls []) := by
  have hx := X.1
  have hb := X.2.1
  intro d
  induction d with
  | zero => intro S a1 hw; exact absurd hw (by simp [wxH_origin_c2])
  | succ d ih =>
    intro S a1 hw H locs h ls hl
    rw [wxH_origin_c2] at hw
    refine lv_aload_n hx hb dxH_origin_2 rfl (lv_at hl 1 rfl) ?_
    obtain ⟨o1, hw⟩ := hw
    refine gx_xH_16 X hG h o1 (x := S.2 a1) rfl dxH_origin_3 ?_
    refine x_ifnull X (tgt := 17) dxH_origin_6 (by decide) (fun e2 => ?_) (fun j3 e2 => ?_)
    · have hw := hw.1 e2
      refine lv_aload_n hx hb dxH_origin_17 rfl (lv_at hl 1 rfl) ?_
      exact z_aret X hr hlk h (Or.inr ⟨_, rfl⟩) ⟨_, _, rfl, rfl, hw⟩ dxH_origin_18
    · have hw := hw.2 j3 e2
      refine lv_aload_n hx hb dxH_origin_9 rfl (lv_at hl 1 rfl) ?_
      refine gx_xH_16 X hG h o1 (x := some j3) e2 dxH_origin_10 ?_
      refine lv_astore_n (lv' := [(1, .ref (θ.2 j3)), (0, .ref (θ.2 jT))]) hx hb dxH_origin_13 rfl hl (by decide) rfl (fun ls hl => ?_)
      refine lv_goto (tgt := 2) hx hb dxH_origin_14 (by decide) ?_
      exact ih S j3 hw _ _ h ls (lv_sub hl [1, 0] rfl)
def wxH_origin  (post : Nat → Sg → Prop) (ρ : Rh) (S : Sg) (jT : Nat) : Prop := ∃ d4 : Nat, wxH_origin_c2 post ρ jT d4 S jT
set_option maxHeartbeats 4000000 in
set_option maxRecDepth 100000 in
theorem mxH_origin (l : Launch) (Γ : Gm) (θ : Th) (ρ : Rh) (S : Sg) (Z : va_W) (jT : Nat) (post : Nat → Sg → Prop) (hw : wxH_origin post ρ S jT) : MM l yxH_origin cxH_origin 2 (some (.object "ThrowScenario$Thrown")) 0 0 Γ [.ref (θ.2 jT)] (WX Γ θ ρ S Z) (KK (fun r : Nat => some (.ref (θ.2 r))) (fun S' => WX Γ θ ρ S' Z) post) 0 0 := by
  refine MM_of (by decide) (Nat.le_of_ble_eq_true rfl) ?_
  intro p e s m below meth c X hr hlk hnm hG h ls hl
  have hx := X.1
  have hb := X.2.1
  have hl : lv_has ls 2 [(0, .ref (θ.2 jT))] := hl
  unfold wxH_origin at hw
  refine lv_aload_n hx hb dxH_origin_0 rfl (lv_at hl 0 rfl) ?_
  refine lv_astore_n (lv' := [(1, .ref (θ.2 jT)), (0, .ref (θ.2 jT))]) hx hb dxH_origin_1 rfl hl (by decide) rfl (fun ls hl => ?_)
  obtain ⟨d4, hw⟩ := hw
  exact txH_origin_c2 Γ θ ρ Z jT post X hr hlk hG d4 S jT hw _ _ h ls (lv_sub hl [1, 0] rfl)
def wxM_prepare  (post : Unit → Sg → Prop) (ρ : Rh) (S : Sg) (x : Int32) (y : Int32) : Prop := (vp_in (0 : Int32) 4) ∧ (vp_in (1 : Int32) 4) ∧ (vp_in (2 : Int32) 4) ∧ (vp_in (3 : Int32) 4) ∧ (vp_in (0 : Int32) 2) ∧ (vp_in (1 : Int32) 2) ∧ post () (sR (sR (sR (sR (sR (sR (sR (sR (sR (sR (sR (sR S 0 0 x) 0 1 y) 0 2 0) 0 3 0) 1 0 0) 1 1 0) 7 0 0) 7 1 0) 7 2 0) 7 3 0) 7 4 0) 7 5 0)
set_option maxHeartbeats 4000000 in
set_option maxRecDepth 100000 in
theorem mxM_prepare (l : Launch) (Γ : Gm) (θ : Th) (ρ : Rh) (S : Sg) (Z : va_W) (x : Int32) (y : Int32) (post : Unit → Sg → Prop) (hw : wxM_prepare post ρ S x y) : MM l yxM_prepare cxM_prepare 3 none 0 0 Γ [.ref (θ.1 6), .int x, .int y] (WX Γ θ ρ S Z) (KK (fun _ : Unit => none) (fun S' => WX Γ θ ρ S' Z) post) 0 0 := by
  refine MM_of (by decide) (Nat.le_of_ble_eq_true rfl) ?_
  intro p e s m below meth c X hr hlk hnm hG h ls hl
  have hx := X.1
  have hb := X.2.1
  have hl : lv_has ls 3 [(0, .ref (θ.1 6)), (1, .int x), (2, .int y)] := hl
  unfold wxM_prepare at hw
  refine lv_aload_n hx hb dxM_prepare_0 rfl (lv_at hl 0 rfl) ?_
  refine gx_xM_11 X hG h dxM_prepare_1 ?_
  refine lv_iconst (v := 0) hx hb dxM_prepare_4 (by decide) ?_
  refine lv_iload_n hx hb dxM_prepare_5 rfl (lv_at hl 1 rfl) ?_
  obtain ⟨o1, hw⟩ := hw
  refine sx_7 X hG h o1 dxM_prepare_6 (fun H locs h => ?_)
  refine lv_aload_n hx hb dxM_prepare_7 rfl (lv_at hl 0 rfl) ?_
  refine gx_xM_11 X hG h dxM_prepare_8 ?_
  refine lv_iconst (v := 1) hx hb dxM_prepare_11 (by decide) ?_
  refine lv_iload_n hx hb dxM_prepare_12 rfl (lv_at hl 2 rfl) ?_
  obtain ⟨o2, hw⟩ := hw
  refine sx_7 X hG h o2 dxM_prepare_13 (fun H locs h => ?_)
  refine lv_aload_n hx hb dxM_prepare_14 rfl (lv_at hl 0 rfl) ?_
  refine gx_xM_11 X hG h dxM_prepare_15 ?_
  refine lv_iconst (v := 2) hx hb dxM_prepare_18 (by decide) ?_
  refine lv_iconst (v := 0) hx hb dxM_prepare_19 (by decide) ?_
  obtain ⟨o3, hw⟩ := hw
  refine sx_7 X hG h o3 dxM_prepare_20 (fun H locs h => ?_)
  refine lv_aload_n hx hb dxM_prepare_21 rfl (lv_at hl 0 rfl) ?_
  refine gx_xM_11 X hG h dxM_prepare_22 ?_
  refine lv_iconst (v := 3) hx hb dxM_prepare_25 (by decide) ?_
  refine lv_iconst (v := 0) hx hb dxM_prepare_26 (by decide) ?_
  obtain ⟨o4, hw⟩ := hw
  refine sx_7 X hG h o4 dxM_prepare_27 (fun H locs h => ?_)
  refine lv_aload_n hx hb dxM_prepare_28 rfl (lv_at hl 0 rfl) ?_
  refine gx_xM_17 X hG h dxM_prepare_29 ?_
  refine lv_iconst (v := 0) hx hb dxM_prepare_32 (by decide) ?_
  refine lv_iconst (v := 0) hx hb dxM_prepare_33 (by decide) ?_
  obtain ⟨o5, hw⟩ := hw
  refine sx_8 X hG h o5 dxM_prepare_34 (fun H locs h => ?_)
  refine lv_aload_n hx hb dxM_prepare_35 rfl (lv_at hl 0 rfl) ?_
  refine gx_xM_17 X hG h dxM_prepare_36 ?_
  refine lv_iconst (v := 1) hx hb dxM_prepare_39 (by decide) ?_
  refine lv_iconst (v := 0) hx hb dxM_prepare_40 (by decide) ?_
  obtain ⟨o6, hw⟩ := hw
  refine sx_8 X hG h o6 dxM_prepare_41 (fun H locs h => ?_)
  refine lv_aload_n hx hb dxM_prepare_42 rfl (lv_at hl 0 rfl) ?_
  refine lv_iconst (v := 0) hx hb dxM_prepare_43 (by decide) ?_
  refine px_xM_29 X hG h dxM_prepare_44 (fun H locs h => ?_)
  refine lv_aload_n hx hb dxM_prepare_47 rfl (lv_at hl 0 rfl) ?_
  refine lv_iconst (v := 0) hx hb dxM_prepare_48 (by decide) ?_
  refine px_xM_33 X hG h dxM_prepare_49 (fun H locs h => ?_)
  refine lv_aload_n hx hb dxM_prepare_52 rfl (lv_at hl 0 rfl) ?_
  refine lv_iconst (v := 0) hx hb dxM_prepare_53 (by decide) ?_
  refine px_xM_36 X hG h dxM_prepare_54 (fun H locs h => ?_)
  refine lv_aload_n hx hb dxM_prepare_57 rfl (lv_at hl 0 rfl) ?_
  refine lv_iconst (v := 0) hx hb dxM_prepare_58 (by decide) ?_
  refine px_xM_39 X hG h dxM_prepare_59 (fun H locs h => ?_)
  refine lv_aload_n hx hb dxM_prepare_62 rfl (lv_at hl 0 rfl) ?_
  refine lv_iconst (v := 0) hx hb dxM_prepare_63 (by decide) ?_
  refine px_xM_42 X hG h dxM_prepare_64 (fun H locs h => ?_)
  refine lv_aload_n hx hb dxM_prepare_67 rfl (lv_at hl 0 rfl) ?_
  refine lv_iconst (v := 0) hx hb dxM_prepare_68 (by decide) ?_
  refine px_xM_45 X hG h dxM_prepare_69 (fun H locs h => ?_)
  exact z_vret X hr hlk h ⟨_, _, rfl, rfl, hw⟩ dxM_prepare_72
def wxM_variableAt  (post : Int32 → Sg → Prop) (ρ : Rh) (S : Sg) (x : Int32) : Prop := (vp_in x 4) ∧ post (S.1 0 x.toNatClampNeg) S
set_option maxHeartbeats 4000000 in
set_option maxRecDepth 100000 in
theorem mxM_variableAt (l : Launch) (Γ : Gm) (θ : Th) (ρ : Rh) (S : Sg) (Z : va_W) (x : Int32) (post : Int32 → Sg → Prop) (hw : wxM_variableAt post ρ S x) : MM l yxM_variableAt cxM_variableAt 2 (some .int) 0 0 Γ [.ref (θ.1 6), .int x] (WX Γ θ ρ S Z) (KK (fun r : Int32 => some (.int r)) (fun S' => WX Γ θ ρ S' Z) post) 0 0 := by
  refine MM_of (by decide) (Nat.le_of_ble_eq_true rfl) ?_
  intro p e s m below meth c X hr hlk hnm hG h ls hl
  have hx := X.1
  have hb := X.2.1
  have hl : lv_has ls 2 [(0, .ref (θ.1 6)), (1, .int x)] := hl
  unfold wxM_variableAt at hw
  refine lv_aload_n hx hb dxM_variableAt_0 rfl (lv_at hl 0 rfl) ?_
  refine gx_xM_11 X hG h dxM_variableAt_1 ?_
  refine lv_iload_n hx hb dxM_variableAt_4 rfl (lv_at hl 1 rfl) ?_
  obtain ⟨o1, hw⟩ := hw
  refine lx_7 X hG h o1 (x := S.1 0 x.toNatClampNeg) rfl dxM_variableAt_5 ?_
  exact z_iret X hr hlk h ⟨_, _, rfl, rfl, hw⟩ dxM_variableAt_6
def wxM_tally  (post : Int32 → Sg → Prop) (ρ : Rh) (S : Sg) (x : Int32) : Prop := ((x.toInt < 2 ∨ 9 < x.toInt) → post (-1 : Int32) S) ∧ (x = 2 → post (S.1 7 2) S) ∧ (x = 3 → post (S.1 7 1) S) ∧ (x = 4 → post (S.1 7 3) S) ∧ (x = 5 → post (S.1 7 4) S) ∧ (x = 6 → post (S.1 7 5) S) ∧ (x = 7 → post (S.1 7 0) S) ∧ (x = 8 → (vp_in (0 : Int32) 2) ∧ post (S.1 1 0) S) ∧ (x = 9 → (vp_in (1 : Int32) 2) ∧ post (S.1 1 1) S)
set_option maxHeartbeats 4000000 in
set_option maxRecDepth 100000 in
theorem mxM_tally (l : Launch) (Γ : Gm) (θ : Th) (ρ : Rh) (S : Sg) (Z : va_W) (x : Int32) (post : Int32 → Sg → Prop) (hw : wxM_tally post ρ S x) : MM l yxM_tally cxM_tally 2 (some .int) 0 0 Γ [.ref (θ.1 6), .int x] (WX Γ θ ρ S Z) (KK (fun r : Int32 => some (.int r)) (fun S' => WX Γ θ ρ S' Z) post) 0 0 := by
  refine MM_of (by decide) (Nat.le_of_ble_eq_true rfl) ?_
  intro p e s m below meth c X hr hlk hnm hG h ls hl
  have hx := X.1
  have hb := X.2.1
  have hl : lv_has ls 2 [(0, .ref (θ.1 6)), (1, .int x)] := hl
  unfold wxM_tally at hw
  refine lv_iload_n hx hb dxM_tally_0 rfl (lv_at hl 1 rfl) ?_
  by_cases c1 : x.toInt < 2 ∨ 9 < x.toInt
  · have hw := hw.1 c1
    refine lv_tableOut (tgt := 92) hx hb dxM_tally_1 c1 (by decide) ?_
    refine lv_iconst (v := -1) hx hb dxM_tally_92 (by decide) ?_
    exact z_iret X hr hlk h ⟨_, _, rfl, rfl, hw⟩ dxM_tally_93
  · have hw := hw.2
    obtain ⟨j3, j_h, e2⟩ := sw_in (lo := 2) (n := 7) c1
    match j3, j_h, e2 with
    | 0, _, e2 =>
      have e2 : x = 2 := e2
      have hw := hw.1 e2
      refine lv_tableIn (off := 47) (tgt := 48) hx hb dxM_tally_1 (by rw [e2]; decide) (by rw [e2]; decide) (by rw [e2]; rfl) (by decide) ?_
      refine lv_aload_n hx hb dxM_tally_48 rfl (lv_at hl 0 rfl) ?_
      refine gx_xM_36 X hG h (x := S.1 7 2) rfl dxM_tally_49 ?_
      exact z_iret X hr hlk h ⟨_, _, rfl, rfl, hw⟩ dxM_tally_52
    | 1, _, e2 =>
      have e2 : x = 3 := e2
      have hw := hw.2.1 e2
      refine lv_tableIn (off := 52) (tgt := 53) hx hb dxM_tally_1 (by rw [e2]; decide) (by rw [e2]; decide) (by rw [e2]; rfl) (by decide) ?_
      refine lv_aload_n hx hb dxM_tally_53 rfl (lv_at hl 0 rfl) ?_
      refine gx_xM_33 X hG h (x := S.1 7 1) rfl dxM_tally_54 ?_
      exact z_iret X hr hlk h ⟨_, _, rfl, rfl, hw⟩ dxM_tally_57
    | 2, _, e2 =>
      have e2 : x = 4 := e2
      have hw := hw.2.2.1 e2
      refine lv_tableIn (off := 57) (tgt := 58) hx hb dxM_tally_1 (by rw [e2]; decide) (by rw [e2]; decide) (by rw [e2]; rfl) (by decide) ?_
      refine lv_aload_n hx hb dxM_tally_58 rfl (lv_at hl 0 rfl) ?_
      refine gx_xM_39 X hG h (x := S.1 7 3) rfl dxM_tally_59 ?_
      exact z_iret X hr hlk h ⟨_, _, rfl, rfl, hw⟩ dxM_tally_62
    | 3, _, e2 =>
      have e2 : x = 5 := e2
      have hw := hw.2.2.2.1 e2
      refine lv_tableIn (off := 62) (tgt := 63) hx hb dxM_tally_1 (by rw [e2]; decide) (by rw [e2]; decide) (by rw [e2]; rfl) (by decide) ?_
      refine lv_aload_n hx hb dxM_tally_63 rfl (lv_at hl 0 rfl) ?_
      refine gx_xM_42 X hG h (x := S.1 7 4) rfl dxM_tally_64 ?_
      exact z_iret X hr hlk h ⟨_, _, rfl, rfl, hw⟩ dxM_tally_67
    | 4, _, e2 =>
      have e2 : x = 6 := e2
      have hw := hw.2.2.2.2.1 e2
      refine lv_tableIn (off := 67) (tgt := 68) hx hb dxM_tally_1 (by rw [e2]; decide) (by rw [e2]; decide) (by rw [e2]; rfl) (by decide) ?_
      refine lv_aload_n hx hb dxM_tally_68 rfl (lv_at hl 0 rfl) ?_
      refine gx_xM_45 X hG h (x := S.1 7 5) rfl dxM_tally_69 ?_
      exact z_iret X hr hlk h ⟨_, _, rfl, rfl, hw⟩ dxM_tally_72
    | 5, _, e2 =>
      have e2 : x = 7 := e2
      have hw := hw.2.2.2.2.2.1 e2
      refine lv_tableIn (off := 72) (tgt := 73) hx hb dxM_tally_1 (by rw [e2]; decide) (by rw [e2]; decide) (by rw [e2]; rfl) (by decide) ?_
      refine lv_aload_n hx hb dxM_tally_73 rfl (lv_at hl 0 rfl) ?_
      refine gx_xM_29 X hG h (x := S.1 7 0) rfl dxM_tally_74 ?_
      exact z_iret X hr hlk h ⟨_, _, rfl, rfl, hw⟩ dxM_tally_77
    | 6, _, e2 =>
      have e2 : x = 8 := e2
      have hw := hw.2.2.2.2.2.2.1 e2
      refine lv_tableIn (off := 77) (tgt := 78) hx hb dxM_tally_1 (by rw [e2]; decide) (by rw [e2]; decide) (by rw [e2]; rfl) (by decide) ?_
      refine lv_aload_n hx hb dxM_tally_78 rfl (lv_at hl 0 rfl) ?_
      refine gx_xM_17 X hG h dxM_tally_79 ?_
      refine lv_iconst (v := 0) hx hb dxM_tally_82 (by decide) ?_
      obtain ⟨o4, hw⟩ := hw
      refine lx_8 X hG h o4 (x := S.1 1 0) rfl dxM_tally_83 ?_
      exact z_iret X hr hlk h ⟨_, _, rfl, rfl, hw⟩ dxM_tally_84
    | 7, _, e2 =>
      have e2 : x = 9 := e2
      have hw := hw.2.2.2.2.2.2.2 e2
      refine lv_tableIn (off := 84) (tgt := 85) hx hb dxM_tally_1 (by rw [e2]; decide) (by rw [e2]; decide) (by rw [e2]; rfl) (by decide) ?_
      refine lv_aload_n hx hb dxM_tally_85 rfl (lv_at hl 0 rfl) ?_
      refine gx_xM_17 X hG h dxM_tally_86 ?_
      refine lv_iconst (v := 1) hx hb dxM_tally_89 (by decide) ?_
      obtain ⟨o5, hw⟩ := hw
      refine lx_8 X hG h o5 (x := S.1 1 1) rfl dxM_tally_90 ?_
      exact z_iret X hr hlk h ⟨_, _, rfl, rfl, hw⟩ dxM_tally_91
    | k + 8, j_h, _ => exact absurd j_h (by omega)
def wxM_logSize  (post : Int32 → Sg → Prop) (ρ : Rh) (S : Sg)  : Prop := post (S.1 7 0) S
set_option maxHeartbeats 4000000 in
set_option maxRecDepth 100000 in
theorem mxM_logSize (l : Launch) (Γ : Gm) (θ : Th) (ρ : Rh) (S : Sg) (Z : va_W)  (post : Int32 → Sg → Prop) (hw : wxM_logSize post ρ S ) : MM l yxM_logSize cxM_logSize 1 (some .int) 0 0 Γ [.ref (θ.1 6)] (WX Γ θ ρ S Z) (KK (fun r : Int32 => some (.int r)) (fun S' => WX Γ θ ρ S' Z) post) 0 0 := by
  refine MM_of (by decide) (Nat.le_of_ble_eq_true rfl) ?_
  intro p e s m below meth c X hr hlk hnm hG h ls hl
  have hx := X.1
  have hb := X.2.1
  have hl : lv_has ls 1 [(0, .ref (θ.1 6))] := hl
  unfold wxM_logSize at hw
  refine lv_aload_n hx hb dxM_logSize_0 rfl (lv_at hl 0 rfl) ?_
  refine gx_xM_29 X hG h (x := S.1 7 0) rfl dxM_logSize_1 ?_
  exact z_iret X hr hlk h ⟨_, _, rfl, rfl, hw⟩ dxM_logSize_4
def wxM_logAt  (post : Int32 → Sg → Prop) (ρ : Rh) (S : Sg) (x : Int32) : Prop := (vp_in x 300) ∧ post (S.1 2 x.toNatClampNeg) S
set_option maxHeartbeats 4000000 in
set_option maxRecDepth 100000 in
theorem mxM_logAt (l : Launch) (Γ : Gm) (θ : Th) (ρ : Rh) (S : Sg) (Z : va_W) (x : Int32) (post : Int32 → Sg → Prop) (hw : wxM_logAt post ρ S x) : MM l yxM_logAt cxM_logAt 2 (some .int) 0 0 Γ [.ref (θ.1 6), .int x] (WX Γ θ ρ S Z) (KK (fun r : Int32 => some (.int r)) (fun S' => WX Γ θ ρ S' Z) post) 0 0 := by
  refine MM_of (by decide) (Nat.le_of_ble_eq_true rfl) ?_
  intro p e s m below meth c X hr hlk hnm hG h ls hl
  have hx := X.1
  have hb := X.2.1
  have hl : lv_has ls 2 [(0, .ref (θ.1 6)), (1, .int x)] := hl
  unfold wxM_logAt at hw
  refine lv_aload_n hx hb dxM_logAt_0 rfl (lv_at hl 0 rfl) ?_
  refine gx_xM_20 X hG h dxM_logAt_1 ?_
  refine lv_iload_n hx hb dxM_logAt_4 rfl (lv_at hl 1 rfl) ?_
  obtain ⟨o1, hw⟩ := hw
  refine lx_9 X hG h o1 (x := S.1 2 x.toNatClampNeg) rfl dxM_logAt_5 ?_
  exact z_iret X hr hlk h ⟨_, _, rfl, rfl, hw⟩ dxM_logAt_6
def wxM_carried  (post : Int32 → Sg → Prop) (ρ : Rh) (S : Sg)  : Prop := post (S.1 7 6) S
set_option maxHeartbeats 4000000 in
set_option maxRecDepth 100000 in
theorem mxM_carried (l : Launch) (Γ : Gm) (θ : Th) (ρ : Rh) (S : Sg) (Z : va_W)  (post : Int32 → Sg → Prop) (hw : wxM_carried post ρ S ) : MM l yxM_carried cxM_carried 1 (some .int) 0 0 Γ [.ref (θ.1 6)] (WX Γ θ ρ S Z) (KK (fun r : Int32 => some (.int r)) (fun S' => WX Γ θ ρ S' Z) post) 0 0 := by
  refine MM_of (by decide) (Nat.le_of_ble_eq_true rfl) ?_
  intro p e s m below meth c X hr hlk hnm hG h ls hl
  have hx := X.1
  have hb := X.2.1
  have hl : lv_has ls 1 [(0, .ref (θ.1 6))] := hl
  unfold wxM_carried at hw
  refine lv_aload_n hx hb dxM_carried_0 rfl (lv_at hl 0 rfl) ?_
  refine gx_xM_48 X hG h (x := S.1 7 6) rfl dxM_carried_1 ?_
  exact z_iret X hr hlk h ⟨_, _, rfl, rfl, hw⟩ dxM_carried_4
def wxM_thrown  (post : Option Nat → Sg → Prop) (ρ : Rh) (S : Sg)  : Prop := post (S.2 300) S
set_option maxHeartbeats 4000000 in
set_option maxRecDepth 100000 in
theorem mxM_thrown (l : Launch) (Γ : Gm) (θ : Th) (ρ : Rh) (S : Sg) (Z : va_W)  (post : Option Nat → Sg → Prop) (hw : wxM_thrown post ρ S ) : MM l yxM_thrown cxM_thrown 1 (some (.object "ThrowScenario$Thrown")) 0 0 Γ [.ref (θ.1 6)] (WX Γ θ ρ S Z) (KK (fun r : Option Nat => some (va_rf (Option.map θ.2 r))) (fun S' => WX Γ θ ρ S' Z) post) 0 0 := by
  refine MM_of (by decide) (Nat.le_of_ble_eq_true rfl) ?_
  intro p e s m below meth c X hr hlk hnm hG h ls hl
  have hx := X.1
  have hb := X.2.1
  have hl : lv_has ls 1 [(0, .ref (θ.1 6))] := hl
  unfold wxM_thrown at hw
  refine lv_aload_n hx hb dxM_thrown_0 rfl (lv_at hl 0 rfl) ?_
  refine gx_xM_63 X hG h (x := S.2 300) rfl dxM_thrown_1 ?_
  exact z_aret X hr hlk h (va_rf_or _) ⟨_, _, rfl, rfl, hw⟩ dxM_thrown_4
def wxM_mayBegin  (post : Int32 → Sg → Prop) (ρ : Rh) (S : Sg)  : Prop := (((300 : Int32) ≤ (S.1 7 2)) → post (0 : Int32) S) ∧ ((¬ ((300 : Int32) ≤ (S.1 7 2))) → post (1 : Int32) S)
set_option maxHeartbeats 4000000 in
set_option maxRecDepth 100000 in
theorem mxM_mayBegin (l : Launch) (Γ : Gm) (θ : Th) (ρ : Rh) (S : Sg) (Z : va_W)  (post : Int32 → Sg → Prop) (hw : wxM_mayBegin post ρ S ) : MM l yxM_mayBegin cxM_mayBegin 1 (some .boolean) 0 0 Γ [.ref (θ.1 6)] (WX Γ θ ρ S Z) (KK (fun r : Int32 => some (.int r)) (fun S' => WX Γ θ ρ S' Z) post) 0 0 := by
  refine MM_of (by decide) (Nat.le_of_ble_eq_true rfl) ?_
  intro p e s m below meth c X hr hlk hnm hG h ls hl
  have hx := X.1
  have hb := X.2.1
  have hl : lv_has ls 1 [(0, .ref (θ.1 6))] := hl
  unfold wxM_mayBegin at hw
  refine lv_aload_n hx hb dxM_mayBegin_0 rfl (lv_at hl 0 rfl) ?_
  refine gx_xM_36 X hG h (x := S.1 7 2) rfl dxM_mayBegin_1 ?_
  refine lv_sipush (v := 300) hx hb dxM_mayBegin_4 (by decide) ?_
  refine lv_icmp_ge (tgt := 14) hx hb dxM_mayBegin_7 (by decide) (fun c1 => ?_) (fun c1 => ?_)
  · have hw := hw.1 c1
    refine lv_iconst (v := 0) hx hb dxM_mayBegin_14 (by decide) ?_
    exact z_zret X hr hlk h rfl ⟨_, _, rfl, rfl, hw⟩ dxM_mayBegin_15
  · have hw := hw.2 c1
    refine lv_iconst (v := 1) hx hb dxM_mayBegin_10 (by decide) ?_
    refine lv_goto (tgt := 15) hx hb dxM_mayBegin_11 (by decide) ?_
    exact z_zret X hr hlk h rfl ⟨_, _, rfl, rfl, hw⟩ dxM_mayBegin_15
def wxM_carry  (post : Nat → Sg → Prop) (ρ : Rh) (S : Sg) (x : Int32) (w : Nat) : Prop := post w (sR S 7 6 x)
set_option maxHeartbeats 4000000 in
set_option maxRecDepth 100000 in
theorem mxM_carry (l : Launch) (Γ : Gm) (θ : Th) (ρ : Rh) (S : Sg) (Z : va_W) (x : Int32) (w : Nat) (post : Nat → Sg → Prop) (hw : wxM_carry post ρ S x w) : MM l yxM_carry cxM_carry 3 (some (.object "ThrowScenario$Way")) 0 0 Γ [.ref (θ.1 6), .int x, .ref (Γ.2.2.2.1 w)] (WX Γ θ ρ S Z) (KK (fun r : Nat => some (.ref (Γ.2.2.2.1 r))) (fun S' => WX Γ θ ρ S' Z) post) 0 0 := by
  refine MM_of (by decide) (Nat.le_of_ble_eq_true rfl) ?_
  intro p e s m below meth c X hr hlk hnm hG h ls hl
  have hx := X.1
  have hb := X.2.1
  have hl : lv_has ls 3 [(0, .ref (θ.1 6)), (1, .int x), (2, .ref (Γ.2.2.2.1 w))] := hl
  unfold wxM_carry at hw
  refine lv_aload_n hx hb dxM_carry_0 rfl (lv_at hl 0 rfl) ?_
  refine lv_iload_n hx hb dxM_carry_1 rfl (lv_at hl 1 rfl) ?_
  refine px_xM_48 X hG h dxM_carry_2 (fun H locs h => ?_)
  refine lv_aload_n hx hb dxM_carry_5 rfl (lv_at hl 2 rfl) ?_
  exact z_aret X hr hlk h (Or.inr ⟨_, rfl⟩) ⟨_, _, rfl, rfl, hw⟩ dxM_carry_6
def wxM_addToLog  (post : Unit → Sg → Prop) (ρ : Rh) (S : Sg) (x : Int32) : Prop := (vp_in (S.1 7 0) 300) ∧ post () (sR (sR S 2 ((S.1 7 0).toNatClampNeg) x) 7 0 ((S.1 7 0) + 1))
set_option maxHeartbeats 4000000 in
set_option maxRecDepth 100000 in
theorem mxM_addToLog (l : Launch) (Γ : Gm) (θ : Th) (ρ : Rh) (S : Sg) (Z : va_W) (x : Int32) (post : Unit → Sg → Prop) (hw : wxM_addToLog post ρ S x) : MM l yxM_addToLog cxM_addToLog 2 none 0 0 Γ [.ref (θ.1 6), .int x] (WX Γ θ ρ S Z) (KK (fun _ : Unit => none) (fun S' => WX Γ θ ρ S' Z) post) 0 0 := by
  refine MM_of (by decide) (Nat.le_of_ble_eq_true rfl) ?_
  intro p e s m below meth c X hr hlk hnm hG h ls hl
  have hx := X.1
  have hb := X.2.1
  have hl : lv_has ls 2 [(0, .ref (θ.1 6)), (1, .int x)] := hl
  unfold wxM_addToLog at hw
  refine lv_aload_n hx hb dxM_addToLog_0 rfl (lv_at hl 0 rfl) ?_
  refine gx_xM_20 X hG h dxM_addToLog_1 ?_
  refine lv_aload_n hx hb dxM_addToLog_4 rfl (lv_at hl 0 rfl) ?_
  refine gx_xM_29 X hG h (x := S.1 7 0) rfl dxM_addToLog_5 ?_
  refine lv_iload_n hx hb dxM_addToLog_8 rfl (lv_at hl 1 rfl) ?_
  obtain ⟨o1, hw⟩ := hw
  refine sx_9 X hG h o1 dxM_addToLog_9 (fun H locs h => ?_)
  refine lv_aload_n hx hb dxM_addToLog_10 rfl (lv_at hl 0 rfl) ?_
  refine lv_dup hx hb dxM_addToLog_11 rfl ?_
  refine gx_xM_29 X hG h (x := S.1 7 0) rfl dxM_addToLog_12 ?_
  refine lv_iconst (v := 1) hx hb dxM_addToLog_15 (by decide) ?_
  refine lv_iadd hx hb dxM_addToLog_16 ?_
  refine px_xM_29 X hG h dxM_addToLog_17 (fun H locs h => ?_)
  exact z_vret X hr hlk h ⟨_, _, rfl, rfl, hw⟩ dxM_addToLog_20
def wxM_raise  (post : Nat → Sg → Prop) (ρ : Rh) (S : Sg) (x : Int32) (y : Int32) (o : Option Nat) : Prop := (vp_in (S.1 7 1) 300) ∧ (((S.1 7 1).toNatClampNeg) < 300) ∧ wxH_become (fun (_ : Unit) S4 => post 3 (sR S4 7 1 ((S4.1 7 1) + 1))) ρ (sC S 300 (some ((S.1 7 1).toNatClampNeg))) ((S.1 7 1).toNatClampNeg) x y o
set_option maxHeartbeats 4000000 in
set_option maxRecDepth 100000 in
theorem mxM_raise (l : Launch) (Γ : Gm) (θ : Th) (ρ : Rh) (S : Sg) (Z : va_W) (x : Int32) (y : Int32) (o : Option Nat) (post : Nat → Sg → Prop) (hw : wxM_raise post ρ S x y o) : MM l yxM_raise cxM_raise 4 (some (.object "ThrowScenario$Way")) 1 23 Γ [.ref (θ.1 6), .int x, .int y, va_rf (Option.map θ.2 o)] (WX Γ θ ρ S Z) (KK (fun r : Nat => some (.ref (Γ.2.2.2.1 r))) (fun S' => WX Γ θ ρ S' Z) post) 0 0 := by
  refine MM_of (by decide) (by cases o <;> exact Nat.le_of_ble_eq_true rfl) ?_
  intro p e s m below meth c X hr hlk hnm hG h ls hl
  have hx := X.1
  have hb := X.2.1
  have hl : lv_has ls 4 [(0, .ref (θ.1 6)), (1, .int x), (2, .int y), (3, va_rf (Option.map θ.2 o))] := hl
  unfold wxM_raise at hw
  refine lv_aload_n hx hb dxM_raise_0 rfl (lv_at hl 0 rfl) ?_
  refine lv_aload_n hx hb dxM_raise_1 rfl (lv_at hl 0 rfl) ?_
  refine gx_xM_25 X hG h dxM_raise_2 ?_
  refine lv_aload_n hx hb dxM_raise_5 rfl (lv_at hl 0 rfl) ?_
  refine gx_xM_33 X hG h (x := S.1 7 1) rfl dxM_raise_6 ?_
  obtain ⟨o1, hw⟩ := hw
  refine lx_10 X hG h o1 dxM_raise_9 ?_
  refine px_xM_63 X hG h (o := (some ((S.1 7 1).toNatClampNeg))) dxM_raise_10 (fun H locs h => ?_)
  refine lv_aload_n hx hb dxM_raise_13 rfl (lv_at hl 0 rfl) ?_
  refine gx_xM_63 X hG h (x := (some ((S.1 7 1).toNatClampNeg))) rfl dxM_raise_14 ?_
  refine lv_iload_n hx hb dxM_raise_17 rfl (lv_at hl 1 rfl) ?_
  refine lv_iload_n hx hb dxM_raise_18 rfl (lv_at hl 2 rfl) ?_
  refine z_aload_nQ X dxM_raise_19 rfl (lv_at hl 3 rfl) ?_
  obtain ⟨o2, hw⟩ := hw
  refine cx_xM_197 (As := [.int x, .int y, va_rf (Option.map θ.2 o)]) (rest := []) X hG h hl.1 (mxH_become l Γ θ ρ (sC S 300 (some ((S.1 7 1).toNatClampNeg))) Z ((S.1 7 1).toNatClampNeg) x y o _ hw) ⟨show 0 + 1 ≤ 1 from by omega, show 8 + (4 + 11) + 0 ≤ 23 from by omega⟩ (WX_thr o2) rfl (Nat.le_of_ble_eq_true rfl) dxM_raise_20 ⟨Nat.le_of_ble_eq_true rfl, Nat.le_of_ble_eq_true rfl⟩ (fun v W1 hK H locs h => ?_)
  obtain ⟨r3, S4, rfl, rfl, hw⟩ := hK
  refine W.eq (g2 := F0 m 23 ls []) rfl ?_
  refine lv_aload_n hx hb dxM_raise_23 rfl (lv_at hl 0 rfl) ?_
  refine lv_dup hx hb dxM_raise_24 rfl ?_
  refine gx_xM_33 X hG h (x := S4.1 7 1) rfl dxM_raise_25 ?_
  refine lv_iconst (v := 1) hx hb dxM_raise_28 (by decide) ?_
  refine lv_iadd hx hb dxM_raise_29 ?_
  refine px_xM_33 X hG h dxM_raise_30 (fun H locs h => ?_)
  refine gx_xM_178 X hG h dxM_raise_33 ?_
  exact z_aret X hr hlk h (Or.inr ⟨_, rfl⟩) ⟨_, _, rfl, rfl, hw⟩ dxM_raise_36
def wxM_rethrow  (post : Nat → Sg → Prop) (ρ : Rh) (S : Sg) (o : Option Nat) : Prop := (o = none → wxM_raise (fun r3 S4 => post r3 S4) ρ S (1) (0) none) ∧ (∀ j2 : Nat, o = some j2 → post 3 (sC S 300 (some j2)))
set_option maxHeartbeats 4000000 in
set_option maxRecDepth 100000 in
theorem mxM_rethrow (l : Launch) (Γ : Gm) (θ : Th) (ρ : Rh) (S : Sg) (Z : va_W) (o : Option Nat) (post : Nat → Sg → Prop) (hw : wxM_rethrow post ρ S o) : MM l yxM_rethrow cxM_rethrow 2 (some (.object "ThrowScenario$Way")) 2 46 Γ [.ref (θ.1 6), va_rf (Option.map θ.2 o)] (WX Γ θ ρ S Z) (KK (fun r : Nat => some (.ref (Γ.2.2.2.1 r))) (fun S' => WX Γ θ ρ S' Z) post) 0 0 := by
  refine MM_of (by decide) (by cases o <;> exact Nat.le_of_ble_eq_true rfl) ?_
  intro p e s m below meth c X hr hlk hnm hG h ls hl
  have hx := X.1
  have hb := X.2.1
  have hl : lv_has ls 2 [(0, .ref (θ.1 6)), (1, va_rf (Option.map θ.2 o))] := hl
  unfold wxM_rethrow at hw
  refine z_aload_nQ X dxM_rethrow_0 rfl (lv_at hl 1 rfl) ?_
  refine x_ifnonnull X (tgt := 12) dxM_rethrow_1 (by decide) (fun j2 e1 => ?_) (fun e1 => ?_)
  · have hw := hw.2 j2 e1
    have hl : lv_has ls 2 [(0, .ref (θ.1 6)), (1, .ref (θ.2 j2))] := by rw [e1] at hl; exact hl
    refine lv_aload_n hx hb dxM_rethrow_12 rfl (lv_at hl 0 rfl) ?_
    refine lv_aload_n hx hb dxM_rethrow_13 rfl (lv_at hl 1 rfl) ?_
    refine px_xM_63 X hG h (o := (some j2)) dxM_rethrow_14 (fun H locs h => ?_)
    refine gx_xM_178 X hG h dxM_rethrow_17 ?_
    exact z_aret X hr hlk h (Or.inr ⟨_, rfl⟩) ⟨_, _, rfl, rfl, hw⟩ dxM_rethrow_20
  · have hw := hw.1 e1
    have hl : lv_has ls 2 [(0, .ref (θ.1 6)), (1, .null)] := by rw [e1] at hl; exact hl
    refine lv_aload_n hx hb dxM_rethrow_4 rfl (lv_at hl 0 rfl) ?_
    refine lv_iconst (v := 1) hx hb dxM_rethrow_5 (by decide) ?_
    refine lv_iconst (v := 0) hx hb dxM_rethrow_6 (by decide) ?_
    refine lv_null hx hb dxM_rethrow_7 ?_
    refine cx_xM_142 (As := [.int 1, .int 0, .null]) (rest := []) X hG h hl.1 (mxM_raise l Γ θ ρ S Z (1) (0) none _ hw) ⟨show 1 + 1 ≤ 2 from by omega, show 8 + (4 + 11) + 23 ≤ 46 from by omega⟩ (q0 := 6) rfl rfl (Nat.le_of_ble_eq_true rfl) dxM_rethrow_8 ⟨Nat.le_of_ble_eq_true rfl, Nat.le_of_ble_eq_true rfl⟩ (fun v W1 hK H locs h => ?_)
    obtain ⟨r3, S4, rfl, rfl, hw⟩ := hK
    refine W.eq (g2 := F0 m 11 ls [.ref (Γ.2.2.2.1 r3)]) rfl ?_
    exact z_aret X hr hlk h (Or.inr ⟨_, rfl⟩) ⟨_, _, rfl, rfl, hw⟩ dxM_rethrow_11
def wxM_divide  (post : Nat → Sg → Prop) (ρ : Rh) (S : Sg) (k : Nat) : Prop := (k < ρ.2.1) ∧ (vp_in (ρ.2.2.1 2 k) 4) ∧ ((¬ ((S.1 0 ((ρ.2.2.1 2 k).toNatClampNeg)) = (0 : Int32))) → (vp_in (ρ.2.2.1 1 k) 4) ∧ (¬ (S.1 0 ((ρ.2.2.1 2 k).toNatClampNeg)) = 0) ∧ post 0 (sR S 0 ((ρ.2.2.1 1 k).toNatClampNeg) ((S.1 0 ((ρ.2.2.1 1 k).toNatClampNeg)) / (S.1 0 ((ρ.2.2.1 2 k).toNatClampNeg))))) ∧ (((S.1 0 ((ρ.2.2.1 2 k).toNatClampNeg)) = (0 : Int32)) → wxM_raise (fun r6 S7 => post r6 S7) ρ S (2) (0) none)
set_option maxHeartbeats 4000000 in
set_option maxRecDepth 100000 in
theorem mxM_divide (l : Launch) (Γ : Gm) (θ : Th) (ρ : Rh) (S : Sg) (Z : va_W) (k : Nat) (post : Nat → Sg → Prop) (hw : wxM_divide post ρ S k) : MM l yxM_divide cxM_divide 3 (some (.object "ThrowScenario$Way")) 2 46 Γ [.ref (θ.1 6), .ref (ρ.1 k)] (WX Γ θ ρ S Z) (KK (fun r : Nat => some (.ref (Γ.2.2.2.1 r))) (fun S' => WX Γ θ ρ S' Z) post) 0 0 := by
  refine MM_of (by decide) (Nat.le_of_ble_eq_true rfl) ?_
  intro p e s m below meth c X hr hlk hnm hG h ls hl
  have hx := X.1
  have hb := X.2.1
  have hl : lv_has ls 3 [(0, .ref (θ.1 6)), (1, .ref (ρ.1 k))] := hl
  unfold wxM_divide at hw
  refine lv_aload_n hx hb dxM_divide_0 rfl (lv_at hl 0 rfl) ?_
  refine gx_xM_11 X hG h dxM_divide_1 ?_
  refine lv_aload_n hx hb dxM_divide_4 rfl (lv_at hl 1 rfl) ?_
  obtain ⟨o1, hw⟩ := hw
  refine gx_xM_139 X hG h o1 (x := ρ.2.2.1 2 k) rfl dxM_divide_5 ?_
  obtain ⟨o2, hw⟩ := hw
  refine lx_7 X hG h o2 (x := S.1 0 ((ρ.2.2.1 2 k).toNatClampNeg)) rfl dxM_divide_8 ?_
  refine lv_istore_n (lv' := [(2, .int (S.1 0 ((ρ.2.2.1 2 k).toNatClampNeg))), (0, .ref (θ.1 6)), (1, .ref (ρ.1 k))]) hx hb dxM_divide_9 rfl hl (by decide) rfl (fun ls hl => ?_)
  refine lv_iload_n hx hb dxM_divide_10 rfl (lv_at hl 0 rfl) ?_
  refine lv_if_ne (tgt := 22) hx hb dxM_divide_11 (by decide) (fun c3 => ?_) (fun c3 => ?_)
  · have hw := hw.1 c3
    refine lv_aload_n hx hb dxM_divide_22 rfl (lv_at hl 1 rfl) ?_
    refine gx_xM_11 X hG h dxM_divide_23 ?_
    refine lv_aload_n hx hb dxM_divide_26 rfl (lv_at hl 2 rfl) ?_
    refine gx_xM_126 X hG h o1 (x := ρ.2.2.1 1 k) rfl dxM_divide_27 ?_
    refine lv_dup2_11 hx hb dxM_divide_30 rfl rfl ?_
    obtain ⟨o4, hw⟩ := hw
    refine lx_7 X hG h o4 (x := S.1 0 ((ρ.2.2.1 1 k).toNatClampNeg)) rfl dxM_divide_31 ?_
    refine lv_iload_n hx hb dxM_divide_32 rfl (lv_at hl 0 rfl) ?_
    obtain ⟨o5, hw⟩ := hw
    refine lv_idiv hx hb dxM_divide_33 o5 ?_
    refine sx_7 X hG h o4 dxM_divide_34 (fun H locs h => ?_)
    refine gx_xM_166 X hG h dxM_divide_35 ?_
    exact z_aret X hr hlk h (Or.inr ⟨_, rfl⟩) ⟨_, _, rfl, rfl, hw⟩ dxM_divide_38
  · have hw := hw.2 c3
    refine lv_aload_n hx hb dxM_divide_14 rfl (lv_at hl 1 rfl) ?_
    refine lv_iconst (v := 2) hx hb dxM_divide_15 (by decide) ?_
    refine lv_iconst (v := 0) hx hb dxM_divide_16 (by decide) ?_
    refine lv_null hx hb dxM_divide_17 ?_
    refine cx_xM_142 (As := [.int 2, .int 0, .null]) (rest := []) X hG h hl.1 (mxM_raise l Γ θ ρ S Z (2) (0) none _ hw) ⟨show 1 + 1 ≤ 2 from by omega, show 8 + (4 + 11) + 23 ≤ 46 from by omega⟩ (q0 := 6) rfl rfl (Nat.le_of_ble_eq_true rfl) dxM_divide_18 ⟨Nat.le_of_ble_eq_true rfl, Nat.le_of_ble_eq_true rfl⟩ (fun v W1 hK H locs h => ?_)
    obtain ⟨r6, S7, rfl, rfl, hw⟩ := hK
    refine W.eq (g2 := F0 m 21 ls [.ref (Γ.2.2.2.1 r6)]) rfl ?_
    exact z_aret X hr hlk h (Or.inr ⟨_, rfl⟩) ⟨_, _, rfl, rfl, hw⟩ dxM_divide_21
def wxM_index  (post : Nat → Sg → Prop) (ρ : Rh) (S : Sg) (k : Nat) : Prop := (k < ρ.2.1) ∧ (vp_in (ρ.2.2.1 1 k) 4) ∧ (((S.1 0 ((ρ.2.2.1 1 k).toNatClampNeg)) < (0 : Int32)) → wxM_raise (fun r4 S5 => post r4 S5) ρ S (3) (S.1 0 ((ρ.2.2.1 1 k).toNatClampNeg)) none) ∧ ((¬ ((S.1 0 ((ρ.2.2.1 1 k).toNatClampNeg)) < (0 : Int32))) → (((ρ.2.2.1 2 k) ≤ (S.1 0 ((ρ.2.2.1 1 k).toNatClampNeg))) → wxM_raise (fun r7 S8 => post r7 S8) ρ S (3) (S.1 0 ((ρ.2.2.1 1 k).toNatClampNeg)) none) ∧ ((¬ ((ρ.2.2.1 2 k) ≤ (S.1 0 ((ρ.2.2.1 1 k).toNatClampNeg)))) → post 0 S))
set_option maxHeartbeats 4000000 in
set_option maxRecDepth 100000 in
theorem mxM_index (l : Launch) (Γ : Gm) (θ : Th) (ρ : Rh) (S : Sg) (Z : va_W) (k : Nat) (post : Nat → Sg → Prop) (hw : wxM_index post ρ S k) : MM l yxM_index cxM_index 4 (some (.object "ThrowScenario$Way")) 2 46 Γ [.ref (θ.1 6), .ref (ρ.1 k)] (WX Γ θ ρ S Z) (KK (fun r : Nat => some (.ref (Γ.2.2.2.1 r))) (fun S' => WX Γ θ ρ S' Z) post) 0 0 := by
  refine MM_of (by decide) (Nat.le_of_ble_eq_true rfl) ?_
  intro p e s m below meth c X hr hlk hnm hG h ls hl
  have hx := X.1
  have hb := X.2.1
  have hl : lv_has ls 4 [(0, .ref (θ.1 6)), (1, .ref (ρ.1 k))] := hl
  unfold wxM_index at hw
  refine lv_aload_n hx hb dxM_index_0 rfl (lv_at hl 0 rfl) ?_
  refine gx_xM_11 X hG h dxM_index_1 ?_
  refine lv_aload_n hx hb dxM_index_4 rfl (lv_at hl 1 rfl) ?_
  obtain ⟨o1, hw⟩ := hw
  refine gx_xM_126 X hG h o1 (x := ρ.2.2.1 1 k) rfl dxM_index_5 ?_
  obtain ⟨o2, hw⟩ := hw
  refine lx_7 X hG h o2 (x := S.1 0 ((ρ.2.2.1 1 k).toNatClampNeg)) rfl dxM_index_8 ?_
  refine lv_istore_n (lv' := [(2, .int (S.1 0 ((ρ.2.2.1 1 k).toNatClampNeg))), (0, .ref (θ.1 6)), (1, .ref (ρ.1 k))]) hx hb dxM_index_9 rfl hl (by decide) rfl (fun ls hl => ?_)
  refine lv_iload_n hx hb dxM_index_10 rfl (lv_at hl 0 rfl) ?_
  refine lv_if_lt (tgt := 26) hx hb dxM_index_11 (by decide) (fun c3 => ?_) (fun c3 => ?_)
  · have hw := hw.1 c3
    refine lv_iconst (v := 0) hx hb dxM_index_26 (by decide) ?_
    refine lv_istore_n (lv' := [(3, .int 0), (2, .int (S.1 0 ((ρ.2.2.1 1 k).toNatClampNeg))), (0, .ref (θ.1 6)), (1, .ref (ρ.1 k))]) hx hb dxM_index_27 rfl hl (by decide) rfl (fun ls hl => ?_)
    refine lv_iload_n hx hb dxM_index_28 rfl (lv_at hl 0 rfl) ?_
    refine lv_if_eq (tgt := 38) hx hb dxM_index_29 (by decide) (fun c0 => ?_) (fun c0 => ?_)
    · refine lv_aload_n hx hb dxM_index_38 rfl (lv_at hl 2 rfl) ?_
      refine lv_iconst (v := 3) hx hb dxM_index_39 (by decide) ?_
      refine lv_iload_n hx hb dxM_index_40 rfl (lv_at hl 1 rfl) ?_
      refine lv_null hx hb dxM_index_41 ?_
      refine cx_xM_142 (As := [.int 3, .int (S.1 0 ((ρ.2.2.1 1 k).toNatClampNeg)), .null]) (rest := []) X hG h hl.1 (mxM_raise l Γ θ ρ S Z (3) (S.1 0 ((ρ.2.2.1 1 k).toNatClampNeg)) none _ hw) ⟨show 1 + 1 ≤ 2 from by omega, show 8 + (4 + 11) + 23 ≤ 46 from by omega⟩ (q0 := 6) rfl rfl (Nat.le_of_ble_eq_true rfl) dxM_index_42 ⟨Nat.le_of_ble_eq_true rfl, Nat.le_of_ble_eq_true rfl⟩ (fun v W1 hK H locs h => ?_)
      obtain ⟨r4, S5, rfl, rfl, hw⟩ := hK
      refine W.eq (g2 := F0 m 45 ls [.ref (Γ.2.2.2.1 r4)]) rfl ?_
      exact z_aret X hr hlk h (Or.inr ⟨_, rfl⟩) ⟨_, _, rfl, rfl, hw⟩ dxM_index_45
    · exact absurd c0 (by decide)
  · have hw := hw.2 c3
    refine lv_iload_n hx hb dxM_index_14 rfl (lv_at hl 0 rfl) ?_
    refine lv_aload_n hx hb dxM_index_15 rfl (lv_at hl 2 rfl) ?_
    refine gx_xM_139 X hG h o1 (x := ρ.2.2.1 2 k) rfl dxM_index_16 ?_
    refine lv_icmp_ge (tgt := 26) hx hb dxM_index_19 (by decide) (fun c6 => ?_) (fun c6 => ?_)
    · have hw := hw.1 c6
      refine lv_iconst (v := 0) hx hb dxM_index_26 (by decide) ?_
      refine lv_istore_n (lv' := [(3, .int 0), (2, .int (S.1 0 ((ρ.2.2.1 1 k).toNatClampNeg))), (0, .ref (θ.1 6)), (1, .ref (ρ.1 k))]) hx hb dxM_index_27 rfl hl (by decide) rfl (fun ls hl => ?_)
      refine lv_iload_n hx hb dxM_index_28 rfl (lv_at hl 0 rfl) ?_
      refine lv_if_eq (tgt := 38) hx hb dxM_index_29 (by decide) (fun c0 => ?_) (fun c0 => ?_)
      · refine lv_aload_n hx hb dxM_index_38 rfl (lv_at hl 2 rfl) ?_
        refine lv_iconst (v := 3) hx hb dxM_index_39 (by decide) ?_
        refine lv_iload_n hx hb dxM_index_40 rfl (lv_at hl 1 rfl) ?_
        refine lv_null hx hb dxM_index_41 ?_
        refine cx_xM_142 (As := [.int 3, .int (S.1 0 ((ρ.2.2.1 1 k).toNatClampNeg)), .null]) (rest := []) X hG h hl.1 (mxM_raise l Γ θ ρ S Z (3) (S.1 0 ((ρ.2.2.1 1 k).toNatClampNeg)) none _ hw) ⟨show 1 + 1 ≤ 2 from by omega, show 8 + (4 + 11) + 23 ≤ 46 from by omega⟩ (q0 := 6) rfl rfl (Nat.le_of_ble_eq_true rfl) dxM_index_42 ⟨Nat.le_of_ble_eq_true rfl, Nat.le_of_ble_eq_true rfl⟩ (fun v W1 hK H locs h => ?_)
        obtain ⟨r7, S8, rfl, rfl, hw⟩ := hK
        refine W.eq (g2 := F0 m 45 ls [.ref (Γ.2.2.2.1 r7)]) rfl ?_
        exact z_aret X hr hlk h (Or.inr ⟨_, rfl⟩) ⟨_, _, rfl, rfl, hw⟩ dxM_index_45
      · exact absurd c0 (by decide)
    · have hw := hw.2 c6
      refine lv_iconst (v := 1) hx hb dxM_index_22 (by decide) ?_
      refine lv_goto (tgt := 27) hx hb dxM_index_23 (by decide) ?_
      refine lv_istore_n (lv' := [(3, .int 1), (2, .int (S.1 0 ((ρ.2.2.1 1 k).toNatClampNeg))), (0, .ref (θ.1 6)), (1, .ref (ρ.1 k))]) hx hb dxM_index_27 rfl hl (by decide) rfl (fun ls hl => ?_)
      refine lv_iload_n hx hb dxM_index_28 rfl (lv_at hl 0 rfl) ?_
      refine lv_if_eq (tgt := 38) hx hb dxM_index_29 (by decide) (fun c0 => ?_) (fun c0 => ?_)
      · exact absurd c0 (by decide)
      · refine gx_xM_166 X hG h dxM_index_32 ?_
        refine lv_goto (tgt := 45) hx hb dxM_index_35 (by decide) ?_
        exact z_aret X hr hlk h (Or.inr ⟨_, rfl⟩) ⟨_, _, rfl, rfl, hw⟩ dxM_index_45
def wxM_cast  (post : Nat → Sg → Prop) (ρ : Rh) (S : Sg) (k : Nat) (o : Option Nat) : Prop := (o = none → post 0 S) ∧ (∀ j2 : Nat, o = some j2 → (j2 < 300) ∧ (k < ρ.2.1) ∧ wxC_is (fun r5 S6 => ((r5 = (0 : Int32)) → wxM_raise (fun r8 S9 => post r8 S9) ρ S6 (4) (S6.1 3 j2) none) ∧ ((¬ (r5 = (0 : Int32))) → post 0 S6)) ρ S (S.1 3 j2) (ρ.2.2.1 1 k))
set_option maxHeartbeats 4000000 in
set_option maxRecDepth 100000 in
theorem mxM_cast (l : Launch) (Γ : Gm) (θ : Th) (ρ : Rh) (S : Sg) (Z : va_W) (k : Nat) (o : Option Nat) (post : Nat → Sg → Prop) (hw : wxM_cast post ρ S k o) : MM l yxM_cast cxM_cast 3 (some (.object "ThrowScenario$Way")) 2 46 Γ [.ref (θ.1 6), .ref (ρ.1 k), va_rf (Option.map θ.2 o)] (WX Γ θ ρ S Z) (KK (fun r : Nat => some (.ref (Γ.2.2.2.1 r))) (fun S' => WX Γ θ ρ S' Z) post) 0 0 := by
  refine MM_of (by decide) (by cases o <;> exact Nat.le_of_ble_eq_true rfl) ?_
  intro p e s m below meth c X hr hlk hnm hG h ls hl
  have hx := X.1
  have hb := X.2.1
  have hl : lv_has ls 3 [(0, .ref (θ.1 6)), (1, .ref (ρ.1 k)), (2, va_rf (Option.map θ.2 o))] := hl
  unfold wxM_cast at hw
  refine z_aload_nQ X dxM_cast_0 rfl (lv_at hl 2 rfl) ?_
  refine x_ifnull X (tgt := 22) dxM_cast_1 (by decide) (fun e1 => ?_) (fun j2 e1 => ?_)
  · have hw := hw.1 e1
    have hl : lv_has ls 3 [(0, .ref (θ.1 6)), (1, .ref (ρ.1 k)), (2, .null)] := by rw [e1] at hl; exact hl
    refine gx_xM_166 X hG h dxM_cast_22 ?_
    exact z_aret X hr hlk h (Or.inr ⟨_, rfl⟩) ⟨_, _, rfl, rfl, hw⟩ dxM_cast_25
  · have hw := hw.2 j2 e1
    have hl : lv_has ls 3 [(0, .ref (θ.1 6)), (1, .ref (ρ.1 k)), (2, .ref (θ.2 j2))] := by rw [e1] at hl; exact hl
    refine lv_aload_n hx hb dxM_cast_4 rfl (lv_at hl 0 rfl) ?_
    refine gx_xM_55 X hG h dxM_cast_5 ?_
    refine lv_aload_n hx hb dxM_cast_8 rfl (lv_at hl 2 rfl) ?_
    obtain ⟨o3, hw⟩ := hw
    refine gx_xM_185 X hG h o3 (x := S.1 3 j2) rfl dxM_cast_9 ?_
    refine lv_aload_n hx hb dxM_cast_12 rfl (lv_at hl 1 rfl) ?_
    obtain ⟨o4, hw⟩ := hw
    refine gx_xM_126 X hG h o4 (x := ρ.2.2.1 1 k) rfl dxM_cast_13 ?_
    refine cx_xM_188 (As := [.int (S.1 3 j2), .int (ρ.2.2.1 1 k)]) (rest := []) X hG h hl.1 (mxC_is l Γ θ ρ S Z (S.1 3 j2) (ρ.2.2.1 1 k) _ hw) ⟨show 1 + 1 ≤ 2 from by omega, show 8 + (5 + 11) + 21 ≤ 46 from by omega⟩ (q0 := 1) rfl rfl (Nat.le_of_ble_eq_true rfl) dxM_cast_16 ⟨Nat.le_of_ble_eq_true rfl, Nat.le_of_ble_eq_true rfl⟩ (fun v W1 hK H locs h => ?_)
    obtain ⟨r5, S6, rfl, rfl, hw⟩ := hK
    refine W.eq (g2 := F0 m 19 ls [.int r5]) rfl ?_
    refine lv_if_eq (tgt := 26) hx hb dxM_cast_19 (by decide) (fun c7 => ?_) (fun c7 => ?_)
    · have hw := hw.1 c7
      refine lv_aload_n hx hb dxM_cast_26 rfl (lv_at hl 0 rfl) ?_
      refine lv_iconst (v := 4) hx hb dxM_cast_27 (by decide) ?_
      refine lv_aload_n hx hb dxM_cast_28 rfl (lv_at hl 2 rfl) ?_
      refine gx_xM_185 X hG h o3 (x := S6.1 3 j2) rfl dxM_cast_29 ?_
      refine lv_null hx hb dxM_cast_32 ?_
      refine cx_xM_142 (As := [.int 4, .int (S6.1 3 j2), .null]) (rest := []) X hG h hl.1 (mxM_raise l Γ θ ρ S6 Z (4) (S6.1 3 j2) none _ hw) ⟨show 1 + 1 ≤ 2 from by omega, show 8 + (4 + 11) + 23 ≤ 46 from by omega⟩ (q0 := 6) rfl rfl (Nat.le_of_ble_eq_true rfl) dxM_cast_33 ⟨Nat.le_of_ble_eq_true rfl, Nat.le_of_ble_eq_true rfl⟩ (fun v W1 hK H locs h => ?_)
      obtain ⟨r8, S9, rfl, rfl, hw⟩ := hK
      refine W.eq (g2 := F0 m 36 ls [.ref (Γ.2.2.2.1 r8)]) rfl ?_
      exact z_aret X hr hlk h (Or.inr ⟨_, rfl⟩) ⟨_, _, rfl, rfl, hw⟩ dxM_cast_36
    · have hw := hw.2 c7
      refine gx_xM_166 X hG h dxM_cast_22 ?_
      exact z_aret X hr hlk h (Or.inr ⟨_, rfl⟩) ⟨_, _, rfl, rfl, hw⟩ dxM_cast_25
def wxM_wake  (post : Nat → Sg → Prop) (ρ : Rh) (S : Sg) (k : Nat) : Prop := (k < ρ.2.1) ∧ (vp_in (ρ.2.2.1 1 k) 2) ∧ ((¬ ((S.1 1 ((ρ.2.2.1 1 k).toNatClampNeg)) = (0 : Int32))) → wxM_addToLog (fun (_ : Unit) S5 => post 0 S5) ρ S (100 + (ρ.2.2.1 1 k))) ∧ (((S.1 1 ((ρ.2.2.1 1 k).toNatClampNeg)) = (0 : Int32)) → wxM_raise (fun r6 S7 => post r6 S7) ρ S (6) (ρ.2.2.1 1 k) none)
set_option maxHeartbeats 4000000 in
set_option maxRecDepth 100000 in
theorem mxM_wake (l : Launch) (Γ : Gm) (θ : Th) (ρ : Rh) (S : Sg) (Z : va_W) (k : Nat) (post : Nat → Sg → Prop) (hw : wxM_wake post ρ S k) : MM l yxM_wake cxM_wake 2 (some (.object "ThrowScenario$Way")) 2 46 Γ [.ref (θ.1 6), .ref (ρ.1 k)] (WX Γ θ ρ S Z) (KK (fun r : Nat => some (.ref (Γ.2.2.2.1 r))) (fun S' => WX Γ θ ρ S' Z) post) 0 0 := by
  refine MM_of (by decide) (Nat.le_of_ble_eq_true rfl) ?_
  intro p e s m below meth c X hr hlk hnm hG h ls hl
  have hx := X.1
  have hb := X.2.1
  have hl : lv_has ls 2 [(0, .ref (θ.1 6)), (1, .ref (ρ.1 k))] := hl
  unfold wxM_wake at hw
  refine lv_aload_n hx hb dxM_wake_0 rfl (lv_at hl 0 rfl) ?_
  refine gx_xM_17 X hG h dxM_wake_1 ?_
  refine lv_aload_n hx hb dxM_wake_4 rfl (lv_at hl 1 rfl) ?_
  obtain ⟨o1, hw⟩ := hw
  refine gx_xM_126 X hG h o1 (x := ρ.2.2.1 1 k) rfl dxM_wake_5 ?_
  obtain ⟨o2, hw⟩ := hw
  refine lx_8 X hG h o2 (x := S.1 1 ((ρ.2.2.1 1 k).toNatClampNeg)) rfl dxM_wake_8 ?_
  refine lv_if_ne (tgt := 24) hx hb dxM_wake_9 (by decide) (fun c3 => ?_) (fun c3 => ?_)
  · have hw := hw.1 c3
    refine lv_aload_n hx hb dxM_wake_24 rfl (lv_at hl 0 rfl) ?_
    refine lv_bipush (v := 100) hx hb dxM_wake_25 (by decide) ?_
    refine lv_aload_n hx hb dxM_wake_27 rfl (lv_at hl 1 rfl) ?_
    refine gx_xM_126 X hG h o1 (x := ρ.2.2.1 1 k) rfl dxM_wake_28 ?_
    refine lv_iadd hx hb dxM_wake_31 ?_
    refine cx_xM_201 (As := [.int (100 + (ρ.2.2.1 1 k))]) (rest := []) X hG h hl.1 (mxM_addToLog l Γ θ ρ S Z (100 + (ρ.2.2.1 1 k)) _ hw) ⟨show 0 + 1 ≤ 2 from by omega, show 8 + (2 + 11) + 0 ≤ 46 from by omega⟩ (q0 := 6) rfl rfl (Nat.le_of_ble_eq_true rfl) dxM_wake_32 ⟨Nat.le_of_ble_eq_true rfl, Nat.le_of_ble_eq_true rfl⟩ (fun v W1 hK H locs h => ?_)
    obtain ⟨r4, S5, rfl, rfl, hw⟩ := hK
    refine W.eq (g2 := F0 m 35 ls []) rfl ?_
    refine gx_xM_166 X hG h dxM_wake_35 ?_
    exact z_aret X hr hlk h (Or.inr ⟨_, rfl⟩) ⟨_, _, rfl, rfl, hw⟩ dxM_wake_38
  · have hw := hw.2 c3
    refine lv_aload_n hx hb dxM_wake_12 rfl (lv_at hl 0 rfl) ?_
    refine lv_bipush (v := 6) hx hb dxM_wake_13 (by decide) ?_
    refine lv_aload_n hx hb dxM_wake_15 rfl (lv_at hl 1 rfl) ?_
    refine gx_xM_126 X hG h o1 (x := ρ.2.2.1 1 k) rfl dxM_wake_16 ?_
    refine lv_null hx hb dxM_wake_19 ?_
    refine cx_xM_142 (As := [.int 6, .int (ρ.2.2.1 1 k), .null]) (rest := []) X hG h hl.1 (mxM_raise l Γ θ ρ S Z (6) (ρ.2.2.1 1 k) none _ hw) ⟨show 1 + 1 ≤ 2 from by omega, show 8 + (4 + 11) + 23 ≤ 46 from by omega⟩ (q0 := 6) rfl rfl (Nat.le_of_ble_eq_true rfl) dxM_wake_20 ⟨Nat.le_of_ble_eq_true rfl, Nat.le_of_ble_eq_true rfl⟩ (fun v W1 hK H locs h => ?_)
    obtain ⟨r6, S7, rfl, rfl, hw⟩ := hK
    refine W.eq (g2 := F0 m 23 ls [.ref (Γ.2.2.2.1 r6)]) rfl ?_
    exact z_aret X hr hlk h (Or.inr ⟨_, rfl⟩) ⟨_, _, rfl, rfl, hw⟩ dxM_wake_23
def wxM_note  (post : Nat → Sg → Prop) (ρ : Rh) (S : Sg) (k : Nat) (o : Option Nat) : Prop := (k < ρ.2.1) ∧ ((ρ.2.2.1 0 k) = 0 → wxM_addToLog (fun (_ : Unit) S4 => post 0 S4) ρ S (ρ.2.2.1 1 k)) ∧ (¬ (ρ.2.2.1 0 k) = 0 → ((ρ.2.2.1 0 k) = 1 → (vp_in (ρ.2.2.1 1 k) 4) ∧ wxM_addToLog (fun (_ : Unit) S8 => post 0 S8) ρ S (S.1 0 ((ρ.2.2.1 1 k).toNatClampNeg))) ∧ (¬ (ρ.2.2.1 0 k) = 1 → ((ρ.2.2.1 0 k) = 2 → (vp_in (ρ.2.2.1 1 k) 4) ∧ post 0 (sR S 0 ((ρ.2.2.1 1 k).toNatClampNeg) (ρ.2.2.1 2 k))) ∧ (¬ (ρ.2.2.1 0 k) = 2 → ((ρ.2.2.1 0 k) = 3 → (vp_in (ρ.2.2.1 1 k) 4) ∧ post 0 (sR S 0 ((ρ.2.2.1 1 k).toNatClampNeg) ((S.1 0 ((ρ.2.2.1 1 k).toNatClampNeg)) + (ρ.2.2.1 2 k)))) ∧ (¬ (ρ.2.2.1 0 k) = 3 → ((ρ.2.2.1 0 k) = 22 → (o = none → post 0 S) ∧ (∀ j15 : Nat, o = some j15 → (j15 < 300) ∧ wxH_origin (fun r17 S18 => (r17 < 300) ∧ wxM_addToLog (fun (_ : Unit) S21 => post 0 S21) ρ S18 (S18.1 3 r17)) ρ S j15)) ∧ (¬ (ρ.2.2.1 0 k) = 22 → post 0 S)))))
set_option maxHeartbeats 4000000 in
set_option maxRecDepth 100000 in
theorem mxM_note (l : Launch) (Γ : Gm) (θ : Th) (ρ : Rh) (S : Sg) (Z : va_W) (k : Nat) (o : Option Nat) (post : Nat → Sg → Prop) (hw : wxM_note post ρ S k o) : MM l yxM_note cxM_note 3 (some (.object "ThrowScenario$Way")) 1 21 Γ [.ref (θ.1 6), .ref (ρ.1 k), va_rf (Option.map θ.2 o)] (WX Γ θ ρ S Z) (KK (fun r : Nat => some (.ref (Γ.2.2.2.1 r))) (fun S' => WX Γ θ ρ S' Z) post) 0 0 := by
  refine MM_of (by decide) (by cases o <;> exact Nat.le_of_ble_eq_true rfl) ?_
  intro p e s m below meth c X hr hlk hnm hG h ls hl
  have hx := X.1
  have hb := X.2.1
  have hl : lv_has ls 3 [(0, .ref (θ.1 6)), (1, .ref (ρ.1 k)), (2, va_rf (Option.map θ.2 o))] := hl
  unfold wxM_note at hw
  refine lv_aload_n hx hb dxM_note_0 rfl (lv_at hl 1 rfl) ?_
  obtain ⟨o1, hw⟩ := hw
  refine gx_xM_95 X hG h o1 (x := ρ.2.2.1 0 k) rfl dxM_note_1 ?_
  by_cases c2 : (ρ.2.2.1 0 k) = 0
  · have hw := hw.1 c2
    refine lv_lookup (off := 52) (tgt := 56) hx hb dxM_note_4 (by decide) (by rw [c2]; rfl) (by decide) ?_
    refine lv_aload_n hx hb dxM_note_56 rfl (lv_at hl 0 rfl) ?_
    refine lv_aload_n hx hb dxM_note_57 rfl (lv_at hl 1 rfl) ?_
    refine gx_xM_126 X hG h o1 (x := ρ.2.2.1 1 k) rfl dxM_note_58 ?_
    refine cx_xM_201 (As := [.int (ρ.2.2.1 1 k)]) (rest := []) X hG h hl.1 (mxM_addToLog l Γ θ ρ S Z (ρ.2.2.1 1 k) _ hw) ⟨show 0 + 1 ≤ 1 from by omega, show 8 + (2 + 11) + 0 ≤ 21 from by omega⟩ (q0 := 6) rfl rfl (Nat.le_of_ble_eq_true rfl) dxM_note_61 ⟨Nat.le_of_ble_eq_true rfl, Nat.le_of_ble_eq_true rfl⟩ (fun v W1 hK H locs h => ?_)
    obtain ⟨r3, S4, rfl, rfl, hw⟩ := hK
    refine W.eq (g2 := F0 m 64 ls []) rfl ?_
    refine lv_goto (tgt := 136) hx hb dxM_note_64 (by decide) ?_
    refine gx_xM_166 X hG h dxM_note_136 ?_
    exact z_aret X hr hlk h (Or.inr ⟨_, rfl⟩) ⟨_, _, rfl, rfl, hw⟩ dxM_note_139
  · have hw := hw.2 c2
    by_cases c5 : (ρ.2.2.1 0 k) = 1
    · have hw := hw.1 c5
      refine lv_lookup (off := 63) (tgt := 67) hx hb dxM_note_4 (by decide) (by rw [c5]; rfl) (by decide) ?_
      refine lv_aload_n hx hb dxM_note_67 rfl (lv_at hl 0 rfl) ?_
      refine lv_aload_n hx hb dxM_note_68 rfl (lv_at hl 0 rfl) ?_
      refine gx_xM_11 X hG h dxM_note_69 ?_
      refine lv_aload_n hx hb dxM_note_72 rfl (lv_at hl 1 rfl) ?_
      refine gx_xM_126 X hG h o1 (x := ρ.2.2.1 1 k) rfl dxM_note_73 ?_
      obtain ⟨o6, hw⟩ := hw
      refine lx_7 X hG h o6 (x := S.1 0 ((ρ.2.2.1 1 k).toNatClampNeg)) rfl dxM_note_76 ?_
      refine cx_xM_201 (As := [.int (S.1 0 ((ρ.2.2.1 1 k).toNatClampNeg))]) (rest := []) X hG h hl.1 (mxM_addToLog l Γ θ ρ S Z (S.1 0 ((ρ.2.2.1 1 k).toNatClampNeg)) _ hw) ⟨show 0 + 1 ≤ 1 from by omega, show 8 + (2 + 11) + 0 ≤ 21 from by omega⟩ (q0 := 6) rfl rfl (Nat.le_of_ble_eq_true rfl) dxM_note_77 ⟨Nat.le_of_ble_eq_true rfl, Nat.le_of_ble_eq_true rfl⟩ (fun v W1 hK H locs h => ?_)
      obtain ⟨r7, S8, rfl, rfl, hw⟩ := hK
      refine W.eq (g2 := F0 m 80 ls []) rfl ?_
      refine lv_goto (tgt := 136) hx hb dxM_note_80 (by decide) ?_
      refine gx_xM_166 X hG h dxM_note_136 ?_
      exact z_aret X hr hlk h (Or.inr ⟨_, rfl⟩) ⟨_, _, rfl, rfl, hw⟩ dxM_note_139
    · have hw := hw.2 c5
      by_cases c9 : (ρ.2.2.1 0 k) = 2
      · have hw := hw.1 c9
        refine lv_lookup (off := 79) (tgt := 83) hx hb dxM_note_4 (by decide) (by rw [c9]; rfl) (by decide) ?_
        refine lv_aload_n hx hb dxM_note_83 rfl (lv_at hl 0 rfl) ?_
        refine gx_xM_11 X hG h dxM_note_84 ?_
        refine lv_aload_n hx hb dxM_note_87 rfl (lv_at hl 1 rfl) ?_
        refine gx_xM_126 X hG h o1 (x := ρ.2.2.1 1 k) rfl dxM_note_88 ?_
        refine lv_aload_n hx hb dxM_note_91 rfl (lv_at hl 1 rfl) ?_
        refine gx_xM_139 X hG h o1 (x := ρ.2.2.1 2 k) rfl dxM_note_92 ?_
        obtain ⟨o10, hw⟩ := hw
        refine sx_7 X hG h o10 dxM_note_95 (fun H locs h => ?_)
        refine lv_goto (tgt := 136) hx hb dxM_note_96 (by decide) ?_
        refine gx_xM_166 X hG h dxM_note_136 ?_
        exact z_aret X hr hlk h (Or.inr ⟨_, rfl⟩) ⟨_, _, rfl, rfl, hw⟩ dxM_note_139
      · have hw := hw.2 c9
        by_cases c11 : (ρ.2.2.1 0 k) = 3
        · have hw := hw.1 c11
          refine lv_lookup (off := 95) (tgt := 99) hx hb dxM_note_4 (by decide) (by rw [c11]; rfl) (by decide) ?_
          refine lv_aload_n hx hb dxM_note_99 rfl (lv_at hl 0 rfl) ?_
          refine gx_xM_11 X hG h dxM_note_100 ?_
          refine lv_aload_n hx hb dxM_note_103 rfl (lv_at hl 1 rfl) ?_
          refine gx_xM_126 X hG h o1 (x := ρ.2.2.1 1 k) rfl dxM_note_104 ?_
          refine lv_dup2_11 hx hb dxM_note_107 rfl rfl ?_
          obtain ⟨o12, hw⟩ := hw
          refine lx_7 X hG h o12 (x := S.1 0 ((ρ.2.2.1 1 k).toNatClampNeg)) rfl dxM_note_108 ?_
          refine lv_aload_n hx hb dxM_note_109 rfl (lv_at hl 1 rfl) ?_
          refine gx_xM_139 X hG h o1 (x := ρ.2.2.1 2 k) rfl dxM_note_110 ?_
          refine lv_iadd hx hb dxM_note_113 ?_
          refine sx_7 X hG h o12 dxM_note_114 (fun H locs h => ?_)
          refine lv_goto (tgt := 136) hx hb dxM_note_115 (by decide) ?_
          refine gx_xM_166 X hG h dxM_note_136 ?_
          exact z_aret X hr hlk h (Or.inr ⟨_, rfl⟩) ⟨_, _, rfl, rfl, hw⟩ dxM_note_139
        · have hw := hw.2 c11
          by_cases c13 : (ρ.2.2.1 0 k) = 22
          · have hw := hw.1 c13
            refine lv_lookup (off := 114) (tgt := 118) hx hb dxM_note_4 (by decide) (by rw [c13]; rfl) (by decide) ?_
            refine z_aload_nQ X dxM_note_118 rfl (lv_at hl 2 rfl) ?_
            refine x_ifnull X (tgt := 136) dxM_note_119 (by decide) (fun e14 => ?_) (fun j15 e14 => ?_)
            · have hw := hw.1 e14
              have hl : lv_has ls 3 [(0, .ref (θ.1 6)), (1, .ref (ρ.1 k)), (2, .null)] := by rw [e14] at hl; exact hl
              refine gx_xM_166 X hG h dxM_note_136 ?_
              exact z_aret X hr hlk h (Or.inr ⟨_, rfl⟩) ⟨_, _, rfl, rfl, hw⟩ dxM_note_139
            · have hw := hw.2 j15 e14
              have hl : lv_has ls 3 [(0, .ref (θ.1 6)), (1, .ref (ρ.1 k)), (2, .ref (θ.2 j15))] := by rw [e14] at hl; exact hl
              refine lv_aload_n hx hb dxM_note_122 rfl (lv_at hl 0 rfl) ?_
              refine lv_aload_n hx hb dxM_note_123 rfl (lv_at hl 2 rfl) ?_
              obtain ⟨o16, hw⟩ := hw
              refine cx_xM_205 (As := []) (rest := [.ref (θ.1 6)]) X hG h hl.1 (mxH_origin l Γ θ ρ S Z j15 _ hw) ⟨show 0 + 1 ≤ 1 from by omega, show 8 + (2 + 11) + 0 ≤ 21 from by omega⟩ (WX_thr o16) rfl (Nat.le_of_ble_eq_true rfl) dxM_note_124 ⟨Nat.le_of_ble_eq_true rfl, Nat.le_of_ble_eq_true rfl⟩ (fun v W1 hK H locs h => ?_)
              obtain ⟨r17, S18, rfl, rfl, hw⟩ := hK
              refine W.eq (g2 := F0 m 127 ls [.ref (θ.2 r17), .ref (θ.1 6)]) rfl ?_
              obtain ⟨o19, hw⟩ := hw
              refine gx_xM_185 X hG h o19 (x := S18.1 3 r17) rfl dxM_note_127 ?_
              refine cx_xM_201 (As := [.int (S18.1 3 r17)]) (rest := []) X hG h hl.1 (mxM_addToLog l Γ θ ρ S18 Z (S18.1 3 r17) _ hw) ⟨show 0 + 1 ≤ 1 from by omega, show 8 + (2 + 11) + 0 ≤ 21 from by omega⟩ (q0 := 6) rfl rfl (Nat.le_of_ble_eq_true rfl) dxM_note_130 ⟨Nat.le_of_ble_eq_true rfl, Nat.le_of_ble_eq_true rfl⟩ (fun v W1 hK H locs h => ?_)
              obtain ⟨r20, S21, rfl, rfl, hw⟩ := hK
              refine W.eq (g2 := F0 m 133 ls []) rfl ?_
              refine lv_goto (tgt := 136) hx hb dxM_note_133 (by decide) ?_
              refine gx_xM_166 X hG h dxM_note_136 ?_
              exact z_aret X hr hlk h (Or.inr ⟨_, rfl⟩) ⟨_, _, rfl, rfl, hw⟩ dxM_note_139
          · have hw := hw.2 c13
            refine lv_lookup (off := 132) (tgt := 136) hx hb dxM_note_4 (by decide) ((lv_osw c2 (by decide)).trans <| (lv_osw c5 (by decide)).trans <| (lv_osw c9 (by decide)).trans <| (lv_osw c11 (by decide)).trans <| (lv_osw c13 (by decide)).trans <| rfl) (by decide) ?_
            refine gx_xM_166 X hG h dxM_note_136 ?_
            exact z_aret X hr hlk h (Or.inr ⟨_, rfl⟩) ⟨_, _, rfl, rfl, hw⟩ dxM_note_139
