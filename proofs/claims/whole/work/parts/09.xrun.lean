abbrev RecT : Type := (Nat → Sg → Prop) → Rh → Sg → Int32 → Int32 → Option Nat → Prop
abbrev RecM (l : Launch) (Γ : Gm) (θ : Th) (rec : RecT) (dd : Nat) : Prop := ∀ (ρ : Rh) (S : Sg) (Z : va_W) (x y : Int32) (o : Option Nat) (post : Nat → Sg → Prop), rec post ρ S x y o → MM l yxM_perform cxM_perform 5 (some (.object "ThrowScenario$Way")) (2 * dd + 12) (60 * dd + 400) Γ [.ref (θ.1 6), .int x, .int y, va_rf (Option.map θ.2 o)] (WX Γ θ ρ S Z) (KK (fun r : Nat => some (.ref (Γ.2.2.2.1 r))) (fun S' => WX Γ θ ρ S' Z) post) 0 0
def wxM_sequence (rec : RecT) (post : Nat → Sg → Prop) (ρ : Rh) (S : Sg) (k : Nat) (y : Int32) (o : Option Nat) : Prop := (k < ρ.2.1) ∧ rec (fun r2 S3 => (r2 < 6) ∧ ((¬ (r2 = 0)) → post r2 S3) ∧ ((r2 = 0) → rec (fun r6 S7 => post r6 S7) ρ S3 (ρ.2.2.1 2 k) y o)) ρ S (ρ.2.2.1 1 k) y o
set_option maxHeartbeats 4000000 in
set_option maxRecDepth 100000 in
theorem mxM_sequence (l : Launch) (Γ : Gm) (θ : Th) (ρ : Rh) (S : Sg) (Z : va_W) (k : Nat) (y : Int32) (o : Option Nat) (rec : RecT) (dd : Nat) (hrec : RecM l Γ θ rec dd) (post : Nat → Sg → Prop) (hw : wxM_sequence rec post ρ S k y o) : MM l yxM_sequence cxM_sequence 5 (some (.object "ThrowScenario$Way")) (2 * dd + 13) (60 * dd + 430) Γ [.ref (θ.1 6), .ref (ρ.1 k), .int y, va_rf (Option.map θ.2 o)] (WX Γ θ ρ S Z) (KK (fun r : Nat => some (.ref (Γ.2.2.2.1 r))) (fun S' => WX Γ θ ρ S' Z) post) 0 0 := by
  refine MM_of (by decide) (by cases o <;> exact Nat.le_of_ble_eq_true rfl) ?_
  intro p e s m below meth c X hr hlk hnm hG h ls hl
  have hx := X.1
  have hb := X.2.1
  have hl : lv_has ls 5 [(0, .ref (θ.1 6)), (1, .ref (ρ.1 k)), (2, .int y), (3, va_rf (Option.map θ.2 o))] := hl
  unfold wxM_sequence at hw
  refine lv_aload_n hx hb dxM_sequence_0 rfl (lv_at hl 0 rfl) ?_
  refine lv_aload_n hx hb dxM_sequence_1 rfl (lv_at hl 1 rfl) ?_
  obtain ⟨o1, hw⟩ := hw
  refine gx_xM_126 X hG h o1 (x := ρ.2.2.1 1 k) rfl dxM_sequence_2 ?_
  refine lv_iload_n hx hb dxM_sequence_5 rfl (lv_at hl 2 rfl) ?_
  refine z_aload_nQ X dxM_sequence_6 rfl (lv_at hl 3 rfl) ?_
  refine cx_xM_71 (As := [.int (ρ.2.2.1 1 k), .int y, va_rf (Option.map θ.2 o)]) (rest := []) X hG h hl.1 (hrec  ρ S Z (ρ.2.2.1 1 k) y o _ hw) ⟨show (2 * dd + 12) + 1 ≤ (2 * dd + 13) from by omega, show 8 + (5 + 11) + (60 * dd + 400) ≤ (60 * dd + 430) from by omega⟩ (q0 := 6) rfl rfl (Nat.le_of_ble_eq_true rfl) dxM_sequence_7 ⟨Nat.le_of_ble_eq_true rfl, Nat.le_of_ble_eq_true rfl⟩ (fun v W1 hK H locs h => ?_)
  obtain ⟨r2, S3, rfl, rfl, hw⟩ := hK
  refine W.eq (g2 := F0 m 10 ls [.ref (Γ.2.2.2.1 r2)]) rfl ?_
  refine lv_astore (lv' := [(4, .ref (Γ.2.2.2.1 r2)), (0, .ref (θ.1 6)), (1, .ref (ρ.1 k)), (2, .int y), (3, va_rf (Option.map θ.2 o))]) hx hb dxM_sequence_10 hl (by decide) (by simp [List.filter_cons, va_rf_cat]) (fun ls hl => ?_)
  refine lv_aload hx hb dxM_sequence_12 (lv_at hl 0 rfl) ?_
  refine gx_xM_166 X hG h dxM_sequence_14 ?_
  obtain ⟨o4, hw⟩ := hw
  refine x_acmp_ne X hG (tgt := 33) o4 (by decide) dxM_sequence_17 (by decide) (fun c5 => ?_) (fun c5 => ?_)
  · have hw := hw.1 c5
    refine lv_aload hx hb dxM_sequence_33 (lv_at hl 0 rfl) ?_
    exact z_aret X hr hlk h (Or.inr ⟨_, rfl⟩) ⟨_, _, rfl, rfl, hw⟩ dxM_sequence_35
  · have hw := hw.2 c5
    refine lv_aload_n hx hb dxM_sequence_20 rfl (lv_at hl 1 rfl) ?_
    refine lv_aload_n hx hb dxM_sequence_21 rfl (lv_at hl 2 rfl) ?_
    refine gx_xM_139 X hG h o1 (x := ρ.2.2.1 2 k) rfl dxM_sequence_22 ?_
    refine lv_iload_n hx hb dxM_sequence_25 rfl (lv_at hl 3 rfl) ?_
    refine z_aload_nQ X dxM_sequence_26 rfl (lv_at hl 4 rfl) ?_
    refine cx_xM_71 (As := [.int (ρ.2.2.1 2 k), .int y, va_rf (Option.map θ.2 o)]) (rest := []) X hG h hl.1 (hrec  ρ S3 Z (ρ.2.2.1 2 k) y o _ hw) ⟨show (2 * dd + 12) + 1 ≤ (2 * dd + 13) from by omega, show 8 + (5 + 11) + (60 * dd + 400) ≤ (60 * dd + 430) from by omega⟩ (q0 := 6) rfl rfl (Nat.le_of_ble_eq_true rfl) dxM_sequence_27 ⟨Nat.le_of_ble_eq_true rfl, Nat.le_of_ble_eq_true rfl⟩ (fun v W1 hK H locs h => ?_)
    obtain ⟨r6, S7, rfl, rfl, hw⟩ := hK
    refine W.eq (g2 := F0 m 30 ls [.ref (Γ.2.2.2.1 r6)]) rfl ?_
    refine lv_goto (tgt := 35) hx hb dxM_sequence_30 (by decide) ?_
    exact z_aret X hr hlk h (Or.inr ⟨_, rfl⟩) ⟨_, _, rfl, rfl, hw⟩ dxM_sequence_35
def wxM_choose (rec : RecT) (post : Nat → Sg → Prop) (ρ : Rh) (S : Sg) (k : Nat) (y : Int32) (o : Option Nat) : Prop := (k < ρ.2.1) ∧ (vp_in (ρ.2.2.1 1 k) 4) ∧ (((S.1 0 ((ρ.2.2.1 1 k).toNatClampNeg)) = (0 : Int32)) → ((¬ ((ρ.2.2.1 3 k) = (-1 : Int32))) → rec (fun r5 S6 => post r5 S6) ρ S (ρ.2.2.1 3 k) y o) ∧ (((ρ.2.2.1 3 k) = (-1 : Int32)) → post 0 S)) ∧ ((¬ ((S.1 0 ((ρ.2.2.1 1 k).toNatClampNeg)) = (0 : Int32))) → ((¬ ((ρ.2.2.1 2 k) = (-1 : Int32))) → rec (fun r8 S9 => post r8 S9) ρ S (ρ.2.2.1 2 k) y o) ∧ (((ρ.2.2.1 2 k) = (-1 : Int32)) → post 0 S))
set_option maxHeartbeats 4000000 in
set_option maxRecDepth 100000 in
theorem mxM_choose (l : Launch) (Γ : Gm) (θ : Th) (ρ : Rh) (S : Sg) (Z : va_W) (k : Nat) (y : Int32) (o : Option Nat) (rec : RecT) (dd : Nat) (hrec : RecM l Γ θ rec dd) (post : Nat → Sg → Prop) (hw : wxM_choose rec post ρ S k y o) : MM l yxM_choose cxM_choose 5 (some (.object "ThrowScenario$Way")) (2 * dd + 13) (60 * dd + 430) Γ [.ref (θ.1 6), .ref (ρ.1 k), .int y, va_rf (Option.map θ.2 o)] (WX Γ θ ρ S Z) (KK (fun r : Nat => some (.ref (Γ.2.2.2.1 r))) (fun S' => WX Γ θ ρ S' Z) post) 0 0 := by
  refine MM_of (by decide) (by cases o <;> exact Nat.le_of_ble_eq_true rfl) ?_
  intro p e s m below meth c X hr hlk hnm hG h ls hl
  have hx := X.1
  have hb := X.2.1
  have hl : lv_has ls 5 [(0, .ref (θ.1 6)), (1, .ref (ρ.1 k)), (2, .int y), (3, va_rf (Option.map θ.2 o))] := hl
  unfold wxM_choose at hw
  refine lv_aload_n hx hb dxM_choose_0 rfl (lv_at hl 0 rfl) ?_
  refine gx_xM_11 X hG h dxM_choose_1 ?_
  refine lv_aload_n hx hb dxM_choose_4 rfl (lv_at hl 1 rfl) ?_
  obtain ⟨o1, hw⟩ := hw
  refine gx_xM_126 X hG h o1 (x := ρ.2.2.1 1 k) rfl dxM_choose_5 ?_
  obtain ⟨o2, hw⟩ := hw
  refine lx_7 X hG h o2 (x := S.1 0 ((ρ.2.2.1 1 k).toNatClampNeg)) rfl dxM_choose_8 ?_
  refine lv_if_eq (tgt := 19) hx hb dxM_choose_9 (by decide) (fun c3 => ?_) (fun c3 => ?_)
  · have hw := hw.1 c3
    refine lv_aload_n hx hb dxM_choose_19 rfl (lv_at hl 1 rfl) ?_
    refine gx_xM_169 X hG h o1 (x := ρ.2.2.1 3 k) rfl dxM_choose_20 ?_
    refine lv_istore (lv' := [(4, .int (ρ.2.2.1 3 k)), (0, .ref (θ.1 6)), (1, .ref (ρ.1 k)), (2, .int y), (3, va_rf (Option.map θ.2 o))]) hx hb dxM_choose_23 hl (by decide) (by simp [List.filter_cons, va_rf_cat]) (fun ls hl => ?_)
    refine lv_iload hx hb dxM_choose_25 (lv_at hl 0 rfl) ?_
    refine lv_iconst (v := -1) hx hb dxM_choose_27 (by decide) ?_
    refine lv_icmp_ne (tgt := 37) hx hb dxM_choose_28 (by decide) (fun c4 => ?_) (fun c4 => ?_)
    · have hw := hw.1 c4
      refine lv_aload_n hx hb dxM_choose_37 rfl (lv_at hl 1 rfl) ?_
      refine lv_iload hx hb dxM_choose_38 (lv_at hl 0 rfl) ?_
      refine lv_iload_n hx hb dxM_choose_40 rfl (lv_at hl 3 rfl) ?_
      refine z_aload_nQ X dxM_choose_41 rfl (lv_at hl 4 rfl) ?_
      refine cx_xM_71 (As := [.int (ρ.2.2.1 3 k), .int y, va_rf (Option.map θ.2 o)]) (rest := []) X hG h hl.1 (hrec  ρ S Z (ρ.2.2.1 3 k) y o _ hw) ⟨show (2 * dd + 12) + 1 ≤ (2 * dd + 13) from by omega, show 8 + (5 + 11) + (60 * dd + 400) ≤ (60 * dd + 430) from by omega⟩ (q0 := 6) rfl rfl (Nat.le_of_ble_eq_true rfl) dxM_choose_42 ⟨Nat.le_of_ble_eq_true rfl, Nat.le_of_ble_eq_true rfl⟩ (fun v W1 hK H locs h => ?_)
      obtain ⟨r5, S6, rfl, rfl, hw⟩ := hK
      refine W.eq (g2 := F0 m 45 ls [.ref (Γ.2.2.2.1 r5)]) rfl ?_
      exact z_aret X hr hlk h (Or.inr ⟨_, rfl⟩) ⟨_, _, rfl, rfl, hw⟩ dxM_choose_45
    · have hw := hw.2 c4
      refine gx_xM_166 X hG h dxM_choose_31 ?_
      refine lv_goto (tgt := 45) hx hb dxM_choose_34 (by decide) ?_
      exact z_aret X hr hlk h (Or.inr ⟨_, rfl⟩) ⟨_, _, rfl, rfl, hw⟩ dxM_choose_45
  · have hw := hw.2 c3
    refine lv_aload_n hx hb dxM_choose_12 rfl (lv_at hl 1 rfl) ?_
    refine gx_xM_139 X hG h o1 (x := ρ.2.2.1 2 k) rfl dxM_choose_13 ?_
    refine lv_goto (tgt := 23) hx hb dxM_choose_16 (by decide) ?_
    refine lv_istore (lv' := [(4, .int (ρ.2.2.1 2 k)), (0, .ref (θ.1 6)), (1, .ref (ρ.1 k)), (2, .int y), (3, va_rf (Option.map θ.2 o))]) hx hb dxM_choose_23 hl (by decide) (by simp [List.filter_cons, va_rf_cat]) (fun ls hl => ?_)
    refine lv_iload hx hb dxM_choose_25 (lv_at hl 0 rfl) ?_
    refine lv_iconst (v := -1) hx hb dxM_choose_27 (by decide) ?_
    refine lv_icmp_ne (tgt := 37) hx hb dxM_choose_28 (by decide) (fun c7 => ?_) (fun c7 => ?_)
    · have hw := hw.1 c7
      refine lv_aload_n hx hb dxM_choose_37 rfl (lv_at hl 1 rfl) ?_
      refine lv_iload hx hb dxM_choose_38 (lv_at hl 0 rfl) ?_
      refine lv_iload_n hx hb dxM_choose_40 rfl (lv_at hl 3 rfl) ?_
      refine z_aload_nQ X dxM_choose_41 rfl (lv_at hl 4 rfl) ?_
      refine cx_xM_71 (As := [.int (ρ.2.2.1 2 k), .int y, va_rf (Option.map θ.2 o)]) (rest := []) X hG h hl.1 (hrec  ρ S Z (ρ.2.2.1 2 k) y o _ hw) ⟨show (2 * dd + 12) + 1 ≤ (2 * dd + 13) from by omega, show 8 + (5 + 11) + (60 * dd + 400) ≤ (60 * dd + 430) from by omega⟩ (q0 := 6) rfl rfl (Nat.le_of_ble_eq_true rfl) dxM_choose_42 ⟨Nat.le_of_ble_eq_true rfl, Nat.le_of_ble_eq_true rfl⟩ (fun v W1 hK H locs h => ?_)
      obtain ⟨r8, S9, rfl, rfl, hw⟩ := hK
      refine W.eq (g2 := F0 m 45 ls [.ref (Γ.2.2.2.1 r8)]) rfl ?_
      exact z_aret X hr hlk h (Or.inr ⟨_, rfl⟩) ⟨_, _, rfl, rfl, hw⟩ dxM_choose_45
    · have hw := hw.2 c7
      refine gx_xM_166 X hG h dxM_choose_31 ?_
      refine lv_goto (tgt := 45) hx hb dxM_choose_34 (by decide) ?_
      exact z_aret X hr hlk h (Or.inr ⟨_, rfl⟩) ⟨_, _, rfl, rfl, hw⟩ dxM_choose_45
def wxM_loop_c43 (rec : RecT) (post : Nat → Sg → Prop) (ρ : Rh) (k : Nat) (y : Int32) (o : Option Nat) (S : Sg) (a4 : Nat) : Prop := (a4 < 6) ∧ ((¬ (a4 = 1)) → post a4 S) ∧ ((a4 = 1) → post 0 S)
set_option maxHeartbeats 4000000 in
set_option maxRecDepth 100000 in
theorem txM_loop_c43 {p : Program} {l : Launch} {e : Env} {s : State} {m : MethodId} {below : List Frame} {meth : Method} {c : Code} (Γ : Gm) (θ : Th) (ρ : Rh) (Z : va_W) (k : Nat) (y : Int32) (o : Option Nat)  (rec : RecT) (dd : Nat) (hrec : RecM l Γ θ rec dd) (post : Nat → Sg → Prop) (X : CallFix p m c cxM_loop 6 s ([.ref (θ.1 6), .ref (ρ.1 k), .int y, va_rf (Option.map θ.2 o)] : List Value).toArray big RxM) (hr : meth.sig.returnType = (some (.object "ThrowScenario$Way"))) (hlk : meth.locks = false) (hG : GX Γ s s.heap) :
    ∀ (S : Sg) (a4 : Nat) (hw : wxM_loop_c43 rec post ρ k y o S a4) (H : Heap) (locs : List Loc) (h : HS Γ s (WX Γ θ ρ S Z) H locs) (ls : Array Slot) (hl : lv_has ls 6 [(0, .ref (θ.1 6)), (1, .ref (ρ.1 k)), (2, .int y), (3, va_rf (Option.map θ.2 o)), (4, .ref (Γ.2.2.2.1 a4))]), W p l e { frames := 2 * dd + 13, cells := 0, slots := 0, locals := 60 * dd + 430 } s m ([.ref (θ.1 6), .ref (ρ.1 k), .int y, va_rf (Option.map θ.2 o)] : List Value).toArray below meth c H locs 0 0 (MQ below (QM Γ (KK (fun r : Nat => some (.ref (Γ.2.2.2.1 r))) (fun S' => WX Γ θ ρ S' Z) post)) ([.ref (θ.1 6), .ref (ρ.1 k), .int y, va_rf (Option.map θ.2 o)] : List Value).toArray s 0 0 (AA Γ)) (F0 m 43 ls []) := by
  have hx := X.1
  have hb := X.2.1
  intro S a4 hw H locs h ls hl
  unfold wxM_loop_c43 at hw
  refine lv_aload hx hb dxM_loop_43 (lv_at hl 4 rfl) ?_
  refine gx_xM_123 X hG h dxM_loop_45 ?_
  obtain ⟨o1, hw⟩ := hw
  refine x_acmp_ne X hG (tgt := 57) o1 (by decide) dxM_loop_48 (by decide) (fun c2 => ?_) (fun c2 => ?_)
  · have hw := hw.1 c2
    refine lv_aload hx hb dxM_loop_57 (lv_at hl 4 rfl) ?_
    exact z_aret X hr hlk h (Or.inr ⟨_, rfl⟩) ⟨_, _, rfl, rfl, hw⟩ dxM_loop_59
  · have hw := hw.2 c2
    refine gx_xM_166 X hG h dxM_loop_51 ?_
    refine lv_goto (tgt := 59) hx hb dxM_loop_54 (by decide) ?_
    exact z_aret X hr hlk h (Or.inr ⟨_, rfl⟩) ⟨_, _, rfl, rfl, hw⟩ dxM_loop_59
def wxM_loop_c8 (rec : RecT) (post : Nat → Sg → Prop) (ρ : Rh) (k : Nat) (y : Int32) (o : Option Nat) : Nat → Sg → Nat → Int32 → Prop
  | 0, _, _, _ => False
  | d + 1, S, a4, a5 => (k < ρ.2.1) ∧ (((ρ.2.2.1 1 k) ≤ a5) → wxM_loop_c43 rec post ρ k y o S a4) ∧ ((¬ ((ρ.2.2.1 1 k) ≤ a5)) → (a4 < 6) ∧ ((¬ (a4 = 0)) → wxM_loop_c43 rec post ρ k y o S a4) ∧ ((a4 = 0) → rec (fun r5 S6 => wxM_loop_c8 rec post ρ k y o d S6 r5 (a5 + 1)) ρ S (ρ.2.2.1 2 k) y o))
set_option maxHeartbeats 4000000 in
set_option maxRecDepth 100000 in
theorem txM_loop_c8 {p : Program} {l : Launch} {e : Env} {s : State} {m : MethodId} {below : List Frame} {meth : Method} {c : Code} (Γ : Gm) (θ : Th) (ρ : Rh) (Z : va_W) (k : Nat) (y : Int32) (o : Option Nat)  (rec : RecT) (dd : Nat) (hrec : RecM l Γ θ rec dd) (post : Nat → Sg → Prop) (X : CallFix p m c cxM_loop 6 s ([.ref (θ.1 6), .ref (ρ.1 k), .int y, va_rf (Option.map θ.2 o)] : List Value).toArray big RxM) (hr : meth.sig.returnType = (some (.object "ThrowScenario$Way"))) (hlk : meth.locks = false) (hG : GX Γ s s.heap) :
    ∀ (d : Nat) (S : Sg) (a4 : Nat) (a5 : Int32) (hw : wxM_loop_c8 rec post ρ k y o d S a4 a5) (H : Heap) (locs : List Loc) (h : HS Γ s (WX Γ θ ρ S Z) H locs) (ls : Array Slot) (hl : lv_has ls 6 [(0, .ref (θ.1 6)), (1, .ref (ρ.1 k)), (2, .int y), (3, va_rf (Option.map θ.2 o)), (4, .ref (Γ.2.2.2.1 a4)), (5, .int a5)]), W p l e { frames := 2 * dd + 13, cells := 0, slots := 0, locals := 60 * dd + 430 } s m ([.ref (θ.1 6), .ref (ρ.1 k), .int y, va_rf (Option.map θ.2 o)] : List Value).toArray below meth c H locs 0 0 (MQ below (QM Γ (KK (fun r : Nat => some (.ref (Γ.2.2.2.1 r))) (fun S' => WX Γ θ ρ S' Z) post)) ([.ref (θ.1 6), .ref (ρ.1 k), .int y, va_rf (Option.map θ.2 o)] : List Value).toArray s 0 0 (AA Γ)) (F0 m 8 ls []) := by
  have hx := X.1
  have hb := X.2.1
  intro d
  induction d with
  | zero => intro S a4 a5 hw; exact absurd hw (by simp [wxM_loop_c8])
  | succ d ih =>
    intro S a4 a5 hw H locs h ls hl
    rw [wxM_loop_c8] at hw
    refine lv_iload hx hb dxM_loop_8 (lv_at hl 5 rfl) ?_
    refine lv_aload_n hx hb dxM_loop_10 rfl (lv_at hl 1 rfl) ?_
    obtain ⟨o1, hw⟩ := hw
    refine gx_xM_126 X hG h o1 (x := ρ.2.2.1 1 k) rfl dxM_loop_11 ?_
    refine lv_icmp_ge (tgt := 43) hx hb dxM_loop_14 (by decide) (fun c2 => ?_) (fun c2 => ?_)
    · have hw := hw.1 c2
      exact txM_loop_c43 Γ θ ρ Z k y o rec dd hrec post X hr hlk hG S a4 hw _ _ h ls (lv_sub hl [0, 1, 2, 3, 4] rfl)
    · have hw := hw.2 c2
      refine lv_aload hx hb dxM_loop_17 (lv_at hl 4 rfl) ?_
      refine gx_xM_166 X hG h dxM_loop_19 ?_
      obtain ⟨o3, hw⟩ := hw
      refine x_acmp_ne X hG (tgt := 43) o3 (by decide) dxM_loop_22 (by decide) (fun c4 => ?_) (fun c4 => ?_)
      · have hw := hw.1 c4
        exact txM_loop_c43 Γ θ ρ Z k y o rec dd hrec post X hr hlk hG S a4 hw _ _ h ls (lv_sub hl [0, 1, 2, 3, 4] rfl)
      · have hw := hw.2 c4
        refine lv_aload_n hx hb dxM_loop_25 rfl (lv_at hl 0 rfl) ?_
        refine lv_aload_n hx hb dxM_loop_26 rfl (lv_at hl 1 rfl) ?_
        refine gx_xM_139 X hG h o1 (x := ρ.2.2.1 2 k) rfl dxM_loop_27 ?_
        refine lv_iload_n hx hb dxM_loop_30 rfl (lv_at hl 2 rfl) ?_
        refine z_aload_nQ X dxM_loop_31 rfl (lv_at hl 3 rfl) ?_
        refine cx_xM_71 (As := [.int (ρ.2.2.1 2 k), .int y, va_rf (Option.map θ.2 o)]) (rest := []) X hG h hl.1 (hrec  ρ S Z (ρ.2.2.1 2 k) y o _ hw) ⟨show (2 * dd + 12) + 1 ≤ (2 * dd + 13) from by omega, show 8 + (5 + 11) + (60 * dd + 400) ≤ (60 * dd + 430) from by omega⟩ (q0 := 6) rfl rfl (Nat.le_of_ble_eq_true rfl) dxM_loop_32 ⟨Nat.le_of_ble_eq_true rfl, Nat.le_of_ble_eq_true rfl⟩ (fun v W1 hK H locs h => ?_)
        obtain ⟨r5, S6, rfl, rfl, hw⟩ := hK
        refine W.eq (g2 := F0 m 35 ls [.ref (Γ.2.2.2.1 r5)]) rfl ?_
        refine lv_astore (lv' := [(4, .ref (Γ.2.2.2.1 r5)), (0, .ref (θ.1 6)), (1, .ref (ρ.1 k)), (2, .int y), (3, va_rf (Option.map θ.2 o)), (5, .int a5)]) hx hb dxM_loop_35 hl (by decide) (by simp [List.filter_cons, va_rf_cat]) (fun ls hl => ?_)
        refine lv_iinc (v := a5 + 1) (lv' := [(5, .int (a5 + 1)), (4, .ref (Γ.2.2.2.1 r5)), (0, .ref (θ.1 6)), (1, .ref (ρ.1 k)), (2, .int y), (3, va_rf (Option.map θ.2 o))]) hx hb dxM_loop_37 hl (k := 5) rfl rfl (by decide) rfl (fun ls hl => ?_)
        refine lv_goto (tgt := 8) hx hb dxM_loop_40 (by decide) ?_
        exact ih S6 r5 (a5 + 1) hw _ _ h ls (lv_sub hl [2, 3, 4, 5, 1, 0] rfl)
def wxM_loop (rec : RecT) (post : Nat → Sg → Prop) (ρ : Rh) (S : Sg) (k : Nat) (y : Int32) (o : Option Nat) : Prop := ∃ d7 : Nat, wxM_loop_c8 rec post ρ k y o d7 S 0 (0 : Int32)
set_option maxHeartbeats 4000000 in
set_option maxRecDepth 100000 in
theorem mxM_loop (l : Launch) (Γ : Gm) (θ : Th) (ρ : Rh) (S : Sg) (Z : va_W) (k : Nat) (y : Int32) (o : Option Nat) (rec : RecT) (dd : Nat) (hrec : RecM l Γ θ rec dd) (post : Nat → Sg → Prop) (hw : wxM_loop rec post ρ S k y o) : MM l yxM_loop cxM_loop 6 (some (.object "ThrowScenario$Way")) (2 * dd + 13) (60 * dd + 430) Γ [.ref (θ.1 6), .ref (ρ.1 k), .int y, va_rf (Option.map θ.2 o)] (WX Γ θ ρ S Z) (KK (fun r : Nat => some (.ref (Γ.2.2.2.1 r))) (fun S' => WX Γ θ ρ S' Z) post) 0 0 := by
  refine MM_of (by decide) (by cases o <;> exact Nat.le_of_ble_eq_true rfl) ?_
  intro p e s m below meth c X hr hlk hnm hG h ls hl
  have hx := X.1
  have hb := X.2.1
  have hl : lv_has ls 6 [(0, .ref (θ.1 6)), (1, .ref (ρ.1 k)), (2, .int y), (3, va_rf (Option.map θ.2 o))] := hl
  unfold wxM_loop at hw
  refine gx_xM_166 X hG h dxM_loop_0 ?_
  refine lv_astore (lv' := [(4, .ref (Γ.2.2.2.1 0)), (0, .ref (θ.1 6)), (1, .ref (ρ.1 k)), (2, .int y), (3, va_rf (Option.map θ.2 o))]) hx hb dxM_loop_3 hl (by decide) (by simp [List.filter_cons, va_rf_cat]) (fun ls hl => ?_)
  refine lv_iconst (v := 0) hx hb dxM_loop_5 (by decide) ?_
  refine lv_istore (lv' := [(5, .int 0), (4, .ref (Γ.2.2.2.1 0)), (0, .ref (θ.1 6)), (1, .ref (ρ.1 k)), (2, .int y), (3, va_rf (Option.map θ.2 o))]) hx hb dxM_loop_6 hl (by decide) rfl (fun ls hl => ?_)
  obtain ⟨d7, hw⟩ := hw
  exact txM_loop_c8 Γ θ ρ Z k y o rec dd hrec post X hr hlk hG d7 S 0 (0 : Int32) hw _ _ h ls (lv_sub hl [2, 3, 4, 5, 1, 0] rfl)
def wxM_call_c74 (rec : RecT) (post : Nat → Sg → Prop) (ρ : Rh) (k : Nat) (y : Int32) (S : Sg) (a3 : Nat) : Prop := (a3 < 6) ∧ ((a3 = 3) → post a3 S) ∧ ((¬ (a3 = 3)) → (((er a3) = (0 : Int32)) → post 0 S) ∧ ((¬ ((er a3) = (0 : Int32))) → post a3 S))
set_option maxHeartbeats 4000000 in
set_option maxRecDepth 100000 in
theorem txM_call_c74 {p : Program} {l : Launch} {e : Env} {s : State} {m : MethodId} {below : List Frame} {meth : Method} {c : Code} (Γ : Gm) (θ : Th) (ρ : Rh) (Z : va_W) (k : Nat) (y : Int32)  (rec : RecT) (dd : Nat) (hrec : RecM l Γ θ rec dd) (post : Nat → Sg → Prop) (X : CallFix p m c cxM_call 4 s ([.ref (θ.1 6), .ref (ρ.1 k), .int y] : List Value).toArray big RxM) (hr : meth.sig.returnType = (some (.object "ThrowScenario$Way"))) (hlk : meth.locks = false) (hG : GX Γ s s.heap) :
    ∀ (S : Sg) (a3 : Nat) (hw : wxM_call_c74 rec post ρ k y S a3) (H : Heap) (locs : List Loc) (h : HS Γ s (WX Γ θ ρ S Z) H locs) (ls : Array Slot) (hl : lv_has ls 4 [(0, .ref (θ.1 6)), (1, .ref (ρ.1 k)), (2, .int y), (3, .ref (Γ.2.2.2.1 a3))]), W p l e { frames := 2 * dd + 13, cells := 0, slots := 0, locals := 60 * dd + 430 } s m ([.ref (θ.1 6), .ref (ρ.1 k), .int y] : List Value).toArray below meth c H locs 0 0 (MQ below (QM Γ (KK (fun r : Nat => some (.ref (Γ.2.2.2.1 r))) (fun S' => WX Γ θ ρ S' Z) post)) ([.ref (θ.1 6), .ref (ρ.1 k), .int y] : List Value).toArray s 0 0 (AA Γ)) (F0 m 74 ls []) := by
  have hx := X.1
  have hb := X.2.1
  intro S a3 hw H locs h ls hl
  unfold wxM_call_c74 at hw
  refine lv_aload_n hx hb dxM_call_74 rfl (lv_at hl 3 rfl) ?_
  refine gx_xM_178 X hG h dxM_call_75 ?_
  obtain ⟨o1, hw⟩ := hw
  refine x_acmp_eq X hG (tgt := 88) o1 (by decide) dxM_call_78 (by decide) (fun c2 => ?_) (fun c2 => ?_)
  · have hw := hw.1 c2
    refine lv_aload_n hx hb dxM_call_88 rfl (lv_at hl 3 rfl) ?_
    refine lv_goto (tgt := 95) hx hb dxM_call_89 (by decide) ?_
    exact z_aret X hr hlk h (Or.inr ⟨_, rfl⟩) ⟨_, _, rfl, rfl, hw⟩ dxM_call_95
  · have hw := hw.2 c2
    refine lv_aload_n hx hb dxM_call_81 rfl (lv_at hl 3 rfl) ?_
    refine gx_xM_181 X hG h o1 dxM_call_82 ?_
    refine lv_if_eq (tgt := 92) hx hb dxM_call_85 (by decide) (fun c3 => ?_) (fun c3 => ?_)
    · have hw := hw.1 c3
      refine gx_xM_166 X hG h dxM_call_92 ?_
      exact z_aret X hr hlk h (Or.inr ⟨_, rfl⟩) ⟨_, _, rfl, rfl, hw⟩ dxM_call_95
    · have hw := hw.2 c3
      refine lv_aload_n hx hb dxM_call_88 rfl (lv_at hl 3 rfl) ?_
      refine lv_goto (tgt := 95) hx hb dxM_call_89 (by decide) ?_
      exact z_aret X hr hlk h (Or.inr ⟨_, rfl⟩) ⟨_, _, rfl, rfl, hw⟩ dxM_call_95
def wxM_call (rec : RecT) (post : Nat → Sg → Prop) (ρ : Rh) (S : Sg) (k : Nat) (y : Int32) : Prop := (k < ρ.2.1) ∧ wxP_isDefined (fun r2 S3 => ((¬ (r2 = (0 : Int32))) → ((y < (ρ.2.2.1 7 3)) → wxP_statementOf (fun r6 S7 => rec (fun r8 S9 => (r8 < 6) ∧ ((¬ (r8 = 2)) → wxM_call_c74 rec post ρ k y S9 r8) ∧ ((r8 = 2) → (vp_in (0 : Int32) 4) ∧ wxM_call_c74 rec post ρ k y (sR S9 0 0 (S9.1 7 6)) r8)) ρ S7 r6 (y + 1) none) ρ S3 (ρ.2.2.1 1 k)) ∧ ((¬ (y < (ρ.2.2.1 7 3))) → wxM_raise (fun r13 S14 => post r13 S14) ρ S3 (5) (ρ.2.2.1 7 3) none)) ∧ ((r2 = (0 : Int32)) → post 0 S3)) ρ S (ρ.2.2.1 1 k)
set_option maxHeartbeats 4000000 in
set_option maxRecDepth 100000 in
theorem mxM_call (l : Launch) (Γ : Gm) (θ : Th) (ρ : Rh) (S : Sg) (Z : va_W) (k : Nat) (y : Int32) (rec : RecT) (dd : Nat) (hrec : RecM l Γ θ rec dd) (post : Nat → Sg → Prop) (hw : wxM_call rec post ρ S k y) : MM l yxM_call cxM_call 4 (some (.object "ThrowScenario$Way")) (2 * dd + 13) (60 * dd + 430) Γ [.ref (θ.1 6), .ref (ρ.1 k), .int y] (WX Γ θ ρ S Z) (KK (fun r : Nat => some (.ref (Γ.2.2.2.1 r))) (fun S' => WX Γ θ ρ S' Z) post) 0 0 := by
  refine MM_of (by decide) (Nat.le_of_ble_eq_true rfl) ?_
  intro p e s m below meth c X hr hlk hnm hG h ls hl
  have hx := X.1
  have hb := X.2.1
  have hl : lv_has ls 4 [(0, .ref (θ.1 6)), (1, .ref (ρ.1 k)), (2, .int y)] := hl
  unfold wxM_call at hw
  refine lv_aload_n hx hb dxM_call_0 rfl (lv_at hl 0 rfl) ?_
  refine gx_xM_51 X hG h dxM_call_1 ?_
  refine lv_aload_n hx hb dxM_call_4 rfl (lv_at hl 1 rfl) ?_
  obtain ⟨o1, hw⟩ := hw
  refine gx_xM_126 X hG h o1 (x := ρ.2.2.1 1 k) rfl dxM_call_5 ?_
  refine cx_xM_172 (As := [.int (ρ.2.2.1 1 k)]) (rest := []) X hG h hl.1 (mxP_isDefined l Γ θ ρ S Z (ρ.2.2.1 1 k) _ hw) ⟨show 1 + 1 ≤ (2 * dd + 13) from by omega, show 8 + (2 + 11) + 20 ≤ (60 * dd + 430) from by omega⟩ (q0 := 3) rfl rfl (Nat.le_of_ble_eq_true rfl) dxM_call_8 ⟨Nat.le_of_ble_eq_true rfl, Nat.le_of_ble_eq_true rfl⟩ (fun v W1 hK H locs h => ?_)
  obtain ⟨r2, S3, rfl, rfl, hw⟩ := hK
  refine W.eq (g2 := F0 m 11 ls [.int r2]) rfl ?_
  refine lv_if_ne (tgt := 18) hx hb dxM_call_11 (by decide) (fun c4 => ?_) (fun c4 => ?_)
  · have hw := hw.1 c4
    refine lv_iload_n hx hb dxM_call_18 rfl (lv_at hl 2 rfl) ?_
    refine lv_aload_n hx hb dxM_call_19 rfl (lv_at hl 0 rfl) ?_
    refine gx_xM_59 X hG h (x := ρ.2.2.1 7 3) rfl dxM_call_20 ?_
    refine lv_icmp_lt (tgt := 37) hx hb dxM_call_23 (by decide) (fun c5 => ?_) (fun c5 => ?_)
    · have hw := hw.1 c5
      refine lv_aload_n hx hb dxM_call_37 rfl (lv_at hl 0 rfl) ?_
      refine lv_aload_n hx hb dxM_call_38 rfl (lv_at hl 0 rfl) ?_
      refine gx_xM_51 X hG h dxM_call_39 ?_
      refine lv_aload_n hx hb dxM_call_42 rfl (lv_at hl 1 rfl) ?_
      refine gx_xM_126 X hG h o1 (x := ρ.2.2.1 1 k) rfl dxM_call_43 ?_
      refine cx_xM_67 (As := [.int (ρ.2.2.1 1 k)]) (rest := [.ref (θ.1 6)]) X hG h hl.1 (mxP_statementOf l Γ θ ρ S3 Z (ρ.2.2.1 1 k) _ hw) ⟨show 0 + 1 ≤ (2 * dd + 13) from by omega, show 8 + (2 + 11) + 0 ≤ (60 * dd + 430) from by omega⟩ (q0 := 3) rfl rfl (Nat.le_of_ble_eq_true rfl) dxM_call_46 ⟨Nat.le_of_ble_eq_true rfl, Nat.le_of_ble_eq_true rfl⟩ (fun v W1 hK H locs h => ?_)
      obtain ⟨r6, S7, rfl, rfl, hw⟩ := hK
      refine W.eq (g2 := F0 m 49 ls [.int r6, .ref (θ.1 6)]) rfl ?_
      refine lv_iload_n hx hb dxM_call_49 rfl (lv_at hl 2 rfl) ?_
      refine lv_iconst (v := 1) hx hb dxM_call_50 (by decide) ?_
      refine lv_iadd hx hb dxM_call_51 ?_
      refine lv_null hx hb dxM_call_52 ?_
      refine cx_xM_71 (As := [.int r6, .int (y + 1), .null]) (rest := []) X hG h hl.1 (hrec  ρ S7 Z r6 (y + 1) none _ hw) ⟨show (2 * dd + 12) + 1 ≤ (2 * dd + 13) from by omega, show 8 + (5 + 11) + (60 * dd + 400) ≤ (60 * dd + 430) from by omega⟩ (q0 := 6) rfl rfl (Nat.le_of_ble_eq_true rfl) dxM_call_53 ⟨Nat.le_of_ble_eq_true rfl, Nat.le_of_ble_eq_true rfl⟩ (fun v W1 hK H locs h => ?_)
      obtain ⟨r8, S9, rfl, rfl, hw⟩ := hK
      refine W.eq (g2 := F0 m 56 ls [.ref (Γ.2.2.2.1 r8)]) rfl ?_
      refine lv_astore_n (lv' := [(3, .ref (Γ.2.2.2.1 r8)), (0, .ref (θ.1 6)), (1, .ref (ρ.1 k)), (2, .int y)]) hx hb dxM_call_56 rfl hl (by decide) rfl (fun ls hl => ?_)
      refine lv_aload_n hx hb dxM_call_57 rfl (lv_at hl 0 rfl) ?_
      refine gx_xM_129 X hG h dxM_call_58 ?_
      obtain ⟨o10, hw⟩ := hw
      refine x_acmp_ne X hG (tgt := 74) o10 (by decide) dxM_call_61 (by decide) (fun c11 => ?_) (fun c11 => ?_)
      · have hw := hw.1 c11
        exact txM_call_c74 Γ θ ρ Z k y rec dd hrec post X hr hlk hG S9 r8 hw _ _ h ls (lv_sub hl [1, 2, 3, 0] rfl)
      · have hw := hw.2 c11
        refine lv_aload_n hx hb dxM_call_64 rfl (lv_at hl 1 rfl) ?_
        refine gx_xM_11 X hG h dxM_call_65 ?_
        refine lv_iconst (v := 0) hx hb dxM_call_68 (by decide) ?_
        refine lv_aload_n hx hb dxM_call_69 rfl (lv_at hl 1 rfl) ?_
        refine gx_xM_48 X hG h (x := S9.1 7 6) rfl dxM_call_70 ?_
        obtain ⟨o12, hw⟩ := hw
        refine sx_7 X hG h o12 dxM_call_73 (fun H locs h => ?_)
        exact txM_call_c74 Γ θ ρ Z k y rec dd hrec post X hr hlk hG (sR S9 0 0 (S9.1 7 6)) r8 hw _ _ h ls (lv_sub hl [1, 2, 3, 0] rfl)
    · have hw := hw.2 c5
      refine lv_aload_n hx hb dxM_call_26 rfl (lv_at hl 0 rfl) ?_
      refine lv_iconst (v := 5) hx hb dxM_call_27 (by decide) ?_
      refine lv_aload_n hx hb dxM_call_28 rfl (lv_at hl 0 rfl) ?_
      refine gx_xM_59 X hG h (x := ρ.2.2.1 7 3) rfl dxM_call_29 ?_
      refine lv_null hx hb dxM_call_32 ?_
      refine cx_xM_142 (As := [.int 5, .int (ρ.2.2.1 7 3), .null]) (rest := []) X hG h hl.1 (mxM_raise l Γ θ ρ S3 Z (5) (ρ.2.2.1 7 3) none _ hw) ⟨show 1 + 1 ≤ (2 * dd + 13) from by omega, show 8 + (4 + 11) + 23 ≤ (60 * dd + 430) from by omega⟩ (q0 := 6) rfl rfl (Nat.le_of_ble_eq_true rfl) dxM_call_33 ⟨Nat.le_of_ble_eq_true rfl, Nat.le_of_ble_eq_true rfl⟩ (fun v W1 hK H locs h => ?_)
      obtain ⟨r13, S14, rfl, rfl, hw⟩ := hK
      refine W.eq (g2 := F0 m 36 ls [.ref (Γ.2.2.2.1 r13)]) rfl ?_
      exact z_aret X hr hlk h (Or.inr ⟨_, rfl⟩) ⟨_, _, rfl, rfl, hw⟩ dxM_call_36
  · have hw := hw.2 c4
    refine gx_xM_166 X hG h dxM_call_14 ?_
    exact z_aret X hr hlk h (Or.inr ⟨_, rfl⟩) ⟨_, _, rfl, rfl, hw⟩ dxM_call_17
def wxM_tryAndCatch (rec : RecT) (post : Nat → Sg → Prop) (ρ : Rh) (S : Sg) (k : Nat) (y : Int32) (o : Option Nat) : Prop := (k < ρ.2.1) ∧ rec (fun r2 S3 => (r2 < 6) ∧ ((¬ (r2 = 3)) → post r2 S3) ∧ ((r2 = 3) → ∃ j6 : Nat, (S3.2 300) = some j6 ∧ (j6 < 300) ∧ wxC_is (fun r9 S10 => ((¬ (r9 = (0 : Int32))) → wxM_mayBegin (fun r12 S13 => ((r12 = (0 : Int32)) → rec (fun r15 S16 => post r15 S16) ρ S13 (ρ.2.2.1 3 k) y (S13.2 300)) ∧ ((¬ (r12 = (0 : Int32))) → rec (fun r17 S18 => post r17 S18) ρ (sR S13 7 3 ((S13.1 7 3) + 1)) (ρ.2.2.1 3 k) y (S13.2 300))) ρ S10 ) ∧ ((r9 = (0 : Int32)) → post r2 S10)) ρ S3 (S3.1 3 j6) (ρ.2.2.1 2 k))) ρ S (ρ.2.2.1 1 k) y o
set_option maxHeartbeats 4000000 in
set_option maxRecDepth 100000 in
theorem mxM_tryAndCatch (l : Launch) (Γ : Gm) (θ : Th) (ρ : Rh) (S : Sg) (Z : va_W) (k : Nat) (y : Int32) (o : Option Nat) (rec : RecT) (dd : Nat) (hrec : RecM l Γ θ rec dd) (post : Nat → Sg → Prop) (hw : wxM_tryAndCatch rec post ρ S k y o) : MM l yxM_tryAndCatch cxM_tryAndCatch 5 (some (.object "ThrowScenario$Way")) (2 * dd + 13) (60 * dd + 430) Γ [.ref (θ.1 6), .ref (ρ.1 k), .int y, va_rf (Option.map θ.2 o)] (WX Γ θ ρ S Z) (KK (fun r : Nat => some (.ref (Γ.2.2.2.1 r))) (fun S' => WX Γ θ ρ S' Z) post) 0 0 := by
  refine MM_of (by decide) (by cases o <;> exact Nat.le_of_ble_eq_true rfl) ?_
  intro p e s m below meth c X hr hlk hnm hG h ls hl
  have hx := X.1
  have hb := X.2.1
  have hl : lv_has ls 5 [(0, .ref (θ.1 6)), (1, .ref (ρ.1 k)), (2, .int y), (3, va_rf (Option.map θ.2 o))] := hl
  unfold wxM_tryAndCatch at hw
  refine lv_aload_n hx hb dxM_tryAndCatch_0 rfl (lv_at hl 0 rfl) ?_
  refine lv_aload_n hx hb dxM_tryAndCatch_1 rfl (lv_at hl 1 rfl) ?_
  obtain ⟨o1, hw⟩ := hw
  refine gx_xM_126 X hG h o1 (x := ρ.2.2.1 1 k) rfl dxM_tryAndCatch_2 ?_
  refine lv_iload_n hx hb dxM_tryAndCatch_5 rfl (lv_at hl 2 rfl) ?_
  refine z_aload_nQ X dxM_tryAndCatch_6 rfl (lv_at hl 3 rfl) ?_
  refine cx_xM_71 (As := [.int (ρ.2.2.1 1 k), .int y, va_rf (Option.map θ.2 o)]) (rest := []) X hG h hl.1 (hrec  ρ S Z (ρ.2.2.1 1 k) y o _ hw) ⟨show (2 * dd + 12) + 1 ≤ (2 * dd + 13) from by omega, show 8 + (5 + 11) + (60 * dd + 400) ≤ (60 * dd + 430) from by omega⟩ (q0 := 6) rfl rfl (Nat.le_of_ble_eq_true rfl) dxM_tryAndCatch_7 ⟨Nat.le_of_ble_eq_true rfl, Nat.le_of_ble_eq_true rfl⟩ (fun v W1 hK H locs h => ?_)
  obtain ⟨r2, S3, rfl, rfl, hw⟩ := hK
  refine W.eq (g2 := F0 m 10 ls [.ref (Γ.2.2.2.1 r2)]) rfl ?_
  refine lv_astore (lv' := [(4, .ref (Γ.2.2.2.1 r2)), (0, .ref (θ.1 6)), (1, .ref (ρ.1 k)), (2, .int y), (3, va_rf (Option.map θ.2 o))]) hx hb dxM_tryAndCatch_10 hl (by decide) (by simp [List.filter_cons, va_rf_cat]) (fun ls hl => ?_)
  refine lv_aload hx hb dxM_tryAndCatch_12 (lv_at hl 0 rfl) ?_
  refine gx_xM_178 X hG h dxM_tryAndCatch_14 ?_
  obtain ⟨o4, hw⟩ := hw
  refine x_acmp_ne X hG (tgt := 41) o4 (by decide) dxM_tryAndCatch_17 (by decide) (fun c5 => ?_) (fun c5 => ?_)
  · have hw := hw.1 c5
    refine lv_aload hx hb dxM_tryAndCatch_41 (lv_at hl 0 rfl) ?_
    exact z_aret X hr hlk h (Or.inr ⟨_, rfl⟩) ⟨_, _, rfl, rfl, hw⟩ dxM_tryAndCatch_43
  · have hw := hw.2 c5
    refine lv_aload_n hx hb dxM_tryAndCatch_20 rfl (lv_at hl 1 rfl) ?_
    refine gx_xM_55 X hG h dxM_tryAndCatch_21 ?_
    refine lv_aload_n hx hb dxM_tryAndCatch_24 rfl (lv_at hl 1 rfl) ?_
    refine gx_xM_63 X hG h (x := S3.2 300) rfl dxM_tryAndCatch_25 ?_
    obtain ⟨j6, e7, hw⟩ := hw
    refine W.eq (g2 := F0 m 28 ls [.ref (θ.2 j6), .ref (θ.1 1)]) (by rw [e7]; rfl) ?_
    obtain ⟨o8, hw⟩ := hw
    refine gx_xM_185 X hG h o8 (x := S3.1 3 j6) rfl dxM_tryAndCatch_28 ?_
    refine lv_aload_n hx hb dxM_tryAndCatch_31 rfl (lv_at hl 2 rfl) ?_
    refine gx_xM_139 X hG h o1 (x := ρ.2.2.1 2 k) rfl dxM_tryAndCatch_32 ?_
    refine cx_xM_188 (As := [.int (S3.1 3 j6), .int (ρ.2.2.1 2 k)]) (rest := []) X hG h hl.1 (mxC_is l Γ θ ρ S3 Z (S3.1 3 j6) (ρ.2.2.1 2 k) _ hw) ⟨show 1 + 1 ≤ (2 * dd + 13) from by omega, show 8 + (5 + 11) + 21 ≤ (60 * dd + 430) from by omega⟩ (q0 := 1) rfl rfl (Nat.le_of_ble_eq_true rfl) dxM_tryAndCatch_35 ⟨Nat.le_of_ble_eq_true rfl, Nat.le_of_ble_eq_true rfl⟩ (fun v W1 hK H locs h => ?_)
    obtain ⟨r9, S10, rfl, rfl, hw⟩ := hK
    refine W.eq (g2 := F0 m 38 ls [.int r9]) rfl ?_
    refine lv_if_ne (tgt := 44) hx hb dxM_tryAndCatch_38 (by decide) (fun c11 => ?_) (fun c11 => ?_)
    · have hw := hw.1 c11
      refine lv_aload_n hx hb dxM_tryAndCatch_44 rfl (lv_at hl 1 rfl) ?_
      refine cx_xM_75 (As := []) (rest := []) X hG h hl.1 (mxM_mayBegin l Γ θ ρ S10 Z  _ hw) ⟨show 0 + 1 ≤ (2 * dd + 13) from by omega, show 8 + (1 + 11) + 0 ≤ (60 * dd + 430) from by omega⟩ (q0 := 6) rfl rfl (Nat.le_of_ble_eq_true rfl) dxM_tryAndCatch_45 ⟨Nat.le_of_ble_eq_true rfl, Nat.le_of_ble_eq_true rfl⟩ (fun v W1 hK H locs h => ?_)
      obtain ⟨r12, S13, rfl, rfl, hw⟩ := hK
      refine W.eq (g2 := F0 m 48 ls [.int r12]) rfl ?_
      refine lv_if_eq (tgt := 61) hx hb dxM_tryAndCatch_48 (by decide) (fun c14 => ?_) (fun c14 => ?_)
      · have hw := hw.1 c14
        refine lv_aload_n hx hb dxM_tryAndCatch_61 rfl (lv_at hl 1 rfl) ?_
        refine lv_aload_n hx hb dxM_tryAndCatch_62 rfl (lv_at hl 2 rfl) ?_
        refine gx_xM_169 X hG h o1 (x := ρ.2.2.1 3 k) rfl dxM_tryAndCatch_63 ?_
        refine lv_iload_n hx hb dxM_tryAndCatch_66 rfl (lv_at hl 3 rfl) ?_
        refine lv_aload_n hx hb dxM_tryAndCatch_67 rfl (lv_at hl 1 rfl) ?_
        refine gx_xM_63 X hG h (x := S13.2 300) rfl dxM_tryAndCatch_68 ?_
        refine cx_xM_71 (As := [.int (ρ.2.2.1 3 k), .int y, va_rf (Option.map θ.2 (S13.2 300))]) (rest := []) X hG h hl.1 (hrec  ρ S13 Z (ρ.2.2.1 3 k) y (S13.2 300) _ hw) ⟨show (2 * dd + 12) + 1 ≤ (2 * dd + 13) from by omega, show 8 + (5 + 11) + (60 * dd + 400) ≤ (60 * dd + 430) from by omega⟩ (q0 := 6) rfl rfl (Nat.le_of_ble_eq_true rfl) dxM_tryAndCatch_71 ⟨Nat.le_of_ble_eq_true rfl, Nat.le_of_ble_eq_true rfl⟩ (fun v W1 hK H locs h => ?_)
        obtain ⟨r15, S16, rfl, rfl, hw⟩ := hK
        refine W.eq (g2 := F0 m 74 ls [.ref (Γ.2.2.2.1 r15)]) rfl ?_
        exact z_aret X hr hlk h (Or.inr ⟨_, rfl⟩) ⟨_, _, rfl, rfl, hw⟩ dxM_tryAndCatch_74
      · have hw := hw.2 c14
        refine lv_aload_n hx hb dxM_tryAndCatch_51 rfl (lv_at hl 1 rfl) ?_
        refine lv_dup hx hb dxM_tryAndCatch_52 rfl ?_
        refine gx_xM_39 X hG h (x := S13.1 7 3) rfl dxM_tryAndCatch_53 ?_
        refine lv_iconst (v := 1) hx hb dxM_tryAndCatch_56 (by decide) ?_
        refine lv_iadd hx hb dxM_tryAndCatch_57 ?_
        refine px_xM_39 X hG h dxM_tryAndCatch_58 (fun H locs h => ?_)
        refine lv_aload_n hx hb dxM_tryAndCatch_61 rfl (lv_at hl 1 rfl) ?_
        refine lv_aload_n hx hb dxM_tryAndCatch_62 rfl (lv_at hl 2 rfl) ?_
        refine gx_xM_169 X hG h o1 (x := ρ.2.2.1 3 k) rfl dxM_tryAndCatch_63 ?_
        refine lv_iload_n hx hb dxM_tryAndCatch_66 rfl (lv_at hl 3 rfl) ?_
        refine lv_aload_n hx hb dxM_tryAndCatch_67 rfl (lv_at hl 1 rfl) ?_
        refine gx_xM_63 X hG h (x := S13.2 300) rfl dxM_tryAndCatch_68 ?_
        refine cx_xM_71 (As := [.int (ρ.2.2.1 3 k), .int y, va_rf (Option.map θ.2 (S13.2 300))]) (rest := []) X hG h hl.1 (hrec  ρ (sR S13 7 3 ((S13.1 7 3) + 1)) Z (ρ.2.2.1 3 k) y (S13.2 300) _ hw) ⟨show (2 * dd + 12) + 1 ≤ (2 * dd + 13) from by omega, show 8 + (5 + 11) + (60 * dd + 400) ≤ (60 * dd + 430) from by omega⟩ (q0 := 6) rfl rfl (Nat.le_of_ble_eq_true rfl) dxM_tryAndCatch_71 ⟨Nat.le_of_ble_eq_true rfl, Nat.le_of_ble_eq_true rfl⟩ (fun v W1 hK H locs h => ?_)
        obtain ⟨r17, S18, rfl, rfl, hw⟩ := hK
        refine W.eq (g2 := F0 m 74 ls [.ref (Γ.2.2.2.1 r17)]) rfl ?_
        exact z_aret X hr hlk h (Or.inr ⟨_, rfl⟩) ⟨_, _, rfl, rfl, hw⟩ dxM_tryAndCatch_74
    · have hw := hw.2 c11
      refine lv_aload hx hb dxM_tryAndCatch_41 (lv_at hl 0 rfl) ?_
      exact z_aret X hr hlk h (Or.inr ⟨_, rfl⟩) ⟨_, _, rfl, rfl, hw⟩ dxM_tryAndCatch_43
def wxM_doBoth_c136 (rec : RecT) (post : Nat → Sg → Prop) (ρ : Rh) (k : Nat) (y : Int32) (o : Option Nat) (S : Sg) (a4 : Nat) (a5 : Int32) (a6 : Option Nat) : Prop := post a4 (sC (sR S 7 6 a5) 300 a6)
set_option maxHeartbeats 4000000 in
set_option maxRecDepth 100000 in
theorem txM_doBoth_c136 {p : Program} {l : Launch} {e : Env} {s : State} {m : MethodId} {below : List Frame} {meth : Method} {c : Code} (Γ : Gm) (θ : Th) (ρ : Rh) (Z : va_W) (k : Nat) (y : Int32) (o : Option Nat)  (rec : RecT) (dd : Nat) (hrec : RecM l Γ θ rec dd) (post : Nat → Sg → Prop) (X : CallFix p m c cxM_doBoth 9 s ([.ref (θ.1 6), .ref (ρ.1 k), .int y, va_rf (Option.map θ.2 o)] : List Value).toArray big RxM) (hr : meth.sig.returnType = (some (.object "ThrowScenario$Way"))) (hlk : meth.locks = false) (hG : GX Γ s s.heap) :
    ∀ (S : Sg) (a4 : Nat) (a5 : Int32) (a6 : Option Nat) (hw : wxM_doBoth_c136 rec post ρ k y o S a4 a5 a6) (H : Heap) (locs : List Loc) (h : HS Γ s (WX Γ θ ρ S Z) H locs) (ls : Array Slot) (hl : lv_has ls 9 [(0, .ref (θ.1 6)), (1, .ref (ρ.1 k)), (2, .int y), (3, va_rf (Option.map θ.2 o)), (4, .ref (Γ.2.2.2.1 a4)), (5, .int a5), (6, va_rf (Option.map θ.2 a6))]), W p l e { frames := 2 * dd + 13, cells := 0, slots := 0, locals := 60 * dd + 430 } s m ([.ref (θ.1 6), .ref (ρ.1 k), .int y, va_rf (Option.map θ.2 o)] : List Value).toArray below meth c H locs 0 0 (MQ below (QM Γ (KK (fun r : Nat => some (.ref (Γ.2.2.2.1 r))) (fun S' => WX Γ θ ρ S' Z) post)) ([.ref (θ.1 6), .ref (ρ.1 k), .int y, va_rf (Option.map θ.2 o)] : List Value).toArray s 0 0 (AA Γ)) (F0 m 136 ls []) := by
  have hx := X.1
  have hb := X.2.1
  intro S a4 a5 a6 hw H locs h ls hl
  unfold wxM_doBoth_c136 at hw
  refine lv_aload_n hx hb dxM_doBoth_136 rfl (lv_at hl 0 rfl) ?_
  refine lv_iload hx hb dxM_doBoth_137 (lv_at hl 5 rfl) ?_
  refine px_xM_48 X hG h dxM_doBoth_139 (fun H locs h => ?_)
  refine lv_aload_n hx hb dxM_doBoth_142 rfl (lv_at hl 0 rfl) ?_
  refine z_aloadQ X dxM_doBoth_143 (lv_at hl 6 rfl) ?_
  refine px_xM_63 X hG h (o := a6) dxM_doBoth_145 (fun H locs h => ?_)
  refine lv_aload hx hb dxM_doBoth_148 (lv_at hl 4 rfl) ?_
  exact z_aret X hr hlk h (Or.inr ⟨_, rfl⟩) ⟨_, _, rfl, rfl, hw⟩ dxM_doBoth_150
def wxM_doBoth_c112 (rec : RecT) (post : Nat → Sg → Prop) (ρ : Rh) (k : Nat) (y : Int32) (o : Option Nat) (S : Sg) (a4 : Nat) (a5 : Int32) (a6 : Option Nat) (a7 : Nat) (a8 : Int32) : Prop := ((a8 = (0 : Int32)) → wxM_doBoth_c136 rec post ρ k y o S a4 a5 a6) ∧ ((¬ (a8 = (0 : Int32))) → (a7 < 6) ∧ ((¬ (a7 = 3)) → wxM_doBoth_c136 rec post ρ k y o S a4 a5 a6) ∧ ((a7 = 3) → ∃ j4 : Nat, a6 = some j4 ∧ (j4 < 300) ∧ wxM_doBoth_c136 rec post ρ k y o (sR S 6 j4 ((S.1 6 j4) + 1)) a4 a5 (some j4)))
set_option maxHeartbeats 4000000 in
set_option maxRecDepth 100000 in
theorem txM_doBoth_c112 {p : Program} {l : Launch} {e : Env} {s : State} {m : MethodId} {below : List Frame} {meth : Method} {c : Code} (Γ : Gm) (θ : Th) (ρ : Rh) (Z : va_W) (k : Nat) (y : Int32) (o : Option Nat)  (rec : RecT) (dd : Nat) (hrec : RecM l Γ θ rec dd) (post : Nat → Sg → Prop) (X : CallFix p m c cxM_doBoth 9 s ([.ref (θ.1 6), .ref (ρ.1 k), .int y, va_rf (Option.map θ.2 o)] : List Value).toArray big RxM) (hr : meth.sig.returnType = (some (.object "ThrowScenario$Way"))) (hlk : meth.locks = false) (hG : GX Γ s s.heap) :
    ∀ (S : Sg) (a4 : Nat) (a5 : Int32) (a6 : Option Nat) (a7 : Nat) (a8 : Int32) (hw : wxM_doBoth_c112 rec post ρ k y o S a4 a5 a6 a7 a8) (H : Heap) (locs : List Loc) (h : HS Γ s (WX Γ θ ρ S Z) H locs) (ls : Array Slot) (hl : lv_has ls 9 [(0, .ref (θ.1 6)), (1, .ref (ρ.1 k)), (2, .int y), (3, va_rf (Option.map θ.2 o)), (4, .ref (Γ.2.2.2.1 a4)), (5, .int a5), (6, va_rf (Option.map θ.2 a6)), (7, .ref (Γ.2.2.2.1 a7)), (8, .int a8)]), W p l e { frames := 2 * dd + 13, cells := 0, slots := 0, locals := 60 * dd + 430 } s m ([.ref (θ.1 6), .ref (ρ.1 k), .int y, va_rf (Option.map θ.2 o)] : List Value).toArray below meth c H locs 0 0 (MQ below (QM Γ (KK (fun r : Nat => some (.ref (Γ.2.2.2.1 r))) (fun S' => WX Γ θ ρ S' Z) post)) ([.ref (θ.1 6), .ref (ρ.1 k), .int y, va_rf (Option.map θ.2 o)] : List Value).toArray s 0 0 (AA Γ)) (F0 m 112 ls []) := by
  have hx := X.1
  have hb := X.2.1
  intro S a4 a5 a6 a7 a8 hw H locs h ls hl
  unfold wxM_doBoth_c112 at hw
  refine lv_iload hx hb dxM_doBoth_112 (lv_at hl 8 rfl) ?_
  refine lv_if_eq (tgt := 136) hx hb dxM_doBoth_114 (by decide) (fun c1 => ?_) (fun c1 => ?_)
  · have hw := hw.1 c1
    exact txM_doBoth_c136 Γ θ ρ Z k y o rec dd hrec post X hr hlk hG S a4 a5 a6 hw _ _ h ls (lv_sub hl [0, 1, 2, 3, 4, 5, 6] rfl)
  · have hw := hw.2 c1
    refine lv_aload hx hb dxM_doBoth_117 (lv_at hl 7 rfl) ?_
    refine gx_xM_178 X hG h dxM_doBoth_119 ?_
    obtain ⟨o2, hw⟩ := hw
    refine x_acmp_ne X hG (tgt := 136) o2 (by decide) dxM_doBoth_122 (by decide) (fun c3 => ?_) (fun c3 => ?_)
    · have hw := hw.1 c3
      exact txM_doBoth_c136 Γ θ ρ Z k y o rec dd hrec post X hr hlk hG S a4 a5 a6 hw _ _ h ls (lv_sub hl [0, 1, 2, 3, 4, 5, 6] rfl)
    · have hw := hw.2 c3
      refine z_aloadQ X dxM_doBoth_125 (lv_at hl 6 rfl) ?_
      refine lv_dup hx hb dxM_doBoth_127 va_rf_cat ?_
      obtain ⟨j4, e5, hw⟩ := hw
      refine W.eq (g2 := F0 m 128 ls [.ref (θ.2 j4), .ref (θ.2 j4)]) (by rw [e5]; rfl) ?_
      have hl : lv_has ls 9 [(0, .ref (θ.1 6)), (1, .ref (ρ.1 k)), (2, .int y), (3, va_rf (Option.map θ.2 o)), (4, .ref (Γ.2.2.2.1 a4)), (5, .int a5), (6, .ref (θ.2 j4)), (7, .ref (Γ.2.2.2.1 a7)), (8, .int a8)] := by rw [e5] at hl; exact hl
      obtain ⟨o6, hw⟩ := hw
      refine gx_xM_194 X hG h o6 (x := S.1 6 j4) rfl dxM_doBoth_128 ?_
      refine lv_iconst (v := 1) hx hb dxM_doBoth_131 (by decide) ?_
      refine lv_iadd hx hb dxM_doBoth_132 ?_
      refine px_xM_194 X hG h o6 dxM_doBoth_133 (fun H locs h => ?_)
      exact txM_doBoth_c136 Γ θ ρ Z k y o rec dd hrec post X hr hlk hG (sR S 6 j4 ((S.1 6 j4) + 1)) a4 a5 (some j4) hw _ _ h ls (lv_sub hl [0, 1, 2, 3, 4, 5, 6] rfl)
def wxM_doBoth_c94 (rec : RecT) (post : Nat → Sg → Prop) (ρ : Rh) (k : Nat) (y : Int32) (o : Option Nat) (S : Sg) (a4 : Nat) (a5 : Int32) (a6 : Option Nat) (a7 : Nat) (b0 : Int32) : Prop := (a7 < 6) ∧ ((a7 = 0) → wxM_doBoth_c112 rec post ρ k y o S a4 a5 a6 a7 b0) ∧ ((¬ (a7 = 0)) → ((¬ (b0 = (0 : Int32))) → wxM_doBoth_c112 rec post ρ k y o S a4 a5 a6 a7 b0) ∧ ((b0 = (0 : Int32)) → post a7 S))
set_option maxHeartbeats 4000000 in
set_option maxRecDepth 100000 in
theorem txM_doBoth_c94 {p : Program} {l : Launch} {e : Env} {s : State} {m : MethodId} {below : List Frame} {meth : Method} {c : Code} (Γ : Gm) (θ : Th) (ρ : Rh) (Z : va_W) (k : Nat) (y : Int32) (o : Option Nat)  (rec : RecT) (dd : Nat) (hrec : RecM l Γ θ rec dd) (post : Nat → Sg → Prop) (X : CallFix p m c cxM_doBoth 9 s ([.ref (θ.1 6), .ref (ρ.1 k), .int y, va_rf (Option.map θ.2 o)] : List Value).toArray big RxM) (hr : meth.sig.returnType = (some (.object "ThrowScenario$Way"))) (hlk : meth.locks = false) (hG : GX Γ s s.heap) :
    ∀ (S : Sg) (a4 : Nat) (a5 : Int32) (a6 : Option Nat) (a7 : Nat) (b0 : Int32) (hw : wxM_doBoth_c94 rec post ρ k y o S a4 a5 a6 a7 b0) (H : Heap) (locs : List Loc) (h : HS Γ s (WX Γ θ ρ S Z) H locs) (ls : Array Slot) (hl : lv_has ls 9 [(0, .ref (θ.1 6)), (1, .ref (ρ.1 k)), (2, .int y), (3, va_rf (Option.map θ.2 o)), (4, .ref (Γ.2.2.2.1 a4)), (5, .int a5), (6, va_rf (Option.map θ.2 a6)), (7, .ref (Γ.2.2.2.1 a7))]), W p l e { frames := 2 * dd + 13, cells := 0, slots := 0, locals := 60 * dd + 430 } s m ([.ref (θ.1 6), .ref (ρ.1 k), .int y, va_rf (Option.map θ.2 o)] : List Value).toArray below meth c H locs 0 0 (MQ below (QM Γ (KK (fun r : Nat => some (.ref (Γ.2.2.2.1 r))) (fun S' => WX Γ θ ρ S' Z) post)) ([.ref (θ.1 6), .ref (ρ.1 k), .int y, va_rf (Option.map θ.2 o)] : List Value).toArray s 0 0 (AA Γ)) (F0 m 94 ls [.int b0]) := by
  have hx := X.1
  have hb := X.2.1
  intro S a4 a5 a6 a7 b0 hw H locs h ls hl
  unfold wxM_doBoth_c94 at hw
  refine lv_istore (lv' := [(8, .int b0), (0, .ref (θ.1 6)), (1, .ref (ρ.1 k)), (2, .int y), (3, va_rf (Option.map θ.2 o)), (4, .ref (Γ.2.2.2.1 a4)), (5, .int a5), (6, va_rf (Option.map θ.2 a6)), (7, .ref (Γ.2.2.2.1 a7))]) hx hb dxM_doBoth_94 hl (by decide) rfl (fun ls hl => ?_)
  refine lv_aload hx hb dxM_doBoth_96 (lv_at hl 8 rfl) ?_
  refine gx_xM_166 X hG h dxM_doBoth_98 ?_
  obtain ⟨o1, hw⟩ := hw
  refine x_acmp_eq X hG (tgt := 112) o1 (by decide) dxM_doBoth_101 (by decide) (fun c2 => ?_) (fun c2 => ?_)
  · have hw := hw.1 c2
    exact txM_doBoth_c112 Γ θ ρ Z k y o rec dd hrec post X hr hlk hG S a4 a5 a6 a7 b0 hw _ _ h ls (lv_sub hl [1, 2, 3, 4, 5, 6, 7, 8, 0] rfl)
  · have hw := hw.2 c2
    refine lv_iload hx hb dxM_doBoth_104 (lv_at hl 0 rfl) ?_
    refine lv_if_ne (tgt := 112) hx hb dxM_doBoth_106 (by decide) (fun c7 => ?_) (fun c7 => ?_)
    · have hw := hw.1 c7
      exact txM_doBoth_c112 Γ θ ρ Z k y o rec dd hrec post X hr hlk hG S a4 a5 a6 a7 b0 hw _ _ h ls (lv_sub hl [1, 2, 3, 4, 5, 6, 7, 8, 0] rfl)
    · have hw := hw.2 c7
      refine lv_aload hx hb dxM_doBoth_109 (lv_at hl 8 rfl) ?_
      exact z_aret X hr hlk h (Or.inr ⟨_, rfl⟩) ⟨_, _, rfl, rfl, hw⟩ dxM_doBoth_111
def wxM_doBoth_c52 (rec : RecT) (post : Nat → Sg → Prop) (ρ : Rh) (k : Nat) (y : Int32) (o : Option Nat) (S : Sg) (a4 : Nat) (a5 : Int32) (a6 : Option Nat) : Prop := (k < ρ.2.1) ∧ rec (fun r2 S3 => ((¬ ((ρ.2.2.1 0 k) = (15 : Int32))) → wxM_doBoth_c94 rec post ρ k y o S3 a4 a5 a6 r2 (0 : Int32)) ∧ (((ρ.2.2.1 0 k) = (15 : Int32)) → (a4 < 6) ∧ ((¬ (a4 = 3)) → wxM_doBoth_c94 rec post ρ k y o S3 a4 a5 a6 r2 (0 : Int32)) ∧ ((a4 = 3) → (r2 < 6) ∧ ((¬ ((er r2) = (0 : Int32))) → wxM_doBoth_c94 rec post ρ k y o S3 a4 a5 a6 r2 (0 : Int32)) ∧ (((er r2) = (0 : Int32)) → wxM_doBoth_c94 rec post ρ k y o S3 a4 a5 a6 r2 (1 : Int32))))) ρ S (ρ.2.2.1 2 k) y o
set_option maxHeartbeats 4000000 in
set_option maxRecDepth 100000 in
theorem txM_doBoth_c52 {p : Program} {l : Launch} {e : Env} {s : State} {m : MethodId} {below : List Frame} {meth : Method} {c : Code} (Γ : Gm) (θ : Th) (ρ : Rh) (Z : va_W) (k : Nat) (y : Int32) (o : Option Nat)  (rec : RecT) (dd : Nat) (hrec : RecM l Γ θ rec dd) (post : Nat → Sg → Prop) (X : CallFix p m c cxM_doBoth 9 s ([.ref (θ.1 6), .ref (ρ.1 k), .int y, va_rf (Option.map θ.2 o)] : List Value).toArray big RxM) (hr : meth.sig.returnType = (some (.object "ThrowScenario$Way"))) (hlk : meth.locks = false) (hG : GX Γ s s.heap) :
    ∀ (S : Sg) (a4 : Nat) (a5 : Int32) (a6 : Option Nat) (hw : wxM_doBoth_c52 rec post ρ k y o S a4 a5 a6) (H : Heap) (locs : List Loc) (h : HS Γ s (WX Γ θ ρ S Z) H locs) (ls : Array Slot) (hl : lv_has ls 9 [(0, .ref (θ.1 6)), (1, .ref (ρ.1 k)), (2, .int y), (3, va_rf (Option.map θ.2 o)), (4, .ref (Γ.2.2.2.1 a4)), (5, .int a5), (6, va_rf (Option.map θ.2 a6))]), W p l e { frames := 2 * dd + 13, cells := 0, slots := 0, locals := 60 * dd + 430 } s m ([.ref (θ.1 6), .ref (ρ.1 k), .int y, va_rf (Option.map θ.2 o)] : List Value).toArray below meth c H locs 0 0 (MQ below (QM Γ (KK (fun r : Nat => some (.ref (Γ.2.2.2.1 r))) (fun S' => WX Γ θ ρ S' Z) post)) ([.ref (θ.1 6), .ref (ρ.1 k), .int y, va_rf (Option.map θ.2 o)] : List Value).toArray s 0 0 (AA Γ)) (F0 m 52 ls []) := by
  have hx := X.1
  have hb := X.2.1
  intro S a4 a5 a6 hw H locs h ls hl
  unfold wxM_doBoth_c52 at hw
  refine lv_aload_n hx hb dxM_doBoth_52 rfl (lv_at hl 0 rfl) ?_
  refine lv_aload_n hx hb dxM_doBoth_53 rfl (lv_at hl 1 rfl) ?_
  obtain ⟨o1, hw⟩ := hw
  refine gx_xM_139 X hG h o1 (x := ρ.2.2.1 2 k) rfl dxM_doBoth_54 ?_
  refine lv_iload_n hx hb dxM_doBoth_57 rfl (lv_at hl 2 rfl) ?_
  refine z_aload_nQ X dxM_doBoth_58 rfl (lv_at hl 3 rfl) ?_
  refine cx_xM_71 (As := [.int (ρ.2.2.1 2 k), .int y, va_rf (Option.map θ.2 o)]) (rest := []) X hG h hl.1 (hrec  ρ S Z (ρ.2.2.1 2 k) y o _ hw) ⟨show (2 * dd + 12) + 1 ≤ (2 * dd + 13) from by omega, show 8 + (5 + 11) + (60 * dd + 400) ≤ (60 * dd + 430) from by omega⟩ (q0 := 6) rfl rfl (Nat.le_of_ble_eq_true rfl) dxM_doBoth_59 ⟨Nat.le_of_ble_eq_true rfl, Nat.le_of_ble_eq_true rfl⟩ (fun v W1 hK H locs h => ?_)
  obtain ⟨r2, S3, rfl, rfl, hw⟩ := hK
  refine W.eq (g2 := F0 m 62 ls [.ref (Γ.2.2.2.1 r2)]) rfl ?_
  refine lv_astore (lv' := [(7, .ref (Γ.2.2.2.1 r2)), (0, .ref (θ.1 6)), (1, .ref (ρ.1 k)), (2, .int y), (3, va_rf (Option.map θ.2 o)), (4, .ref (Γ.2.2.2.1 a4)), (5, .int a5), (6, va_rf (Option.map θ.2 a6))]) hx hb dxM_doBoth_62 hl (by decide) (by simp [List.filter_cons, va_rf_cat]) (fun ls hl => ?_)
  refine lv_aload_n hx hb dxM_doBoth_64 rfl (lv_at hl 2 rfl) ?_
  refine gx_xM_95 X hG h o1 (x := ρ.2.2.1 0 k) rfl dxM_doBoth_65 ?_
  refine lv_bipush (v := 15) hx hb dxM_doBoth_68 (by decide) ?_
  refine lv_icmp_ne (tgt := 93) hx hb dxM_doBoth_70 (by decide) (fun c4 => ?_) (fun c4 => ?_)
  · have hw := hw.1 c4
    refine lv_iconst (v := 0) hx hb dxM_doBoth_93 (by decide) ?_
    exact txM_doBoth_c94 Γ θ ρ Z k y o rec dd hrec post X hr hlk hG S3 a4 a5 a6 r2 (0 : Int32) hw _ _ h ls (lv_sub hl [1, 2, 3, 4, 5, 6, 7, 0] rfl)
  · have hw := hw.2 c4
    refine lv_aload hx hb dxM_doBoth_73 (lv_at hl 5 rfl) ?_
    refine gx_xM_178 X hG h dxM_doBoth_75 ?_
    obtain ⟨o8, hw⟩ := hw
    refine x_acmp_ne X hG (tgt := 93) o8 (by decide) dxM_doBoth_78 (by decide) (fun c9 => ?_) (fun c9 => ?_)
    · have hw := hw.1 c9
      refine lv_iconst (v := 0) hx hb dxM_doBoth_93 (by decide) ?_
      exact txM_doBoth_c94 Γ θ ρ Z k y o rec dd hrec post X hr hlk hG S3 a4 a5 a6 r2 (0 : Int32) hw _ _ h ls (lv_sub hl [1, 2, 3, 4, 5, 6, 7, 0] rfl)
    · have hw := hw.2 c9
      refine lv_aload hx hb dxM_doBoth_81 (lv_at hl 0 rfl) ?_
      obtain ⟨o10, hw⟩ := hw
      refine gx_xM_181 X hG h o10 dxM_doBoth_83 ?_
      refine lv_if_ne (tgt := 93) hx hb dxM_doBoth_86 (by decide) (fun c11 => ?_) (fun c11 => ?_)
      · have hw := hw.1 c11
        refine lv_iconst (v := 0) hx hb dxM_doBoth_93 (by decide) ?_
        exact txM_doBoth_c94 Γ θ ρ Z k y o rec dd hrec post X hr hlk hG S3 a4 a5 a6 r2 (0 : Int32) hw _ _ h ls (lv_sub hl [1, 2, 3, 4, 5, 6, 7, 0] rfl)
      · have hw := hw.2 c11
        refine lv_iconst (v := 1) hx hb dxM_doBoth_89 (by decide) ?_
        refine lv_goto (tgt := 94) hx hb dxM_doBoth_90 (by decide) ?_
        exact txM_doBoth_c94 Γ θ ρ Z k y o rec dd hrec post X hr hlk hG S3 a4 a5 a6 r2 (1 : Int32) hw _ _ h ls (lv_sub hl [1, 2, 3, 4, 5, 6, 7, 0] rfl)
def wxM_doBoth (rec : RecT) (post : Nat → Sg → Prop) (ρ : Rh) (S : Sg) (k : Nat) (y : Int32) (o : Option Nat) : Prop := (k < ρ.2.1) ∧ rec (fun r2 S3 => (r2 < 6) ∧ (((er r2) = (0 : Int32)) → wxM_mayBegin (fun r6 S7 => ((r6 = (0 : Int32)) → wxM_doBoth_c52 rec post ρ k y o S7 r2 (S3.1 7 6) (S3.2 300)) ∧ ((¬ (r6 = (0 : Int32))) → wxM_doBoth_c52 rec post ρ k y o (sR S7 7 4 ((S7.1 7 4) + 1)) r2 (S3.1 7 6) (S3.2 300))) ρ S3 ) ∧ ((¬ ((er r2) = (0 : Int32))) → post r2 S3)) ρ S (ρ.2.2.1 1 k) y o
set_option maxHeartbeats 4000000 in
set_option maxRecDepth 100000 in
theorem mxM_doBoth (l : Launch) (Γ : Gm) (θ : Th) (ρ : Rh) (S : Sg) (Z : va_W) (k : Nat) (y : Int32) (o : Option Nat) (rec : RecT) (dd : Nat) (hrec : RecM l Γ θ rec dd) (post : Nat → Sg → Prop) (hw : wxM_doBoth rec post ρ S k y o) : MM l yxM_doBoth cxM_doBoth 9 (some (.object "ThrowScenario$Way")) (2 * dd + 13) (60 * dd + 430) Γ [.ref (θ.1 6), .ref (ρ.1 k), .int y, va_rf (Option.map θ.2 o)] (WX Γ θ ρ S Z) (KK (fun r : Nat => some (.ref (Γ.2.2.2.1 r))) (fun S' => WX Γ θ ρ S' Z) post) 0 0 := by
  refine MM_of (by decide) (by cases o <;> exact Nat.le_of_ble_eq_true rfl) ?_
  intro p e s m below meth c X hr hlk hnm hG h ls hl
  have hx := X.1
  have hb := X.2.1
  have hl : lv_has ls 9 [(0, .ref (θ.1 6)), (1, .ref (ρ.1 k)), (2, .int y), (3, va_rf (Option.map θ.2 o))] := hl
  unfold wxM_doBoth at hw
  refine lv_aload_n hx hb dxM_doBoth_0 rfl (lv_at hl 0 rfl) ?_
  refine lv_aload_n hx hb dxM_doBoth_1 rfl (lv_at hl 1 rfl) ?_
  obtain ⟨o1, hw⟩ := hw
  refine gx_xM_126 X hG h o1 (x := ρ.2.2.1 1 k) rfl dxM_doBoth_2 ?_
  refine lv_iload_n hx hb dxM_doBoth_5 rfl (lv_at hl 2 rfl) ?_
  refine z_aload_nQ X dxM_doBoth_6 rfl (lv_at hl 3 rfl) ?_
  refine cx_xM_71 (As := [.int (ρ.2.2.1 1 k), .int y, va_rf (Option.map θ.2 o)]) (rest := []) X hG h hl.1 (hrec  ρ S Z (ρ.2.2.1 1 k) y o _ hw) ⟨show (2 * dd + 12) + 1 ≤ (2 * dd + 13) from by omega, show 8 + (5 + 11) + (60 * dd + 400) ≤ (60 * dd + 430) from by omega⟩ (q0 := 6) rfl rfl (Nat.le_of_ble_eq_true rfl) dxM_doBoth_7 ⟨Nat.le_of_ble_eq_true rfl, Nat.le_of_ble_eq_true rfl⟩ (fun v W1 hK H locs h => ?_)
  obtain ⟨r2, S3, rfl, rfl, hw⟩ := hK
  refine W.eq (g2 := F0 m 10 ls [.ref (Γ.2.2.2.1 r2)]) rfl ?_
  refine lv_astore (lv' := [(4, .ref (Γ.2.2.2.1 r2)), (0, .ref (θ.1 6)), (1, .ref (ρ.1 k)), (2, .int y), (3, va_rf (Option.map θ.2 o))]) hx hb dxM_doBoth_10 hl (by decide) (by simp [List.filter_cons, va_rf_cat]) (fun ls hl => ?_)
  refine lv_aload hx hb dxM_doBoth_12 (lv_at hl 0 rfl) ?_
  obtain ⟨o4, hw⟩ := hw
  refine gx_xM_181 X hG h o4 dxM_doBoth_14 ?_
  refine lv_if_eq (tgt := 23) hx hb dxM_doBoth_17 (by decide) (fun c5 => ?_) (fun c5 => ?_)
  · have hw := hw.1 c5
    refine lv_aload_n hx hb dxM_doBoth_23 rfl (lv_at hl 1 rfl) ?_
    refine gx_xM_48 X hG h (x := S3.1 7 6) rfl dxM_doBoth_24 ?_
    refine lv_istore (lv' := [(5, .int (S3.1 7 6)), (4, .ref (Γ.2.2.2.1 r2)), (0, .ref (θ.1 6)), (1, .ref (ρ.1 k)), (2, .int y), (3, va_rf (Option.map θ.2 o))]) hx hb dxM_doBoth_27 hl (by decide) rfl (fun ls hl => ?_)
    refine lv_aload_n hx hb dxM_doBoth_29 rfl (lv_at hl 2 rfl) ?_
    refine gx_xM_63 X hG h (x := S3.2 300) rfl dxM_doBoth_30 ?_
    refine z_astoreQ (lv' := [(6, va_rf (Option.map θ.2 (S3.2 300))), (5, .int (S3.1 7 6)), (4, .ref (Γ.2.2.2.1 r2)), (0, .ref (θ.1 6)), (1, .ref (ρ.1 k)), (2, .int y), (3, va_rf (Option.map θ.2 o))]) X dxM_doBoth_33 hl (by decide) rfl (fun ls hl => ?_)
    refine lv_aload_n hx hb dxM_doBoth_35 rfl (lv_at hl 3 rfl) ?_
    refine cx_xM_75 (As := []) (rest := []) X hG h hl.1 (mxM_mayBegin l Γ θ ρ S3 Z  _ hw) ⟨show 0 + 1 ≤ (2 * dd + 13) from by omega, show 8 + (1 + 11) + 0 ≤ (60 * dd + 430) from by omega⟩ (q0 := 6) rfl rfl (Nat.le_of_ble_eq_true rfl) dxM_doBoth_36 ⟨Nat.le_of_ble_eq_true rfl, Nat.le_of_ble_eq_true rfl⟩ (fun v W1 hK H locs h => ?_)
    obtain ⟨r6, S7, rfl, rfl, hw⟩ := hK
    refine W.eq (g2 := F0 m 39 ls [.int r6]) rfl ?_
    refine lv_if_eq (tgt := 52) hx hb dxM_doBoth_39 (by decide) (fun c8 => ?_) (fun c8 => ?_)
    · have hw := hw.1 c8
      exact txM_doBoth_c52 Γ θ ρ Z k y o rec dd hrec post X hr hlk hG S7 r2 (S3.1 7 6) (S3.2 300) hw _ _ h ls (lv_sub hl [3, 4, 5, 6, 2, 1, 0] rfl)
    · have hw := hw.2 c8
      refine lv_aload_n hx hb dxM_doBoth_42 rfl (lv_at hl 3 rfl) ?_
      refine lv_dup hx hb dxM_doBoth_43 rfl ?_
      refine gx_xM_42 X hG h (x := S7.1 7 4) rfl dxM_doBoth_44 ?_
      refine lv_iconst (v := 1) hx hb dxM_doBoth_47 (by decide) ?_
      refine lv_iadd hx hb dxM_doBoth_48 ?_
      refine px_xM_42 X hG h dxM_doBoth_49 (fun H locs h => ?_)
      exact txM_doBoth_c52 Γ θ ρ Z k y o rec dd hrec post X hr hlk hG (sR S7 7 4 ((S7.1 7 4) + 1)) r2 (S3.1 7 6) (S3.2 300) hw _ _ h ls (lv_sub hl [3, 4, 5, 6, 2, 1, 0] rfl)
  · have hw := hw.2 c5
    refine lv_aload hx hb dxM_doBoth_20 (lv_at hl 0 rfl) ?_
    exact z_aret X hr hlk h (Or.inr ⟨_, rfl⟩) ⟨_, _, rfl, rfl, hw⟩ dxM_doBoth_22
def wxM_lock (rec : RecT) (post : Nat → Sg → Prop) (ρ : Rh) (S : Sg) (k : Nat) (y : Int32) (o : Option Nat) : Prop := (k < ρ.2.1) ∧ (vp_in (ρ.2.2.1 1 k) 2) ∧ rec (fun r3 S4 => (r3 < 6) ∧ ((¬ ((er r3) = (0 : Int32))) → post r3 S4) ∧ (((er r3) = (0 : Int32)) → post r3 (sR S4 1 ((ρ.2.2.1 1 k).toNatClampNeg) ((S4.1 1 ((ρ.2.2.1 1 k).toNatClampNeg)) - 1)))) ρ (sR S 1 ((ρ.2.2.1 1 k).toNatClampNeg) ((S.1 1 ((ρ.2.2.1 1 k).toNatClampNeg)) + 1)) (ρ.2.2.1 2 k) y o
set_option maxHeartbeats 4000000 in
set_option maxRecDepth 100000 in
theorem mxM_lock (l : Launch) (Γ : Gm) (θ : Th) (ρ : Rh) (S : Sg) (Z : va_W) (k : Nat) (y : Int32) (o : Option Nat) (rec : RecT) (dd : Nat) (hrec : RecM l Γ θ rec dd) (post : Nat → Sg → Prop) (hw : wxM_lock rec post ρ S k y o) : MM l yxM_lock cxM_lock 5 (some (.object "ThrowScenario$Way")) (2 * dd + 13) (60 * dd + 430) Γ [.ref (θ.1 6), .ref (ρ.1 k), .int y, va_rf (Option.map θ.2 o)] (WX Γ θ ρ S Z) (KK (fun r : Nat => some (.ref (Γ.2.2.2.1 r))) (fun S' => WX Γ θ ρ S' Z) post) 0 0 := by
  refine MM_of (by decide) (by cases o <;> exact Nat.le_of_ble_eq_true rfl) ?_
  intro p e s m below meth c X hr hlk hnm hG h ls hl
  have hx := X.1
  have hb := X.2.1
  have hl : lv_has ls 5 [(0, .ref (θ.1 6)), (1, .ref (ρ.1 k)), (2, .int y), (3, va_rf (Option.map θ.2 o))] := hl
  unfold wxM_lock at hw
  refine lv_aload_n hx hb dxM_lock_0 rfl (lv_at hl 0 rfl) ?_
  refine gx_xM_17 X hG h dxM_lock_1 ?_
  refine lv_aload_n hx hb dxM_lock_4 rfl (lv_at hl 1 rfl) ?_
  obtain ⟨o1, hw⟩ := hw
  refine gx_xM_126 X hG h o1 (x := ρ.2.2.1 1 k) rfl dxM_lock_5 ?_
  refine lv_dup2_11 hx hb dxM_lock_8 rfl rfl ?_
  obtain ⟨o2, hw⟩ := hw
  refine lx_8 X hG h o2 (x := S.1 1 ((ρ.2.2.1 1 k).toNatClampNeg)) rfl dxM_lock_9 ?_
  refine lv_iconst (v := 1) hx hb dxM_lock_10 (by decide) ?_
  refine lv_iadd hx hb dxM_lock_11 ?_
  refine sx_8 X hG h o2 dxM_lock_12 (fun H locs h => ?_)
  refine lv_aload_n hx hb dxM_lock_13 rfl (lv_at hl 0 rfl) ?_
  refine lv_aload_n hx hb dxM_lock_14 rfl (lv_at hl 1 rfl) ?_
  refine gx_xM_139 X hG h o1 (x := ρ.2.2.1 2 k) rfl dxM_lock_15 ?_
  refine lv_iload_n hx hb dxM_lock_18 rfl (lv_at hl 2 rfl) ?_
  refine z_aload_nQ X dxM_lock_19 rfl (lv_at hl 3 rfl) ?_
  refine cx_xM_71 (As := [.int (ρ.2.2.1 2 k), .int y, va_rf (Option.map θ.2 o)]) (rest := []) X hG h hl.1 (hrec  ρ (sR S 1 ((ρ.2.2.1 1 k).toNatClampNeg) ((S.1 1 ((ρ.2.2.1 1 k).toNatClampNeg)) + 1)) Z (ρ.2.2.1 2 k) y o _ hw) ⟨show (2 * dd + 12) + 1 ≤ (2 * dd + 13) from by omega, show 8 + (5 + 11) + (60 * dd + 400) ≤ (60 * dd + 430) from by omega⟩ (q0 := 6) rfl rfl (Nat.le_of_ble_eq_true rfl) dxM_lock_20 ⟨Nat.le_of_ble_eq_true rfl, Nat.le_of_ble_eq_true rfl⟩ (fun v W1 hK H locs h => ?_)
  obtain ⟨r3, S4, rfl, rfl, hw⟩ := hK
  refine W.eq (g2 := F0 m 23 ls [.ref (Γ.2.2.2.1 r3)]) rfl ?_
  refine lv_astore (lv' := [(4, .ref (Γ.2.2.2.1 r3)), (0, .ref (θ.1 6)), (1, .ref (ρ.1 k)), (2, .int y), (3, va_rf (Option.map θ.2 o))]) hx hb dxM_lock_23 hl (by decide) (by simp [List.filter_cons, va_rf_cat]) (fun ls hl => ?_)
  refine lv_aload hx hb dxM_lock_25 (lv_at hl 0 rfl) ?_
  obtain ⟨o5, hw⟩ := hw
  refine gx_xM_181 X hG h o5 dxM_lock_27 ?_
  refine lv_if_ne (tgt := 46) hx hb dxM_lock_30 (by decide) (fun c6 => ?_) (fun c6 => ?_)
  · have hw := hw.1 c6
    refine lv_aload hx hb dxM_lock_46 (lv_at hl 0 rfl) ?_
    exact z_aret X hr hlk h (Or.inr ⟨_, rfl⟩) ⟨_, _, rfl, rfl, hw⟩ dxM_lock_48
  · have hw := hw.2 c6
    refine lv_aload_n hx hb dxM_lock_33 rfl (lv_at hl 1 rfl) ?_
    refine gx_xM_17 X hG h dxM_lock_34 ?_
    refine lv_aload_n hx hb dxM_lock_37 rfl (lv_at hl 2 rfl) ?_
    refine gx_xM_126 X hG h o1 (x := ρ.2.2.1 1 k) rfl dxM_lock_38 ?_
    refine lv_dup2_11 hx hb dxM_lock_41 rfl rfl ?_
    refine lx_8 X hG h o2 (x := S4.1 1 ((ρ.2.2.1 1 k).toNatClampNeg)) rfl dxM_lock_42 ?_
    refine lv_iconst (v := 1) hx hb dxM_lock_43 (by decide) ?_
    refine lv_isub hx hb dxM_lock_44 ?_
    refine sx_8 X hG h o2 dxM_lock_45 (fun H locs h => ?_)
    refine lv_aload hx hb dxM_lock_46 (lv_at hl 0 rfl) ?_
    exact z_aret X hr hlk h (Or.inr ⟨_, rfl⟩) ⟨_, _, rfl, rfl, hw⟩ dxM_lock_48
def wxM_performB (rec : RecT) (post : Nat → Sg → Prop) (ρ : Rh) (S : Sg) (x : Int32) (y : Int32) (o : Option Nat) : Prop := wxM_mayBegin (fun r1 S2 => ((¬ (r1 = (0 : Int32))) → wxP_at (fun r4 S5 => (r4 < ρ.2.1) ∧ (((ρ.2.2.1 0 r4).toInt < 4 ∨ 21 < (ρ.2.2.1 0 r4).toInt) → wxM_note (fun r10 S11 => post r10 S11) ρ S5 r4 o) ∧ ((ρ.2.2.1 0 r4) = 4 → wxM_sequence rec (fun r12 S13 => post r12 S13) ρ S5 r4 y o) ∧ ((ρ.2.2.1 0 r4) = 5 → wxM_choose rec (fun r14 S15 => post r14 S15) ρ S5 r4 y o) ∧ ((ρ.2.2.1 0 r4) = 6 → wxM_loop rec (fun r16 S17 => post r16 S17) ρ S5 r4 y o) ∧ ((ρ.2.2.1 0 r4) = 7 → post 1 S5) ∧ ((ρ.2.2.1 0 r4) = 8 → (vp_in (ρ.2.2.1 1 r4) 4) ∧ wxM_carry (fun r19 S20 => post r19 S20) ρ S5 (S5.1 0 ((ρ.2.2.1 1 r4).toNatClampNeg)) 2) ∧ ((ρ.2.2.1 0 r4) = 9 → wxM_call rec (fun r21 S22 => post r21 S22) ρ S5 r4 y) ∧ ((ρ.2.2.1 0 r4) = 10 → wxM_raise (fun r23 S24 => post r23 S24) ρ S5 (ρ.2.2.1 1 r4) (ρ.2.2.1 2 r4) none) ∧ ((ρ.2.2.1 0 r4) = 11 → wxM_rethrow (fun r25 S26 => post r25 S26) ρ S5 o) ∧ ((ρ.2.2.1 0 r4) = 12 → wxM_raise (fun r27 S28 => post r27 S28) ρ S5 (ρ.2.2.1 1 r4) (ρ.2.2.1 2 r4) o) ∧ ((ρ.2.2.1 0 r4) = 13 → wxM_tryAndCatch rec (fun r29 S30 => post r29 S30) ρ S5 r4 y o) ∧ ((ρ.2.2.1 0 r4) = 14 → wxM_doBoth rec (fun r31 S32 => post r31 S32) ρ S5 r4 y o) ∧ ((ρ.2.2.1 0 r4) = 15 → wxM_doBoth rec (fun r33 S34 => post r33 S34) ρ S5 r4 y o) ∧ ((ρ.2.2.1 0 r4) = 16 → wxM_divide (fun r35 S36 => post r35 S36) ρ S5 r4) ∧ ((ρ.2.2.1 0 r4) = 17 → wxM_index (fun r37 S38 => post r37 S38) ρ S5 r4) ∧ ((ρ.2.2.1 0 r4) = 18 → wxM_cast (fun r39 S40 => post r39 S40) ρ S5 r4 o) ∧ ((ρ.2.2.1 0 r4) = 19 → (vp_in (ρ.2.2.1 1 r4) 4) ∧ wxM_carry (fun r42 S43 => post r42 S43) ρ S5 ((S5.1 0 ((ρ.2.2.1 1 r4).toNatClampNeg)) &&& 255) 4) ∧ ((ρ.2.2.1 0 r4) = 20 → wxM_lock rec (fun r44 S45 => post r44 S45) ρ S5 r4 y o) ∧ ((ρ.2.2.1 0 r4) = 21 → wxM_wake (fun r46 S47 => post r46 S47) ρ S5 r4)) ρ (sR (sR S2 7 2 ((S2.1 7 2) + 1)) 7 5 (if (S2.1 7 5) < y then y else (S2.1 7 5))) x) ∧ ((r1 = (0 : Int32)) → post 5 S2)) ρ S 
set_option maxHeartbeats 4000000 in
set_option maxRecDepth 100000 in
theorem mxM_performB (l : Launch) (Γ : Gm) (θ : Th) (ρ : Rh) (S : Sg) (Z : va_W) (x : Int32) (y : Int32) (o : Option Nat) (rec : RecT) (dd : Nat) (hrec : RecM l Γ θ rec dd) (post : Nat → Sg → Prop) (hw : wxM_performB rec post ρ S x y o) : MM l yxM_perform cxM_perform 5 (some (.object "ThrowScenario$Way")) (2 * dd + 14) (60 * dd + 460) Γ [.ref (θ.1 6), .int x, .int y, va_rf (Option.map θ.2 o)] (WX Γ θ ρ S Z) (KK (fun r : Nat => some (.ref (Γ.2.2.2.1 r))) (fun S' => WX Γ θ ρ S' Z) post) 0 0 := by
  refine MM_of (by decide) (by cases o <;> exact Nat.le_of_ble_eq_true rfl) ?_
  intro p e s m below meth c X hr hlk hnm hG h ls hl
  have hx := X.1
  have hb := X.2.1
  have hl : lv_has ls 5 [(0, .ref (θ.1 6)), (1, .int x), (2, .int y), (3, va_rf (Option.map θ.2 o))] := hl
  unfold wxM_performB at hw
  refine lv_aload_n hx hb dxM_perform_0 rfl (lv_at hl 0 rfl) ?_
  refine cx_xM_75 (As := []) (rest := []) X hG h hl.1 (mxM_mayBegin l Γ θ ρ S Z  _ hw) ⟨show 0 + 1 ≤ (2 * dd + 14) from by omega, show 8 + (1 + 11) + 0 ≤ (60 * dd + 460) from by omega⟩ (q0 := 6) rfl rfl (Nat.le_of_ble_eq_true rfl) dxM_perform_1 ⟨Nat.le_of_ble_eq_true rfl, Nat.le_of_ble_eq_true rfl⟩ (fun v W1 hK H locs h => ?_)
  obtain ⟨r1, S2, rfl, rfl, hw⟩ := hK
  refine W.eq (g2 := F0 m 4 ls [.int r1]) rfl ?_
  refine lv_if_ne (tgt := 11) hx hb dxM_perform_4 (by decide) (fun c3 => ?_) (fun c3 => ?_)
  · have hw := hw.1 c3
    refine lv_aload_n hx hb dxM_perform_11 rfl (lv_at hl 0 rfl) ?_
    refine lv_dup hx hb dxM_perform_12 rfl ?_
    refine gx_xM_36 X hG h (x := S2.1 7 2) rfl dxM_perform_13 ?_
    refine lv_iconst (v := 1) hx hb dxM_perform_16 (by decide) ?_
    refine lv_iadd hx hb dxM_perform_17 ?_
    refine px_xM_36 X hG h dxM_perform_18 (fun H locs h => ?_)
    refine lv_aload_n hx hb dxM_perform_21 rfl (lv_at hl 0 rfl) ?_
    refine lv_aload_n hx hb dxM_perform_22 rfl (lv_at hl 0 rfl) ?_
    refine gx_xM_45 X hG h (x := S2.1 7 5) rfl dxM_perform_23 ?_
    refine lv_iload_n hx hb dxM_perform_26 rfl (lv_at hl 2 rfl) ?_
    refine va_mmax hx hb (by rw [hl.1]; exact X.2.2.1) X.2.2.2.1 (X.2.2.2.2 _ kM_xM_85.1) (X.2.2.2.2 _ kM_xM_85.2.1) (X.2.2.2.2 _ kM_xM_85.2.2.1) (X.2.2.2.2 _ kM_xM_85.2.2.2) (show 1 ≤ (2 * dd + 14) from by omega) (Nat.le_trans (Nat.add_le_add_right (m := 8) (Nat.le_of_ble_eq_true rfl) 13) (show 8 + 13 ≤ (60 * dd + 460) from by omega)) (Nat.zero_le _) (Nat.zero_le _) dxM_perform_27 ?_
    refine px_xM_45 X hG h dxM_perform_30 (fun H locs h => ?_)
    refine lv_aload_n hx hb dxM_perform_33 rfl (lv_at hl 0 rfl) ?_
    refine gx_xM_51 X hG h dxM_perform_34 ?_
    refine lv_iload_n hx hb dxM_perform_37 rfl (lv_at hl 1 rfl) ?_
    refine cx_xM_91 (As := [.int x]) (rest := []) X hG h hl.1 (mxP_at l Γ θ ρ (sR (sR S2 7 2 ((S2.1 7 2) + 1)) 7 5 (if (S2.1 7 5) < y then y else (S2.1 7 5))) Z x _ hw) ⟨show 0 + 1 ≤ (2 * dd + 14) from by omega, show 8 + (2 + 11) + 0 ≤ (60 * dd + 460) from by omega⟩ (q0 := 3) rfl rfl (Nat.le_of_ble_eq_true rfl) dxM_perform_38 ⟨Nat.le_of_ble_eq_true rfl, Nat.le_of_ble_eq_true rfl⟩ (fun v W1 hK H locs h => ?_)
    obtain ⟨r4, S5, rfl, rfl, hw⟩ := hK
    refine W.eq (g2 := F0 m 41 ls [.ref (ρ.1 r4)]) rfl ?_
    refine lv_astore (lv' := [(4, .ref (ρ.1 r4)), (0, .ref (θ.1 6)), (1, .int x), (2, .int y), (3, va_rf (Option.map θ.2 o))]) hx hb dxM_perform_41 hl (by decide) (by simp [List.filter_cons, va_rf_cat]) (fun ls hl => ?_)
    refine lv_aload hx hb dxM_perform_43 (lv_at hl 0 rfl) ?_
    obtain ⟨o6, hw⟩ := hw
    refine gx_xM_95 X hG h o6 (x := ρ.2.2.1 0 r4) rfl dxM_perform_45 ?_
    by_cases c7 : (ρ.2.2.1 0 r4).toInt < 4 ∨ 21 < (ρ.2.2.1 0 r4).toInt
    · have hw := hw.1 c7
      refine lv_tableOut (tgt := 309) hx hb dxM_perform_48 c7 (by decide) ?_
      refine lv_aload_n hx hb dxM_perform_309 rfl (lv_at hl 1 rfl) ?_
      refine lv_aload hx hb dxM_perform_310 (lv_at hl 0 rfl) ?_
      refine z_aload_nQ X dxM_perform_312 rfl (lv_at hl 4 rfl) ?_
      refine cx_xM_163 (As := [.ref (ρ.1 r4), va_rf (Option.map θ.2 o)]) (rest := []) X hG h hl.1 (mxM_note l Γ θ ρ S5 Z r4 o _ hw) ⟨show 1 + 1 ≤ (2 * dd + 14) from by omega, show 8 + (3 + 11) + 21 ≤ (60 * dd + 460) from by omega⟩ (q0 := 6) rfl rfl (Nat.le_of_ble_eq_true rfl) dxM_perform_313 ⟨Nat.le_of_ble_eq_true rfl, Nat.le_of_ble_eq_true rfl⟩ (fun v W1 hK H locs h => ?_)
      obtain ⟨r10, S11, rfl, rfl, hw⟩ := hK
      refine W.eq (g2 := F0 m 316 ls [.ref (Γ.2.2.2.1 r10)]) rfl ?_
      exact z_aret X hr hlk h (Or.inr ⟨_, rfl⟩) ⟨_, _, rfl, rfl, hw⟩ dxM_perform_316
    · have hw := hw.2
      obtain ⟨j9, j_h, e8⟩ := sw_in (lo := 4) (n := 17) c7
      match j9, j_h, e8 with
      | 0, _, e8 =>
        have e8 : (ρ.2.2.1 0 r4) = 4 := e8
        have hw := hw.1 e8
        refine lv_tableIn (off := 88) (tgt := 136) hx hb dxM_perform_48 (by rw [e8]; decide) (by rw [e8]; decide) (by rw [e8]; rfl) (by decide) ?_
        refine lv_aload_n hx hb dxM_perform_136 rfl (lv_at hl 1 rfl) ?_
        refine lv_aload hx hb dxM_perform_137 (lv_at hl 0 rfl) ?_
        refine lv_iload_n hx hb dxM_perform_139 rfl (lv_at hl 3 rfl) ?_
        refine z_aload_nQ X dxM_perform_140 rfl (lv_at hl 4 rfl) ?_
        refine cx_xM_100 (As := [.ref (ρ.1 r4), .int y, va_rf (Option.map θ.2 o)]) (rest := []) X hG h hl.1 (mxM_sequence l Γ θ ρ S5 Z r4 y o rec dd hrec _ hw) ⟨show 2 * dd + 13 + 1 ≤ (2 * dd + 14) from by omega, show 8 + (5 + 11) + (60 * dd + 430) ≤ (60 * dd + 460) from by omega⟩ (q0 := 6) rfl rfl (Nat.le_of_ble_eq_true rfl) dxM_perform_141 ⟨Nat.le_of_ble_eq_true rfl, Nat.le_of_ble_eq_true rfl⟩ (fun v W1 hK H locs h => ?_)
        obtain ⟨r12, S13, rfl, rfl, hw⟩ := hK
        refine W.eq (g2 := F0 m 144 ls [.ref (Γ.2.2.2.1 r12)]) rfl ?_
        exact z_aret X hr hlk h (Or.inr ⟨_, rfl⟩) ⟨_, _, rfl, rfl, hw⟩ dxM_perform_144
      | 1, _, e8 =>
        have e8 : (ρ.2.2.1 0 r4) = 5 := e8
        have hw := hw.2.1 e8
        refine lv_tableIn (off := 97) (tgt := 145) hx hb dxM_perform_48 (by rw [e8]; decide) (by rw [e8]; decide) (by rw [e8]; rfl) (by decide) ?_
        refine lv_aload_n hx hb dxM_perform_145 rfl (lv_at hl 1 rfl) ?_
        refine lv_aload hx hb dxM_perform_146 (lv_at hl 0 rfl) ?_
        refine lv_iload_n hx hb dxM_perform_148 rfl (lv_at hl 3 rfl) ?_
        refine z_aload_nQ X dxM_perform_149 rfl (lv_at hl 4 rfl) ?_
        refine cx_xM_104 (As := [.ref (ρ.1 r4), .int y, va_rf (Option.map θ.2 o)]) (rest := []) X hG h hl.1 (mxM_choose l Γ θ ρ S5 Z r4 y o rec dd hrec _ hw) ⟨show 2 * dd + 13 + 1 ≤ (2 * dd + 14) from by omega, show 8 + (5 + 11) + (60 * dd + 430) ≤ (60 * dd + 460) from by omega⟩ (q0 := 6) rfl rfl (Nat.le_of_ble_eq_true rfl) dxM_perform_150 ⟨Nat.le_of_ble_eq_true rfl, Nat.le_of_ble_eq_true rfl⟩ (fun v W1 hK H locs h => ?_)
        obtain ⟨r14, S15, rfl, rfl, hw⟩ := hK
        refine W.eq (g2 := F0 m 153 ls [.ref (Γ.2.2.2.1 r14)]) rfl ?_
        exact z_aret X hr hlk h (Or.inr ⟨_, rfl⟩) ⟨_, _, rfl, rfl, hw⟩ dxM_perform_153
      | 2, _, e8 =>
        have e8 : (ρ.2.2.1 0 r4) = 6 := e8
        have hw := hw.2.2.1 e8
        refine lv_tableIn (off := 106) (tgt := 154) hx hb dxM_perform_48 (by rw [e8]; decide) (by rw [e8]; decide) (by rw [e8]; rfl) (by decide) ?_
        refine lv_aload_n hx hb dxM_perform_154 rfl (lv_at hl 1 rfl) ?_
        refine lv_aload hx hb dxM_perform_155 (lv_at hl 0 rfl) ?_
        refine lv_iload_n hx hb dxM_perform_157 rfl (lv_at hl 3 rfl) ?_
        refine z_aload_nQ X dxM_perform_158 rfl (lv_at hl 4 rfl) ?_
        refine cx_xM_107 (As := [.ref (ρ.1 r4), .int y, va_rf (Option.map θ.2 o)]) (rest := []) X hG h hl.1 (mxM_loop l Γ θ ρ S5 Z r4 y o rec dd hrec _ hw) ⟨show 2 * dd + 13 + 1 ≤ (2 * dd + 14) from by omega, show 8 + (6 + 11) + (60 * dd + 430) ≤ (60 * dd + 460) from by omega⟩ (q0 := 6) rfl rfl (Nat.le_of_ble_eq_true rfl) dxM_perform_159 ⟨Nat.le_of_ble_eq_true rfl, Nat.le_of_ble_eq_true rfl⟩ (fun v W1 hK H locs h => ?_)
        obtain ⟨r16, S17, rfl, rfl, hw⟩ := hK
        refine W.eq (g2 := F0 m 162 ls [.ref (Γ.2.2.2.1 r16)]) rfl ?_
        exact z_aret X hr hlk h (Or.inr ⟨_, rfl⟩) ⟨_, _, rfl, rfl, hw⟩ dxM_perform_162
      | 3, _, e8 =>
        have e8 : (ρ.2.2.1 0 r4) = 7 := e8
        have hw := hw.2.2.2.1 e8
        refine lv_tableIn (off := 150) (tgt := 198) hx hb dxM_perform_48 (by rw [e8]; decide) (by rw [e8]; decide) (by rw [e8]; rfl) (by decide) ?_
        refine gx_xM_123 X hG h dxM_perform_198 ?_
        exact z_aret X hr hlk h (Or.inr ⟨_, rfl⟩) ⟨_, _, rfl, rfl, hw⟩ dxM_perform_201
      | 4, _, e8 =>
        have e8 : (ρ.2.2.1 0 r4) = 8 := e8
        have hw := hw.2.2.2.2.1 e8
        refine lv_tableIn (off := 154) (tgt := 202) hx hb dxM_perform_48 (by rw [e8]; decide) (by rw [e8]; decide) (by rw [e8]; rfl) (by decide) ?_
        refine lv_aload_n hx hb dxM_perform_202 rfl (lv_at hl 1 rfl) ?_
        refine lv_aload_n hx hb dxM_perform_203 rfl (lv_at hl 1 rfl) ?_
        refine gx_xM_11 X hG h dxM_perform_204 ?_
        refine lv_aload hx hb dxM_perform_207 (lv_at hl 0 rfl) ?_
        refine gx_xM_126 X hG h o6 (x := ρ.2.2.1 1 r4) rfl dxM_perform_209 ?_
        obtain ⟨o18, hw⟩ := hw
        refine lx_7 X hG h o18 (x := S5.1 0 ((ρ.2.2.1 1 r4).toNatClampNeg)) rfl dxM_perform_212 ?_
        refine gx_xM_129 X hG h dxM_perform_213 ?_
        refine cx_xM_132 (As := [.int (S5.1 0 ((ρ.2.2.1 1 r4).toNatClampNeg)), .ref (Γ.2.2.2.1 2)]) (rest := []) X hG h hl.1 (mxM_carry l Γ θ ρ S5 Z (S5.1 0 ((ρ.2.2.1 1 r4).toNatClampNeg)) 2 _ hw) ⟨show 0 + 1 ≤ (2 * dd + 14) from by omega, show 8 + (3 + 11) + 0 ≤ (60 * dd + 460) from by omega⟩ (q0 := 6) rfl rfl (Nat.le_of_ble_eq_true rfl) dxM_perform_216 ⟨Nat.le_of_ble_eq_true rfl, Nat.le_of_ble_eq_true rfl⟩ (fun v W1 hK H locs h => ?_)
        obtain ⟨r19, S20, rfl, rfl, hw⟩ := hK
        refine W.eq (g2 := F0 m 219 ls [.ref (Γ.2.2.2.1 r19)]) rfl ?_
        exact z_aret X hr hlk h (Or.inr ⟨_, rfl⟩) ⟨_, _, rfl, rfl, hw⟩ dxM_perform_219
      | 5, _, e8 =>
        have e8 : (ρ.2.2.1 0 r4) = 9 := e8
        have hw := hw.2.2.2.2.2.1 e8
        refine lv_tableIn (off := 115) (tgt := 163) hx hb dxM_perform_48 (by rw [e8]; decide) (by rw [e8]; decide) (by rw [e8]; rfl) (by decide) ?_
        refine lv_aload_n hx hb dxM_perform_163 rfl (lv_at hl 1 rfl) ?_
        refine lv_aload hx hb dxM_perform_164 (lv_at hl 0 rfl) ?_
        refine lv_iload_n hx hb dxM_perform_166 rfl (lv_at hl 3 rfl) ?_
        refine cx_xM_110 (As := [.ref (ρ.1 r4), .int y]) (rest := []) X hG h hl.1 (mxM_call l Γ θ ρ S5 Z r4 y rec dd hrec _ hw) ⟨show 2 * dd + 13 + 1 ≤ (2 * dd + 14) from by omega, show 8 + (4 + 11) + (60 * dd + 430) ≤ (60 * dd + 460) from by omega⟩ (q0 := 6) rfl rfl (Nat.le_of_ble_eq_true rfl) dxM_perform_167 ⟨Nat.le_of_ble_eq_true rfl, Nat.le_of_ble_eq_true rfl⟩ (fun v W1 hK H locs h => ?_)
        obtain ⟨r21, S22, rfl, rfl, hw⟩ := hK
        refine W.eq (g2 := F0 m 170 ls [.ref (Γ.2.2.2.1 r21)]) rfl ?_
        exact z_aret X hr hlk h (Or.inr ⟨_, rfl⟩) ⟨_, _, rfl, rfl, hw⟩ dxM_perform_170
      | 6, _, e8 =>
        have e8 : (ρ.2.2.1 0 r4) = 10 := e8
        have hw := hw.2.2.2.2.2.2.1 e8
        refine lv_tableIn (off := 194) (tgt := 242) hx hb dxM_perform_48 (by rw [e8]; decide) (by rw [e8]; decide) (by rw [e8]; rfl) (by decide) ?_
        refine lv_aload_n hx hb dxM_perform_242 rfl (lv_at hl 1 rfl) ?_
        refine lv_aload hx hb dxM_perform_243 (lv_at hl 0 rfl) ?_
        refine gx_xM_126 X hG h o6 (x := ρ.2.2.1 1 r4) rfl dxM_perform_245 ?_
        refine lv_aload hx hb dxM_perform_248 (lv_at hl 0 rfl) ?_
        refine gx_xM_139 X hG h o6 (x := ρ.2.2.1 2 r4) rfl dxM_perform_250 ?_
        refine lv_null hx hb dxM_perform_253 ?_
        refine cx_xM_142 (As := [.int (ρ.2.2.1 1 r4), .int (ρ.2.2.1 2 r4), .null]) (rest := []) X hG h hl.1 (mxM_raise l Γ θ ρ S5 Z (ρ.2.2.1 1 r4) (ρ.2.2.1 2 r4) none _ hw) ⟨show 1 + 1 ≤ (2 * dd + 14) from by omega, show 8 + (4 + 11) + 23 ≤ (60 * dd + 460) from by omega⟩ (q0 := 6) rfl rfl (Nat.le_of_ble_eq_true rfl) dxM_perform_254 ⟨Nat.le_of_ble_eq_true rfl, Nat.le_of_ble_eq_true rfl⟩ (fun v W1 hK H locs h => ?_)
        obtain ⟨r23, S24, rfl, rfl, hw⟩ := hK
        refine W.eq (g2 := F0 m 257 ls [.ref (Γ.2.2.2.1 r23)]) rfl ?_
        exact z_aret X hr hlk h (Or.inr ⟨_, rfl⟩) ⟨_, _, rfl, rfl, hw⟩ dxM_perform_257
      | 7, _, e8 =>
        have e8 : (ρ.2.2.1 0 r4) = 11 := e8
        have hw := hw.2.2.2.2.2.2.2.1 e8
        refine lv_tableIn (off := 226) (tgt := 274) hx hb dxM_perform_48 (by rw [e8]; decide) (by rw [e8]; decide) (by rw [e8]; rfl) (by decide) ?_
        refine lv_aload_n hx hb dxM_perform_274 rfl (lv_at hl 1 rfl) ?_
        refine z_aload_nQ X dxM_perform_275 rfl (lv_at hl 4 rfl) ?_
        refine cx_xM_145 (As := [va_rf (Option.map θ.2 o)]) (rest := []) X hG h hl.1 (mxM_rethrow l Γ θ ρ S5 Z o _ hw) ⟨show 2 + 1 ≤ (2 * dd + 14) from by omega, show 8 + (2 + 11) + 46 ≤ (60 * dd + 460) from by omega⟩ (q0 := 6) rfl rfl (Nat.le_of_ble_eq_true rfl) dxM_perform_276 ⟨Nat.le_of_ble_eq_true rfl, Nat.le_of_ble_eq_true rfl⟩ (fun v W1 hK H locs h => ?_)
        obtain ⟨r25, S26, rfl, rfl, hw⟩ := hK
        refine W.eq (g2 := F0 m 279 ls [.ref (Γ.2.2.2.1 r25)]) rfl ?_
        exact z_aret X hr hlk h (Or.inr ⟨_, rfl⟩) ⟨_, _, rfl, rfl, hw⟩ dxM_perform_279
      | 8, _, e8 =>
        have e8 : (ρ.2.2.1 0 r4) = 12 := e8
        have hw := hw.2.2.2.2.2.2.2.2.1 e8
        refine lv_tableIn (off := 210) (tgt := 258) hx hb dxM_perform_48 (by rw [e8]; decide) (by rw [e8]; decide) (by rw [e8]; rfl) (by decide) ?_
        refine lv_aload_n hx hb dxM_perform_258 rfl (lv_at hl 1 rfl) ?_
        refine lv_aload hx hb dxM_perform_259 (lv_at hl 0 rfl) ?_
        refine gx_xM_126 X hG h o6 (x := ρ.2.2.1 1 r4) rfl dxM_perform_261 ?_
        refine lv_aload hx hb dxM_perform_264 (lv_at hl 0 rfl) ?_
        refine gx_xM_139 X hG h o6 (x := ρ.2.2.1 2 r4) rfl dxM_perform_266 ?_
        refine z_aload_nQ X dxM_perform_269 rfl (lv_at hl 4 rfl) ?_
        refine cx_xM_142 (As := [.int (ρ.2.2.1 1 r4), .int (ρ.2.2.1 2 r4), va_rf (Option.map θ.2 o)]) (rest := []) X hG h hl.1 (mxM_raise l Γ θ ρ S5 Z (ρ.2.2.1 1 r4) (ρ.2.2.1 2 r4) o _ hw) ⟨show 1 + 1 ≤ (2 * dd + 14) from by omega, show 8 + (4 + 11) + 23 ≤ (60 * dd + 460) from by omega⟩ (q0 := 6) rfl rfl (Nat.le_of_ble_eq_true rfl) dxM_perform_270 ⟨Nat.le_of_ble_eq_true rfl, Nat.le_of_ble_eq_true rfl⟩ (fun v W1 hK H locs h => ?_)
        obtain ⟨r27, S28, rfl, rfl, hw⟩ := hK
        refine W.eq (g2 := F0 m 273 ls [.ref (Γ.2.2.2.1 r27)]) rfl ?_
        exact z_aret X hr hlk h (Or.inr ⟨_, rfl⟩) ⟨_, _, rfl, rfl, hw⟩ dxM_perform_273
      | 9, _, e8 =>
        have e8 : (ρ.2.2.1 0 r4) = 13 := e8
        have hw := hw.2.2.2.2.2.2.2.2.2.1 e8
        refine lv_tableIn (off := 123) (tgt := 171) hx hb dxM_perform_48 (by rw [e8]; decide) (by rw [e8]; decide) (by rw [e8]; rfl) (by decide) ?_
        refine lv_aload_n hx hb dxM_perform_171 rfl (lv_at hl 1 rfl) ?_
        refine lv_aload hx hb dxM_perform_172 (lv_at hl 0 rfl) ?_
        refine lv_iload_n hx hb dxM_perform_174 rfl (lv_at hl 3 rfl) ?_
        refine z_aload_nQ X dxM_perform_175 rfl (lv_at hl 4 rfl) ?_
        refine cx_xM_114 (As := [.ref (ρ.1 r4), .int y, va_rf (Option.map θ.2 o)]) (rest := []) X hG h hl.1 (mxM_tryAndCatch l Γ θ ρ S5 Z r4 y o rec dd hrec _ hw) ⟨show 2 * dd + 13 + 1 ≤ (2 * dd + 14) from by omega, show 8 + (5 + 11) + (60 * dd + 430) ≤ (60 * dd + 460) from by omega⟩ (q0 := 6) rfl rfl (Nat.le_of_ble_eq_true rfl) dxM_perform_176 ⟨Nat.le_of_ble_eq_true rfl, Nat.le_of_ble_eq_true rfl⟩ (fun v W1 hK H locs h => ?_)
        obtain ⟨r29, S30, rfl, rfl, hw⟩ := hK
        refine W.eq (g2 := F0 m 179 ls [.ref (Γ.2.2.2.1 r29)]) rfl ?_
        exact z_aret X hr hlk h (Or.inr ⟨_, rfl⟩) ⟨_, _, rfl, rfl, hw⟩ dxM_perform_179
      | 10, _, e8 =>
        have e8 : (ρ.2.2.1 0 r4) = 14 := e8
        have hw := hw.2.2.2.2.2.2.2.2.2.2.1 e8
        refine lv_tableIn (off := 132) (tgt := 180) hx hb dxM_perform_48 (by rw [e8]; decide) (by rw [e8]; decide) (by rw [e8]; rfl) (by decide) ?_
        refine lv_aload_n hx hb dxM_perform_180 rfl (lv_at hl 1 rfl) ?_
        refine lv_aload hx hb dxM_perform_181 (lv_at hl 0 rfl) ?_
        refine lv_iload_n hx hb dxM_perform_183 rfl (lv_at hl 3 rfl) ?_
        refine z_aload_nQ X dxM_perform_184 rfl (lv_at hl 4 rfl) ?_
        refine cx_xM_117 (As := [.ref (ρ.1 r4), .int y, va_rf (Option.map θ.2 o)]) (rest := []) X hG h hl.1 (mxM_doBoth l Γ θ ρ S5 Z r4 y o rec dd hrec _ hw) ⟨show 2 * dd + 13 + 1 ≤ (2 * dd + 14) from by omega, show 8 + (9 + 11) + (60 * dd + 430) ≤ (60 * dd + 460) from by omega⟩ (q0 := 6) rfl rfl (Nat.le_of_ble_eq_true rfl) dxM_perform_185 ⟨Nat.le_of_ble_eq_true rfl, Nat.le_of_ble_eq_true rfl⟩ (fun v W1 hK H locs h => ?_)
        obtain ⟨r31, S32, rfl, rfl, hw⟩ := hK
        refine W.eq (g2 := F0 m 188 ls [.ref (Γ.2.2.2.1 r31)]) rfl ?_
        exact z_aret X hr hlk h (Or.inr ⟨_, rfl⟩) ⟨_, _, rfl, rfl, hw⟩ dxM_perform_188
      | 11, _, e8 =>
        have e8 : (ρ.2.2.1 0 r4) = 15 := e8
        have hw := hw.2.2.2.2.2.2.2.2.2.2.2.1 e8
        refine lv_tableIn (off := 132) (tgt := 180) hx hb dxM_perform_48 (by rw [e8]; decide) (by rw [e8]; decide) (by rw [e8]; rfl) (by decide) ?_
        refine lv_aload_n hx hb dxM_perform_180 rfl (lv_at hl 1 rfl) ?_
        refine lv_aload hx hb dxM_perform_181 (lv_at hl 0 rfl) ?_
        refine lv_iload_n hx hb dxM_perform_183 rfl (lv_at hl 3 rfl) ?_
        refine z_aload_nQ X dxM_perform_184 rfl (lv_at hl 4 rfl) ?_
        refine cx_xM_117 (As := [.ref (ρ.1 r4), .int y, va_rf (Option.map θ.2 o)]) (rest := []) X hG h hl.1 (mxM_doBoth l Γ θ ρ S5 Z r4 y o rec dd hrec _ hw) ⟨show 2 * dd + 13 + 1 ≤ (2 * dd + 14) from by omega, show 8 + (9 + 11) + (60 * dd + 430) ≤ (60 * dd + 460) from by omega⟩ (q0 := 6) rfl rfl (Nat.le_of_ble_eq_true rfl) dxM_perform_185 ⟨Nat.le_of_ble_eq_true rfl, Nat.le_of_ble_eq_true rfl⟩ (fun v W1 hK H locs h => ?_)
        obtain ⟨r33, S34, rfl, rfl, hw⟩ := hK
        refine W.eq (g2 := F0 m 188 ls [.ref (Γ.2.2.2.1 r33)]) rfl ?_
        exact z_aret X hr hlk h (Or.inr ⟨_, rfl⟩) ⟨_, _, rfl, rfl, hw⟩ dxM_perform_188
      | 12, _, e8 =>
        have e8 : (ρ.2.2.1 0 r4) = 16 := e8
        have hw := hw.2.2.2.2.2.2.2.2.2.2.2.2.1 e8
        refine lv_tableIn (off := 232) (tgt := 280) hx hb dxM_perform_48 (by rw [e8]; decide) (by rw [e8]; decide) (by rw [e8]; rfl) (by decide) ?_
        refine lv_aload_n hx hb dxM_perform_280 rfl (lv_at hl 1 rfl) ?_
        refine lv_aload hx hb dxM_perform_281 (lv_at hl 0 rfl) ?_
        refine cx_xM_149 (As := [.ref (ρ.1 r4)]) (rest := []) X hG h hl.1 (mxM_divide l Γ θ ρ S5 Z r4 _ hw) ⟨show 2 + 1 ≤ (2 * dd + 14) from by omega, show 8 + (3 + 11) + 46 ≤ (60 * dd + 460) from by omega⟩ (q0 := 6) rfl rfl (Nat.le_of_ble_eq_true rfl) dxM_perform_283 ⟨Nat.le_of_ble_eq_true rfl, Nat.le_of_ble_eq_true rfl⟩ (fun v W1 hK H locs h => ?_)
        obtain ⟨r35, S36, rfl, rfl, hw⟩ := hK
        refine W.eq (g2 := F0 m 286 ls [.ref (Γ.2.2.2.1 r35)]) rfl ?_
        exact z_aret X hr hlk h (Or.inr ⟨_, rfl⟩) ⟨_, _, rfl, rfl, hw⟩ dxM_perform_286
      | 13, _, e8 =>
        have e8 : (ρ.2.2.1 0 r4) = 17 := e8
        have hw := hw.2.2.2.2.2.2.2.2.2.2.2.2.2.1 e8
        refine lv_tableIn (off := 239) (tgt := 287) hx hb dxM_perform_48 (by rw [e8]; decide) (by rw [e8]; decide) (by rw [e8]; rfl) (by decide) ?_
        refine lv_aload_n hx hb dxM_perform_287 rfl (lv_at hl 1 rfl) ?_
        refine lv_aload hx hb dxM_perform_288 (lv_at hl 0 rfl) ?_
        refine cx_xM_153 (As := [.ref (ρ.1 r4)]) (rest := []) X hG h hl.1 (mxM_index l Γ θ ρ S5 Z r4 _ hw) ⟨show 2 + 1 ≤ (2 * dd + 14) from by omega, show 8 + (4 + 11) + 46 ≤ (60 * dd + 460) from by omega⟩ (q0 := 6) rfl rfl (Nat.le_of_ble_eq_true rfl) dxM_perform_290 ⟨Nat.le_of_ble_eq_true rfl, Nat.le_of_ble_eq_true rfl⟩ (fun v W1 hK H locs h => ?_)
        obtain ⟨r37, S38, rfl, rfl, hw⟩ := hK
        refine W.eq (g2 := F0 m 293 ls [.ref (Γ.2.2.2.1 r37)]) rfl ?_
        exact z_aret X hr hlk h (Or.inr ⟨_, rfl⟩) ⟨_, _, rfl, rfl, hw⟩ dxM_perform_293
      | 14, _, e8 =>
        have e8 : (ρ.2.2.1 0 r4) = 18 := e8
        have hw := hw.2.2.2.2.2.2.2.2.2.2.2.2.2.2.1 e8
        refine lv_tableIn (off := 246) (tgt := 294) hx hb dxM_perform_48 (by rw [e8]; decide) (by rw [e8]; decide) (by rw [e8]; rfl) (by decide) ?_
        refine lv_aload_n hx hb dxM_perform_294 rfl (lv_at hl 1 rfl) ?_
        refine lv_aload hx hb dxM_perform_295 (lv_at hl 0 rfl) ?_
        refine z_aload_nQ X dxM_perform_297 rfl (lv_at hl 4 rfl) ?_
        refine cx_xM_156 (As := [.ref (ρ.1 r4), va_rf (Option.map θ.2 o)]) (rest := []) X hG h hl.1 (mxM_cast l Γ θ ρ S5 Z r4 o _ hw) ⟨show 2 + 1 ≤ (2 * dd + 14) from by omega, show 8 + (3 + 11) + 46 ≤ (60 * dd + 460) from by omega⟩ (q0 := 6) rfl rfl (Nat.le_of_ble_eq_true rfl) dxM_perform_298 ⟨Nat.le_of_ble_eq_true rfl, Nat.le_of_ble_eq_true rfl⟩ (fun v W1 hK H locs h => ?_)
        obtain ⟨r39, S40, rfl, rfl, hw⟩ := hK
        refine W.eq (g2 := F0 m 301 ls [.ref (Γ.2.2.2.1 r39)]) rfl ?_
        exact z_aret X hr hlk h (Or.inr ⟨_, rfl⟩) ⟨_, _, rfl, rfl, hw⟩ dxM_perform_301
      | 15, _, e8 =>
        have e8 : (ρ.2.2.1 0 r4) = 19 := e8
        have hw := hw.2.2.2.2.2.2.2.2.2.2.2.2.2.2.2.1 e8
        refine lv_tableIn (off := 172) (tgt := 220) hx hb dxM_perform_48 (by rw [e8]; decide) (by rw [e8]; decide) (by rw [e8]; rfl) (by decide) ?_
        refine lv_aload_n hx hb dxM_perform_220 rfl (lv_at hl 1 rfl) ?_
        refine lv_aload_n hx hb dxM_perform_221 rfl (lv_at hl 1 rfl) ?_
        refine gx_xM_11 X hG h dxM_perform_222 ?_
        refine lv_aload hx hb dxM_perform_225 (lv_at hl 0 rfl) ?_
        refine gx_xM_126 X hG h o6 (x := ρ.2.2.1 1 r4) rfl dxM_perform_227 ?_
        obtain ⟨o41, hw⟩ := hw
        refine lx_7 X hG h o41 (x := S5.1 0 ((ρ.2.2.1 1 r4).toNatClampNeg)) rfl dxM_perform_230 ?_
        refine lv_sipush (v := 255) hx hb dxM_perform_231 (by decide) ?_
        refine lv_iand hx hb dxM_perform_234 ?_
        refine gx_xM_136 X hG h dxM_perform_235 ?_
        refine cx_xM_132 (As := [.int ((S5.1 0 ((ρ.2.2.1 1 r4).toNatClampNeg)) &&& 255), .ref (Γ.2.2.2.1 4)]) (rest := []) X hG h hl.1 (mxM_carry l Γ θ ρ S5 Z ((S5.1 0 ((ρ.2.2.1 1 r4).toNatClampNeg)) &&& 255) 4 _ hw) ⟨show 0 + 1 ≤ (2 * dd + 14) from by omega, show 8 + (3 + 11) + 0 ≤ (60 * dd + 460) from by omega⟩ (q0 := 6) rfl rfl (Nat.le_of_ble_eq_true rfl) dxM_perform_238 ⟨Nat.le_of_ble_eq_true rfl, Nat.le_of_ble_eq_true rfl⟩ (fun v W1 hK H locs h => ?_)
        obtain ⟨r42, S43, rfl, rfl, hw⟩ := hK
        refine W.eq (g2 := F0 m 241 ls [.ref (Γ.2.2.2.1 r42)]) rfl ?_
        exact z_aret X hr hlk h (Or.inr ⟨_, rfl⟩) ⟨_, _, rfl, rfl, hw⟩ dxM_perform_241
      | 16, _, e8 =>
        have e8 : (ρ.2.2.1 0 r4) = 20 := e8
        have hw := hw.2.2.2.2.2.2.2.2.2.2.2.2.2.2.2.2.1 e8
        refine lv_tableIn (off := 141) (tgt := 189) hx hb dxM_perform_48 (by rw [e8]; decide) (by rw [e8]; decide) (by rw [e8]; rfl) (by decide) ?_
        refine lv_aload_n hx hb dxM_perform_189 rfl (lv_at hl 1 rfl) ?_
        refine lv_aload hx hb dxM_perform_190 (lv_at hl 0 rfl) ?_
        refine lv_iload_n hx hb dxM_perform_192 rfl (lv_at hl 3 rfl) ?_
        refine z_aload_nQ X dxM_perform_193 rfl (lv_at hl 4 rfl) ?_
        refine cx_xM_120 (As := [.ref (ρ.1 r4), .int y, va_rf (Option.map θ.2 o)]) (rest := []) X hG h hl.1 (mxM_lock l Γ θ ρ S5 Z r4 y o rec dd hrec _ hw) ⟨show 2 * dd + 13 + 1 ≤ (2 * dd + 14) from by omega, show 8 + (5 + 11) + (60 * dd + 430) ≤ (60 * dd + 460) from by omega⟩ (q0 := 6) rfl rfl (Nat.le_of_ble_eq_true rfl) dxM_perform_194 ⟨Nat.le_of_ble_eq_true rfl, Nat.le_of_ble_eq_true rfl⟩ (fun v W1 hK H locs h => ?_)
        obtain ⟨r44, S45, rfl, rfl, hw⟩ := hK
        refine W.eq (g2 := F0 m 197 ls [.ref (Γ.2.2.2.1 r44)]) rfl ?_
        exact z_aret X hr hlk h (Or.inr ⟨_, rfl⟩) ⟨_, _, rfl, rfl, hw⟩ dxM_perform_197
      | 17, _, e8 =>
        have e8 : (ρ.2.2.1 0 r4) = 21 := e8
        have hw := hw.2.2.2.2.2.2.2.2.2.2.2.2.2.2.2.2.2 e8
        refine lv_tableIn (off := 254) (tgt := 302) hx hb dxM_perform_48 (by rw [e8]; decide) (by rw [e8]; decide) (by rw [e8]; rfl) (by decide) ?_
        refine lv_aload_n hx hb dxM_perform_302 rfl (lv_at hl 1 rfl) ?_
        refine lv_aload hx hb dxM_perform_303 (lv_at hl 0 rfl) ?_
        refine cx_xM_160 (As := [.ref (ρ.1 r4)]) (rest := []) X hG h hl.1 (mxM_wake l Γ θ ρ S5 Z r4 _ hw) ⟨show 2 + 1 ≤ (2 * dd + 14) from by omega, show 8 + (2 + 11) + 46 ≤ (60 * dd + 460) from by omega⟩ (q0 := 6) rfl rfl (Nat.le_of_ble_eq_true rfl) dxM_perform_305 ⟨Nat.le_of_ble_eq_true rfl, Nat.le_of_ble_eq_true rfl⟩ (fun v W1 hK H locs h => ?_)
        obtain ⟨r46, S47, rfl, rfl, hw⟩ := hK
        refine W.eq (g2 := F0 m 308 ls [.ref (Γ.2.2.2.1 r46)]) rfl ?_
        exact z_aret X hr hlk h (Or.inr ⟨_, rfl⟩) ⟨_, _, rfl, rfl, hw⟩ dxM_perform_308
      | k + 18, j_h, _ => exact absurd j_h (by omega)
  · have hw := hw.2 c3
    refine gx_xM_79 X hG h dxM_perform_7 ?_
    exact z_aret X hr hlk h (Or.inr ⟨_, rfl⟩) ⟨_, _, rfl, rfl, hw⟩ dxM_perform_10
def wxM_perform : Nat → RecT
  | 0 => fun _ _ _ _ _ _ => False
  | d + 1 => fun post ρ S x y o => wxM_performB (wxM_perform d) post ρ S x y o
theorem mxM_perform (l : Launch) (Γ : Gm) (θ : Th) : ∀ dd : Nat, RecM l Γ θ (wxM_perform dd) dd := by
  intro dd
  induction dd with
  | zero => intro ρ S Z x y o post hw; exact absurd hw (by simp [wxM_perform])
  | succ d ih =>
    intro ρ S Z x y o post hw
    exact mxM_performB l Γ θ ρ S Z x y o (wxM_perform d) d ih post hw
