def wxM_performRoutine  (post : Nat → Sg → Prop) (ρ : Rh) (S : Sg) (x : Int32) (o : Option Nat) : Prop := wxP_statementOf (fun r1 S2 => wxM_perform 100 (fun r3 S4 => post r3 S4) ρ S2 r1 (1) o) ρ S x
set_option maxHeartbeats 4000000 in
set_option maxRecDepth 100000 in
theorem mxM_performRoutine (l : Launch) (Γ : Gm) (θ : Th) (ρ : Rh) (S : Sg) (Z : va_W) (x : Int32) (o : Option Nat) (post : Nat → Sg → Prop) (hw : wxM_performRoutine post ρ S x o) : MM l yxM_performRoutine cxM_performRoutine 3 (some (.object "ThrowScenario$Way")) 213 6424 Γ [.ref (θ.1 6), .int x, va_rf (Option.map θ.2 o)] (WX Γ θ ρ S Z) (KK (fun r : Nat => some (.ref (Γ.2.2.2.1 r))) (fun S' => WX Γ θ ρ S' Z) post) 0 0 := by
  refine MM_of (by decide) (by cases o <;> exact Nat.le_of_ble_eq_true rfl) ?_
  intro p e s m below meth c X hr hlk hnm hG h ls hl
  have hx := X.1
  have hb := X.2.1
  have hl : lv_has ls 3 [(0, .ref (θ.1 6)), (1, .int x), (2, va_rf (Option.map θ.2 o))] := hl
  unfold wxM_performRoutine at hw
  refine lv_aload_n hx hb dxM_performRoutine_0 rfl (lv_at hl 0 rfl) ?_
  refine lv_aload_n hx hb dxM_performRoutine_1 rfl (lv_at hl 0 rfl) ?_
  refine gx_xM_51 X hG h dxM_performRoutine_2 ?_
  refine lv_iload_n hx hb dxM_performRoutine_5 rfl (lv_at hl 1 rfl) ?_
  refine cx_xM_67 (As := [.int x]) (rest := [.ref (θ.1 6)]) X hG h hl.1 (mxP_statementOf l Γ θ ρ S Z x _ hw) ⟨show 0 + 1 ≤ 213 from by omega, show 8 + (2 + 11) + 0 ≤ 6424 from by omega⟩ (q0 := 3) rfl rfl (Nat.le_of_ble_eq_true rfl) dxM_performRoutine_6 ⟨Nat.le_of_ble_eq_true rfl, Nat.le_of_ble_eq_true rfl⟩ (fun v W1 hK H locs h => ?_)
  obtain ⟨r1, S2, rfl, rfl, hw⟩ := hK
  refine W.eq (g2 := F0 m 9 ls [.int r1, .ref (θ.1 6)]) rfl ?_
  refine lv_iconst (v := 1) hx hb dxM_performRoutine_9 (by decide) ?_
  refine z_aload_nQ X dxM_performRoutine_10 rfl (lv_at hl 2 rfl) ?_
  refine cx_xM_71 (As := [.int r1, .int 1, va_rf (Option.map θ.2 o)]) (rest := []) X hG h hl.1 (mxM_perform l Γ θ 100  ρ S2 Z r1 (1) o _ hw) ⟨show 212 + 1 ≤ 213 from by omega, show 8 + (5 + 11) + 6400 ≤ 6424 from by omega⟩ (q0 := 6) rfl rfl (Nat.le_of_ble_eq_true rfl) dxM_performRoutine_11 ⟨Nat.le_of_ble_eq_true rfl, Nat.le_of_ble_eq_true rfl⟩ (fun v W1 hK H locs h => ?_)
  obtain ⟨r3, S4, rfl, rfl, hw⟩ := hK
  refine W.eq (g2 := F0 m 14 ls [.ref (Γ.2.2.2.1 r3)]) rfl ?_
  exact z_aret X hr hlk h (Or.inr ⟨_, rfl⟩) ⟨_, _, rfl, rfl, hw⟩ dxM_performRoutine_14
def wxT_outcomeOf  (post : Int32 → Sg → Prop) (ρ : Rh) (S : Sg) (w : Nat) (x : Int32) : Prop := (w < 6) ∧ ((¬ (w = 4)) → ((¬ (w = 5)) → post x S) ∧ ((w = 5) → post (5 : Int32) S)) ∧ ((w = 4) → post (4 : Int32) S)
set_option maxHeartbeats 4000000 in
set_option maxRecDepth 100000 in
theorem mxT_outcomeOf (l : Launch) (Γ : Gm) (θ : Th) (ρ : Rh) (S : Sg) (Z : va_W) (w : Nat) (x : Int32) (post : Int32 → Sg → Prop) (hw : wxT_outcomeOf post ρ S w x) : MM l yxT_outcomeOf cxT_outcomeOf 2 (some .int) 0 0 Γ [.ref (Γ.2.2.2.1 w), .int x] (WX Γ θ ρ S Z) (KK (fun r : Int32 => some (.int r)) (fun S' => WX Γ θ ρ S' Z) post) 0 0 := by
  refine MM_of (by decide) (Nat.le_of_ble_eq_true rfl) ?_
  intro p e s m below meth c X hr hlk hnm hG h ls hl
  have hx := X.1
  have hb := X.2.1
  have hl : lv_has ls 2 [(0, .ref (Γ.2.2.2.1 w)), (1, .int x)] := hl
  unfold wxT_outcomeOf at hw
  refine lv_aload_n hx hb dxT_outcomeOf_0 rfl (lv_at hl 0 rfl) ?_
  refine gx_xT_139 X hG h dxT_outcomeOf_1 ?_
  obtain ⟨o1, hw⟩ := hw
  refine x_acmp_ne X hG (tgt := 9) o1 (by decide) dxT_outcomeOf_4 (by decide) (fun c2 => ?_) (fun c2 => ?_)
  · have hw := hw.1 c2
    refine lv_aload_n hx hb dxT_outcomeOf_9 rfl (lv_at hl 0 rfl) ?_
    refine gx_xT_142 X hG h dxT_outcomeOf_10 ?_
    refine x_acmp_ne X hG (tgt := 20) o1 (by decide) dxT_outcomeOf_13 (by decide) (fun c3 => ?_) (fun c3 => ?_)
    · have hw := hw.1 c3
      refine lv_iload_n hx hb dxT_outcomeOf_20 rfl (lv_at hl 1 rfl) ?_
      exact z_iret X hr hlk h ⟨_, _, rfl, rfl, hw⟩ dxT_outcomeOf_21
    · have hw := hw.2 c3
      refine lv_iconst (v := 5) hx hb dxT_outcomeOf_16 (by decide) ?_
      refine lv_goto (tgt := 21) hx hb dxT_outcomeOf_17 (by decide) ?_
      exact z_iret X hr hlk h ⟨_, _, rfl, rfl, hw⟩ dxT_outcomeOf_21
  · have hw := hw.2 c2
    refine lv_iconst (v := 4) hx hb dxT_outcomeOf_7 (by decide) ?_
    exact z_iret X hr hlk h ⟨_, _, rfl, rfl, hw⟩ dxT_outcomeOf_8
def wxT_afterFailure  (post : Int32 → Sg → Prop) (ρ : Rh) (S : Sg) (o : Option Nat) : Prop := wxP_isDefined (fun r1 S2 => ((¬ (r1 = (0 : Int32))) → wxM_performRoutine (fun r4 S5 => (r4 < 6) ∧ ((¬ (r4 = 3)) → wxT_outcomeOf (fun r8 S9 => post r8 S9) ρ S5 r4 (2)) ∧ ((r4 = 3) → wxM_thrown (fun r10 S11 => post (3 : Int32) (sC S11 302 r10)) ρ S5 )) ρ S2 (ρ.2.2.1 7 2) o) ∧ ((r1 = (0 : Int32)) → post (1 : Int32) S2)) ρ (sC S 301 o) (ρ.2.2.1 7 2)
set_option maxHeartbeats 4000000 in
set_option maxRecDepth 100000 in
theorem mxT_afterFailure (l : Launch) (Γ : Gm) (θ : Th) (ρ : Rh) (S : Sg) (Z : va_W) (o : Option Nat) (post : Int32 → Sg → Prop) (hw : wxT_afterFailure post ρ S o) : MM l yxT_afterFailure cxT_afterFailure 3 (some .int) 214 6446 Γ [.ref (θ.1 0), va_rf (Option.map θ.2 o)] (WX Γ θ ρ S Z) (KK (fun r : Int32 => some (.int r)) (fun S' => WX Γ θ ρ S' Z) post) 0 0 := by
  refine MM_of (by decide) (by cases o <;> exact Nat.le_of_ble_eq_true rfl) ?_
  intro p e s m below meth c X hr hlk hnm hG h ls hl
  have hx := X.1
  have hb := X.2.1
  have hl : lv_has ls 3 [(0, .ref (θ.1 0)), (1, va_rf (Option.map θ.2 o))] := hl
  unfold wxT_afterFailure at hw
  refine lv_aload_n hx hb dxT_afterFailure_0 rfl (lv_at hl 0 rfl) ?_
  refine z_aload_nQ X dxT_afterFailure_1 rfl (lv_at hl 1 rfl) ?_
  refine px_xT_99 X hG h (o := o) dxT_afterFailure_2 (fun H locs h => ?_)
  refine lv_aload_n hx hb dxT_afterFailure_5 rfl (lv_at hl 0 rfl) ?_
  refine gx_xT_21 X hG h dxT_afterFailure_6 ?_
  refine lv_aload_n hx hb dxT_afterFailure_9 rfl (lv_at hl 0 rfl) ?_
  refine gx_xT_32 X hG h (x := ρ.2.2.1 7 2) rfl dxT_afterFailure_10 ?_
  refine cx_xT_93 (As := [.int (ρ.2.2.1 7 2)]) (rest := []) X hG h hl.1 (mxP_isDefined l Γ θ ρ (sC S 301 o) Z (ρ.2.2.1 7 2) _ hw) ⟨show 1 + 1 ≤ 214 from by omega, show 8 + (2 + 11) + 20 ≤ 6446 from by omega⟩ (q0 := 3) rfl rfl (Nat.le_of_ble_eq_true rfl) dxT_afterFailure_13 ⟨Nat.le_of_ble_eq_true rfl, Nat.le_of_ble_eq_true rfl⟩ (fun v W1 hK H locs h => ?_)
  obtain ⟨r1, S2, rfl, rfl, hw⟩ := hK
  refine W.eq (g2 := F0 m 16 ls [.int r1]) rfl ?_
  refine lv_if_ne (tgt := 21) hx hb dxT_afterFailure_16 (by decide) (fun c3 => ?_) (fun c3 => ?_)
  · have hw := hw.1 c3
    refine lv_aload_n hx hb dxT_afterFailure_21 rfl (lv_at hl 0 rfl) ?_
    refine gx_xT_56 X hG h dxT_afterFailure_22 ?_
    refine lv_aload_n hx hb dxT_afterFailure_25 rfl (lv_at hl 0 rfl) ?_
    refine gx_xT_32 X hG h (x := ρ.2.2.1 7 2) rfl dxT_afterFailure_26 ?_
    refine z_aload_nQ X dxT_afterFailure_29 rfl (lv_at hl 1 rfl) ?_
    refine cx_xT_106 (As := [.int (ρ.2.2.1 7 2), va_rf (Option.map θ.2 o)]) (rest := []) X hG h hl.1 (mxM_performRoutine l Γ θ ρ S2 Z (ρ.2.2.1 7 2) o _ hw) ⟨show 213 + 1 ≤ 214 from by omega, show 8 + (3 + 11) + 6424 ≤ 6446 from by omega⟩ (q0 := 6) rfl rfl (Nat.le_of_ble_eq_true rfl) dxT_afterFailure_30 ⟨Nat.le_of_ble_eq_true rfl, Nat.le_of_ble_eq_true rfl⟩ (fun v W1 hK H locs h => ?_)
    obtain ⟨r4, S5, rfl, rfl, hw⟩ := hK
    refine W.eq (g2 := F0 m 33 ls [.ref (Γ.2.2.2.1 r4)]) rfl ?_
    refine lv_astore_n (lv' := [(2, .ref (Γ.2.2.2.1 r4)), (0, .ref (θ.1 0)), (1, va_rf (Option.map θ.2 o))]) hx hb dxT_afterFailure_33 rfl hl (by decide) (by simp [List.filter_cons, va_rf_cat]) (fun ls hl => ?_)
    refine lv_aload_n hx hb dxT_afterFailure_34 rfl (lv_at hl 0 rfl) ?_
    refine gx_xT_110 X hG h dxT_afterFailure_35 ?_
    obtain ⟨o6, hw⟩ := hw
    refine x_acmp_ne X hG (tgt := 54) o6 (by decide) dxT_afterFailure_38 (by decide) (fun c7 => ?_) (fun c7 => ?_)
    · have hw := hw.1 c7
      refine lv_aload_n hx hb dxT_afterFailure_54 rfl (lv_at hl 0 rfl) ?_
      refine lv_iconst (v := 2) hx hb dxT_afterFailure_55 (by decide) ?_
      refine cx_xT_124 (As := [.ref (Γ.2.2.2.1 r4), .int 2]) (rest := []) X hG h hl.1 (mxT_outcomeOf l Γ θ ρ S5 Z r4 (2) _ hw) ⟨show 0 + 1 ≤ 214 from by omega, show 8 + (2 + 11) + 0 ≤ 6446 from by omega⟩ rfl (Nat.le_of_ble_eq_true rfl) dxT_afterFailure_56 ⟨Nat.le_of_ble_eq_true rfl, Nat.le_of_ble_eq_true rfl⟩ (fun v W1 hK H locs h => ?_)
      obtain ⟨r8, S9, rfl, rfl, hw⟩ := hK
      refine W.eq (g2 := F0 m 59 ls [.int r8]) rfl ?_
      exact z_iret X hr hlk h ⟨_, _, rfl, rfl, hw⟩ dxT_afterFailure_59
    · have hw := hw.2 c7
      refine lv_aload_n hx hb dxT_afterFailure_41 rfl (lv_at hl 1 rfl) ?_
      refine lv_aload_n hx hb dxT_afterFailure_42 rfl (lv_at hl 1 rfl) ?_
      refine gx_xT_56 X hG h dxT_afterFailure_43 ?_
      refine cx_xT_116 (As := []) (rest := [.ref (θ.1 0)]) X hG h hl.1 (mxM_thrown l Γ θ ρ S5 Z  _ hw) ⟨show 0 + 1 ≤ 214 from by omega, show 8 + (1 + 11) + 0 ≤ 6446 from by omega⟩ (q0 := 6) rfl rfl (Nat.le_of_ble_eq_true rfl) dxT_afterFailure_46 ⟨Nat.le_of_ble_eq_true rfl, Nat.le_of_ble_eq_true rfl⟩ (fun v W1 hK H locs h => ?_)
      obtain ⟨r10, S11, rfl, rfl, hw⟩ := hK
      refine W.eq (g2 := F0 m 49 ls [va_rf (Option.map θ.2 r10), .ref (θ.1 0)]) rfl ?_
      refine px_xT_103 X hG h (o := r10) dxT_afterFailure_49 (fun H locs h => ?_)
      refine lv_iconst (v := 3) hx hb dxT_afterFailure_52 (by decide) ?_
      exact z_iret X hr hlk h ⟨_, _, rfl, rfl, hw⟩ dxT_afterFailure_53
  · have hw := hw.2 c3
    refine lv_iconst (v := 1) hx hb dxT_afterFailure_19 (by decide) ?_
    exact z_iret X hr hlk h ⟨_, _, rfl, rfl, hw⟩ dxT_afterFailure_20
def wxT_partOf_c34  (post : Int64 → Sg → Prop) (ρ : Rh) (o : Option Nat) (x : Int32) (y : Int32) (S : Sg) (a3 : Option Nat) : Prop := (a3 = none → post (1000000000000 : Int64) S) ∧ (∀ j2 : Nat, a3 = some j2 → ((y.toInt < 0 ∨ 2 < y.toInt) → post (1000000000000 : Int64) S) ∧ (y = 0 → (j2 < 300) ∧ post ((S.1 3 j2).toInt64) S) ∧ (y = 1 → (j2 < 300) ∧ post ((S.1 4 j2).toInt64) S) ∧ (y = 2 → (j2 < 300) ∧ post ((S.1 6 j2).toInt64) S))
set_option maxHeartbeats 4000000 in
set_option maxRecDepth 100000 in
theorem txT_partOf_c34 {p : Program} {l : Launch} {e : Env} {s : State} {m : MethodId} {below : List Frame} {meth : Method} {c : Code} (Γ : Gm) (θ : Th) (ρ : Rh) (Z : va_W) (o : Option Nat) (x : Int32) (y : Int32)  (post : Int64 → Sg → Prop) (X : CallFix p m c cxT_partOf 5 s ([va_rf (Option.map θ.2 o), .int x, .int y] : List Value).toArray big RxT) (hr : meth.sig.returnType = (some .long)) (hlk : meth.locks = false) (hG : GX Γ s s.heap) :
    ∀ (S : Sg) (a3 : Option Nat) (hw : wxT_partOf_c34 post ρ o x y S a3) (H : Heap) (locs : List Loc) (h : HS Γ s (WX Γ θ ρ S Z) H locs) (ls : Array Slot) (hl : lv_has ls 5 [(0, va_rf (Option.map θ.2 o)), (1, .int x), (2, .int y), (3, va_rf (Option.map θ.2 a3))]), W p l e { frames := 0, cells := 0, slots := 0, locals := 0 } s m ([va_rf (Option.map θ.2 o), .int x, .int y] : List Value).toArray below meth c H locs 0 0 (MQ below (QM Γ (KK (fun r : Int64 => some (.long r)) (fun S' => WX Γ θ ρ S' Z) post)) ([va_rf (Option.map θ.2 o), .int x, .int y] : List Value).toArray s 0 0 (AA Γ)) (F0 m 34 ls []) := by
  have hx := X.1
  have hb := X.2.1
  intro S a3 hw H locs h ls hl
  unfold wxT_partOf_c34 at hw
  refine z_aload_nQ X dxT_partOf_34 rfl (lv_at hl 3 rfl) ?_
  refine x_ifnonnull X (tgt := 42) dxT_partOf_35 (by decide) (fun j2 e1 => ?_) (fun e1 => ?_)
  · have hw := hw.2 j2 e1
    have hl : lv_has ls 5 [(0, va_rf (Option.map θ.2 o)), (1, .int x), (2, .int y), (3, .ref (θ.2 j2))] := by rw [e1] at hl; exact hl
    refine lv_iload_n hx hb dxT_partOf_42 rfl (lv_at hl 2 rfl) ?_
    by_cases c3 : y.toInt < 0 ∨ 2 < y.toInt
    · have hw := hw.1 c3
      refine lv_tableOut (tgt := 86) hx hb dxT_partOf_43 c3 (by decide) ?_
      refine lv_ldc2 (v := 1000000000000) hx hb X.2.2.2.1 (X.2.2.2.2 _ kL_xT_36) dxT_partOf_86 ?_
      exact z_lret X hr hlk h ⟨_, _, rfl, rfl, hw⟩ dxT_partOf_89
    · have hw := hw.2
      obtain ⟨j5, j_h, e4⟩ := sw_in (lo := 0) (n := 2) c3
      match j5, j_h, e4 with
      | 0, _, e4 =>
        have e4 : y = 0 := e4
        have hw := hw.1 e4
        refine lv_tableIn (off := 25) (tgt := 68) hx hb dxT_partOf_43 (by rw [e4]; decide) (by rw [e4]; decide) (by rw [e4]; rfl) (by decide) ?_
        refine lv_aload_n hx hb dxT_partOf_68 rfl (lv_at hl 3 rfl) ?_
        obtain ⟨o6, hw⟩ := hw
        refine gx_xT_166 X hG h o6 (x := S.1 3 j2) rfl dxT_partOf_69 ?_
        refine lv_i2l (v := (S.1 3 j2).toInt64) hx hb dxT_partOf_72 rfl ?_
        exact z_lret X hr hlk h ⟨_, _, rfl, rfl, hw⟩ dxT_partOf_73
      | 1, _, e4 =>
        have e4 : y = 1 := e4
        have hw := hw.2.1 e4
        refine lv_tableIn (off := 31) (tgt := 74) hx hb dxT_partOf_43 (by rw [e4]; decide) (by rw [e4]; decide) (by rw [e4]; rfl) (by decide) ?_
        refine lv_aload_n hx hb dxT_partOf_74 rfl (lv_at hl 3 rfl) ?_
        obtain ⟨o7, hw⟩ := hw
        refine gx_xT_169 X hG h o7 (x := S.1 4 j2) rfl dxT_partOf_75 ?_
        refine lv_i2l (v := (S.1 4 j2).toInt64) hx hb dxT_partOf_78 rfl ?_
        exact z_lret X hr hlk h ⟨_, _, rfl, rfl, hw⟩ dxT_partOf_79
      | 2, _, e4 =>
        have e4 : y = 2 := e4
        have hw := hw.2.2 e4
        refine lv_tableIn (off := 37) (tgt := 80) hx hb dxT_partOf_43 (by rw [e4]; decide) (by rw [e4]; decide) (by rw [e4]; rfl) (by decide) ?_
        refine lv_aload_n hx hb dxT_partOf_80 rfl (lv_at hl 3 rfl) ?_
        obtain ⟨o8, hw⟩ := hw
        refine gx_xT_172 X hG h o8 (x := S.1 6 j2) rfl dxT_partOf_81 ?_
        refine lv_i2l (v := (S.1 6 j2).toInt64) hx hb dxT_partOf_84 rfl ?_
        exact z_lret X hr hlk h ⟨_, _, rfl, rfl, hw⟩ dxT_partOf_85
      | k + 3, j_h, _ => exact absurd j_h (by omega)
  · have hw := hw.1 e1
    have hl : lv_has ls 5 [(0, va_rf (Option.map θ.2 o)), (1, .int x), (2, .int y), (3, .null)] := by rw [e1] at hl; exact hl
    refine lv_ldc2 (v := 1000000000000) hx hb X.2.2.2.1 (X.2.2.2.2 _ kL_xT_36) dxT_partOf_38 ?_
    exact z_lret X hr hlk h ⟨_, _, rfl, rfl, hw⟩ dxT_partOf_41
def wxT_partOf_c13  (post : Int64 → Sg → Prop) (ρ : Rh) (o : Option Nat) (x : Int32) (y : Int32) : Nat → Sg → Option Nat → Int32 → Prop
  | 0, _, _, _ => False
  | d + 1, S, a3, a4 => ((x ≤ a4) → wxT_partOf_c34 post ρ o x y S a3) ∧ ((¬ (x ≤ a4)) → (a3 = none → wxT_partOf_c34 post ρ o x y S none) ∧ (∀ j10 : Nat, a3 = some j10 → (j10 < 300) ∧ wxT_partOf_c13 post ρ o x y d S (S.2 j10) (a4 + 1)))
set_option maxHeartbeats 4000000 in
set_option maxRecDepth 100000 in
theorem txT_partOf_c13 {p : Program} {l : Launch} {e : Env} {s : State} {m : MethodId} {below : List Frame} {meth : Method} {c : Code} (Γ : Gm) (θ : Th) (ρ : Rh) (Z : va_W) (o : Option Nat) (x : Int32) (y : Int32)  (post : Int64 → Sg → Prop) (X : CallFix p m c cxT_partOf 5 s ([va_rf (Option.map θ.2 o), .int x, .int y] : List Value).toArray big RxT) (hr : meth.sig.returnType = (some .long)) (hlk : meth.locks = false) (hG : GX Γ s s.heap) :
    ∀ (d : Nat) (S : Sg) (a3 : Option Nat) (a4 : Int32) (hw : wxT_partOf_c13 post ρ o x y d S a3 a4) (H : Heap) (locs : List Loc) (h : HS Γ s (WX Γ θ ρ S Z) H locs) (ls : Array Slot) (hl : lv_has ls 5 [(0, va_rf (Option.map θ.2 o)), (1, .int x), (2, .int y), (3, va_rf (Option.map θ.2 a3)), (4, .int a4)]), W p l e { frames := 0, cells := 0, slots := 0, locals := 0 } s m ([va_rf (Option.map θ.2 o), .int x, .int y] : List Value).toArray below meth c H locs 0 0 (MQ below (QM Γ (KK (fun r : Int64 => some (.long r)) (fun S' => WX Γ θ ρ S' Z) post)) ([va_rf (Option.map θ.2 o), .int x, .int y] : List Value).toArray s 0 0 (AA Γ)) (F0 m 13 ls []) := by
  have hx := X.1
  have hb := X.2.1
  intro d
  induction d with
  | zero => intro S a3 a4 hw; exact absurd hw (by simp [wxT_partOf_c13])
  | succ d ih =>
    intro S a3 a4 hw H locs h ls hl
    rw [wxT_partOf_c13] at hw
    refine lv_iload hx hb dxT_partOf_13 (lv_at hl 4 rfl) ?_
    refine lv_iload_n hx hb dxT_partOf_15 rfl (lv_at hl 1 rfl) ?_
    refine lv_icmp_ge (tgt := 34) hx hb dxT_partOf_16 (by decide) (fun c1 => ?_) (fun c1 => ?_)
    · have hw := hw.1 c1
      exact txT_partOf_c34 Γ θ ρ Z o x y post X hr hlk hG S a3 hw _ _ h ls (lv_sub hl [0, 1, 2, 3] rfl)
    · have hw := hw.2 c1
      refine z_aload_nQ X dxT_partOf_19 rfl (lv_at hl 3 rfl) ?_
      refine x_ifnull X (tgt := 34) dxT_partOf_20 (by decide) (fun e9 => ?_) (fun j10 e9 => ?_)
      · have hw := hw.1 e9
        have hl : lv_has ls 5 [(0, va_rf (Option.map θ.2 o)), (1, .int x), (2, .int y), (3, .null), (4, .int a4)] := by rw [e9] at hl; exact hl
        exact txT_partOf_c34 Γ θ ρ Z o x y post X hr hlk hG S none hw _ _ h ls (lv_sub hl [0, 1, 2, 3] rfl)
      · have hw := hw.2 j10 e9
        have hl : lv_has ls 5 [(0, va_rf (Option.map θ.2 o)), (1, .int x), (2, .int y), (3, .ref (θ.2 j10)), (4, .int a4)] := by rw [e9] at hl; exact hl
        refine lv_aload_n hx hb dxT_partOf_23 rfl (lv_at hl 3 rfl) ?_
        obtain ⟨o11, hw⟩ := hw
        refine gx_xT_161 X hG h o11 (x := S.2 j10) rfl dxT_partOf_24 ?_
        refine z_astore_nQ (lv' := [(3, va_rf (Option.map θ.2 (S.2 j10))), (0, va_rf (Option.map θ.2 o)), (1, .int x), (2, .int y), (4, .int a4)]) X dxT_partOf_27 rfl hl (by decide) rfl (fun ls hl => ?_)
        refine lv_iinc (v := a4 + 1) (lv' := [(4, .int (a4 + 1)), (3, va_rf (Option.map θ.2 (S.2 j10))), (0, va_rf (Option.map θ.2 o)), (1, .int x), (2, .int y)]) hx hb dxT_partOf_28 hl (k := 4) rfl rfl (by decide) (by simp [List.filter_cons, va_rf_cat]) (fun ls hl => ?_)
        refine lv_goto (tgt := 13) hx hb dxT_partOf_31 (by decide) ?_
        exact ih S (S.2 j10) (a4 + 1) hw _ _ h ls (lv_sub hl [2, 3, 4, 1, 0] rfl)
def wxT_partOf_c9  (post : Int64 → Sg → Prop) (ρ : Rh) (o : Option Nat) (x : Int32) (y : Int32) (S : Sg) (b0 : Option Nat) : Prop := ∃ d12 : Nat, wxT_partOf_c13 post ρ o x y d12 S b0 (0 : Int32)
set_option maxHeartbeats 4000000 in
set_option maxRecDepth 100000 in
theorem txT_partOf_c9 {p : Program} {l : Launch} {e : Env} {s : State} {m : MethodId} {below : List Frame} {meth : Method} {c : Code} (Γ : Gm) (θ : Th) (ρ : Rh) (Z : va_W) (o : Option Nat) (x : Int32) (y : Int32)  (post : Int64 → Sg → Prop) (X : CallFix p m c cxT_partOf 5 s ([va_rf (Option.map θ.2 o), .int x, .int y] : List Value).toArray big RxT) (hr : meth.sig.returnType = (some .long)) (hlk : meth.locks = false) (hG : GX Γ s s.heap) :
    ∀ (S : Sg) (b0 : Option Nat) (hw : wxT_partOf_c9 post ρ o x y S b0) (H : Heap) (locs : List Loc) (h : HS Γ s (WX Γ θ ρ S Z) H locs) (ls : Array Slot) (hl : lv_has ls 5 [(0, va_rf (Option.map θ.2 o)), (1, .int x), (2, .int y)]), W p l e { frames := 0, cells := 0, slots := 0, locals := 0 } s m ([va_rf (Option.map θ.2 o), .int x, .int y] : List Value).toArray below meth c H locs 0 0 (MQ below (QM Γ (KK (fun r : Int64 => some (.long r)) (fun S' => WX Γ θ ρ S' Z) post)) ([va_rf (Option.map θ.2 o), .int x, .int y] : List Value).toArray s 0 0 (AA Γ)) (F0 m 9 ls [va_rf (Option.map θ.2 b0)]) := by
  have hx := X.1
  have hb := X.2.1
  intro S b0 hw H locs h ls hl
  unfold wxT_partOf_c9 at hw
  refine z_astore_nQ (lv' := [(3, va_rf (Option.map θ.2 b0)), (0, va_rf (Option.map θ.2 o)), (1, .int x), (2, .int y)]) X dxT_partOf_9 rfl hl (by decide) rfl (fun ls hl => ?_)
  refine lv_iconst (v := 0) hx hb dxT_partOf_10 (by decide) ?_
  refine lv_istore (lv' := [(4, .int 0), (3, va_rf (Option.map θ.2 b0)), (0, va_rf (Option.map θ.2 o)), (1, .int x), (2, .int y)]) hx hb dxT_partOf_11 hl (by decide) (by simp [List.filter_cons, va_rf_cat]) (fun ls hl => ?_)
  obtain ⟨d12, hw⟩ := hw
  exact txT_partOf_c13 Γ θ ρ Z o x y post X hr hlk hG d12 S b0 (0 : Int32) hw _ _ h ls (lv_sub hl [2, 3, 4, 1, 0] rfl)
def wxT_partOf  (post : Int64 → Sg → Prop) (ρ : Rh) (S : Sg) (o : Option Nat) (x : Int32) (y : Int32) : Prop := (((0 : Int32) ≤ x) → wxT_partOf_c9 post ρ o x y S o) ∧ ((¬ ((0 : Int32) ≤ x)) → wxT_partOf_c9 post ρ o x y S none)
set_option maxHeartbeats 4000000 in
set_option maxRecDepth 100000 in
theorem mxT_partOf (l : Launch) (Γ : Gm) (θ : Th) (ρ : Rh) (S : Sg) (Z : va_W) (o : Option Nat) (x : Int32) (y : Int32) (post : Int64 → Sg → Prop) (hw : wxT_partOf post ρ S o x y) : MM l yxT_partOf cxT_partOf 5 (some .long) 0 0 Γ [va_rf (Option.map θ.2 o), .int x, .int y] (WX Γ θ ρ S Z) (KK (fun r : Int64 => some (.long r)) (fun S' => WX Γ θ ρ S' Z) post) 0 0 := by
  refine MM_of (by decide) (by cases o <;> exact Nat.le_of_ble_eq_true rfl) ?_
  intro p e s m below meth c X hr hlk hnm hG h ls hl
  have hx := X.1
  have hb := X.2.1
  have hl : lv_has ls 5 [(0, va_rf (Option.map θ.2 o)), (1, .int x), (2, .int y)] := by cases o <;> exact hl
  unfold wxT_partOf at hw
  refine lv_iload_n hx hb dxT_partOf_0 rfl (lv_at hl 1 rfl) ?_
  refine lv_if_ge (tgt := 8) hx hb dxT_partOf_1 (by decide) (fun c1 => ?_) (fun c1 => ?_)
  · have hw := hw.1 c1
    refine z_aload_nQ X dxT_partOf_8 rfl (lv_at hl 0 rfl) ?_
    exact txT_partOf_c9 Γ θ ρ Z o x y post X hr hlk hG S o hw _ _ h ls (lv_sub hl [0, 1, 2] rfl)
  · have hw := hw.2 c1
    refine lv_null hx hb dxT_partOf_4 ?_
    refine lv_goto (tgt := 9) hx hb dxT_partOf_5 (by decide) ?_
    exact txT_partOf_c9 Γ θ ρ Z o x y post X hr hlk hG S none hw _ _ h ls (lv_sub hl [0, 1, 2] rfl)
def wxT_variable  (post : Int64 → Sg → Prop) (ρ : Rh) (S : Sg) (x : Int32) : Prop := wxP_isVariable (fun r1 S2 => ((r1 = (0 : Int32)) → post (1000000000000 : Int64) S2) ∧ ((¬ (r1 = (0 : Int32))) → wxM_variableAt (fun r4 S5 => post r4.toInt64 S5) ρ S2 x)) ρ S x
set_option maxHeartbeats 4000000 in
set_option maxRecDepth 100000 in
theorem mxT_variable (l : Launch) (Γ : Gm) (θ : Th) (ρ : Rh) (S : Sg) (Z : va_W) (x : Int32) (post : Int64 → Sg → Prop) (hw : wxT_variable post ρ S x) : MM l yxT_variable cxT_variable 2 (some .long) 1 21 Γ [.ref (θ.1 0), .int x] (WX Γ θ ρ S Z) (KK (fun r : Int64 => some (.long r)) (fun S' => WX Γ θ ρ S' Z) post) 0 0 := by
  refine MM_of (by decide) (Nat.le_of_ble_eq_true rfl) ?_
  intro p e s m below meth c X hr hlk hnm hG h ls hl
  have hx := X.1
  have hb := X.2.1
  have hl : lv_has ls 2 [(0, .ref (θ.1 0)), (1, .int x)] := hl
  unfold wxT_variable at hw
  refine lv_iload_n hx hb dxT_variable_0 rfl (lv_at hl 1 rfl) ?_
  refine cx_xT_145 (As := [.int x]) (rest := []) X hG h hl.1 (mxP_isVariable l Γ θ ρ S Z x _ hw) ⟨show 0 + 1 ≤ 1 from by omega, show 8 + (1 + 11) + 0 ≤ 21 from by omega⟩ rfl (Nat.le_of_ble_eq_true rfl) dxT_variable_1 ⟨Nat.le_of_ble_eq_true rfl, Nat.le_of_ble_eq_true rfl⟩ (fun v W1 hK H locs h => ?_)
  obtain ⟨r1, S2, rfl, rfl, hw⟩ := hK
  refine W.eq (g2 := F0 m 4 ls [.int r1]) rfl ?_
  refine lv_if_eq (tgt := 19) hx hb dxT_variable_4 (by decide) (fun c3 => ?_) (fun c3 => ?_)
  · have hw := hw.1 c3
    refine lv_ldc2 (v := 1000000000000) hx hb X.2.2.2.1 (X.2.2.2.2 _ kL_xT_36) dxT_variable_19 ?_
    exact z_lret X hr hlk h ⟨_, _, rfl, rfl, hw⟩ dxT_variable_22
  · have hw := hw.2 c3
    refine lv_aload_n hx hb dxT_variable_7 rfl (lv_at hl 0 rfl) ?_
    refine gx_xT_56 X hG h dxT_variable_8 ?_
    refine lv_iload_n hx hb dxT_variable_11 rfl (lv_at hl 1 rfl) ?_
    refine cx_xT_148 (As := [.int x]) (rest := []) X hG h hl.1 (mxM_variableAt l Γ θ ρ S2 Z x _ hw) ⟨show 0 + 1 ≤ 1 from by omega, show 8 + (2 + 11) + 0 ≤ 21 from by omega⟩ (q0 := 6) rfl rfl (Nat.le_of_ble_eq_true rfl) dxT_variable_12 ⟨Nat.le_of_ble_eq_true rfl, Nat.le_of_ble_eq_true rfl⟩ (fun v W1 hK H locs h => ?_)
    obtain ⟨r4, S5, rfl, rfl, hw⟩ := hK
    refine W.eq (g2 := F0 m 15 ls [.int r4]) rfl ?_
    refine lv_i2l (v := r4.toInt64) hx hb dxT_variable_15 rfl ?_
    refine lv_goto (tgt := 22) hx hb dxT_variable_16 (by decide) ?_
    exact z_lret X hr hlk h ⟨_, _, rfl, rfl, hw⟩ dxT_variable_22
def wxT_value  (post : Int64 → Sg → Prop) (ρ : Rh) (S : Sg)  : Prop := post ρ.2.2.2.1 S
set_option maxHeartbeats 4000000 in
set_option maxRecDepth 100000 in
theorem mxT_value (l : Launch) (Γ : Gm) (θ : Th) (ρ : Rh) (S : Sg) (Z : va_W)  (post : Int64 → Sg → Prop) (hw : wxT_value post ρ S ) : MM l yxT_value cxT_value 1 (some .long) 0 0 Γ [.ref (θ.1 0)] (WX Γ θ ρ S Z) (KK (fun r : Int64 => some (.long r)) (fun S' => WX Γ θ ρ S' Z) post) 0 0 := by
  refine MM_of (by decide) (Nat.le_of_ble_eq_true rfl) ?_
  intro p e s m below meth c X hr hlk hnm hG h ls hl
  have hx := X.1
  have hb := X.2.1
  have hl : lv_has ls 1 [(0, .ref (θ.1 0))] := hl
  unfold wxT_value at hw
  refine lv_aload_n hx hb dxT_value_0 rfl (lv_at hl 0 rfl) ?_
  refine gx_xT_38 X hG h (x := ρ.2.2.2.1) rfl dxT_value_1 ?_
  exact z_lret X hr hlk h ⟨_, _, rfl, rfl, hw⟩ dxT_value_4
def wxT_logged  (post : Int64 → Sg → Prop) (ρ : Rh) (S : Sg) (x : Int32) : Prop := ((x < (0 : Int32)) → post (1000000000000 : Int64) S) ∧ ((¬ (x < (0 : Int32))) → wxM_logSize (fun r2 S3 => ((r2 ≤ x) → post (1000000000000 : Int64) S3) ∧ ((¬ (r2 ≤ x)) → wxM_logAt (fun r5 S6 => post r5.toInt64 S6) ρ S3 x)) ρ S )
set_option maxHeartbeats 4000000 in
set_option maxRecDepth 100000 in
theorem mxT_logged (l : Launch) (Γ : Gm) (θ : Th) (ρ : Rh) (S : Sg) (Z : va_W) (x : Int32) (post : Int64 → Sg → Prop) (hw : wxT_logged post ρ S x) : MM l yxT_logged cxT_logged 2 (some .long) 1 21 Γ [.ref (θ.1 0), .int x] (WX Γ θ ρ S Z) (KK (fun r : Int64 => some (.long r)) (fun S' => WX Γ θ ρ S' Z) post) 0 0 := by
  refine MM_of (by decide) (Nat.le_of_ble_eq_true rfl) ?_
  intro p e s m below meth c X hr hlk hnm hG h ls hl
  have hx := X.1
  have hb := X.2.1
  have hl : lv_has ls 2 [(0, .ref (θ.1 0)), (1, .int x)] := hl
  unfold wxT_logged at hw
  refine lv_iload_n hx hb dxT_logged_0 rfl (lv_at hl 1 rfl) ?_
  refine lv_if_lt (tgt := 27) hx hb dxT_logged_1 (by decide) (fun c1 => ?_) (fun c1 => ?_)
  · have hw := hw.1 c1
    refine lv_ldc2 (v := 1000000000000) hx hb X.2.2.2.1 (X.2.2.2.2 _ kL_xT_36) dxT_logged_27 ?_
    exact z_lret X hr hlk h ⟨_, _, rfl, rfl, hw⟩ dxT_logged_30
  · have hw := hw.2 c1
    refine lv_iload_n hx hb dxT_logged_4 rfl (lv_at hl 1 rfl) ?_
    refine lv_aload_n hx hb dxT_logged_5 rfl (lv_at hl 0 rfl) ?_
    refine gx_xT_56 X hG h dxT_logged_6 ?_
    refine cx_xT_151 (As := []) (rest := [.int x]) X hG h hl.1 (mxM_logSize l Γ θ ρ S Z  _ hw) ⟨show 0 + 1 ≤ 1 from by omega, show 8 + (1 + 11) + 0 ≤ 21 from by omega⟩ (q0 := 6) rfl rfl (Nat.le_of_ble_eq_true rfl) dxT_logged_9 ⟨Nat.le_of_ble_eq_true rfl, Nat.le_of_ble_eq_true rfl⟩ (fun v W1 hK H locs h => ?_)
    obtain ⟨r2, S3, rfl, rfl, hw⟩ := hK
    refine W.eq (g2 := F0 m 12 ls [.int r2, .int x]) rfl ?_
    refine lv_icmp_ge (tgt := 27) hx hb dxT_logged_12 (by decide) (fun c4 => ?_) (fun c4 => ?_)
    · have hw := hw.1 c4
      refine lv_ldc2 (v := 1000000000000) hx hb X.2.2.2.1 (X.2.2.2.2 _ kL_xT_36) dxT_logged_27 ?_
      exact z_lret X hr hlk h ⟨_, _, rfl, rfl, hw⟩ dxT_logged_30
    · have hw := hw.2 c4
      refine lv_aload_n hx hb dxT_logged_15 rfl (lv_at hl 0 rfl) ?_
      refine gx_xT_56 X hG h dxT_logged_16 ?_
      refine lv_iload_n hx hb dxT_logged_19 rfl (lv_at hl 1 rfl) ?_
      refine cx_xT_154 (As := [.int x]) (rest := []) X hG h hl.1 (mxM_logAt l Γ θ ρ S3 Z x _ hw) ⟨show 0 + 1 ≤ 1 from by omega, show 8 + (2 + 11) + 0 ≤ 21 from by omega⟩ (q0 := 6) rfl rfl (Nat.le_of_ble_eq_true rfl) dxT_logged_20 ⟨Nat.le_of_ble_eq_true rfl, Nat.le_of_ble_eq_true rfl⟩ (fun v W1 hK H locs h => ?_)
      obtain ⟨r5, S6, rfl, rfl, hw⟩ := hK
      refine W.eq (g2 := F0 m 23 ls [.int r5]) rfl ?_
      refine lv_i2l (v := r5.toInt64) hx hb dxT_logged_23 rfl ?_
      refine lv_goto (tgt := 30) hx hb dxT_logged_24 (by decide) ?_
      exact z_lret X hr hlk h ⟨_, _, rfl, rfl, hw⟩ dxT_logged_30
def wxT_failure  (post : Int64 → Sg → Prop) (ρ : Rh) (S : Sg) (x : Int32) (y : Int32) : Prop := wxT_partOf (fun r1 S2 => post r1 S2) ρ S (S.2 301) x y
set_option maxHeartbeats 4000000 in
set_option maxRecDepth 100000 in
theorem mxT_failure (l : Launch) (Γ : Gm) (θ : Th) (ρ : Rh) (S : Sg) (Z : va_W) (x : Int32) (y : Int32) (post : Int64 → Sg → Prop) (hw : wxT_failure post ρ S x y) : MM l yxT_failure cxT_failure 3 (some .long) 1 24 Γ [.ref (θ.1 0), .int x, .int y] (WX Γ θ ρ S Z) (KK (fun r : Int64 => some (.long r)) (fun S' => WX Γ θ ρ S' Z) post) 0 0 := by
  refine MM_of (by decide) (Nat.le_of_ble_eq_true rfl) ?_
  intro p e s m below meth c X hr hlk hnm hG h ls hl
  have hx := X.1
  have hb := X.2.1
  have hl : lv_has ls 3 [(0, .ref (θ.1 0)), (1, .int x), (2, .int y)] := hl
  unfold wxT_failure at hw
  refine lv_aload_n hx hb dxT_failure_0 rfl (lv_at hl 0 rfl) ?_
  refine gx_xT_99 X hG h (x := S.2 301) rfl dxT_failure_1 ?_
  refine lv_iload_n hx hb dxT_failure_4 rfl (lv_at hl 1 rfl) ?_
  refine lv_iload_n hx hb dxT_failure_5 rfl (lv_at hl 2 rfl) ?_
  refine cx_xT_157 (As := [va_rf (Option.map θ.2 (S.2 301)), .int x, .int y]) (rest := []) X hG h hl.1 (mxT_partOf l Γ θ ρ S Z (S.2 301) x y _ hw) ⟨show 0 + 1 ≤ 1 from by omega, show 8 + (5 + 11) + 0 ≤ 24 from by omega⟩ rfl (Nat.le_of_ble_eq_true rfl) dxT_failure_6 ⟨Nat.le_of_ble_eq_true rfl, Nat.le_of_ble_eq_true rfl⟩ (fun v W1 hK H locs h => ?_)
  obtain ⟨r1, S2, rfl, rfl, hw⟩ := hK
  refine W.eq (g2 := F0 m 9 ls [.long r1]) rfl ?_
  exact z_lret X hr hlk h ⟨_, _, rfl, rfl, hw⟩ dxT_failure_9
def wxT_second  (post : Int64 → Sg → Prop) (ρ : Rh) (S : Sg) (x : Int32) (y : Int32) : Prop := wxT_partOf (fun r1 S2 => post r1 S2) ρ S (S.2 302) x y
set_option maxHeartbeats 4000000 in
set_option maxRecDepth 100000 in
theorem mxT_second (l : Launch) (Γ : Gm) (θ : Th) (ρ : Rh) (S : Sg) (Z : va_W) (x : Int32) (y : Int32) (post : Int64 → Sg → Prop) (hw : wxT_second post ρ S x y) : MM l yxT_second cxT_second 3 (some .long) 1 24 Γ [.ref (θ.1 0), .int x, .int y] (WX Γ θ ρ S Z) (KK (fun r : Int64 => some (.long r)) (fun S' => WX Γ θ ρ S' Z) post) 0 0 := by
  refine MM_of (by decide) (Nat.le_of_ble_eq_true rfl) ?_
  intro p e s m below meth c X hr hlk hnm hG h ls hl
  have hx := X.1
  have hb := X.2.1
  have hl : lv_has ls 3 [(0, .ref (θ.1 0)), (1, .int x), (2, .int y)] := hl
  unfold wxT_second at hw
  refine lv_aload_n hx hb dxT_second_0 rfl (lv_at hl 0 rfl) ?_
  refine gx_xT_103 X hG h (x := S.2 302) rfl dxT_second_1 ?_
  refine lv_iload_n hx hb dxT_second_4 rfl (lv_at hl 1 rfl) ?_
  refine lv_iload_n hx hb dxT_second_5 rfl (lv_at hl 2 rfl) ?_
  refine cx_xT_157 (As := [va_rf (Option.map θ.2 (S.2 302)), .int x, .int y]) (rest := []) X hG h hl.1 (mxT_partOf l Γ θ ρ S Z (S.2 302) x y _ hw) ⟨show 0 + 1 ≤ 1 from by omega, show 8 + (5 + 11) + 0 ≤ 24 from by omega⟩ rfl (Nat.le_of_ble_eq_true rfl) dxT_second_6 ⟨Nat.le_of_ble_eq_true rfl, Nat.le_of_ble_eq_true rfl⟩ (fun v W1 hK H locs h => ?_)
  obtain ⟨r1, S2, rfl, rfl, hw⟩ := hK
  refine W.eq (g2 := F0 m 9 ls [.long r1]) rfl ?_
  exact z_lret X hr hlk h ⟨_, _, rfl, rfl, hw⟩ dxT_second_9
def wxT_count  (post : Int32 → Sg → Prop) (ρ : Rh) (S : Sg) (x : Int32) : Prop := (x = 0 → wxC_size (fun r2 S3 => post r2 S3) ρ S ) ∧ (¬ x = 0 → (x = 1 → wxP_size (fun r5 S6 => post r5 S6) ρ S ) ∧ (¬ x = 1 → wxM_tally (fun r7 S8 => post r7 S8) ρ S x))
set_option maxHeartbeats 4000000 in
set_option maxRecDepth 100000 in
theorem mxT_count (l : Launch) (Γ : Gm) (θ : Th) (ρ : Rh) (S : Sg) (Z : va_W) (x : Int32) (post : Int32 → Sg → Prop) (hw : wxT_count post ρ S x) : MM l yxT_count cxT_count 2 (some .int) 1 21 Γ [.ref (θ.1 0), .int x] (WX Γ θ ρ S Z) (KK (fun r : Int32 => some (.int r)) (fun S' => WX Γ θ ρ S' Z) post) 0 0 := by
  refine MM_of (by decide) (Nat.le_of_ble_eq_true rfl) ?_
  intro p e s m below meth c X hr hlk hnm hG h ls hl
  have hx := X.1
  have hb := X.2.1
  have hl : lv_has ls 2 [(0, .ref (θ.1 0)), (1, .int x)] := hl
  unfold wxT_count at hw
  refine lv_iload_n hx hb dxT_count_0 rfl (lv_at hl 1 rfl) ?_
  by_cases c1 : x = 0
  · have hw := hw.1 c1
    refine lv_lookup (off := 27) (tgt := 28) hx hb dxT_count_1 (by decide) (by rw [c1]; rfl) (by decide) ?_
    refine lv_aload_n hx hb dxT_count_28 rfl (lv_at hl 0 rfl) ?_
    refine gx_xT_10 X hG h dxT_count_29 ?_
    refine cx_xT_181 (As := []) (rest := []) X hG h hl.1 (mxC_size l Γ θ ρ S Z  _ hw) ⟨show 0 + 1 ≤ 1 from by omega, show 8 + (1 + 11) + 0 ≤ 21 from by omega⟩ (q0 := 1) rfl rfl (Nat.le_of_ble_eq_true rfl) dxT_count_32 ⟨Nat.le_of_ble_eq_true rfl, Nat.le_of_ble_eq_true rfl⟩ (fun v W1 hK H locs h => ?_)
    obtain ⟨r2, S3, rfl, rfl, hw⟩ := hK
    refine W.eq (g2 := F0 m 35 ls [.int r2]) rfl ?_
    exact z_iret X hr hlk h ⟨_, _, rfl, rfl, hw⟩ dxT_count_35
  · have hw := hw.2 c1
    by_cases c4 : x = 1
    · have hw := hw.1 c4
      refine lv_lookup (off := 35) (tgt := 36) hx hb dxT_count_1 (by decide) (by rw [c4]; rfl) (by decide) ?_
      refine lv_aload_n hx hb dxT_count_36 rfl (lv_at hl 0 rfl) ?_
      refine gx_xT_21 X hG h dxT_count_37 ?_
      refine cx_xT_184 (As := []) (rest := []) X hG h hl.1 (mxP_size l Γ θ ρ S Z  _ hw) ⟨show 0 + 1 ≤ 1 from by omega, show 8 + (1 + 11) + 0 ≤ 21 from by omega⟩ (q0 := 3) rfl rfl (Nat.le_of_ble_eq_true rfl) dxT_count_40 ⟨Nat.le_of_ble_eq_true rfl, Nat.le_of_ble_eq_true rfl⟩ (fun v W1 hK H locs h => ?_)
      obtain ⟨r5, S6, rfl, rfl, hw⟩ := hK
      refine W.eq (g2 := F0 m 43 ls [.int r5]) rfl ?_
      exact z_iret X hr hlk h ⟨_, _, rfl, rfl, hw⟩ dxT_count_43
    · have hw := hw.2 c4
      refine lv_lookup (off := 43) (tgt := 44) hx hb dxT_count_1 (by decide) ((lv_osw c1 (by decide)).trans <| (lv_osw c4 (by decide)).trans <| rfl) (by decide) ?_
      refine lv_aload_n hx hb dxT_count_44 rfl (lv_at hl 0 rfl) ?_
      refine gx_xT_56 X hG h dxT_count_45 ?_
      refine lv_iload_n hx hb dxT_count_48 rfl (lv_at hl 1 rfl) ?_
      refine cx_xT_185 (As := [.int x]) (rest := []) X hG h hl.1 (mxM_tally l Γ θ ρ S Z x _ hw) ⟨show 0 + 1 ≤ 1 from by omega, show 8 + (2 + 11) + 0 ≤ 21 from by omega⟩ (q0 := 6) rfl rfl (Nat.le_of_ble_eq_true rfl) dxT_count_49 ⟨Nat.le_of_ble_eq_true rfl, Nat.le_of_ble_eq_true rfl⟩ (fun v W1 hK H locs h => ?_)
      obtain ⟨r7, S8, rfl, rfl, hw⟩ := hK
      refine W.eq (g2 := F0 m 52 ls [.int r7]) rfl ?_
      exact z_iret X hr hlk h ⟨_, _, rfl, rfl, hw⟩ dxT_count_52
def wxC_add  (post : Int32 → Rh → Sg → Prop) (ρ : Rh) (S : Sg) (x : Int32) : Prop := (vp_in (ρ.2.2.1 7 0) 16) ∧ post (((ρ.2.2.1 7 0) + 1) - 1) (rP (rP ρ 6 ((ρ.2.2.1 7 0).toNatClampNeg) x) 7 0 ((ρ.2.2.1 7 0) + 1)) S
set_option maxHeartbeats 4000000 in
set_option maxRecDepth 100000 in
theorem mxC_add (l : Launch) (Γ : Gm) (θ : Th) (ρ : Rh) (S : Sg) (Z : va_W) (x : Int32) (post : Int32 → Rh → Sg → Prop) (hw : wxC_add post ρ S x) : MM l yxC_add cxC_add 2 (some .int) 0 0 Γ [.ref (θ.1 1), .int x] (WX Γ θ ρ S Z) (KK (fun r : Int32 => some (.int r)) (fun q : Rh × Sg => WX Γ θ q.1 q.2 Z) (fun r q => post r q.1 q.2)) 0 0 := by
  refine MM_of (by decide) (Nat.le_of_ble_eq_true rfl) ?_
  intro p e s m below meth c X hr hlk hnm hG h ls hl
  have hx := X.1
  have hb := X.2.1
  have hl : lv_has ls 2 [(0, .ref (θ.1 1)), (1, .int x)] := hl
  unfold wxC_add at hw
  refine lv_aload_n hx hb dxC_add_0 rfl (lv_at hl 0 rfl) ?_
  refine gx_xC_9 X hG h dxC_add_1 ?_
  refine lv_aload_n hx hb dxC_add_4 rfl (lv_at hl 0 rfl) ?_
  refine gx_xC_13 X hG h (x := ρ.2.2.1 7 0) rfl dxC_add_5 ?_
  refine lv_iload_n hx hb dxC_add_8 rfl (lv_at hl 1 rfl) ?_
  obtain ⟨o1, hw⟩ := hw
  refine sx_2 X hG h o1 dxC_add_9 (fun H locs h => ?_)
  refine lv_aload_n hx hb dxC_add_10 rfl (lv_at hl 0 rfl) ?_
  refine lv_dup hx hb dxC_add_11 rfl ?_
  refine gx_xC_13 X hG h (x := ρ.2.2.1 7 0) rfl dxC_add_12 ?_
  refine lv_iconst (v := 1) hx hb dxC_add_15 (by decide) ?_
  refine lv_iadd hx hb dxC_add_16 ?_
  refine px_xC_13 X hG h dxC_add_17 (fun H locs h => ?_)
  refine lv_aload_n hx hb dxC_add_20 rfl (lv_at hl 0 rfl) ?_
  refine gx_xC_13 X hG h (x := (ρ.2.2.1 7 0) + 1) rfl dxC_add_21 ?_
  refine lv_iconst (v := 1) hx hb dxC_add_24 (by decide) ?_
  refine lv_isub hx hb dxC_add_25 ?_
  exact z_iret X hr hlk h ⟨_, ((rP (rP ρ 6 ((ρ.2.2.1 7 0).toNatClampNeg) x) 7 0 ((ρ.2.2.1 7 0) + 1)), S), rfl, rfl, hw⟩ dxC_add_26
def wxP_setStatement  (post : Unit → Rh → Sg → Prop) (ρ : Rh) (S : Sg) (x : Int32) (y : Int32) : Prop := (vp_in x 6) ∧ post () (rP ρ 5 x.toNatClampNeg y) S
set_option maxHeartbeats 4000000 in
set_option maxRecDepth 100000 in
theorem mxP_setStatement (l : Launch) (Γ : Gm) (θ : Th) (ρ : Rh) (S : Sg) (Z : va_W) (x : Int32) (y : Int32) (post : Unit → Rh → Sg → Prop) (hw : wxP_setStatement post ρ S x y) : MM l yxP_setStatement cxP_setStatement 3 none 0 0 Γ [.ref (θ.1 3), .int x, .int y] (WX Γ θ ρ S Z) (KK (fun _ : Unit => none) (fun q : Rh × Sg => WX Γ θ q.1 q.2 Z) (fun r q => post r q.1 q.2)) 0 0 := by
  refine MM_of (by decide) (Nat.le_of_ble_eq_true rfl) ?_
  intro p e s m below meth c X hr hlk hnm hG h ls hl
  have hx := X.1
  have hb := X.2.1
  have hl : lv_has ls 3 [(0, .ref (θ.1 3)), (1, .int x), (2, .int y)] := hl
  unfold wxP_setStatement at hw
  refine lv_aload_n hx hb dxP_setStatement_0 rfl (lv_at hl 0 rfl) ?_
  refine gx_xP_15 X hG h dxP_setStatement_1 ?_
  refine lv_iload_n hx hb dxP_setStatement_4 rfl (lv_at hl 1 rfl) ?_
  refine lv_iload_n hx hb dxP_setStatement_5 rfl (lv_at hl 2 rfl) ?_
  obtain ⟨o1, hw⟩ := hw
  refine sx_5 X hG h o1 dxP_setStatement_6 (fun H locs h => ?_)
  exact z_vret X hr hlk h ⟨_, ((rP ρ 5 x.toNatClampNeg y), S), rfl, rfl, hw⟩ dxP_setStatement_7
def wxT_declare  (post : Int32 → Rh → Sg → Prop) (ρ : Rh) (S : Sg) (x : Int32) : Prop := wxC_has (fun r1 S2 => ((¬ (r1 = (0 : Int32))) → wxC_isFull (fun r4 S5 => ((r4 = (0 : Int32)) → wxC_add (fun r7 ρ9 S8 => post r7 ρ9 S8) ρ S5 x) ∧ ((¬ (r4 = (0 : Int32))) → post (-2 : Int32) ρ S5)) ρ S2 ) ∧ ((r1 = (0 : Int32)) → post (-1 : Int32) ρ S2)) ρ S x
set_option maxHeartbeats 4000000 in
set_option maxRecDepth 100000 in
theorem mxT_declare (l : Launch) (Γ : Gm) (θ : Th) (ρ : Rh) (S : Sg) (Z : va_W) (x : Int32) (post : Int32 → Rh → Sg → Prop) (hw : wxT_declare post ρ S x) : MM l yxT_declare cxT_declare 2 (some .int) 1 21 Γ [.ref (θ.1 0), .int x] (WX Γ θ ρ S Z) (KK (fun r : Int32 => some (.int r)) (fun q : Rh × Sg => WX Γ θ q.1 q.2 Z) (fun r q => post r q.1 q.2)) 0 0 := by
  refine MM_of (by decide) (Nat.le_of_ble_eq_true rfl) ?_
  intro p e s m below meth c X hr hlk hnm hG h ls hl
  have hx := X.1
  have hb := X.2.1
  have hl : lv_has ls 2 [(0, .ref (θ.1 0)), (1, .int x)] := hl
  unfold wxT_declare at hw
  refine lv_aload_n hx hb dxT_declare_0 rfl (lv_at hl 0 rfl) ?_
  refine gx_xT_10 X hG h dxT_declare_1 ?_
  refine lv_iload_n hx hb dxT_declare_4 rfl (lv_at hl 1 rfl) ?_
  refine cx_xT_60 (As := [.int x]) (rest := []) X hG h hl.1 (mxC_has l Γ θ ρ S Z x _ hw) ⟨show 0 + 1 ≤ 1 from by omega, show 8 + (2 + 11) + 0 ≤ 21 from by omega⟩ (q0 := 1) rfl rfl (Nat.le_of_ble_eq_true rfl) dxT_declare_5 ⟨Nat.le_of_ble_eq_true rfl, Nat.le_of_ble_eq_true rfl⟩ (fun v W1 hK H locs h => ?_)
  obtain ⟨r1, S2, rfl, rfl, hw⟩ := hK
  refine W.eq (g2 := F0 m 8 ls [.int r1]) rfl ?_
  refine lv_if_ne (tgt := 13) hx hb dxT_declare_8 (by decide) (fun c3 => ?_) (fun c3 => ?_)
  · have hw := hw.1 c3
    refine lv_aload_n hx hb dxT_declare_13 rfl (lv_at hl 0 rfl) ?_
    refine gx_xT_10 X hG h dxT_declare_14 ?_
    refine cx_xT_64 (As := []) (rest := []) X hG h hl.1 (mxC_isFull l Γ θ ρ S2 Z  _ hw) ⟨show 0 + 1 ≤ 1 from by omega, show 8 + (1 + 11) + 0 ≤ 21 from by omega⟩ (q0 := 1) rfl rfl (Nat.le_of_ble_eq_true rfl) dxT_declare_17 ⟨Nat.le_of_ble_eq_true rfl, Nat.le_of_ble_eq_true rfl⟩ (fun v W1 hK H locs h => ?_)
    obtain ⟨r4, S5, rfl, rfl, hw⟩ := hK
    refine W.eq (g2 := F0 m 20 ls [.int r4]) rfl ?_
    refine lv_if_eq (tgt := 28) hx hb dxT_declare_20 (by decide) (fun c6 => ?_) (fun c6 => ?_)
    · have hw := hw.1 c6
      refine lv_aload_n hx hb dxT_declare_28 rfl (lv_at hl 0 rfl) ?_
      refine gx_xT_10 X hG h dxT_declare_29 ?_
      refine lv_iload_n hx hb dxT_declare_32 rfl (lv_at hl 1 rfl) ?_
      refine cx_xT_68 (As := [.int x]) (rest := []) X hG h hl.1 (mxC_add l Γ θ ρ S5 Z x _ hw) ⟨show 0 + 1 ≤ 1 from by omega, show 8 + (2 + 11) + 0 ≤ 21 from by omega⟩ (q0 := 1) rfl rfl (Nat.le_of_ble_eq_true rfl) dxT_declare_33 ⟨Nat.le_of_ble_eq_true rfl, Nat.le_of_ble_eq_true rfl⟩ (fun v W1 hK H locs h => ?_)
      obtain ⟨r7, ⟨ρ9, S8⟩, rfl, rfl, hw⟩ := hK
      refine W.eq (g2 := F0 m 36 ls [.int r7]) rfl ?_
      exact z_iret X hr hlk h ⟨_, (ρ9, S8), rfl, rfl, hw⟩ dxT_declare_36
    · have hw := hw.2 c6
      refine lv_bipush (v := -2) hx hb dxT_declare_23 (by decide) ?_
      refine lv_goto (tgt := 36) hx hb dxT_declare_25 (by decide) ?_
      exact z_iret X hr hlk h ⟨_, (ρ, S5), rfl, rfl, hw⟩ dxT_declare_36
  · have hw := hw.2 c3
    refine lv_iconst (v := -1) hx hb dxT_declare_11 (by decide) ?_
    exact z_iret X hr hlk h ⟨_, (ρ, S2), rfl, rfl, hw⟩ dxT_declare_12
def wxT_define  (post : Int32 → Rh → Sg → Prop) (ρ : Rh) (S : Sg) (x : Int32) (y : Int32) : Prop := wxP_isRoutine (fun r1 S2 => ((r1 = (0 : Int32)) → post (-1 : Int32) ρ S2) ∧ ((¬ (r1 = (0 : Int32))) → wxP_isNode (fun r4 S5 => ((¬ (r4 = (0 : Int32))) → wxP_setStatement (fun (_ : Unit) ρ9 S8 => post (0 : Int32) ρ9 S8) ρ S5 x y) ∧ ((r4 = (0 : Int32)) → post (-1 : Int32) ρ S5)) ρ S2 y)) ρ S x
set_option maxHeartbeats 4000000 in
set_option maxRecDepth 100000 in
theorem mxT_define (l : Launch) (Γ : Gm) (θ : Th) (ρ : Rh) (S : Sg) (Z : va_W) (x : Int32) (y : Int32) (post : Int32 → Rh → Sg → Prop) (hw : wxT_define post ρ S x y) : MM l yxT_define cxT_define 3 (some .int) 1 22 Γ [.ref (θ.1 0), .int x, .int y] (WX Γ θ ρ S Z) (KK (fun r : Int32 => some (.int r)) (fun q : Rh × Sg => WX Γ θ q.1 q.2 Z) (fun r q => post r q.1 q.2)) 0 0 := by
  refine MM_of (by decide) (Nat.le_of_ble_eq_true rfl) ?_
  intro p e s m below meth c X hr hlk hnm hG h ls hl
  have hx := X.1
  have hb := X.2.1
  have hl : lv_has ls 3 [(0, .ref (θ.1 0)), (1, .int x), (2, .int y)] := hl
  unfold wxT_define at hw
  refine lv_iload_n hx hb dxT_define_0 rfl (lv_at hl 1 rfl) ?_
  refine cx_xT_83 (As := [.int x]) (rest := []) X hG h hl.1 (mxP_isRoutine l Γ θ ρ S Z x _ hw) ⟨show 0 + 1 ≤ 1 from by omega, show 8 + (1 + 11) + 0 ≤ 22 from by omega⟩ rfl (Nat.le_of_ble_eq_true rfl) dxT_define_1 ⟨Nat.le_of_ble_eq_true rfl, Nat.le_of_ble_eq_true rfl⟩ (fun v W1 hK H locs h => ?_)
  obtain ⟨r1, S2, rfl, rfl, hw⟩ := hK
  refine W.eq (g2 := F0 m 4 ls [.int r1]) rfl ?_
  refine lv_if_eq (tgt := 18) hx hb dxT_define_4 (by decide) (fun c3 => ?_) (fun c3 => ?_)
  · have hw := hw.1 c3
    refine lv_iconst (v := -1) hx hb dxT_define_18 (by decide) ?_
    exact z_iret X hr hlk h ⟨_, (ρ, S2), rfl, rfl, hw⟩ dxT_define_19
  · have hw := hw.2 c3
    refine lv_aload_n hx hb dxT_define_7 rfl (lv_at hl 0 rfl) ?_
    refine gx_xT_21 X hG h dxT_define_8 ?_
    refine lv_iload_n hx hb dxT_define_11 rfl (lv_at hl 2 rfl) ?_
    refine cx_xT_86 (As := [.int y]) (rest := []) X hG h hl.1 (mxP_isNode l Γ θ ρ S2 Z y _ hw) ⟨show 0 + 1 ≤ 1 from by omega, show 8 + (2 + 11) + 0 ≤ 22 from by omega⟩ (q0 := 3) rfl rfl (Nat.le_of_ble_eq_true rfl) dxT_define_12 ⟨Nat.le_of_ble_eq_true rfl, Nat.le_of_ble_eq_true rfl⟩ (fun v W1 hK H locs h => ?_)
    obtain ⟨r4, S5, rfl, rfl, hw⟩ := hK
    refine W.eq (g2 := F0 m 15 ls [.int r4]) rfl ?_
    refine lv_if_ne (tgt := 20) hx hb dxT_define_15 (by decide) (fun c6 => ?_) (fun c6 => ?_)
    · have hw := hw.1 c6
      refine lv_aload_n hx hb dxT_define_20 rfl (lv_at hl 0 rfl) ?_
      refine gx_xT_21 X hG h dxT_define_21 ?_
      refine lv_iload_n hx hb dxT_define_24 rfl (lv_at hl 1 rfl) ?_
      refine lv_iload_n hx hb dxT_define_25 rfl (lv_at hl 2 rfl) ?_
      refine cx_xT_89 (As := [.int x, .int y]) (rest := []) X hG h hl.1 (mxP_setStatement l Γ θ ρ S5 Z x y _ hw) ⟨show 0 + 1 ≤ 1 from by omega, show 8 + (3 + 11) + 0 ≤ 22 from by omega⟩ (q0 := 3) rfl rfl (Nat.le_of_ble_eq_true rfl) dxT_define_26 ⟨Nat.le_of_ble_eq_true rfl, Nat.le_of_ble_eq_true rfl⟩ (fun v W1 hK H locs h => ?_)
      obtain ⟨r7, ⟨ρ9, S8⟩, rfl, rfl, hw⟩ := hK
      refine W.eq (g2 := F0 m 29 ls []) rfl ?_
      refine lv_iconst (v := 0) hx hb dxT_define_29 (by decide) ?_
      exact z_iret X hr hlk h ⟨_, (ρ9, S8), rfl, rfl, hw⟩ dxT_define_30
    · have hw := hw.2 c6
      refine lv_iconst (v := -1) hx hb dxT_define_18 (by decide) ?_
      exact z_iret X hr hlk h ⟨_, (ρ, S5), rfl, rfl, hw⟩ dxT_define_19
def wxT_dispatch  (post : Int32 → Rh → Sg → Prop) (ρ : Rh) (S : Sg) (x : Int32) : Prop := ((x = (-1 : Int32)) → post (0 : Int32) (rP ρ 7 2 x) S) ∧ ((¬ (x = (-1 : Int32))) → wxP_isRoutine (fun r2 S3 => ((¬ (r2 = (0 : Int32))) → post (0 : Int32) (rP ρ 7 2 x) S3) ∧ ((r2 = (0 : Int32)) → post (-1 : Int32) ρ S3)) ρ S x)
set_option maxHeartbeats 4000000 in
set_option maxRecDepth 100000 in
theorem mxT_dispatch (l : Launch) (Γ : Gm) (θ : Th) (ρ : Rh) (S : Sg) (Z : va_W) (x : Int32) (post : Int32 → Rh → Sg → Prop) (hw : wxT_dispatch post ρ S x) : MM l yxT_dispatch cxT_dispatch 2 (some .int) 1 20 Γ [.ref (θ.1 0), .int x] (WX Γ θ ρ S Z) (KK (fun r : Int32 => some (.int r)) (fun q : Rh × Sg => WX Γ θ q.1 q.2 Z) (fun r q => post r q.1 q.2)) 0 0 := by
  refine MM_of (by decide) (Nat.le_of_ble_eq_true rfl) ?_
  intro p e s m below meth c X hr hlk hnm hG h ls hl
  have hx := X.1
  have hb := X.2.1
  have hl : lv_has ls 2 [(0, .ref (θ.1 0)), (1, .int x)] := hl
  unfold wxT_dispatch at hw
  refine lv_iload_n hx hb dxT_dispatch_0 rfl (lv_at hl 1 rfl) ?_
  refine lv_iconst (v := -1) hx hb dxT_dispatch_1 (by decide) ?_
  refine lv_icmp_eq (tgt := 14) hx hb dxT_dispatch_2 (by decide) (fun c1 => ?_) (fun c1 => ?_)
  · have hw := hw.1 c1
    refine lv_aload_n hx hb dxT_dispatch_14 rfl (lv_at hl 0 rfl) ?_
    refine lv_iload_n hx hb dxT_dispatch_15 rfl (lv_at hl 1 rfl) ?_
    refine px_xT_32 X hG h dxT_dispatch_16 (fun H locs h => ?_)
    refine lv_iconst (v := 0) hx hb dxT_dispatch_19 (by decide) ?_
    exact z_iret X hr hlk h ⟨_, ((rP ρ 7 2 x), S), rfl, rfl, hw⟩ dxT_dispatch_20
  · have hw := hw.2 c1
    refine lv_iload_n hx hb dxT_dispatch_5 rfl (lv_at hl 1 rfl) ?_
    refine cx_xT_83 (As := [.int x]) (rest := []) X hG h hl.1 (mxP_isRoutine l Γ θ ρ S Z x _ hw) ⟨show 0 + 1 ≤ 1 from by omega, show 8 + (1 + 11) + 0 ≤ 20 from by omega⟩ rfl (Nat.le_of_ble_eq_true rfl) dxT_dispatch_6 ⟨Nat.le_of_ble_eq_true rfl, Nat.le_of_ble_eq_true rfl⟩ (fun v W1 hK H locs h => ?_)
    obtain ⟨r2, S3, rfl, rfl, hw⟩ := hK
    refine W.eq (g2 := F0 m 9 ls [.int r2]) rfl ?_
    refine lv_if_ne (tgt := 14) hx hb dxT_dispatch_9 (by decide) (fun c4 => ?_) (fun c4 => ?_)
    · have hw := hw.1 c4
      refine lv_aload_n hx hb dxT_dispatch_14 rfl (lv_at hl 0 rfl) ?_
      refine lv_iload_n hx hb dxT_dispatch_15 rfl (lv_at hl 1 rfl) ?_
      refine px_xT_32 X hG h dxT_dispatch_16 (fun H locs h => ?_)
      refine lv_iconst (v := 0) hx hb dxT_dispatch_19 (by decide) ?_
      exact z_iret X hr hlk h ⟨_, ((rP ρ 7 2 x), S3), rfl, rfl, hw⟩ dxT_dispatch_20
    · have hw := hw.2 c4
      refine lv_iconst (v := -1) hx hb dxT_dispatch_12 (by decide) ?_
      exact z_iret X hr hlk h ⟨_, (ρ, S3), rfl, rfl, hw⟩ dxT_dispatch_13
