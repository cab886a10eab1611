theorem lg_self (x : Int64) : lg_cmp x x = 0 := by
  unfold lg_cmp
  rw [if_neg (by simp), if_pos rfl]
theorem HS_swap {Γ : Gm} {s : State} {A B : va_W} {H : Heap} {locs : List Loc} (h : HS Γ s (A ++ B) H locs) : HS Γ s (B ++ A) H locs := by
  refine HS_by h (fun k => if k < B.length then A.length + k else k - B.length) (fun k q hk => ?_) (fun i j hi hj e => ?_)
  · by_cases h1 : k < B.length
    · rw [if_pos h1]
      rw [List.getElem?_append_left h1] at hk
      rw [List.getElem?_append_right (Nat.le_add_right _ _), Nat.add_sub_cancel_left]
      exact hk
    · rw [if_neg h1]
      rw [List.getElem?_append_right (by omega)] at hk
      rw [List.getElem?_append_left (List.getElem?_eq_some_iff.mp hk).1]
      exact hk
  · simp only [List.length_append] at hi hj
    split at e <;> split at e <;> omega
theorem HS_xm {Γ : Gm} {s : State} {θ : Th} {θm : Nat → Nat} {ρ : Rh} {S : Sg} {M : Rg} {H : Heap} {locs : List Loc} (h : HS Γ s (WX Γ θ ρ S (WM Γ θm M [])) H locs) : HS Γ s (WM Γ θm M (WX Γ θ ρ S [])) H locs := by
  have e1 : WX Γ θ ρ S (WM Γ θm M []) = WX Γ θ ρ S [] ++ WM Γ θm M [] := by rw [WX_cat]; rfl
  have e2 : WM Γ θm M (WX Γ θ ρ S []) = WM Γ θm M [] ++ WX Γ θ ρ S [] := by simp [WM]
  rw [e1] at h
  rw [e2]
  exact HS_swap h
theorem HS_mx {Γ : Gm} {s : State} {θ : Th} {θm : Nat → Nat} {ρ : Rh} {S : Sg} {M : Rg} {H : Heap} {locs : List Loc} (h : HS Γ s (WM Γ θm M (WX Γ θ ρ S [])) H locs) : HS Γ s (WX Γ θ ρ S (WM Γ θm M [])) H locs := by
  have e1 : WX Γ θ ρ S (WM Γ θm M []) = WX Γ θ ρ S [] ++ WM Γ θm M [] := by rw [WX_cat]; rfl
  have e2 : WM Γ θm M (WX Γ θ ρ S []) = WM Γ θm M [] ++ WX Γ θ ρ S [] := by simp [WM]
  rw [e2] at h
  rw [e1]
  exact HS_swap h
/-- declare: class and reference answer alike, and stay related -/
def ok_declare (Inv : Rh → Sg → Rg → Prop) : Prop := ∀ (ρ : Rh) (S : Sg) (M : Rg) (a1 : Int32) , Inv ρ S M → wxT_declare (fun r ρ1 S1 => wxQ_declare (fun r2 M1 => r = r2 ∧ Inv ρ1 S1 M1) M a1) ρ S a1
/-- node: class and reference answer alike, and stay related -/
def ok_node (Inv : Rh → Sg → Rg → Prop) : Prop := ∀ (ρ : Rh) (S : Sg) (M : Rg) (a1 a2 a3 a4 : Int32) , Inv ρ S M → wxT_node (fun r ρ1 S1 => wxQ_node (fun r2 M1 => r = r2 ∧ Inv ρ1 S1 M1) M a1 a2 a3 a4) ρ S a1 a2 a3 a4 1 5
/-- define: class and reference answer alike, and stay related -/
def ok_define (Inv : Rh → Sg → Rg → Prop) : Prop := ∀ (ρ : Rh) (S : Sg) (M : Rg) (a1 a2 : Int32) , Inv ρ S M → wxT_define (fun r ρ1 S1 => wxQ_define (fun r2 M1 => r = r2 ∧ Inv ρ1 S1 M1) M a1 a2) ρ S a1 a2
/-- dispatch: class and reference answer alike, and stay related -/
def ok_dispatch (Inv : Rh → Sg → Rg → Prop) : Prop := ∀ (ρ : Rh) (S : Sg) (M : Rg) (a1 : Int32) , Inv ρ S M → wxT_dispatch (fun r ρ1 S1 => wxQ_dispatch (fun r2 M1 => r = r2 ∧ Inv ρ1 S1 M1) M a1) ρ S a1
/-- run: class and reference answer alike, and stay related -/
def ok_run (Inv : Rh → Sg → Rg → Prop) : Prop := ∀ (ρ : Rh) (S : Sg) (M : Rg) (a1 a2 a3 : Int32) , Inv ρ S M → wxT_run (fun r ρ1 S1 => wxQ_run (fun r2 M1 => r = r2 ∧ Inv ρ1 S1 M1) M a1 a2 a3) ρ S a1 a2 a3 6 2000
/-- variable: class and reference answer alike, and stay related -/
def ok_variable (Inv : Rh → Sg → Rg → Prop) : Prop := ∀ (ρ : Rh) (S : Sg) (M : Rg) (a1 : Int32) , Inv ρ S M → wxT_variable (fun r S1 => wxQ_variable (fun r2 M1 => r = r2 ∧ Inv ρ S1 M1) M a1) ρ S a1
/-- value: class and reference answer alike, and stay related -/
def ok_value (Inv : Rh → Sg → Rg → Prop) : Prop := ∀ (ρ : Rh) (S : Sg) (M : Rg) , Inv ρ S M → wxT_value (fun r S1 => wxQ_value (fun r2 M1 => r = r2 ∧ Inv ρ S1 M1) M ) ρ S 
/-- logged: class and reference answer alike, and stay related -/
def ok_logged (Inv : Rh → Sg → Rg → Prop) : Prop := ∀ (ρ : Rh) (S : Sg) (M : Rg) (a1 : Int32) , Inv ρ S M → wxT_logged (fun r S1 => wxQ_logged (fun r2 M1 => r = r2 ∧ Inv ρ S1 M1) M a1) ρ S a1
/-- failure: class and reference answer alike, and stay related -/
def ok_failure (Inv : Rh → Sg → Rg → Prop) : Prop := ∀ (ρ : Rh) (S : Sg) (M : Rg) (a1 a2 : Int32) , Inv ρ S M → wxT_failure (fun r S1 => wxQ_failure (fun r2 M1 => r = r2 ∧ Inv ρ S1 M1) M a1 a2) ρ S a1 a2
/-- second: class and reference answer alike, and stay related -/
def ok_second (Inv : Rh → Sg → Rg → Prop) : Prop := ∀ (ρ : Rh) (S : Sg) (M : Rg) (a1 a2 : Int32) , Inv ρ S M → wxT_second (fun r S1 => wxQ_second (fun r2 M1 => r = r2 ∧ Inv ρ S1 M1) M a1 a2) ρ S a1 a2
/-- report: class and reference answer alike, and stay related -/
def ok_report (Inv : Rh → Sg → Rg → Prop) : Prop := ∀ (ρ : Rh) (S : Sg) (M : Rg) (a1 : Int32) , Inv ρ S M → wxT_report (fun r S1 => wxQ_report (fun r2 M1 => r = r2 ∧ Inv ρ S1 M1) M a1) ρ S a1
/-- count: class and reference answer alike, and stay related -/
def ok_count (Inv : Rh → Sg → Rg → Prop) : Prop := ∀ (ρ : Rh) (S : Sg) (M : Rg) (a1 : Int32) , Inv ρ S M → wxT_count (fun r S1 => wxQ_count (fun r2 M1 => r = r2 ∧ Inv ρ S1 M1) M a1) ρ S a1
def okAll (Inv : Rh → Sg → Rg → Prop) : Prop := ok_declare Inv ∧ ok_node Inv ∧ ok_define Inv ∧ ok_dispatch Inv ∧ ok_run Inv ∧ ok_variable Inv ∧ ok_value Inv ∧ ok_logged Inv ∧ ok_failure Inv ∧ ok_second Inv ∧ ok_report Inv ∧ ok_count Inv
set_option maxHeartbeats 4000000 in
set_option maxRecDepth 100000 in
theorem law_loop {p : Program} {l : Launch} {e : Env} {s : State} {m : MethodId} {below : List Frame} {meth : Method} {c : Code} {b L : Nat} {xs : Nat → Int32} (Γ : Gm) (θ : Th) (θm : Nat → Nat) (Inv : Rh → Sg → Rg → Prop) (hI : okAll Inv) (hL : L ≤ 2561) (X : CallFix p m c code 4 s #[Value.ref b] big RxL) (hr : meth.sig.returnType = ret) (hlk : meth.locks = false) (hG : GX Γ s s.heap) (hB : Γ.2.1 = s.heap.size) (hX : va_X b L xs s s.heap) (hbl : b < s.heap.size) :
    ∀ (n j i : Nat) (ρ : Rh) (S : Sg) (M : Rg), j ≤ 512 → i = 1 + 5 * j → 513 ≤ j + n → Inv ρ S M → ∀ (H : Heap) (locs : List Loc), HS Γ s (WX Γ θ ρ S (WM Γ θm M [])) H locs → ∀ ls : Array Slot, lv_has ls 4 [(3, .int (nI i)), (2, .ref (θm 0)), (1, .ref (θ.1 0)), (0, .ref b)] → W p l e room_1 s m #[Value.ref b] below meth c H locs (400 + 6 * j) (10000 + 2000 * j) (lw_Z below #[Value.ref b] s) (F0 m 28 ls []) := by
  have hx := X.1
  have hb := X.2.1
  obtain ⟨I_declare, I_node, I_define, I_dispatch, I_run, I_variable, I_value, I_logged, I_failure, I_second, I_report, I_count⟩ := hI
  have hbA : ¬ AA Γ b := Nat.not_le.mpr (by rw [hB]; exact hbl)
  intro n
  induction n with
  | zero => intro j i ρ S M hj hi hn; exact absurd hn (by omega)
  | succ n ih =>
    intro j i ρ S M hj hi hn hinv H locs h ls hl
    subst hi
    refine lv_iload_n hx hb dxL_law_28 rfl (lv_at hl 0 rfl) ?_
    refine lv_aload_n hx hb dxL_law_29 rfl (lv_at hl 3 rfl) ?_
    refine va_slen hx hb hX hbl hbA h.2.2 dxL_law_30 ?_
    refine lv_iconst (v := 5) hx hb dxL_law_31 (by decide) ?_
    refine lv_isub hx hb dxL_law_32 ?_
    have e5 : (Int32.ofNat L - 5).toInt = (L : Int) - 5 := pk_sub_toInt (a := L) (b := 5) (by omega) (by decide)
    have ei : (nI (1 + 5 * j)).toInt = ((1 + 5 * j : Nat) : Int) := nI_toInt (by omega)
    refine lv_icmp_gt (tgt := 461) hx hb dxL_law_33 (by decide) (fun c1 => ?_) (fun c1 => ?_)
    · refine lv_iconst (v := 1) hx hb dxL_law_461 (by decide) ?_
      refine va_forget (fun q hq => by have := h.2.2.2.2 q hq; rw [← hB]; exact this) ?_
      refine W.widen (k := 600000) (n := 7302250) (by omega) (by omega) ?_
      exact lw_ret hx hb hr hlk dxL_law_462
    · have hlt : 1 + 5 * j + 4 < L := by rw [Int32.lt_iff_toInt_lt, e5, ei] at c1; omega
      have hq0 : vp_in (nI (1 + 5 * j)) L := vp_in_nI (by omega) (by omega)
      have hq1 : vp_in (nI (1 + 5 * j) + 1) L := by rw [show (nI (1 + 5 * j) + 1 : Int32) = nI (1 + 5 * j + 1) from nI_add (1 + 5 * j) 1]; exact vp_in_nI (by omega) (by omega)
      have hq2 : vp_in (nI (1 + 5 * j) + 2) L := by rw [show (nI (1 + 5 * j) + 2 : Int32) = nI (1 + 5 * j + 2) from nI_add (1 + 5 * j) 2]; exact vp_in_nI (by omega) (by omega)
      have hq3 : vp_in (nI (1 + 5 * j) + 3) L := by rw [show (nI (1 + 5 * j) + 3 : Int32) = nI (1 + 5 * j + 3) from nI_add (1 + 5 * j) 3]; exact vp_in_nI (by omega) (by omega)
      have hq4 : vp_in (nI (1 + 5 * j) + 4) L := by rw [show (nI (1 + 5 * j) + 4 : Int32) = nI (1 + 5 * j + 4) from nI_add (1 + 5 * j) 4]; exact vp_in_nI (by omega) (by omega)
      refine lv_aload_n hx hb dxL_law_36 rfl (lv_at hl 3 rfl) ?_
      refine lv_iload_n hx hb dxL_law_37 rfl (lv_at hl 0 rfl) ?_
      refine va_sld hx hb hX hbl hbA h.2.2 hq0 dxL_law_38 ?_
      refine lv_bipush (v := 15) hx hb dxL_law_39 (by decide) ?_
      refine lv_iand hx hb dxL_law_41 ?_
      have next : ∀ (ρ1 : Rh) (S1 : Sg) (M1 : Rg), Inv ρ1 S1 M1 → ∀ (H : Heap) (locs : List Loc), HS Γ s (WX Γ θ ρ1 S1 (WM Γ θm M1 [])) H locs → ∀ (cu su : Nat), cu ≤ 400 + 6 * (j + 1) → su ≤ 10000 + 2000 * (j + 1) → W p l e room_1 s m #[Value.ref b] below meth c H locs cu su (lw_Z below #[Value.ref b] s) (F0 m 455 ls []) := by
        intro ρ1 S1 M1 hinv1 H locs h cu su hcu hsu
        refine lv_iinc (v := nI (1 + 5 * (j + 1))) (lv' := [(3, .int (nI (1 + 5 * (j + 1)))), (2, .ref (θm 0)), (1, .ref (θ.1 0)), (0, .ref b)]) hx hb dxL_law_455 hl (k := 0) rfl (nI_add (1 + 5 * j) 5) (by decide) rfl (fun ls hl => ?_)
        refine lv_goto (tgt := 28) hx hb dxL_law_458 (by decide) ?_
        refine W.widen (k := 400 + 6 * (j + 1)) (n := 10000 + 2000 * (j + 1)) hcu hsu ?_
        exact ih (j + 1) _ ρ1 S1 M1 (by omega) rfl (by omega) hinv1 H locs h ls hl
      by_cases hsw : (xs (nI (1 + 5 * j)).toNatClampNeg &&& 15).toInt < 0 ∨ 11 < (xs (nI (1 + 5 * j)).toNatClampNeg &&& 15).toInt
      · refine lv_tableOut (tgt := 455) hx hb dxL_law_42 hsw (by decide) ?_
        exact next ρ S M hinv H locs h _ _ (by omega) (by omega)
      · obtain ⟨jj, j_h, ee⟩ := sw_in (lo := 0) (n := 11) hsw
        match jj, j_h, ee with
        | 0, _, ee =>
          have ee : (xs (nI (1 + 5 * j)).toNatClampNeg &&& 15) = 0 := ee
          refine lv_tableIn (off := 62) (tgt := 104) hx hb dxL_law_42 (by rw [ee]; decide) (by rw [ee]; decide) (by rw [ee]; rfl) (by decide) ?_
          refine lv_aload_n hx hb dxL_law_104 rfl (lv_at hl 2 rfl) ?_
          refine lv_aload_n hx hb dxL_law_105 rfl (lv_at hl 3 rfl) ?_
          refine lv_iload_n hx hb dxL_law_106 rfl (lv_at hl 0 rfl) ?_
          refine lv_iconst (v := 1) hx hb dxL_law_107 (by decide) ?_
          refine lv_iadd hx hb dxL_law_108 ?_
          refine va_sld hx hb hX hbl hbA h.2.2 hq1 dxL_law_109 ?_
          refine cx_xL_21 (As := [.int (xs (nI (1 + 5 * j) + 1).toNatClampNeg)]) (rest := []) X hG h hl.1 (mxT_declare l Γ θ ρ S (WM Γ θm M []) (xs (nI (1 + 5 * j) + 1).toNatClampNeg) _ (I_declare ρ S M (xs (nI (1 + 5 * j) + 1).toNatClampNeg) hinv)) ⟨Nat.le_of_ble_eq_true rfl, Nat.le_of_ble_eq_true rfl⟩ (q0 := 0) rfl rfl (Nat.le_of_ble_eq_true rfl) dxL_law_110 ⟨show 400 + 6 * j + 0 ≤ 600000 by omega, show 10000 + 2000 * j + 0 ≤ 7302250 by omega⟩ (fun v W1 hK H locs h => ?_)
          obtain ⟨r1, ⟨ρ1, S1⟩, rfl, rfl, hw⟩ := hK
          refine W.eq (g2 := F0 m 113 ls [.int r1]) rfl ?_
          have h := HS_xm h
          refine lv_aload_n hx hb dxL_law_113 rfl (lv_at hl 1 rfl) ?_
          refine lv_aload_n hx hb dxL_law_114 rfl (lv_at hl 3 rfl) ?_
          refine lv_iload_n hx hb dxL_law_115 rfl (lv_at hl 0 rfl) ?_
          refine lv_iconst (v := 1) hx hb dxL_law_116 (by decide) ?_
          refine lv_iadd hx hb dxL_law_117 ?_
          refine va_sld hx hb hX hbl hbA h.2.2 hq1 dxL_law_118 ?_
          refine cx_xL_25 (As := [.int (xs (nI (1 + 5 * j) + 1).toNatClampNeg)]) (rest := [.int r1]) X hG h hl.1 (mxQ_declare l Γ θm M (WX Γ θ ρ1 S1 []) (xs (nI (1 + 5 * j) + 1).toNatClampNeg) _ hw) ⟨Nat.le_of_ble_eq_true rfl, Nat.le_of_ble_eq_true rfl⟩ (q0 := 0) rfl rfl (Nat.le_of_ble_eq_true rfl) dxL_law_119 ⟨show 400 + 6 * j + 0 + 0 ≤ 600000 by omega, show 10000 + 2000 * j + 0 + 0 ≤ 7302250 by omega⟩ (fun v W1 hK H locs h => ?_)
          obtain ⟨r2, M1, rfl, rfl, er, hinv⟩ := hK
          refine W.eq (g2 := F0 m 122 ls [.int r2, .int r1]) rfl ?_
          have h := HS_mx h
          refine lv_icmp_eq (tgt := 455) hx hb dxL_law_122 (by decide) (fun c9 => ?_) (fun c9 => absurd er c9)
          exact next ρ1 S1 M1 hinv _ _ h _ _ (by omega) (by omega)
        | 1, _, ee =>
          have ee : (xs (nI (1 + 5 * j)).toNatClampNeg &&& 15) = 1 := ee
          refine lv_tableIn (off := 85) (tgt := 127) hx hb dxL_law_42 (by rw [ee]; decide) (by rw [ee]; decide) (by rw [ee]; rfl) (by decide) ?_
          refine lv_aload_n hx hb dxL_law_127 rfl (lv_at hl 2 rfl) ?_
          refine lv_aload_n hx hb dxL_law_128 rfl (lv_at hl 3 rfl) ?_
          refine lv_iload_n hx hb dxL_law_129 rfl (lv_at hl 0 rfl) ?_
          refine lv_iconst (v := 1) hx hb dxL_law_130 (by decide) ?_
          refine lv_iadd hx hb dxL_law_131 ?_
          refine va_sld hx hb hX hbl hbA h.2.2 hq1 dxL_law_132 ?_
          refine lv_aload_n hx hb dxL_law_133 rfl (lv_at hl 3 rfl) ?_
          refine lv_iload_n hx hb dxL_law_134 rfl (lv_at hl 0 rfl) ?_
          refine lv_iconst (v := 2) hx hb dxL_law_135 (by decide) ?_
          refine lv_iadd hx hb dxL_law_136 ?_
          refine va_sld hx hb hX hbl hbA h.2.2 hq2 dxL_law_137 ?_
          refine lv_aload_n hx hb dxL_law_138 rfl (lv_at hl 3 rfl) ?_
          refine lv_iload_n hx hb dxL_law_139 rfl (lv_at hl 0 rfl) ?_
          refine lv_iconst (v := 3) hx hb dxL_law_140 (by decide) ?_
          refine lv_iadd hx hb dxL_law_141 ?_
          refine va_sld hx hb hX hbl hbA h.2.2 hq3 dxL_law_142 ?_
          refine lv_aload_n hx hb dxL_law_143 rfl (lv_at hl 3 rfl) ?_
          refine lv_iload_n hx hb dxL_law_144 rfl (lv_at hl 0 rfl) ?_
          refine lv_iconst (v := 4) hx hb dxL_law_145 (by decide) ?_
          refine lv_iadd hx hb dxL_law_146 ?_
          refine va_sld hx hb hX hbl hbA h.2.2 hq4 dxL_law_147 ?_
          refine cx_xL_26 (As := [.int (xs (nI (1 + 5 * j) + 1).toNatClampNeg), .int (xs (nI (1 + 5 * j) + 2).toNatClampNeg), .int (xs (nI (1 + 5 * j) + 3).toNatClampNeg), .int (xs (nI (1 + 5 * j) + 4).toNatClampNeg)]) (rest := []) X hG h hl.1 (mxT_node l Γ θ ρ S (WM Γ θm M []) (xs (nI (1 + 5 * j) + 1).toNatClampNeg) (xs (nI (1 + 5 * j) + 2).toNatClampNeg) (xs (nI (1 + 5 * j) + 3).toNatClampNeg) (xs (nI (1 + 5 * j) + 4).toNatClampNeg) 1 5 _ (I_node ρ S M (xs (nI (1 + 5 * j) + 1).toNatClampNeg) (xs (nI (1 + 5 * j) + 2).toNatClampNeg) (xs (nI (1 + 5 * j) + 3).toNatClampNeg) (xs (nI (1 + 5 * j) + 4).toNatClampNeg) hinv)) ⟨Nat.le_of_ble_eq_true rfl, Nat.le_of_ble_eq_true rfl⟩ (q0 := 0) rfl rfl (Nat.le_of_ble_eq_true rfl) dxL_law_148 ⟨show 400 + 6 * j + 1 ≤ 600000 by omega, show 10000 + 2000 * j + 5 ≤ 7302250 by omega⟩ (fun v W1 hK H locs h => ?_)
          obtain ⟨r1, ⟨ρ1, S1⟩, rfl, rfl, hw⟩ := hK
          refine W.eq (g2 := F0 m 151 ls [.int r1]) rfl ?_
          have h := HS_xm h
          refine lv_aload_n hx hb dxL_law_151 rfl (lv_at hl 1 rfl) ?_
          refine lv_aload_n hx hb dxL_law_152 rfl (lv_at hl 3 rfl) ?_
          refine lv_iload_n hx hb dxL_law_153 rfl (lv_at hl 0 rfl) ?_
          refine lv_iconst (v := 1) hx hb dxL_law_154 (by decide) ?_
          refine lv_iadd hx hb dxL_law_155 ?_
          refine va_sld hx hb hX hbl hbA h.2.2 hq1 dxL_law_156 ?_
          refine lv_aload_n hx hb dxL_law_157 rfl (lv_at hl 3 rfl) ?_
          refine lv_iload_n hx hb dxL_law_158 rfl (lv_at hl 0 rfl) ?_
          refine lv_iconst (v := 2) hx hb dxL_law_159 (by decide) ?_
          refine lv_iadd hx hb dxL_law_160 ?_
          refine va_sld hx hb hX hbl hbA h.2.2 hq2 dxL_law_161 ?_
          refine lv_aload_n hx hb dxL_law_162 rfl (lv_at hl 3 rfl) ?_
          refine lv_iload_n hx hb dxL_law_163 rfl (lv_at hl 0 rfl) ?_
          refine lv_iconst (v := 3) hx hb dxL_law_164 (by decide) ?_
          refine lv_iadd hx hb dxL_law_165 ?_
          refine va_sld hx hb hX hbl hbA h.2.2 hq3 dxL_law_166 ?_
          refine lv_aload_n hx hb dxL_law_167 rfl (lv_at hl 3 rfl) ?_
          refine lv_iload_n hx hb dxL_law_168 rfl (lv_at hl 0 rfl) ?_
          refine lv_iconst (v := 4) hx hb dxL_law_169 (by decide) ?_
          refine lv_iadd hx hb dxL_law_170 ?_
          refine va_sld hx hb hX hbl hbA h.2.2 hq4 dxL_law_171 ?_
          refine cx_xL_30 (As := [.int (xs (nI (1 + 5 * j) + 1).toNatClampNeg), .int (xs (nI (1 + 5 * j) + 2).toNatClampNeg), .int (xs (nI (1 + 5 * j) + 3).toNatClampNeg), .int (xs (nI (1 + 5 * j) + 4).toNatClampNeg)]) (rest := [.int r1]) X hG h hl.1 (mxQ_node l Γ θm M (WX Γ θ ρ1 S1 []) (xs (nI (1 + 5 * j) + 1).toNatClampNeg) (xs (nI (1 + 5 * j) + 2).toNatClampNeg) (xs (nI (1 + 5 * j) + 3).toNatClampNeg) (xs (nI (1 + 5 * j) + 4).toNatClampNeg) _ hw) ⟨Nat.le_of_ble_eq_true rfl, Nat.le_of_ble_eq_true rfl⟩ (q0 := 0) rfl rfl (Nat.le_of_ble_eq_true rfl) dxL_law_172 ⟨show 400 + 6 * j + 1 + 0 ≤ 600000 by omega, show 10000 + 2000 * j + 5 + 0 ≤ 7302250 by omega⟩ (fun v W1 hK H locs h => ?_)
          obtain ⟨r2, M1, rfl, rfl, er, hinv⟩ := hK
          refine W.eq (g2 := F0 m 175 ls [.int r2, .int r1]) rfl ?_
          have h := HS_mx h
          refine lv_icmp_eq (tgt := 455) hx hb dxL_law_175 (by decide) (fun c9 => ?_) (fun c9 => absurd er c9)
          exact next ρ1 S1 M1 hinv _ _ h _ _ (by omega) (by omega)
        | 2, _, ee =>
          have ee : (xs (nI (1 + 5 * j)).toNatClampNeg &&& 15) = 2 := ee
          refine lv_tableIn (off := 138) (tgt := 180) hx hb dxL_law_42 (by rw [ee]; decide) (by rw [ee]; decide) (by rw [ee]; rfl) (by decide) ?_
          refine lv_aload_n hx hb dxL_law_180 rfl (lv_at hl 2 rfl) ?_
          refine lv_aload_n hx hb dxL_law_181 rfl (lv_at hl 3 rfl) ?_
          refine lv_iload_n hx hb dxL_law_182 rfl (lv_at hl 0 rfl) ?_
          refine lv_iconst (v := 1) hx hb dxL_law_183 (by decide) ?_
          refine lv_iadd hx hb dxL_law_184 ?_
          refine va_sld hx hb hX hbl hbA h.2.2 hq1 dxL_law_185 ?_
          refine lv_aload_n hx hb dxL_law_186 rfl (lv_at hl 3 rfl) ?_
          refine lv_iload_n hx hb dxL_law_187 rfl (lv_at hl 0 rfl) ?_
          refine lv_iconst (v := 2) hx hb dxL_law_188 (by decide) ?_
          refine lv_iadd hx hb dxL_law_189 ?_
          refine va_sld hx hb hX hbl hbA h.2.2 hq2 dxL_law_190 ?_
          refine cx_xL_31 (As := [.int (xs (nI (1 + 5 * j) + 1).toNatClampNeg), .int (xs (nI (1 + 5 * j) + 2).toNatClampNeg)]) (rest := []) X hG h hl.1 (mxT_define l Γ θ ρ S (WM Γ θm M []) (xs (nI (1 + 5 * j) + 1).toNatClampNeg) (xs (nI (1 + 5 * j) + 2).toNatClampNeg) _ (I_define ρ S M (xs (nI (1 + 5 * j) + 1).toNatClampNeg) (xs (nI (1 + 5 * j) + 2).toNatClampNeg) hinv)) ⟨Nat.le_of_ble_eq_true rfl, Nat.le_of_ble_eq_true rfl⟩ (q0 := 0) rfl rfl (Nat.le_of_ble_eq_true rfl) dxL_law_191 ⟨show 400 + 6 * j + 0 ≤ 600000 by omega, show 10000 + 2000 * j + 0 ≤ 7302250 by omega⟩ (fun v W1 hK H locs h => ?_)
          obtain ⟨r1, ⟨ρ1, S1⟩, rfl, rfl, hw⟩ := hK
          refine W.eq (g2 := F0 m 194 ls [.int r1]) rfl ?_
          have h := HS_xm h
          refine lv_aload_n hx hb dxL_law_194 rfl (lv_at hl 1 rfl) ?_
          refine lv_aload_n hx hb dxL_law_195 rfl (lv_at hl 3 rfl) ?_
          refine lv_iload_n hx hb dxL_law_196 rfl (lv_at hl 0 rfl) ?_
          refine lv_iconst (v := 1) hx hb dxL_law_197 (by decide) ?_
          refine lv_iadd hx hb dxL_law_198 ?_
          refine va_sld hx hb hX hbl hbA h.2.2 hq1 dxL_law_199 ?_
          refine lv_aload_n hx hb dxL_law_200 rfl (lv_at hl 3 rfl) ?_
          refine lv_iload_n hx hb dxL_law_201 rfl (lv_at hl 0 rfl) ?_
          refine lv_iconst (v := 2) hx hb dxL_law_202 (by decide) ?_
          refine lv_iadd hx hb dxL_law_203 ?_
          refine va_sld hx hb hX hbl hbA h.2.2 hq2 dxL_law_204 ?_
          refine cx_xL_35 (As := [.int (xs (nI (1 + 5 * j) + 1).toNatClampNeg), .int (xs (nI (1 + 5 * j) + 2).toNatClampNeg)]) (rest := [.int r1]) X hG h hl.1 (mxQ_define l Γ θm M (WX Γ θ ρ1 S1 []) (xs (nI (1 + 5 * j) + 1).toNatClampNeg) (xs (nI (1 + 5 * j) + 2).toNatClampNeg) _ hw) ⟨Nat.le_of_ble_eq_true rfl, Nat.le_of_ble_eq_true rfl⟩ (q0 := 0) rfl rfl (Nat.le_of_ble_eq_true rfl) dxL_law_205 ⟨show 400 + 6 * j + 0 + 0 ≤ 600000 by omega, show 10000 + 2000 * j + 0 + 0 ≤ 7302250 by omega⟩ (fun v W1 hK H locs h => ?_)
          obtain ⟨r2, M1, rfl, rfl, er, hinv⟩ := hK
          refine W.eq (g2 := F0 m 208 ls [.int r2, .int r1]) rfl ?_
          have h := HS_mx h
          refine lv_icmp_eq (tgt := 455) hx hb dxL_law_208 (by decide) (fun c9 => ?_) (fun c9 => absurd er c9)
          exact next ρ1 S1 M1 hinv _ _ h _ _ (by omega) (by omega)
        | 3, _, ee =>
          have ee : (xs (nI (1 + 5 * j)).toNatClampNeg &&& 15) = 3 := ee
          refine lv_tableIn (off := 171) (tgt := 213) hx hb dxL_law_42 (by rw [ee]; decide) (by rw [ee]; decide) (by rw [ee]; rfl) (by decide) ?_
          refine lv_aload_n hx hb dxL_law_213 rfl (lv_at hl 2 rfl) ?_
          refine lv_aload_n hx hb dxL_law_214 rfl (lv_at hl 3 rfl) ?_
          refine lv_iload_n hx hb dxL_law_215 rfl (lv_at hl 0 rfl) ?_
          refine lv_iconst (v := 1) hx hb dxL_law_216 (by decide) ?_
          refine lv_iadd hx hb dxL_law_217 ?_
          refine va_sld hx hb hX hbl hbA h.2.2 hq1 dxL_law_218 ?_
          refine cx_xL_36 (As := [.int (xs (nI (1 + 5 * j) + 1).toNatClampNeg)]) (rest := []) X hG h hl.1 (mxT_dispatch l Γ θ ρ S (WM Γ θm M []) (xs (nI (1 + 5 * j) + 1).toNatClampNeg) _ (I_dispatch ρ S M (xs (nI (1 + 5 * j) + 1).toNatClampNeg) hinv)) ⟨Nat.le_of_ble_eq_true rfl, Nat.le_of_ble_eq_true rfl⟩ (q0 := 0) rfl rfl (Nat.le_of_ble_eq_true rfl) dxL_law_219 ⟨show 400 + 6 * j + 0 ≤ 600000 by omega, show 10000 + 2000 * j + 0 ≤ 7302250 by omega⟩ (fun v W1 hK H locs h => ?_)
          obtain ⟨r1, ⟨ρ1, S1⟩, rfl, rfl, hw⟩ := hK
          refine W.eq (g2 := F0 m 222 ls [.int r1]) rfl ?_
          have h := HS_xm h
          refine lv_aload_n hx hb dxL_law_222 rfl (lv_at hl 1 rfl) ?_
          refine lv_aload_n hx hb dxL_law_223 rfl (lv_at hl 3 rfl) ?_
          refine lv_iload_n hx hb dxL_law_224 rfl (lv_at hl 0 rfl) ?_
          refine lv_iconst (v := 1) hx hb dxL_law_225 (by decide) ?_
          refine lv_iadd hx hb dxL_law_226 ?_
          refine va_sld hx hb hX hbl hbA h.2.2 hq1 dxL_law_227 ?_
          refine cx_xL_39 (As := [.int (xs (nI (1 + 5 * j) + 1).toNatClampNeg)]) (rest := [.int r1]) X hG h hl.1 (mxQ_dispatch l Γ θm M (WX Γ θ ρ1 S1 []) (xs (nI (1 + 5 * j) + 1).toNatClampNeg) _ hw) ⟨Nat.le_of_ble_eq_true rfl, Nat.le_of_ble_eq_true rfl⟩ (q0 := 0) rfl rfl (Nat.le_of_ble_eq_true rfl) dxL_law_228 ⟨show 400 + 6 * j + 0 + 0 ≤ 600000 by omega, show 10000 + 2000 * j + 0 + 0 ≤ 7302250 by omega⟩ (fun v W1 hK H locs h => ?_)
          obtain ⟨r2, M1, rfl, rfl, er, hinv⟩ := hK
          refine W.eq (g2 := F0 m 231 ls [.int r2, .int r1]) rfl ?_
          have h := HS_mx h
          refine lv_icmp_eq (tgt := 455) hx hb dxL_law_231 (by decide) (fun c9 => ?_) (fun c9 => absurd er c9)
          exact next ρ1 S1 M1 hinv _ _ h _ _ (by omega) (by omega)
        | 4, _, ee =>
          have ee : (xs (nI (1 + 5 * j)).toNatClampNeg &&& 15) = 4 := ee
          refine lv_tableIn (off := 194) (tgt := 236) hx hb dxL_law_42 (by rw [ee]; decide) (by rw [ee]; decide) (by rw [ee]; rfl) (by decide) ?_
          refine lv_aload_n hx hb dxL_law_236 rfl (lv_at hl 2 rfl) ?_
          refine lv_aload_n hx hb dxL_law_237 rfl (lv_at hl 3 rfl) ?_
          refine lv_iload_n hx hb dxL_law_238 rfl (lv_at hl 0 rfl) ?_
          refine lv_iconst (v := 1) hx hb dxL_law_239 (by decide) ?_
          refine lv_iadd hx hb dxL_law_240 ?_
          refine va_sld hx hb hX hbl hbA h.2.2 hq1 dxL_law_241 ?_
          refine lv_aload_n hx hb dxL_law_242 rfl (lv_at hl 3 rfl) ?_
          refine lv_iload_n hx hb dxL_law_243 rfl (lv_at hl 0 rfl) ?_
          refine lv_iconst (v := 2) hx hb dxL_law_244 (by decide) ?_
          refine lv_iadd hx hb dxL_law_245 ?_
          refine va_sld hx hb hX hbl hbA h.2.2 hq2 dxL_law_246 ?_
          refine lv_aload_n hx hb dxL_law_247 rfl (lv_at hl 3 rfl) ?_
          refine lv_iload_n hx hb dxL_law_248 rfl (lv_at hl 0 rfl) ?_
          refine lv_iconst (v := 3) hx hb dxL_law_249 (by decide) ?_
          refine lv_iadd hx hb dxL_law_250 ?_
          refine va_sld hx hb hX hbl hbA h.2.2 hq3 dxL_law_251 ?_
          refine cx_xL_40 (As := [.int (xs (nI (1 + 5 * j) + 1).toNatClampNeg), .int (xs (nI (1 + 5 * j) + 2).toNatClampNeg), .int (xs (nI (1 + 5 * j) + 3).toNatClampNeg)]) (rest := []) X hG h hl.1 (mxT_run l Γ θ ρ S (WM Γ θm M []) (xs (nI (1 + 5 * j) + 1).toNatClampNeg) (xs (nI (1 + 5 * j) + 2).toNatClampNeg) (xs (nI (1 + 5 * j) + 3).toNatClampNeg) 6 2000 _ (I_run ρ S M (xs (nI (1 + 5 * j) + 1).toNatClampNeg) (xs (nI (1 + 5 * j) + 2).toNatClampNeg) (xs (nI (1 + 5 * j) + 3).toNatClampNeg) hinv)) ⟨Nat.le_of_ble_eq_true rfl, Nat.le_of_ble_eq_true rfl⟩ (q0 := 0) rfl rfl (Nat.le_of_ble_eq_true rfl) dxL_law_252 ⟨show 400 + 6 * j + 6 ≤ 600000 by omega, show 10000 + 2000 * j + 2000 ≤ 7302250 by omega⟩ (fun v W1 hK H locs h => ?_)
          obtain ⟨r1, ⟨ρ1, S1⟩, rfl, rfl, hw⟩ := hK
          refine W.eq (g2 := F0 m 255 ls [.int r1]) rfl ?_
          have h := HS_xm h
          refine lv_aload_n hx hb dxL_law_255 rfl (lv_at hl 1 rfl) ?_
          refine lv_aload_n hx hb dxL_law_256 rfl (lv_at hl 3 rfl) ?_
          refine lv_iload_n hx hb dxL_law_257 rfl (lv_at hl 0 rfl) ?_
          refine lv_iconst (v := 1) hx hb dxL_law_258 (by decide) ?_
          refine lv_iadd hx hb dxL_law_259 ?_
          refine va_sld hx hb hX hbl hbA h.2.2 hq1 dxL_law_260 ?_
          refine lv_aload_n hx hb dxL_law_261 rfl (lv_at hl 3 rfl) ?_
          refine lv_iload_n hx hb dxL_law_262 rfl (lv_at hl 0 rfl) ?_
          refine lv_iconst (v := 2) hx hb dxL_law_263 (by decide) ?_
          refine lv_iadd hx hb dxL_law_264 ?_
          refine va_sld hx hb hX hbl hbA h.2.2 hq2 dxL_law_265 ?_
          refine lv_aload_n hx hb dxL_law_266 rfl (lv_at hl 3 rfl) ?_
          refine lv_iload_n hx hb dxL_law_267 rfl (lv_at hl 0 rfl) ?_
          refine lv_iconst (v := 3) hx hb dxL_law_268 (by decide) ?_
          refine lv_iadd hx hb dxL_law_269 ?_
          refine va_sld hx hb hX hbl hbA h.2.2 hq3 dxL_law_270 ?_
          refine cx_xL_44 (As := [.int (xs (nI (1 + 5 * j) + 1).toNatClampNeg), .int (xs (nI (1 + 5 * j) + 2).toNatClampNeg), .int (xs (nI (1 + 5 * j) + 3).toNatClampNeg)]) (rest := [.int r1]) X hG h hl.1 (mxQ_run l Γ θm M (WX Γ θ ρ1 S1 []) (xs (nI (1 + 5 * j) + 1).toNatClampNeg) (xs (nI (1 + 5 * j) + 2).toNatClampNeg) (xs (nI (1 + 5 * j) + 3).toNatClampNeg) _ hw) ⟨Nat.le_of_ble_eq_true rfl, Nat.le_of_ble_eq_true rfl⟩ (q0 := 0) rfl rfl (Nat.le_of_ble_eq_true rfl) dxL_law_271 ⟨show 400 + 6 * j + 6 + 0 ≤ 600000 by omega, show 10000 + 2000 * j + 2000 + 0 ≤ 7302250 by omega⟩ (fun v W1 hK H locs h => ?_)
          obtain ⟨r2, M1, rfl, rfl, er, hinv⟩ := hK
          refine W.eq (g2 := F0 m 274 ls [.int r2, .int r1]) rfl ?_
          have h := HS_mx h
          refine lv_icmp_eq (tgt := 455) hx hb dxL_law_274 (by decide) (fun c9 => ?_) (fun c9 => absurd er c9)
          exact next ρ1 S1 M1 hinv _ _ h _ _ (by omega) (by omega)
        | 5, _, ee =>
          have ee : (xs (nI (1 + 5 * j)).toNatClampNeg &&& 15) = 5 := ee
          refine lv_tableIn (off := 237) (tgt := 279) hx hb dxL_law_42 (by rw [ee]; decide) (by rw [ee]; decide) (by rw [ee]; rfl) (by decide) ?_
          refine lv_aload_n hx hb dxL_law_279 rfl (lv_at hl 2 rfl) ?_
          refine lv_aload_n hx hb dxL_law_280 rfl (lv_at hl 3 rfl) ?_
          refine lv_iload_n hx hb dxL_law_281 rfl (lv_at hl 0 rfl) ?_
          refine lv_iconst (v := 1) hx hb dxL_law_282 (by decide) ?_
          refine lv_iadd hx hb dxL_law_283 ?_
          refine va_sld hx hb hX hbl hbA h.2.2 hq1 dxL_law_284 ?_
          refine cx_xL_45 (As := [.int (xs (nI (1 + 5 * j) + 1).toNatClampNeg)]) (rest := []) X hG h hl.1 (mxT_variable l Γ θ ρ S (WM Γ θm M []) (xs (nI (1 + 5 * j) + 1).toNatClampNeg) _ (I_variable ρ S M (xs (nI (1 + 5 * j) + 1).toNatClampNeg) hinv)) ⟨Nat.le_of_ble_eq_true rfl, Nat.le_of_ble_eq_true rfl⟩ (q0 := 0) rfl rfl (Nat.le_of_ble_eq_true rfl) dxL_law_285 ⟨show 400 + 6 * j + 0 ≤ 600000 by omega, show 10000 + 2000 * j + 0 ≤ 7302250 by omega⟩ (fun v W1 hK H locs h => ?_)
          obtain ⟨r1, S1, rfl, rfl, hw⟩ := hK
          refine W.eq (g2 := F0 m 288 ls [.long r1]) rfl ?_
          have h := HS_xm h
          refine lv_aload_n hx hb dxL_law_288 rfl (lv_at hl 1 rfl) ?_
          refine lv_aload_n hx hb dxL_law_289 rfl (lv_at hl 3 rfl) ?_
          refine lv_iload_n hx hb dxL_law_290 rfl (lv_at hl 0 rfl) ?_
          refine lv_iconst (v := 1) hx hb dxL_law_291 (by decide) ?_
          refine lv_iadd hx hb dxL_law_292 ?_
          refine va_sld hx hb hX hbl hbA h.2.2 hq1 dxL_law_293 ?_
          refine cx_xL_49 (As := [.int (xs (nI (1 + 5 * j) + 1).toNatClampNeg)]) (rest := [.long r1]) X hG h hl.1 (mxQ_variable l Γ θm M (WX Γ θ ρ S1 []) (xs (nI (1 + 5 * j) + 1).toNatClampNeg) _ hw) ⟨Nat.le_of_ble_eq_true rfl, Nat.le_of_ble_eq_true rfl⟩ (q0 := 0) rfl rfl (Nat.le_of_ble_eq_true rfl) dxL_law_294 ⟨show 400 + 6 * j + 0 + 0 ≤ 600000 by omega, show 10000 + 2000 * j + 0 + 0 ≤ 7302250 by omega⟩ (fun v W1 hK H locs h => ?_)
          obtain ⟨r2, M1, rfl, rfl, er, hinv⟩ := hK
          refine W.eq (g2 := F0 m 297 ls [.long r2, .long r1]) rfl ?_
          have h := HS_mx h
          refine W.lcmp hx hb dxL_law_297 ?_
          refine lv_if_eq (tgt := 455) hx hb dxL_law_298 (by decide) (fun c9 => ?_) (fun c9 => absurd (by rw [er]; exact lg_self r2) c9)
          exact next ρ S1 M1 hinv _ _ h _ _ (by omega) (by omega)
        | 6, _, ee =>
          have ee : (xs (nI (1 + 5 * j)).toNatClampNeg &&& 15) = 6 := ee
          refine lv_tableIn (off := 261) (tgt := 303) hx hb dxL_law_42 (by rw [ee]; decide) (by rw [ee]; decide) (by rw [ee]; rfl) (by decide) ?_
          refine lv_aload_n hx hb dxL_law_303 rfl (lv_at hl 2 rfl) ?_
          refine cx_xL_50 (As := []) (rest := []) X hG h hl.1 (mxT_value l Γ θ ρ S (WM Γ θm M [])  _ (I_value ρ S M  hinv)) ⟨Nat.le_of_ble_eq_true rfl, Nat.le_of_ble_eq_true rfl⟩ (q0 := 0) rfl rfl (Nat.le_of_ble_eq_true rfl) dxL_law_304 ⟨show 400 + 6 * j + 0 ≤ 600000 by omega, show 10000 + 2000 * j + 0 ≤ 7302250 by omega⟩ (fun v W1 hK H locs h => ?_)
          obtain ⟨r1, S1, rfl, rfl, hw⟩ := hK
          refine W.eq (g2 := F0 m 307 ls [.long r1]) rfl ?_
          have h := HS_xm h
          refine lv_aload_n hx hb dxL_law_307 rfl (lv_at hl 1 rfl) ?_
          refine cx_xL_54 (As := []) (rest := [.long r1]) X hG h hl.1 (mxQ_value l Γ θm M (WX Γ θ ρ S1 [])  _ hw) ⟨Nat.le_of_ble_eq_true rfl, Nat.le_of_ble_eq_true rfl⟩ (q0 := 0) rfl rfl (Nat.le_of_ble_eq_true rfl) dxL_law_308 ⟨show 400 + 6 * j + 0 + 0 ≤ 600000 by omega, show 10000 + 2000 * j + 0 + 0 ≤ 7302250 by omega⟩ (fun v W1 hK H locs h => ?_)
          obtain ⟨r2, M1, rfl, rfl, er, hinv⟩ := hK
          refine W.eq (g2 := F0 m 311 ls [.long r2, .long r1]) rfl ?_
          have h := HS_mx h
          refine W.lcmp hx hb dxL_law_311 ?_
          refine lv_if_eq (tgt := 455) hx hb dxL_law_312 (by decide) (fun c9 => ?_) (fun c9 => absurd (by rw [er]; exact lg_self r2) c9)
          exact next ρ S1 M1 hinv _ _ h _ _ (by omega) (by omega)
        | 7, _, ee =>
          have ee : (xs (nI (1 + 5 * j)).toNatClampNeg &&& 15) = 7 := ee
          refine lv_tableIn (off := 275) (tgt := 317) hx hb dxL_law_42 (by rw [ee]; decide) (by rw [ee]; decide) (by rw [ee]; rfl) (by decide) ?_
          refine lv_aload_n hx hb dxL_law_317 rfl (lv_at hl 2 rfl) ?_
          refine lv_aload_n hx hb dxL_law_318 rfl (lv_at hl 3 rfl) ?_
          refine lv_iload_n hx hb dxL_law_319 rfl (lv_at hl 0 rfl) ?_
          refine lv_iconst (v := 1) hx hb dxL_law_320 (by decide) ?_
          refine lv_iadd hx hb dxL_law_321 ?_
          refine va_sld hx hb hX hbl hbA h.2.2 hq1 dxL_law_322 ?_
          refine cx_xL_55 (As := [.int (xs (nI (1 + 5 * j) + 1).toNatClampNeg)]) (rest := []) X hG h hl.1 (mxT_logged l Γ θ ρ S (WM Γ θm M []) (xs (nI (1 + 5 * j) + 1).toNatClampNeg) _ (I_logged ρ S M (xs (nI (1 + 5 * j) + 1).toNatClampNeg) hinv)) ⟨Nat.le_of_ble_eq_true rfl, Nat.le_of_ble_eq_true rfl⟩ (q0 := 0) rfl rfl (Nat.le_of_ble_eq_true rfl) dxL_law_323 ⟨show 400 + 6 * j + 0 ≤ 600000 by omega, show 10000 + 2000 * j + 0 ≤ 7302250 by omega⟩ (fun v W1 hK H locs h => ?_)
          obtain ⟨r1, S1, rfl, rfl, hw⟩ := hK
          refine W.eq (g2 := F0 m 326 ls [.long r1]) rfl ?_
          have h := HS_xm h
          refine lv_aload_n hx hb dxL_law_326 rfl (lv_at hl 1 rfl) ?_
          refine lv_aload_n hx hb dxL_law_327 rfl (lv_at hl 3 rfl) ?_
          refine lv_iload_n hx hb dxL_law_328 rfl (lv_at hl 0 rfl) ?_
          refine lv_iconst (v := 1) hx hb dxL_law_329 (by decide) ?_
          refine lv_iadd hx hb dxL_law_330 ?_
          refine va_sld hx hb hX hbl hbA h.2.2 hq1 dxL_law_331 ?_
          refine cx_xL_58 (As := [.int (xs (nI (1 + 5 * j) + 1).toNatClampNeg)]) (rest := [.long r1]) X hG h hl.1 (mxQ_logged l Γ θm M (WX Γ θ ρ S1 []) (xs (nI (1 + 5 * j) + 1).toNatClampNeg) _ hw) ⟨Nat.le_of_ble_eq_true rfl, Nat.le_of_ble_eq_true rfl⟩ (q0 := 0) rfl rfl (Nat.le_of_ble_eq_true rfl) dxL_law_332 ⟨show 400 + 6 * j + 0 + 0 ≤ 600000 by omega, show 10000 + 2000 * j + 0 + 0 ≤ 7302250 by omega⟩ (fun v W1 hK H locs h => ?_)
          obtain ⟨r2, M1, rfl, rfl, er, hinv⟩ := hK
          refine W.eq (g2 := F0 m 335 ls [.long r2, .long r1]) rfl ?_
          have h := HS_mx h
          refine W.lcmp hx hb dxL_law_335 ?_
          refine lv_if_eq (tgt := 455) hx hb dxL_law_336 (by decide) (fun c9 => ?_) (fun c9 => absurd (by rw [er]; exact lg_self r2) c9)
          exact next ρ S1 M1 hinv _ _ h _ _ (by omega) (by omega)
        | 8, _, ee =>
          have ee : (xs (nI (1 + 5 * j)).toNatClampNeg &&& 15) = 8 := ee
          refine lv_tableIn (off := 299) (tgt := 341) hx hb dxL_law_42 (by rw [ee]; decide) (by rw [ee]; decide) (by rw [ee]; rfl) (by decide) ?_
          refine lv_aload_n hx hb dxL_law_341 rfl (lv_at hl 2 rfl) ?_
          refine lv_aload_n hx hb dxL_law_342 rfl (lv_at hl 3 rfl) ?_
          refine lv_iload_n hx hb dxL_law_343 rfl (lv_at hl 0 rfl) ?_
          refine lv_iconst (v := 1) hx hb dxL_law_344 (by decide) ?_
          refine lv_iadd hx hb dxL_law_345 ?_
          refine va_sld hx hb hX hbl hbA h.2.2 hq1 dxL_law_346 ?_
          refine lv_aload_n hx hb dxL_law_347 rfl (lv_at hl 3 rfl) ?_
          refine lv_iload_n hx hb dxL_law_348 rfl (lv_at hl 0 rfl) ?_
          refine lv_iconst (v := 2) hx hb dxL_law_349 (by decide) ?_
          refine lv_iadd hx hb dxL_law_350 ?_
          refine va_sld hx hb hX hbl hbA h.2.2 hq2 dxL_law_351 ?_
          refine cx_xL_59 (As := [.int (xs (nI (1 + 5 * j) + 1).toNatClampNeg), .int (xs (nI (1 + 5 * j) + 2).toNatClampNeg)]) (rest := []) X hG h hl.1 (mxT_failure l Γ θ ρ S (WM Γ θm M []) (xs (nI (1 + 5 * j) + 1).toNatClampNeg) (xs (nI (1 + 5 * j) + 2).toNatClampNeg) _ (I_failure ρ S M (xs (nI (1 + 5 * j) + 1).toNatClampNeg) (xs (nI (1 + 5 * j) + 2).toNatClampNeg) hinv)) ⟨Nat.le_of_ble_eq_true rfl, Nat.le_of_ble_eq_true rfl⟩ (q0 := 0) rfl rfl (Nat.le_of_ble_eq_true rfl) dxL_law_352 ⟨show 400 + 6 * j + 0 ≤ 600000 by omega, show 10000 + 2000 * j + 0 ≤ 7302250 by omega⟩ (fun v W1 hK H locs h => ?_)
          obtain ⟨r1, S1, rfl, rfl, hw⟩ := hK
          refine W.eq (g2 := F0 m 355 ls [.long r1]) rfl ?_
          have h := HS_xm h
          refine lv_aload_n hx hb dxL_law_355 rfl (lv_at hl 1 rfl) ?_
          refine lv_aload_n hx hb dxL_law_356 rfl (lv_at hl 3 rfl) ?_
          refine lv_iload_n hx hb dxL_law_357 rfl (lv_at hl 0 rfl) ?_
          refine lv_iconst (v := 1) hx hb dxL_law_358 (by decide) ?_
          refine lv_iadd hx hb dxL_law_359 ?_
          refine va_sld hx hb hX hbl hbA h.2.2 hq1 dxL_law_360 ?_
          refine lv_aload_n hx hb dxL_law_361 rfl (lv_at hl 3 rfl) ?_
          refine lv_iload_n hx hb dxL_law_362 rfl (lv_at hl 0 rfl) ?_
          refine lv_iconst (v := 2) hx hb dxL_law_363 (by decide) ?_
          refine lv_iadd hx hb dxL_law_364 ?_
          refine va_sld hx hb hX hbl hbA h.2.2 hq2 dxL_law_365 ?_
          refine cx_xL_63 (As := [.int (xs (nI (1 + 5 * j) + 1).toNatClampNeg), .int (xs (nI (1 + 5 * j) + 2).toNatClampNeg)]) (rest := [.long r1]) X hG h hl.1 (mxQ_failure l Γ θm M (WX Γ θ ρ S1 []) (xs (nI (1 + 5 * j) + 1).toNatClampNeg) (xs (nI (1 + 5 * j) + 2).toNatClampNeg) _ hw) ⟨Nat.le_of_ble_eq_true rfl, Nat.le_of_ble_eq_true rfl⟩ (q0 := 0) rfl rfl (Nat.le_of_ble_eq_true rfl) dxL_law_366 ⟨show 400 + 6 * j + 0 + 0 ≤ 600000 by omega, show 10000 + 2000 * j + 0 + 0 ≤ 7302250 by omega⟩ (fun v W1 hK H locs h => ?_)
          obtain ⟨r2, M1, rfl, rfl, er, hinv⟩ := hK
          refine W.eq (g2 := F0 m 369 ls [.long r2, .long r1]) rfl ?_
          have h := HS_mx h
          refine W.lcmp hx hb dxL_law_369 ?_
          refine lv_if_eq (tgt := 455) hx hb dxL_law_370 (by decide) (fun c9 => ?_) (fun c9 => absurd (by rw [er]; exact lg_self r2) c9)
          exact next ρ S1 M1 hinv _ _ h _ _ (by omega) (by omega)
        | 9, _, ee =>
          have ee : (xs (nI (1 + 5 * j)).toNatClampNeg &&& 15) = 9 := ee
          refine lv_tableIn (off := 333) (tgt := 375) hx hb dxL_law_42 (by rw [ee]; decide) (by rw [ee]; decide) (by rw [ee]; rfl) (by decide) ?_
          refine lv_aload_n hx hb dxL_law_375 rfl (lv_at hl 2 rfl) ?_
          refine lv_aload_n hx hb dxL_law_376 rfl (lv_at hl 3 rfl) ?_
          refine lv_iload_n hx hb dxL_law_377 rfl (lv_at hl 0 rfl) ?_
          refine lv_iconst (v := 1) hx hb dxL_law_378 (by decide) ?_
          refine lv_iadd hx hb dxL_law_379 ?_
          refine va_sld hx hb hX hbl hbA h.2.2 hq1 dxL_law_380 ?_
          refine lv_aload_n hx hb dxL_law_381 rfl (lv_at hl 3 rfl) ?_
          refine lv_iload_n hx hb dxL_law_382 rfl (lv_at hl 0 rfl) ?_
          refine lv_iconst (v := 2) hx hb dxL_law_383 (by decide) ?_
          refine lv_iadd hx hb dxL_law_384 ?_
          refine va_sld hx hb hX hbl hbA h.2.2 hq2 dxL_law_385 ?_
          refine cx_xL_64 (As := [.int (xs (nI (1 + 5 * j) + 1).toNatClampNeg), .int (xs (nI (1 + 5 * j) + 2).toNatClampNeg)]) (rest := []) X hG h hl.1 (mxT_second l Γ θ ρ S (WM Γ θm M []) (xs (nI (1 + 5 * j) + 1).toNatClampNeg) (xs (nI (1 + 5 * j) + 2).toNatClampNeg) _ (I_second ρ S M (xs (nI (1 + 5 * j) + 1).toNatClampNeg) (xs (nI (1 + 5 * j) + 2).toNatClampNeg) hinv)) ⟨Nat.le_of_ble_eq_true rfl, Nat.le_of_ble_eq_true rfl⟩ (q0 := 0) rfl rfl (Nat.le_of_ble_eq_true rfl) dxL_law_386 ⟨show 400 + 6 * j + 0 ≤ 600000 by omega, show 10000 + 2000 * j + 0 ≤ 7302250 by omega⟩ (fun v W1 hK H locs h => ?_)
          obtain ⟨r1, S1, rfl, rfl, hw⟩ := hK
          refine W.eq (g2 := F0 m 389 ls [.long r1]) rfl ?_
          have h := HS_xm h
          refine lv_aload_n hx hb dxL_law_389 rfl (lv_at hl 1 rfl) ?_
          refine lv_aload_n hx hb dxL_law_390 rfl (lv_at hl 3 rfl) ?_
          refine lv_iload_n hx hb dxL_law_391 rfl (lv_at hl 0 rfl) ?_
          refine lv_iconst (v := 1) hx hb dxL_law_392 (by decide) ?_
          refine lv_iadd hx hb dxL_law_393 ?_
          refine va_sld hx hb hX hbl hbA h.2.2 hq1 dxL_law_394 ?_
          refine lv_aload_n hx hb dxL_law_395 rfl (lv_at hl 3 rfl) ?_
          refine lv_iload_n hx hb dxL_law_396 rfl (lv_at hl 0 rfl) ?_
          refine lv_iconst (v := 2) hx hb dxL_law_397 (by decide) ?_
          refine lv_iadd hx hb dxL_law_398 ?_
          refine va_sld hx hb hX hbl hbA h.2.2 hq2 dxL_law_399 ?_
          refine cx_xL_67 (As := [.int (xs (nI (1 + 5 * j) + 1).toNatClampNeg), .int (xs (nI (1 + 5 * j) + 2).toNatClampNeg)]) (rest := [.long r1]) X hG h hl.1 (mxQ_second l Γ θm M (WX Γ θ ρ S1 []) (xs (nI (1 + 5 * j) + 1).toNatClampNeg) (xs (nI (1 + 5 * j) + 2).toNatClampNeg) _ hw) ⟨Nat.le_of_ble_eq_true rfl, Nat.le_of_ble_eq_true rfl⟩ (q0 := 0) rfl rfl (Nat.le_of_ble_eq_true rfl) dxL_law_400 ⟨show 400 + 6 * j + 0 + 0 ≤ 600000 by omega, show 10000 + 2000 * j + 0 + 0 ≤ 7302250 by omega⟩ (fun v W1 hK H locs h => ?_)
          obtain ⟨r2, M1, rfl, rfl, er, hinv⟩ := hK
          refine W.eq (g2 := F0 m 403 ls [.long r2, .long r1]) rfl ?_
          have h := HS_mx h
          refine W.lcmp hx hb dxL_law_403 ?_
          refine lv_if_eq (tgt := 455) hx hb dxL_law_404 (by decide) (fun c9 => ?_) (fun c9 => absurd (by rw [er]; exact lg_self r2) c9)
          exact next ρ S1 M1 hinv _ _ h _ _ (by omega) (by omega)
        | 10, _, ee =>
          have ee : (xs (nI (1 + 5 * j)).toNatClampNeg &&& 15) = 10 := ee
          refine lv_tableIn (off := 367) (tgt := 409) hx hb dxL_law_42 (by rw [ee]; decide) (by rw [ee]; decide) (by rw [ee]; rfl) (by decide) ?_
          refine lv_aload_n hx hb dxL_law_409 rfl (lv_at hl 2 rfl) ?_
          refine lv_aload_n hx hb dxL_law_410 rfl (lv_at hl 3 rfl) ?_
          refine lv_iload_n hx hb dxL_law_411 rfl (lv_at hl 0 rfl) ?_
          refine lv_iconst (v := 1) hx hb dxL_law_412 (by decide) ?_
          refine lv_iadd hx hb dxL_law_413 ?_
          refine va_sld hx hb hX hbl hbA h.2.2 hq1 dxL_law_414 ?_
          refine cx_xL_68 (As := [.int (xs (nI (1 + 5 * j) + 1).toNatClampNeg)]) (rest := []) X hG h hl.1 (mxT_report l Γ θ ρ S (WM Γ θm M []) (xs (nI (1 + 5 * j) + 1).toNatClampNeg) _ (I_report ρ S M (xs (nI (1 + 5 * j) + 1).toNatClampNeg) hinv)) ⟨Nat.le_of_ble_eq_true rfl, Nat.le_of_ble_eq_true rfl⟩ (q0 := 0) rfl rfl (Nat.le_of_ble_eq_true rfl) dxL_law_415 ⟨show 400 + 6 * j + 0 ≤ 600000 by omega, show 10000 + 2000 * j + 0 ≤ 7302250 by omega⟩ (fun v W1 hK H locs h => ?_)
          obtain ⟨r1, S1, rfl, rfl, hw⟩ := hK
          refine W.eq (g2 := F0 m 418 ls [.int r1]) rfl ?_
          have h := HS_xm h
          refine lv_aload_n hx hb dxL_law_418 rfl (lv_at hl 1 rfl) ?_
          refine lv_aload_n hx hb dxL_law_419 rfl (lv_at hl 3 rfl) ?_
          refine lv_iload_n hx hb dxL_law_420 rfl (lv_at hl 0 rfl) ?_
          refine lv_iconst (v := 1) hx hb dxL_law_421 (by decide) ?_
          refine lv_iadd hx hb dxL_law_422 ?_
          refine va_sld hx hb hX hbl hbA h.2.2 hq1 dxL_law_423 ?_
          refine cx_xL_71 (As := [.int (xs (nI (1 + 5 * j) + 1).toNatClampNeg)]) (rest := [.int r1]) X hG h hl.1 (mxQ_report l Γ θm M (WX Γ θ ρ S1 []) (xs (nI (1 + 5 * j) + 1).toNatClampNeg) _ hw) ⟨Nat.le_of_ble_eq_true rfl, Nat.le_of_ble_eq_true rfl⟩ (q0 := 0) rfl rfl (Nat.le_of_ble_eq_true rfl) dxL_law_424 ⟨show 400 + 6 * j + 0 + 0 ≤ 600000 by omega, show 10000 + 2000 * j + 0 + 0 ≤ 7302250 by omega⟩ (fun v W1 hK H locs h => ?_)
          obtain ⟨r2, M1, rfl, rfl, er, hinv⟩ := hK
          refine W.eq (g2 := F0 m 427 ls [.int r2, .int r1]) rfl ?_
          have h := HS_mx h
          refine lv_icmp_eq (tgt := 455) hx hb dxL_law_427 (by decide) (fun c9 => ?_) (fun c9 => absurd er c9)
          exact next ρ S1 M1 hinv _ _ h _ _ (by omega) (by omega)
        | 11, _, ee =>
          have ee : (xs (nI (1 + 5 * j)).toNatClampNeg &&& 15) = 11 := ee
          refine lv_tableIn (off := 390) (tgt := 432) hx hb dxL_law_42 (by rw [ee]; decide) (by rw [ee]; decide) (by rw [ee]; rfl) (by decide) ?_
          refine lv_aload_n hx hb dxL_law_432 rfl (lv_at hl 2 rfl) ?_
          refine lv_aload_n hx hb dxL_law_433 rfl (lv_at hl 3 rfl) ?_
          refine lv_iload_n hx hb dxL_law_434 rfl (lv_at hl 0 rfl) ?_
          refine lv_iconst (v := 1) hx hb dxL_law_435 (by decide) ?_
          refine lv_iadd hx hb dxL_law_436 ?_
          refine va_sld hx hb hX hbl hbA h.2.2 hq1 dxL_law_437 ?_
          refine cx_xL_72 (As := [.int (xs (nI (1 + 5 * j) + 1).toNatClampNeg)]) (rest := []) X hG h hl.1 (mxT_count l Γ θ ρ S (WM Γ θm M []) (xs (nI (1 + 5 * j) + 1).toNatClampNeg) _ (I_count ρ S M (xs (nI (1 + 5 * j) + 1).toNatClampNeg) hinv)) ⟨Nat.le_of_ble_eq_true rfl, Nat.le_of_ble_eq_true rfl⟩ (q0 := 0) rfl rfl (Nat.le_of_ble_eq_true rfl) dxL_law_438 ⟨show 400 + 6 * j + 0 ≤ 600000 by omega, show 10000 + 2000 * j + 0 ≤ 7302250 by omega⟩ (fun v W1 hK H locs h => ?_)
          obtain ⟨r1, S1, rfl, rfl, hw⟩ := hK
          refine W.eq (g2 := F0 m 441 ls [.int r1]) rfl ?_
          have h := HS_xm h
          refine lv_aload_n hx hb dxL_law_441 rfl (lv_at hl 1 rfl) ?_
          refine lv_aload_n hx hb dxL_law_442 rfl (lv_at hl 3 rfl) ?_
          refine lv_iload_n hx hb dxL_law_443 rfl (lv_at hl 0 rfl) ?_
          refine lv_iconst (v := 1) hx hb dxL_law_444 (by decide) ?_
          refine lv_iadd hx hb dxL_law_445 ?_
          refine va_sld hx hb hX hbl hbA h.2.2 hq1 dxL_law_446 ?_
          refine cx_xL_75 (As := [.int (xs (nI (1 + 5 * j) + 1).toNatClampNeg)]) (rest := [.int r1]) X hG h hl.1 (mxQ_count l Γ θm M (WX Γ θ ρ S1 []) (xs (nI (1 + 5 * j) + 1).toNatClampNeg) _ hw) ⟨Nat.le_of_ble_eq_true rfl, Nat.le_of_ble_eq_true rfl⟩ (q0 := 0) rfl rfl (Nat.le_of_ble_eq_true rfl) dxL_law_447 ⟨show 400 + 6 * j + 0 + 0 ≤ 600000 by omega, show 10000 + 2000 * j + 0 + 0 ≤ 7302250 by omega⟩ (fun v W1 hK H locs h => ?_)
          obtain ⟨r2, M1, rfl, rfl, er, hinv⟩ := hK
          refine W.eq (g2 := F0 m 450 ls [.int r2, .int r1]) rfl ?_
          have h := HS_mx h
          refine lv_icmp_eq (tgt := 455) hx hb dxL_law_450 (by decide) (fun c9 => ?_) (fun c9 => absurd er c9)
          exact next ρ S1 M1 hinv _ _ h _ _ (by omega) (by omega)
        | k + 12, j_h, _ => exact absurd j_h (by omega)
