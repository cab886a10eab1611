/-! the text: the class's side -/
def Gr (n : Nat) : Nat := if 240 ≤ n then 0 else if 120 ≤ n then 1 else if 60 ≤ n then 2 else if 30 ≤ n then 3 else 4
theorem Gr_up {n n' : Nat} (h16 : 16 ≤ n) (h240 : n < 240) (h : 2 * n + 2 ≤ n') : 1 + Gr n' ≤ Gr n := by
  unfold Gr
  repeat' split
  all_goals omega
def Sm (ρ ρ' : Rh) : Prop := ρ'.2.1 = ρ.2.1 ∧ ρ'.2.2.1 = ρ.2.2.1 ∧ ρ'.2.2.2.1 = ρ.2.2.2.1
theorem Sm_rf {ρ : Rh} : Sm ρ ρ := ⟨rfl, rfl, rfl⟩
theorem Sm_tr {ρ ρ1 ρ2 : Rh} (h : Sm ρ ρ1) (g : Sm ρ1 ρ2) : Sm ρ ρ2 := ⟨g.1.trans h.1, g.2.1.trans h.2.1, g.2.2.trans h.2.2⟩
theorem rT_0 {ρ : Rh} {v : Int32} : (rT ρ 0 v).2.2.2.2.2.2.2 0 = v := by
  show upd ρ.2.2.2.2.2.2.2 0 v 0 = v
  exact pk_us
theorem gd_app (l w : List Int32) (i : Nat) : (l ++ w).getD i 0 = if i < l.length then l.getD i 0 else w.getD (i - l.length) 0 := by
  rw [List.getD_eq_getElem?_getD, List.getD_eq_getElem?_getD, List.getD_eq_getElem?_getD, List.getElem?_append]
  split <;> rfl
theorem fit_n {n : Nat} (h : n < 128) : fits .byte (.int (nI n)) = true := by
  show (decide ((-128 : Int32) ≤ nI n) && decide (nI n ≤ (127 : Int32))) = true
  rw [Bool.and_eq_true]
  refine ⟨decide_eq_true ?_, decide_eq_true ?_⟩
  · rw [Int32.le_iff_toInt_le, nI_toInt (by omega), show (-128 : Int32).toInt = -128 by decide]; omega
  · rw [Int32.le_iff_toInt_le, nI_toInt (by omega), show (127 : Int32).toInt = 127 by decide]; omega
theorem nar_s {n : Nat} (h : n < 128) : vp_nar .byte (nI n).toInt8.toInt32 = nI n := by
  unfold vp_nar
  rw [pk_nb]
  exact lg_i2b_small (by rw [nI_toInt (by omega)]; omega) (by rw [nI_toInt (by omega)]; omega)
theorem nar_n {n : Nat} (h : n < 128) : vp_nar .byte (nI n) = nI n := by
  have e : (nI n).toInt8.toInt32 = nI n := lg_i2b_small (by rw [nI_toInt (by omega)]; omega) (by rw [nI_toInt (by omega)]; omega)
  have k := nar_s h
  rw [e] at k
  exact k
theorem sh0 {n : Nat} (h : n < 1000) : nI n >>> ((0 : Int32) &&& 31) = nI n := by
  have k := pk_shrN (n := n) (by omega) ((0 : Int32) &&& 31) 0 (by decide)
  rw [Nat.pow_zero, Nat.div_one] at k
  exact k
theorem sl0 {n : Nat} (h : n < 1000) : nI n <<< ((0 : Int32) &&& 31) = nI n := by
  have k := pk_shlN (n := n) ((0 : Int32) &&& 31) 0 (by decide) (by rw [Nat.pow_zero]; omega)
  rw [Nat.pow_zero, Nat.mul_one] at k
  exact k
theorem Tx_app {ρ ρ' : Rh} {l w : List Int32} (hT : Tx ρ l) (h0 : ρ'.2.2.2.2.2.2.2 0 = nI (l.length + w.length)) (hc : ρ'.2.2.2.2.2.2.1 = ρ.2.2.2.2.2.2.1) (hl : l.length + w.length ≤ ρ.2.2.2.2.2.2.1) (hw : ∀ i, i < w.length → ∃ n : Nat, n < 128 ∧ w.getD i 0 = nI n) (hb : ∀ i, i < ρ.2.2.2.2.2.2.1 → ρ'.2.2.2.2.2.1 i = if l.length ≤ i ∧ i < l.length + w.length then w.getD (i - l.length) 0 else ρ.2.2.2.2.2.1 i) : Tx ρ' (l ++ w) := by
  obtain ⟨t1, ⟨t2, t3, t4⟩, t5, t6, t7⟩ := hT
  have el : (l ++ w).length = l.length + w.length := List.length_append
  refine ⟨by rw [el]; exact h0, ⟨by rw [el, hc]; exact hl, by omega, by omega⟩, fun i hi => ?_, fun i hi => ?_, fun i hi => ?_⟩
  · rw [hc] at hi
    rw [hb i hi]
    by_cases e : l.length ≤ i ∧ i < l.length + w.length
    · rw [if_pos e]
      obtain ⟨n, n1, n2⟩ := hw (i - l.length) (by omega)
      rw [n2]; exact fit_n n1
    · rw [if_neg e]; exact t5 i hi
  · rw [el] at hi
    rw [hb i (by omega), gd_app]
    by_cases e : i < l.length
    · rw [if_neg (by omega), if_pos e]; exact t6 i e
    · rw [if_pos ⟨by omega, hi⟩, if_neg e]
  · rw [el] at hi
    rw [gd_app]
    by_cases e : i < l.length
    · rw [if_pos e]; exact t7 i e
    · rw [if_neg e]; exact hw _ (by omega)
theorem i32_pos_le {n : Nat} (hn : n < 1000) : ¬ (2147483639 : Int32) < nI n := by
  rw [Int32.lt_iff_toInt_lt, nI_toInt (by omega), show (2147483639 : Int32).toInt = 2147483639 by decide]; omega
theorem en_cap {S : Sg} {l : List Int32} {need cap0 : Nat} (hn : need ≤ 240) (h16 : 16 ≤ cap0) (h500 : cap0 ≤ 500) : ∃ m s cap' : Nat, (m + Gr cap' ≤ Gr cap0 ∧ s + 500 * Gr cap' ≤ 500 * Gr cap0 ∧ 16 ≤ cap' ∧ cap' ≤ 500) ∧ need ≤ cap' ∧ ∀ ρ : Rh, Tx ρ l → ρ.2.2.2.2.2.2.1 = cap0 → ∀ post : Unit → Rh → Sg → Prop, (∀ ρ', Tx ρ' l → Sm ρ ρ' → ρ'.2.2.2.2.2.2.1 = cap' → post () ρ' S) → wxA_ensureCapacityInternal post ρ S (nI need) m s := by
  by_cases hle : need ≤ cap0
  · refine ⟨0, 0, cap0, ⟨by omega, by omega, h16, h500⟩, hle, fun ρ hT hc post hp => ?_⟩
    subst hc
    have es : (Int32.ofNat ρ.2.2.2.2.2.2.1) >>> ((0 : Int32) &&& 31) = nI ρ.2.2.2.2.2.2.1 := sh0 (by omega)
    have ed : (nI need - nI ρ.2.2.2.2.2.2.1 ≤ 0) := by
      rw [Int32.le_iff_toInt_le, pk_sub_toInt (by omega) (by omega), show (0 : Int32).toInt = 0 from rfl]; omega
    unfold wxA_ensureCapacityInternal
    rw [es]
    exact ⟨fun _ => hp ρ hT Sm_rf rfl, fun z => absurd ed z⟩
  · have hN : 2 * cap0 + 2 ≤ cap0 + max (need - cap0) (cap0 + 2) := by omega
    have hN5 : cap0 + max (need - cap0) (cap0 + 2) ≤ 500 := by omega
    have hNn : need ≤ cap0 + max (need - cap0) (cap0 + 2) := by omega
    have hG := Gr_up h16 (by omega) hN
    refine ⟨1, 500, cap0 + max (need - cap0) (cap0 + 2), ⟨hG, by omega, by omega, hN5⟩, hNn, fun ρ hT hc post hp => ?_⟩
    subst hc
    obtain ⟨t1, ⟨t2, t3, t4⟩, t5, t6, t7⟩ := id hT
    have es : (Int32.ofNat ρ.2.2.2.2.2.2.1) >>> ((0 : Int32) &&& 31) = nI ρ.2.2.2.2.2.2.1 := sh0 (by omega)
    have ed : ¬ (nI need - nI ρ.2.2.2.2.2.2.1 ≤ 0) := by
      rw [Int32.le_iff_toInt_le, pk_sub_toInt (by omega) (by omega), show (0 : Int32).toInt = 0 from rfl]; omega
    have ev : (Int32.ofNat ρ.2.2.2.2.2.2.1 + (if (nI need <<< ((0 : Int32) &&& 31) - Int32.ofNat ρ.2.2.2.2.2.2.1) < (Int32.ofNat ρ.2.2.2.2.2.2.1 + ((2 : Int32) <<< ((0 : Int32) &&& 31))) then (Int32.ofNat ρ.2.2.2.2.2.2.1 + ((2 : Int32) <<< ((0 : Int32) &&& 31))) else (nI need <<< ((0 : Int32) &&& 31) - Int32.ofNat ρ.2.2.2.2.2.2.1))) = nI (ρ.2.2.2.2.2.2.1 + max (need - ρ.2.2.2.2.2.2.1) (ρ.2.2.2.2.2.2.1 + 2)) := by
      rw [sl0 (n := need) (by omega), show ((2 : Int32) <<< ((0 : Int32) &&& 31)) = nI 2 from sl0 (n := 2) (by omega)]
      show nI _ + (if nI need - nI _ < nI _ + nI 2 then nI _ + nI 2 else nI need - nI _) = _
      rw [pk_sub (by omega), nI_add]
      by_cases h : need - ρ.2.2.2.2.2.2.1 < ρ.2.2.2.2.2.2.1 + 2
      · rw [if_pos (nI_lt h (by omega)), nI_add, show max (need - ρ.2.2.2.2.2.2.1) (ρ.2.2.2.2.2.2.1 + 2) = ρ.2.2.2.2.2.2.1 + 2 by omega]
      · rw [if_neg (nI_nlt (by omega) (by omega)), nI_add, show max (need - ρ.2.2.2.2.2.2.1) (ρ.2.2.2.2.2.2.1 + 2) = need - ρ.2.2.2.2.2.2.1 by omega]
    generalize hNdef : ρ.2.2.2.2.2.2.1 + max (need - ρ.2.2.2.2.2.2.1) (ρ.2.2.2.2.2.2.1 + 2) = N at *
    unfold wxA_ensureCapacityInternal wxA_newCapacity wxZ_newLength
    rw [es, ev]
    refine ⟨fun z => absurd z ed, fun _ => ⟨fun z => absurd z (nI_nle (by omega) (by omega)), fun _ => ⟨fun z => absurd z (i32_pos_le (by omega)), fun _ => ⟨fun _ => ⟨N, ?_, by omega, by omega, t5, ⟨by omega, hN5⟩, fun q => hp _ ?_ ⟨rfl, rfl, rfl⟩ rfl⟩, fun z => ?_⟩⟩⟩⟩
    · rw [sh0 (by omega), sl0 (by omega)]
    · have hcp : ∀ i, cpB ρ i = if i < ρ.2.2.2.2.2.2.1 then ρ.2.2.2.2.2.1 i else 0 := by
        intro i
        show (if 0 ≤ i ∧ i < 0 + ρ.2.2.2.2.2.2.1 then ρ.2.2.2.2.2.1 (0 + (i - 0)) else 0) = _
        by_cases h : i < ρ.2.2.2.2.2.2.1
        · rw [if_pos ⟨by omega, by omega⟩, if_pos h, Nat.zero_add, Nat.sub_zero]
        · rw [if_neg (by omega), if_neg h]
      refine ⟨t1, ⟨(show l.length ≤ N by omega), (show 16 ≤ N by omega), hN5⟩, fun i hi => ?_, fun i hi => ?_, t7⟩
      · show fits .byte (.int (cpB ρ i)) = true
        rw [hcp]
        by_cases h : i < ρ.2.2.2.2.2.2.1
        · rw [if_pos h]; exact t5 i h
        · rw [if_neg h]; exact fit_n (n := 0) (by omega)
      · show cpB ρ i = _
        rw [hcp, if_pos (by omega)]; exact t6 i hi
    · have := congrArg Int32.toInt z
      rw [nI_toInt (by omega), show (2147483647 : Int32).toInt = 2147483647 by decide] at this
      omega
def Ap (F : Rh → (Unit → Rh → Sg → Prop) → Nat → Nat → Prop) (S : Sg) (l w : List Int32) (cap0 : Nat) : Prop :=
  ∃ m s cap' : Nat, (m + Gr cap' ≤ Gr cap0 ∧ s + 500 * Gr cap' ≤ 500 * Gr cap0 ∧ 16 ≤ cap' ∧ cap' ≤ 500) ∧ ∀ ρ : Rh, Tx ρ l → ρ.2.2.2.2.2.2.1 = cap0 → ∀ post : Unit → Rh → Sg → Prop, (∀ ρ', Tx ρ' (l ++ w) → Sm ρ ρ' → ρ'.2.2.2.2.2.2.1 = cap' → post () ρ' S) → F ρ post m s
theorem stw_len : ∀ i : Fin 19, (strB.getD i.val []).length = strN.getD i.val 0 ∧ strN.getD i.val 0 ≤ 13 := by decide
theorem stw_chr : ∀ i : Fin 19, ∀ j : Fin 13, (0 : Int32) ≤ (strB.getD i.val []).getD j.val 0 ∧ (strB.getD i.val []).getD j.val 0 ≤ 127 := by decide
theorem ap_word {S : Sg} {l : List Int32} {i cap0 : Nat} (hi : i < 19) (hlen : l.length + 13 ≤ 240) (h16 : 16 ≤ cap0) (h500 : cap0 ≤ 500) : Ap (fun ρ post m s => wxB_append post ρ S i m s) S l (strB.getD i []) cap0 := by
  obtain ⟨w1, w2⟩ := stw_len ⟨i, hi⟩
  have w1 : (strB.getD i []).length = strN.getD i 0 := w1
  have w2 : strN.getD i 0 ≤ 13 := w2
  have w3 : ∀ j, j < (strB.getD i []).length → ∃ n : Nat, n < 128 ∧ (strB.getD i []).getD j 0 = nI n := by
    intro j hj
    obtain ⟨c1, c2⟩ := stw_chr ⟨i, hi⟩ ⟨j, by omega⟩
    obtain ⟨n, n1, n2⟩ := nI_of2 (n := 127) (by decide) (by rw [Int32.lt_iff_toInt_lt]; rw [Int32.le_iff_toInt_le] at c1; omega) c2
    exact ⟨n, by omega, n2⟩
  generalize hn : strN.getD i 0 = n at *
  generalize hw : strB.getD i [] = w at *
  obtain ⟨m, s, cap', g1, g3, g4⟩ := en_cap (S := S) (l := l) (need := l.length + n) (by omega) h16 h500
  refine ⟨m, s, cap', g1, fun ρ hT hc post hp => ⟨m, s, ⟨by omega, by omega⟩, hi, hi, hi, m, s, ⟨by omega, by omega⟩, ?_⟩⟩
  rw [hn, show (Int32.ofNat n) >>> ((0 : Int32) &&& 31) = nI n from sh0 (by omega), hT.1, nI_add]
  refine g4 ρ hT hc _ (fun ρ8 hT8 hS8 hc8 => ?_)
  have el := hT8.1
  have hcap := hT8.2.1
  unfold wxA_putStringAt wxA_inflateIfNeededFor wxS_coder wxS_getBytes wxS_coder
  rw [el, hn, sl0 (by omega), hw, show (Int32.ofNat n).toNatClampNeg = n from nI_clamp (by omega), nI_clamp (by omega), show (0 : Int32).toNatClampNeg = 0 from rfl]
  refine ⟨hi, hi, ⟨fun _ => ⟨hi, hi, hi, fun z => absurd rfl z, fun _ => ⟨⟨hi, by decide, nI_pos (by omega), nI_pos (n := n) (by omega), by omega, by omega⟩, hp _ (Tx_app hT8 ?_ rfl (by rw [w1, hc8]; exact g3) w3 (fun i _ => ?_)) (Sm_tr hS8 ⟨rfl, rfl, rfl⟩) hc8⟩⟩, fun z => absurd rfl z⟩⟩
  · rw [rT_0, w1]
    show ρ8.2.2.2.2.2.2.2 0 + nI n = _
    rw [el, nI_add]
  · show (if l.length ≤ i ∧ i < l.length + n then w.getD (0 + (i - l.length)) 0 else ρ8.2.2.2.2.2.1 i) = _
    rw [w1, Nat.zero_add]
theorem ap_char {S : Sg} {l : List Int32} {n cap0 : Nat} {x : Int32} (hx : x = nI n) (hn : n < 128) (hlen : l.length + 1 ≤ 240) (h16 : 16 ≤ cap0) (h500 : cap0 ≤ 500) : Ap (fun ρ post m s => wxB_append2 post ρ S x m s) S l [x] cap0 := by
  subst hx
  obtain ⟨m, s, cap', g1, g3, g4⟩ := en_cap (S := S) (l := l) (need := l.length + 1) (by omega) h16 h500
  refine ⟨m, s, cap', g1, fun ρ hT hc post hp => ⟨m, s, ⟨by omega, by omega⟩, m, s, ⟨by omega, by omega⟩, ?_⟩⟩
  rw [hT.1, nI_1]
  refine g4 ρ hT hc _ (fun ρ8 hT8 hS8 hc8 => ?_)
  have el := hT8.1
  have hcap := hT8.2.1
  have h255 : ¬ (255 : Int32) < nI n := nI_nlt (a := 255) (by omega) (by omega)
  unfold wxA_isLatin1 wxU_canEncode
  refine ⟨fun z => absurd z (by decide), fun _ => ⟨fun z => absurd z h255, fun _ => ⟨fun z => absurd z (by decide), fun _ => ?_⟩⟩⟩
  rw [el, nI_clamp (by omega), nI_1, nar_s hn]
  refine ⟨vp_in_nI (show l.length < ρ8.2.2.2.2.2.2.1 by omega) (show ρ8.2.2.2.2.2.2.1 < 2 ^ 31 by omega), hp _ (Tx_app (w := [nI n]) hT8 ?_ rfl (by rw [hc8]; exact g3) (fun i hi => ?_) (fun i _ => ?_)) (Sm_tr hS8 ⟨rfl, rfl, rfl⟩) hc8⟩
  · show upd ρ8.2.2.2.2.2.2.2 0 (nI (l.length + 1)) 0 = nI (l.length + 1)
    exact pk_us
  · have hi : i < 1 := hi
    obtain rfl : i = 0 := by omega
    exact ⟨n, hn, rfl⟩
  · show upd ρ8.2.2.2.2.2.1 l.length (nI n) i = if l.length ≤ i ∧ i < l.length + 1 then _ else _
    by_cases e : i = l.length
    · subst e; rw [pk_us, if_pos ⟨by omega, by omega⟩, Nat.sub_self]; rfl
    · rw [pk_un e, if_neg (by omega)]
/-- the text made shorter -/
theorem ap_cut {ρ : Rh} {S : Sg} {l : List Int32} {k : Nat} {x : Int32} (hx : x = nI k) (hT : Tx ρ l) (hk : k ≤ l.length) (hk2 : k ≤ 240) {post : Unit → Rh → Sg → Prop} (hp : ∀ ρ', Tx ρ' (l.take k) → Sm ρ ρ' → ρ'.2.2.2.2.2.2.1 = ρ.2.2.2.2.2.2.1 → post () ρ' S) : wxB_setLength post ρ S x 0 0 := by
  subst hx
  obtain ⟨t1, ⟨t2, t3, t4⟩, t5, t6, t7⟩ := id hT
  have es : (Int32.ofNat ρ.2.2.2.2.2.2.1) >>> ((0 : Int32) &&& 31) = nI ρ.2.2.2.2.2.2.1 := sh0 (by omega)
  have ed : (nI k - nI ρ.2.2.2.2.2.2.1 ≤ 0) := by
    rw [Int32.le_iff_toInt_le, pk_sub_toInt (by omega) (by omega), show (0 : Int32).toInt = 0 from rfl]; omega
  have hlk : (l.take k).length = k := by rw [List.length_take]; omega
  have gk : ∀ i, i < k → (l.take k).getD i 0 = l.getD i 0 := by
    intro i hi
    rw [List.getD_eq_getElem?_getD, List.getD_eq_getElem?_getD, List.getElem?_take_of_lt hi]
  have hfin : ∀ ρ', ρ'.2.2.2.2.2.2.2 0 = nI k → ρ'.2.2.2.2.2.2.1 = ρ.2.2.2.2.2.2.1 → ρ'.2.2.2.2.2.1 = ρ.2.2.2.2.2.1 → Tx ρ' (l.take k) := by
    intro ρ' e0 ec eb
    refine ⟨by rw [hlk]; exact e0, ⟨by omega, by omega, by omega⟩, fun i hi => by rw [eb]; exact t5 i (by omega), fun i hi => ?_, fun i hi => ?_⟩
    · rw [hlk] at hi
      rw [eb, gk i hi]; exact t6 i (by omega)
    · rw [hlk] at hi
      rw [gk i hi]; exact t7 i (by omega)
  refine ⟨0, 0, ⟨by omega, by omega⟩, fun _ => ⟨0, 0, ⟨by omega, by omega⟩, ?_⟩, fun z => absurd (nI_pos' (by omega)) z⟩
  unfold wxA_ensureCapacityInternal
  rw [es]
  refine ⟨fun _ => ?_, fun z => absurd ed z⟩
  have hk' : nI k ≤ ρ.2.2.2.2.2.2.2 0 := by rw [t1]; exact nI_le hk (by omega)
  refine ⟨fun _ => ⟨fun _ => hp _ (hfin _ rT_0 rfl rfl) ⟨rfl, rfl, rfl⟩ rfl, fun _ => hp _ (hfin _ rT_0 rfl rfl) ⟨rfl, rfl, rfl⟩ rfl⟩, fun z => absurd hk' z⟩
