/-! the text: the reference's side -/
def Ty (M : Rg) (l : List Int32) : Prop := M 28 0 = nI (min l.length 300) ∧ ∀ i, i < min l.length 300 → M 26 i = l.getD i 0
def Sy (M M' : Rg) : Prop := ∀ a, a ≠ 26 → a ≠ 28 → M' a = M a
theorem Sy_rf {M : Rg} : Sy M M := fun _ _ _ => rfl
theorem Sy_tr {M M1 M2 : Rg} (h : Sy M M1) (g : Sy M1 M2) : Sy M M2 := fun a h1 h2 => (g a h1 h2).trans (h a h1 h2)
def Qp (F : (Unit → Rg → Prop) → Prop) (M : Rg) (l w : List Int32) : Prop := ∃ M', Ty M' (l ++ w) ∧ Sy M M' ∧ ∀ post : Unit → Rg → Prop, post () M' → F post
theorem q_letter {M : Rg} {l : List Int32} (h : Ty M l) (x : Int32) : Qp (fun post => wxQ_letter post M x) M l [x] := by
  obtain ⟨h1, h2⟩ := h
  have el : (l ++ [x]).length = l.length + 1 := List.length_append
  by_cases hl : 300 ≤ l.length
  · have hm : min l.length 300 = 300 := by omega
    rw [hm] at h1 h2
    refine ⟨uu M 26 300 x, ⟨?_, fun i hi => ?_⟩, fun a ha _ => uu_row ha, fun post hp => ?_⟩
    · rw [el, show min (l.length + 1) 300 = 300 by omega, uu_n (by omega)]; exact h1
    · rw [el, show min (l.length + 1) 300 = 300 by omega] at hi
      rw [uu_n (by omega), h2 i hi, gd_app, if_pos (by omega)]
    · unfold wxQ_letter
      rw [h1, nI_clamp (by omega)]
      exact ⟨vp_in_nI (by omega) (by omega), fun _ => hp, fun z => absurd (nI_le (a := 300) (by omega) (by omega)) z⟩
  · have hm : min l.length 300 = l.length := by omega
    rw [hm] at h1 h2
    refine ⟨uu (uu M 26 l.length x) 28 0 (nI l.length + 1), ⟨?_, fun i hi => ?_⟩, fun a ha hb => (uu_row hb).trans (uu_row ha), fun post hp => ?_⟩
    · rw [el, show min (l.length + 1) 300 = l.length + 1 by omega, uu_same, nI_1]
    · rw [el, show min (l.length + 1) 300 = l.length + 1 by omega] at hi
      rw [uu_n (by omega), gd_app]
      by_cases e : i = l.length
      · subst e; rw [uu_same, if_neg (by omega), Nat.sub_self]; rfl
      · rw [uu_n (by omega), if_pos (by omega)]; exact h2 i (by omega)
    · unfold wxQ_letter
      rw [h1, nI_clamp (by omega)]
      exact ⟨vp_in_nI (by omega) (by omega), fun z => absurd z (nI_ge (b := 300) (by omega) (by omega)), fun _ => hp⟩
def wlF (x : Int64) (y : Int32) : Nat → Int32 → Int32 → List Int32
  | 0, _, _ => []
  | d + 1, a4, a5 => if a5 < 0 then [] else if (((x >>> (a5.toInt64 &&& 63)).toInt32) &&& 31) = (0 : Int32) then wlF x y d a4 (a5 + -5) else (if a4 = 0 then ((((x >>> (a5.toInt64 &&& 63)).toInt32) &&& 31) + 96) else if y = 0 then ((((x >>> (a5.toInt64 &&& 63)).toInt32) &&& 31) + 96) else ((((x >>> (a5.toInt64 &&& 63)).toInt32) &&& 31) + 64)) :: wlF x y d 0 (a5 + -5)
def wlK : Nat → Int32 → Bool
  | 0, _ => false
  | d + 1, a5 => if a5 < 0 then true else wlK d (a5 + -5)
theorem app_nil {M M' : Rg} {l : List Int32} (h : Ty M l) : Ty M (l ++ []) := by rw [List.append_nil]; exact h
theorem q_wordc {x : Int64} {y : Int32} : ∀ (d : Nat) (a4 a5 : Int32) (M : Rg) (l : List Int32), wlK d a5 = true → Ty M l → Qp (fun post => wxQ_word_c7 post x y d M a4 a5) M l (wlF x y d a4 a5) := by
  intro d
  induction d with
  | zero => intro a4 a5 M l hk; exact absurd hk (by simp [wlK])
  | succ d ih =>
    intro a4 a5 M l hk hT
    unfold wlK at hk
    unfold wlF
    by_cases h5 : a5 < 0
    · rw [if_pos h5]
      refine ⟨M, by rw [List.append_nil]; exact hT, Sy_rf, fun post hp => ?_⟩
      unfold wxQ_word_c7
      exact ⟨fun _ => hp, fun z => absurd h5 z⟩
    · rw [if_neg h5] at hk
      rw [if_neg h5]
      by_cases hc : (((x >>> (a5.toInt64 &&& 63)).toInt32) &&& 31) = (0 : Int32)
      · rw [if_pos hc]
        obtain ⟨M', t1, t2, t3⟩ := ih a4 (a5 + -5) M l hk hT
        refine ⟨M', t1, t2, fun post hp => ?_⟩
        unfold wxQ_word_c7
        exact ⟨fun z => absurd z h5, fun _ => ⟨fun z => absurd hc z, fun _ => t3 post hp⟩⟩
      · rw [if_neg hc]
        obtain ⟨M1, s1, s2, s3⟩ := q_letter hT (if a4 = 0 then ((((x >>> (a5.toInt64 &&& 63)).toInt32) &&& 31) + 96) else if y = 0 then ((((x >>> (a5.toInt64 &&& 63)).toInt32) &&& 31) + 96) else ((((x >>> (a5.toInt64 &&& 63)).toInt32) &&& 31) + 64))
        obtain ⟨M', t1, t2, t3⟩ := ih 0 (a5 + -5) M1 _ hk s1
        refine ⟨M', by rw [List.append_assoc] at t1; exact t1, Sy_tr s2 t2, fun post hp => ?_⟩
        have s4 := s3 (fun _ S5 => wxQ_word_c7 post x y d S5 (0 : Int32) (a5 + -5)) (t3 post hp)
        unfold wxQ_word_c7
        refine ⟨fun z => absurd z h5, fun _ => ⟨fun _ => ⟨fun h4 => ?_, fun h4 => ⟨fun hy => ?_, fun hy => ?_⟩⟩, fun z => absurd z hc⟩⟩
        · rw [if_pos h4] at s4; exact s4
        · rw [if_neg h4, if_pos hy] at s4; exact s4
        · rw [if_neg h4, if_neg hy] at s4; exact s4
theorem q_word {M : Rg} {l w : List Int32} {x : Int64} {y : Int32} (h : Ty M l) (hw : wlF x y 14 1 60 = w) : Qp (fun post => wxQ_word post M x y) M l w := by
  obtain ⟨M', t1, t2, t3⟩ := q_wordc (x := x) (y := y) 14 1 60 M l (by decide) h
  exact ⟨M', by rw [hw] at t1; exact t1, t2, fun post hp => ⟨14, t3 post hp⟩⟩
theorem o_div {a d : Nat} (ha : a < 2 ^ 62) (h0 : 0 < d) (hd : d < 2 ^ 62) : lN a / lN d = lN (a / d) := by
  have h1 : (lN a).toInt = a := lg_ofNat_toInt (by omega)
  have h2 : (lN d).toInt = d := lg_ofNat_toInt (by omega)
  have h3 : a / d ≤ a := Nat.div_le_self a d
  apply Int64.toInt_inj.mp
  rw [lg_ldiv_nonneg (by rw [h1]; omega) (by rw [h2]; omega), h1, h2, show (lN (a / d)).toInt = ((a / d : Nat) : Int) from lg_ofNat_toInt (by omega)]
  rfl
theorem o_sub {a b : Nat} (h : b ≤ a) : lN a - lN b = lN (a - b) := by
  obtain ⟨c, rfl⟩ : ∃ c, a = c + b := ⟨a - b, by omega⟩
  rw [← lN_add, Int64.add_sub_cancel, Nat.add_sub_cancel]
theorem o_lt {a b : Nat} (ha : a < 2 ^ 62) (hb : b < 2 ^ 62) : lN a < lN b ↔ a < b := by
  rw [Int64.lt_iff_toInt_lt, show (lN a).toInt = (a : Int) from lg_ofNat_toInt (by omega), show (lN b).toInt = (b : Int) from lg_ofNat_toInt (by omega)]
  omega
theorem o_dg {v u : Nat} (hv : v < 2 ^ 62) (h0 : 0 < u) (hu : u < 2 ^ 62) : (48 : Int32) + ((lN v / lN u) - (lN v / lN u) / (10 : Int64) * (10 : Int64)).toInt32 = nI (48 + v / u % 10) := by
  have hq : v / u ≤ v := Nat.div_le_self v u
  rw [o_div hv h0 hu]
  show (48 : Int32) + (lN (v / u) - lN (v / u) / lN 10 * lN 10).toInt32 = _
  rw [o_div (by omega) (by omega) (by omega), lN_mul, o_sub (by omega), lN_i, show v / u - v / u / 10 * 10 = v / u % 10 by omega]
  exact nI_add 48 _
theorem o_ne0 {u : Nat} (h0 : 0 < u) (hu : u < 2 ^ 62) : ¬ lN u = 0 := fun z => by
  have := congrArg Int64.toInt z
  rw [show (lN u).toInt = (u : Int) from lg_ofNat_toInt (by omega), show (0 : Int64).toInt = 0 from rfl] at this
  omega
theorem q_dig {x : Int32} {v : Nat} (hv : v < 2 ^ 62) : ∀ (k : Nat) (M : Rg) (l : List Int32), k ≤ 9 → Ty M l → Qp (fun post => wxQ_number_c49 post x (k + 2) M (lN v) (lN (10 ^ k))) M l (numL v (k + 1)) := by
  intro k
  induction k with
  | zero =>
    intro M l hk hT
    obtain ⟨M1, s1, s2, s3⟩ := q_letter hT (nI (48 + v / 10 ^ 0 % 10))
    refine ⟨M1, s1, s2, fun post hp => ?_⟩
    unfold wxQ_number_c49
    refine ⟨fun z => absurd ((lg_cmp_le _ _).mp z) (by decide), fun _ => ⟨by decide, ?_⟩⟩
    rw [o_dg hv (by decide) (by decide)]
    refine s3 _ ?_
    unfold wxQ_number_c49
    exact ⟨fun _ => hp, fun z => absurd (by decide) z⟩
  | succ k ih =>
    intro M l hk hT
    have hp9 : 10 ^ (k + 1) ≤ 10 ^ 9 := Nat.pow_le_pow_right (by omega) hk
    have hp0 : 0 < 10 ^ (k + 1) := Nat.pow_pos (by omega)
    have hdv : 10 ^ (k + 1) / 10 = 10 ^ k := by rw [Nat.pow_succ]; omega
    obtain ⟨M1, s1, s2, s3⟩ := q_letter hT (nI (48 + v / 10 ^ (k + 1) % 10))
    obtain ⟨M', t1, t2, t3⟩ := ih M1 _ (by omega) s1
    refine ⟨M', by rw [List.append_assoc] at t1; exact t1, Sy_tr s2 t2, fun post hp => ?_⟩
    unfold wxQ_number_c49
    refine ⟨fun z => ?_, fun _ => ⟨o_ne0 hp0 (by omega), ?_⟩⟩
    · exfalso
      have := (lg_cmp_le _ _).mp z
      rw [Int64.le_iff_toInt_le, show (lN (10 ^ (k + 1))).toInt = ((10 ^ (k + 1) : Nat) : Int) from lg_ofNat_toInt (by omega), show (0 : Int64).toInt = 0 from rfl] at this
      omega
    · rw [o_dg hv hp0 (by omega)]
      refine s3 _ ?_
      show wxQ_number_c49 post x (k + 2) M1 (lN v) (lN (10 ^ (k + 1)) / lN 10)
      rw [o_div (by omega) (by omega) (by omega), hdv]
      exact t3 post hp
theorem sz_k : ∀ (k v : Nat), k ≤ 9 → (k = 0 ∨ 10 ^ k ≤ v) → v < 10 ^ (k + 1) → sz v = k + 1 := by
  intro k v hk h1 h2
  match k, hk, h1, h2 with
  | 0, _, h1, h2 =>
    unfold sz
    rw [if_pos (show v < 10 by omega)]
  | 1, _, h1, h2 =>
    unfold sz
    rw [if_neg (show ¬ v < 10 by omega), if_pos (show v < 100 by omega)]
  | 2, _, h1, h2 =>
    unfold sz
    rw [if_neg (show ¬ v < 10 by omega), if_neg (show ¬ v < 100 by omega), if_pos (show v < 1000 by omega)]
  | 3, _, h1, h2 =>
    unfold sz
    rw [if_neg (show ¬ v < 10 by omega), if_neg (show ¬ v < 100 by omega), if_neg (show ¬ v < 1000 by omega), if_pos (show v < 10000 by omega)]
  | 4, _, h1, h2 =>
    unfold sz
    rw [if_neg (show ¬ v < 10 by omega), if_neg (show ¬ v < 100 by omega), if_neg (show ¬ v < 1000 by omega), if_neg (show ¬ v < 10000 by omega), if_pos (show v < 100000 by omega)]
  | 5, _, h1, h2 =>
    unfold sz
    rw [if_neg (show ¬ v < 10 by omega), if_neg (show ¬ v < 100 by omega), if_neg (show ¬ v < 1000 by omega), if_neg (show ¬ v < 10000 by omega), if_neg (show ¬ v < 100000 by omega), if_pos (show v < 1000000 by omega)]
  | 6, _, h1, h2 =>
    unfold sz
    rw [if_neg (show ¬ v < 10 by omega), if_neg (show ¬ v < 100 by omega), if_neg (show ¬ v < 1000 by omega), if_neg (show ¬ v < 10000 by omega), if_neg (show ¬ v < 100000 by omega), if_neg (show ¬ v < 1000000 by omega), if_pos (show v < 10000000 by omega)]
  | 7, _, h1, h2 =>
    unfold sz
    rw [if_neg (show ¬ v < 10 by omega), if_neg (show ¬ v < 100 by omega), if_neg (show ¬ v < 1000 by omega), if_neg (show ¬ v < 10000 by omega), if_neg (show ¬ v < 100000 by omega), if_neg (show ¬ v < 1000000 by omega), if_neg (show ¬ v < 10000000 by omega), if_pos (show v < 100000000 by omega)]
  | 8, _, h1, h2 =>
    unfold sz
    rw [if_neg (show ¬ v < 10 by omega), if_neg (show ¬ v < 100 by omega), if_neg (show ¬ v < 1000 by omega), if_neg (show ¬ v < 10000 by omega), if_neg (show ¬ v < 100000 by omega), if_neg (show ¬ v < 1000000 by omega), if_neg (show ¬ v < 10000000 by omega), if_neg (show ¬ v < 100000000 by omega), if_pos (show v < 1000000000 by omega)]
  | 9, _, h1, h2 =>
    unfold sz
    rw [if_neg (show ¬ v < 10 by omega), if_neg (show ¬ v < 100 by omega), if_neg (show ¬ v < 1000 by omega), if_neg (show ¬ v < 10000 by omega), if_neg (show ¬ v < 100000 by omega), if_neg (show ¬ v < 1000000 by omega), if_neg (show ¬ v < 10000000 by omega), if_neg (show ¬ v < 100000000 by omega), if_neg (show ¬ v < 1000000000 by omega)]
  | q + 10, h, _, _ => exact absurd h (by omega)
theorem q_unit {x : Int32} {v : Nat} (hv : v ≤ 2147483648) : ∀ (r k : Nat) (M : Rg) (l : List Int32), r + k = 9 → (k = 0 ∨ 10 ^ k ≤ v) → Ty M l → Qp (fun post => wxQ_number_c27 post x (r + 1) M (lN v) (lN (10 ^ k))) M l (numL v (sz v)) := by
  intro r
  induction r with
  | zero =>
    intro k M l hrk hk hT
    obtain rfl : k = 9 := by omega
    obtain ⟨M', t1, t2, t3⟩ := q_dig (x := x) (v := v) (by omega) 9 M l (by omega) hT
    refine ⟨M', by rw [sz_k 9 v (by omega) hk (by omega)]; exact t1, t2, fun post hp => ?_⟩
    unfold wxQ_number_c27
    have h10 : lN v < lN (10 ^ 9) * (10 : Int64) := by
      show lN v < lN (10 ^ 9) * lN 10
      rw [lN_mul, o_lt (by omega) (by decide)]; omega
    exact ⟨fun _ => ⟨11, t3 post hp⟩, fun z => absurd ((lg_cmp_gt _ _).mpr h10) z⟩
  | succ r ih =>
    intro k M l hrk hk hT
    have hp9 : 10 ^ (k + 1) ≤ 10 ^ 9 := Nat.pow_le_pow_right (by omega) (by omega)
    have hm : lN (10 ^ k) * (10 : Int64) = lN (10 ^ (k + 1)) := by
      show lN (10 ^ k) * lN 10 = _
      rw [lN_mul, ← Nat.pow_succ]
    by_cases hlt : v < 10 ^ (k + 1)
    · obtain ⟨M', t1, t2, t3⟩ := q_dig (x := x) (v := v) (by omega) k M l (by omega) hT
      refine ⟨M', by rw [sz_k k v (by omega) hk hlt]; exact t1, t2, fun post hp => ?_⟩
      unfold wxQ_number_c27
      rw [hm]
      exact ⟨fun _ => ⟨k + 2, t3 post hp⟩, fun z => absurd ((lg_cmp_gt _ _).mpr ((o_lt (by omega) (by omega)).mpr hlt)) z⟩
    · obtain ⟨M', t1, t2, t3⟩ := ih (k + 1) M l (by omega) (Or.inr (by omega)) hT
      refine ⟨M', t1, t2, fun post hp => ?_⟩
      unfold wxQ_number_c27
      rw [hm]
      exact ⟨fun z => absurd ((o_lt (by omega) (by omega)).mp ((lg_cmp_gt _ _).mp z)) hlt, fun _ => t3 post hp⟩
theorem q_num {M : Rg} {l : List Int32} (h : Ty M l) (x : Int32) : Qp (fun post => wxQ_number post M x) M l (num x) := by
  obtain ⟨a1, a2, a3⟩ := x_abs x
  have e0 : (0 : Int64).toInt = 0 := rfl
  have hge : (0 ≤ lg_cmp x.toInt64 (0 : Int64)) ↔ ¬ x.toInt < 0 := by
    rw [lg_cmp_ge, Int64.le_iff_toInt_le, Int32.toInt_toInt64, e0]; omega
  by_cases hx : x.toInt < 0
  · have hn : ¬ 0 ≤ lg_cmp x.toInt64 (0 : Int64) := fun z => hge.mp z hx
    have ev : -x.toInt64 = lN x.toInt.natAbs := by
      apply Int64.toInt_inj.mp
      rw [Int64.toInt_neg, Int32.toInt_toInt64, show (lN x.toInt.natAbs).toInt = (x.toInt.natAbs : Int) from lg_ofNat_toInt (by omega), Int.bmod_eq_of_le (by omega) (by omega)]
      omega
    obtain ⟨M1, s1, s2, s3⟩ := q_letter h 45
    obtain ⟨M', t1, t2, t3⟩ := q_unit (x := x) a1 9 0 M1 _ (by omega) (Or.inl rfl) s1
    refine ⟨M', by unfold num; rw [if_pos hx]; rw [List.append_assoc] at t1; exact t1, Sy_tr s2 t2, fun post hp => ⟨fun z => absurd z hn, fun _ => s3 _ ⟨fun z => absurd z hn, fun _ => ⟨10, ?_⟩⟩⟩⟩
    rw [ev]
    exact t3 post hp
  · have hn : 0 ≤ lg_cmp x.toInt64 (0 : Int64) := hge.mpr hx
    have ev : x.toInt64 = lN x.toInt.natAbs := by
      apply Int64.toInt_inj.mp
      rw [Int32.toInt_toInt64, show (lN x.toInt.natAbs).toInt = (x.toInt.natAbs : Int) from lg_ofNat_toInt (by omega)]
      omega
    obtain ⟨M', t1, t2, t3⟩ := q_unit (x := x) a1 9 0 M l (by omega) (Or.inl rfl) h
    refine ⟨M', by unfold num; rw [if_neg hx]; exact t1, t2, fun post hp => ⟨fun _ => ⟨fun _ => ⟨10, ?_⟩, fun z => absurd hn z⟩, fun z => absurd hn z⟩⟩
    rw [ev]
    exact t3 post hp
