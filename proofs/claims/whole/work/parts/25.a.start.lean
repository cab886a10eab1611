/-! the start, and the claim -/
theorem lim_n (x : Int32) : ∃ lm : Nat, 1 ≤ lm ∧ lm ≤ 12 ∧ limX x = nI lm := by
  have e1 : (1 : Int32).toInt = 1 := by decide
  have e12 : (12 : Int32).toInt = 12 := by decide
  unfold limX
  by_cases h : x < 12
  · rw [if_pos h]
    by_cases h1 : (1 : Int32) < x
    · rw [if_pos h1]
      rw [Int32.lt_iff_toInt_lt, e1] at h1
      rw [Int32.lt_iff_toInt_lt, e12] at h
      obtain ⟨n, n1, n2⟩ := nI_of2 (x := x) (M := 12) (n := 12) e12 (by rw [Int32.lt_iff_toInt_lt]; show ¬ x.toInt < 0; omega) (by rw [Int32.le_iff_toInt_le, e12]; omega)
      refine ⟨n, ?_, n1, n2⟩
      rw [n2, nI_toInt (by omega)] at h1
      omega
    · rw [if_neg h1]; exact ⟨1, by omega, by omega, rfl⟩
  · rw [if_neg h, if_pos (by decide)]; exact ⟨12, by omega, by omega, rfl⟩
theorem iv_start (q6 : Nat → Int32) (x : Int32) (qb : Nat) (h : ∀ j, j < 6 → q6 j = -1) : Iv (rho0 q6 (limX x) qb) S0 (M0 (limX x)) := by
  obtain ⟨lm, l1, l2, el⟩ := lim_n x
  generalize limX x = lim at el
  refine ⟨10, lm, 0, 0, 0, 0, [], ⟨⟨Nat.zero_le _, rfl⟩, ⟨by omega, by omega, rfl⟩, ⟨l1, l2, el⟩, Or.inl rfl, fun r hr => Or.inl (h r hr), fun i hi => ?_, fun k hk => absurd hk (Nat.not_lt_zero k)⟩, ⟨⟨fun a ha h5 => ?_, fun i hi => ?_⟩, ⟨?_, ?_, ?_, ?_, ?_, fun i hi => ?_, fun i hi => ?_, fun i hi => ?_⟩, ⟨rfl, rfl, rfl, by omega, by omega, by omega, fun i hi => absurd hi (by omega)⟩, rfl, by omega⟩, ⟨⟨rfl, rfl⟩, fun j hj => (by cases hj), fun j hj => (by cases hj)⟩, rfl, ⟨rfl, ⟨Nat.zero_le _, Nat.le_refl _, (show 16 ≤ 500 by omega)⟩, fun i _ => fit_n (n := 0) (by omega), fun i hi => absurd hi (Nat.not_lt_zero i), fun i hi => absurd hi (Nat.not_lt_zero i)⟩, Nat.zero_le _, rfl, fun i hi => absurd hi (Nat.not_lt_zero i)⟩
  · match i, hi with
    | 0, _ => exact Or.inl rfl
    | 1, _ => exact Or.inr ⟨7, by omega, rfl, by decide⟩
    | 2, _ => exact Or.inr ⟨7, by omega, rfl, by decide⟩
    | 3, _ => exact Or.inr ⟨7, by omega, rfl, by decide⟩
    | 4, _ => exact Or.inr ⟨7, by omega, rfl, by decide⟩
    | 5, _ => exact Or.inr ⟨8, by omega, rfl, by decide⟩
    | 6, _ => exact Or.inr ⟨7, by omega, rfl, by decide⟩
    | 7, _ => exact Or.inr ⟨9, by omega, rfl, by decide⟩
    | 8, _ => exact Or.inr ⟨0, by omega, rfl, by decide⟩
    | 9, _ => exact Or.inr ⟨0, by omega, rfl, by decide⟩
    | q + 10, w => exact absurd w (by omega)
  · funext i
    show (if a = 15 then rou0 i else if a = 16 then par0 i else if a = 17 then (if i = 0 then 10 else if i = 2 then -1 else if i = 3 then lim else 0) else if a = 27 then (if i = 9 then -1 else if i = 10 then -1 else 0) else 0) = 0
    rw [if_neg (by omega), if_neg (by omega), if_neg (by omega), if_neg (by omega)]
  · rfl
  · rfl
  · rfl
  · rfl
  · rfl
  · rfl
  · show rou0 i = q6 i
    rw [h i hi]
    match i, hi with
    | 0, _ => rfl
    | 1, _ => rfl
    | 2, _ => rfl
    | 3, _ => rfl
    | 4, _ => rfl
    | 5, _ => rfl
    | q + 6, w => exact absurd w (by omega)
  · show par0 i = va_cpy gpF (fun _ => 0) 0 0 10 i
    match i, hi with
    | 0, _ => rfl
    | 1, _ => rfl
    | 2, _ => rfl
    | 3, _ => rfl
    | 4, _ => rfl
    | 5, _ => rfl
    | 6, _ => rfl
    | 7, _ => rfl
    | 8, _ => rfl
    | 9, _ => rfl
    | 10, _ => rfl
    | 11, _ => rfl
    | 12, _ => rfl
    | 13, _ => rfl
    | 14, _ => rfl
    | 15, _ => rfl
    | q + 16, w => exact absurd w (by omega)
  · match i, hi with
    | 0, _ => rfl
    | 1, _ => rfl
    | 2, _ => rfl
    | 3, _ => rfl
    | q + 4, w => exact absurd w (by omega)
theorem iv_all : okAll Iv := ⟨iv_declare, iv_node, iv_define, iv_dispatch, iv_run, iv_variable, iv_value, iv_logged, iv_failure, iv_second, iv_report, iv_count⟩
