/-! numbers in the text -/
def sz (v : Nat) : Nat := if v < 10 then 1 else if v < 100 then 2 else if v < 1000 then 3 else if v < 10000 then 4 else if v < 100000 then 5 else if v < 1000000 then 6 else if v < 10000000 then 7 else if v < 100000000 then 8 else if v < 1000000000 then 9 else 10
theorem sz_bd (v : Nat) : 1 ≤ sz v ∧ sz v ≤ 10 := by
  unfold sz
  repeat' split
  all_goals omega
theorem sz_100 {v : Nat} (h : 100 ≤ v) (hv : v ≤ 2147483648) : sz v = sz (v / 100) + 2 := by
  unfold sz
  rw [if_neg (show ¬ v < 10 by omega), if_neg (show ¬ v < 100 by omega)]
  by_cases h3 : v < 1000
  · rw [if_pos h3, if_pos (show v / 100 < 10 by omega)]
  rw [if_neg h3, if_neg (show ¬ v / 100 < 10 by omega)]
  by_cases h4 : v < 10000
  · rw [if_pos h4, if_pos (show v / 100 < 100 by omega)]
  rw [if_neg h4, if_neg (show ¬ v / 100 < 100 by omega)]
  by_cases h5 : v < 100000
  · rw [if_pos h5, if_pos (show v / 100 < 1000 by omega)]
  rw [if_neg h5, if_neg (show ¬ v / 100 < 1000 by omega)]
  by_cases h6 : v < 1000000
  · rw [if_pos h6, if_pos (show v / 100 < 10000 by omega)]
  rw [if_neg h6, if_neg (show ¬ v / 100 < 10000 by omega)]
  by_cases h7 : v < 10000000
  · rw [if_pos h7, if_pos (show v / 100 < 100000 by omega)]
  rw [if_neg h7, if_neg (show ¬ v / 100 < 100000 by omega)]
  by_cases h8 : v < 100000000
  · rw [if_pos h8, if_pos (show v / 100 < 1000000 by omega)]
  rw [if_neg h8, if_neg (show ¬ v / 100 < 1000000 by omega)]
  by_cases h9 : v < 1000000000
  · rw [if_pos h9, if_pos (show v / 100 < 10000000 by omega)]
  rw [if_neg h9, if_neg (show ¬ v / 100 < 10000000 by omega), if_pos (show v / 100 < 100000000 by omega)]
def numL (v : Nat) : Nat → List Int32
  | 0 => []
  | n + 1 => nI (48 + v / 10 ^ n % 10) :: numL v n
def num (x : Int32) : List Int32 := (if x.toInt < 0 then [45] else []) ++ numL x.toInt.natAbs (sz x.toInt.natAbs)
theorem numL_len (v n : Nat) : (numL v n).length = n := by
  induction n with
  | zero => rfl
  | succ n ih => show (numL v n).length + 1 = n + 1; rw [ih]
theorem numL_at (v : Nat) : ∀ n i : Nat, i < n → (numL v n).getD i 0 = nI (48 + v / 10 ^ (n - 1 - i) % 10) := by
  intro n
  induction n with
  | zero => intro i hi; exact absurd hi (by omega)
  | succ n ih =>
    intro i hi
    cases i with
    | zero => rfl
    | succ i =>
      show (numL v n).getD i 0 = _
      rw [ih i (by omega), show n + 1 - 1 - (i + 1) = n - 1 - i by omega]
theorem x_abs (x : Int32) : x.toInt.natAbs ≤ 2147483648 ∧ (x.toInt < 0 → x.toInt = -(x.toInt.natAbs : Int)) ∧ (¬ x.toInt < 0 → x.toInt = (x.toInt.natAbs : Int) ∧ x.toInt.natAbs < 2147483648) := by
  have h1 := Int32.le_toInt x
  have h2 := Int32.toInt_lt x
  omega
theorem num_len (x : Int32) : (num x).length = (if x.toInt < 0 then 1 else 0) + sz x.toInt.natAbs := by
  unfold num
  rw [List.length_append, numL_len]
  by_cases h : x.toInt < 0
  · rw [if_pos h, if_pos h]; rfl
  · rw [if_neg h, if_neg h]; rfl
theorem num_bd (x : Int32) : 1 ≤ (num x).length ∧ (num x).length ≤ 11 := by
  rw [num_len]
  have := sz_bd x.toInt.natAbs
  by_cases h : x.toInt < 0
  · rw [if_pos h]; omega
  · rw [if_neg h]; omega
theorem num_chr (x : Int32) : ∀ i, i < (num x).length → ∃ n : Nat, n < 128 ∧ (num x).getD i 0 = nI n := by
  intro i hi
  have hl := num_len x
  unfold num
  rw [gd_app]
  by_cases h : x.toInt < 0
  · rw [if_pos h] at hl ⊢
    rw [show ([45] : List Int32).length = 1 from rfl]
    by_cases e : i < 1
    · rw [if_pos e]
      obtain rfl : i = 0 := by omega
      exact ⟨45, by omega, rfl⟩
    · rw [if_neg e, numL_at _ _ _ (show i - 1 < sz x.toInt.natAbs by omega)]
      exact ⟨_, by omega, rfl⟩
  · rw [if_neg h] at hl ⊢
    rw [show ([] : List Int32).length = 0 from rfl, if_neg (Nat.not_lt_zero i), numL_at _ _ _ (show i - 0 < sz x.toInt.natAbs by omega)]
    exact ⟨_, by omega, rfl⟩
theorem ss_c {ρ : Rh} {S : Sg} {x a0 a1 : Int32} {v : Nat} {post : Int32 → Sg → Prop} (ha : a0.toInt = -(v : Int)) (h : post (nI (sz v) + a1) S) : wxI_stringSize_c16 post ρ x 10 S a0 a1 (-10) 1 := by
  unfold wxI_stringSize_c16
  refine ⟨fun z => absurd z (by decide), fun _ => ⟨fun h1 => ?_, fun h1 => ?_⟩⟩
  rotate_left
  · rw [Int32.le_iff_toInt_le, ha, show ((-10 : Int32)).toInt = -10 by decide] at h1
    have e : sz v = 1 := by
      unfold sz
      rw [if_pos (show v < 10 by omega)]
    rw [e] at h
    rw [show (1 : Int32) = nI 1 by decide]
    exact h
  rw [Int32.le_iff_toInt_le, ha, show ((-10 : Int32)).toInt = -10 by decide] at h1
  unfold wxI_stringSize_c16
  refine ⟨fun z => absurd z (by decide), fun _ => ⟨fun h2 => ?_, fun h2 => ?_⟩⟩
  rotate_left
  · rw [Int32.le_iff_toInt_le, ha, show ((10 * (-10 : Int32))).toInt = -100 by decide] at h2
    have e : sz v = 2 := by
      unfold sz
      rw [if_neg (show ¬ v < 10 by omega), if_pos (show v < 100 by omega)]
    rw [e] at h
    rw [show ((1 : Int32) + 1) = nI 2 by decide]
    exact h
  rw [Int32.le_iff_toInt_le, ha, show ((10 * (-10 : Int32))).toInt = -100 by decide] at h2
  unfold wxI_stringSize_c16
  refine ⟨fun z => absurd z (by decide), fun _ => ⟨fun h3 => ?_, fun h3 => ?_⟩⟩
  rotate_left
  · rw [Int32.le_iff_toInt_le, ha, show ((10 * (10 * (-10 : Int32)))).toInt = -1000 by decide] at h3
    have e : sz v = 3 := by
      unfold sz
      rw [if_neg (show ¬ v < 10 by omega), if_neg (show ¬ v < 100 by omega), if_pos (show v < 1000 by omega)]
    rw [e] at h
    rw [show (((1 : Int32) + 1) + 1) = nI 3 by decide]
    exact h
  rw [Int32.le_iff_toInt_le, ha, show ((10 * (10 * (-10 : Int32)))).toInt = -1000 by decide] at h3
  unfold wxI_stringSize_c16
  refine ⟨fun z => absurd z (by decide), fun _ => ⟨fun h4 => ?_, fun h4 => ?_⟩⟩
  rotate_left
  · rw [Int32.le_iff_toInt_le, ha, show ((10 * (10 * (10 * (-10 : Int32))))).toInt = -10000 by decide] at h4
    have e : sz v = 4 := by
      unfold sz
      rw [if_neg (show ¬ v < 10 by omega), if_neg (show ¬ v < 100 by omega), if_neg (show ¬ v < 1000 by omega), if_pos (show v < 10000 by omega)]
    rw [e] at h
    rw [show ((((1 : Int32) + 1) + 1) + 1) = nI 4 by decide]
    exact h
  rw [Int32.le_iff_toInt_le, ha, show ((10 * (10 * (10 * (-10 : Int32))))).toInt = -10000 by decide] at h4
  unfold wxI_stringSize_c16
  refine ⟨fun z => absurd z (by decide), fun _ => ⟨fun h5 => ?_, fun h5 => ?_⟩⟩
  rotate_left
  · rw [Int32.le_iff_toInt_le, ha, show ((10 * (10 * (10 * (10 * (-10 : Int32)))))).toInt = -100000 by decide] at h5
    have e : sz v = 5 := by
      unfold sz
      rw [if_neg (show ¬ v < 10 by omega), if_neg (show ¬ v < 100 by omega), if_neg (show ¬ v < 1000 by omega), if_neg (show ¬ v < 10000 by omega), if_pos (show v < 100000 by omega)]
    rw [e] at h
    rw [show (((((1 : Int32) + 1) + 1) + 1) + 1) = nI 5 by decide]
    exact h
  rw [Int32.le_iff_toInt_le, ha, show ((10 * (10 * (10 * (10 * (-10 : Int32)))))).toInt = -100000 by decide] at h5
  unfold wxI_stringSize_c16
  refine ⟨fun z => absurd z (by decide), fun _ => ⟨fun h6 => ?_, fun h6 => ?_⟩⟩
  rotate_left
  · rw [Int32.le_iff_toInt_le, ha, show ((10 * (10 * (10 * (10 * (10 * (-10 : Int32))))))).toInt = -1000000 by decide] at h6
    have e : sz v = 6 := by
      unfold sz
      rw [if_neg (show ¬ v < 10 by omega), if_neg (show ¬ v < 100 by omega), if_neg (show ¬ v < 1000 by omega), if_neg (show ¬ v < 10000 by omega), if_neg (show ¬ v < 100000 by omega), if_pos (show v < 1000000 by omega)]
    rw [e] at h
    rw [show ((((((1 : Int32) + 1) + 1) + 1) + 1) + 1) = nI 6 by decide]
    exact h
  rw [Int32.le_iff_toInt_le, ha, show ((10 * (10 * (10 * (10 * (10 * (-10 : Int32))))))).toInt = -1000000 by decide] at h6
  unfold wxI_stringSize_c16
  refine ⟨fun z => absurd z (by decide), fun _ => ⟨fun h7 => ?_, fun h7 => ?_⟩⟩
  rotate_left
  · rw [Int32.le_iff_toInt_le, ha, show ((10 * (10 * (10 * (10 * (10 * (10 * (-10 : Int32)))))))).toInt = -10000000 by decide] at h7
    have e : sz v = 7 := by
      unfold sz
      rw [if_neg (show ¬ v < 10 by omega), if_neg (show ¬ v < 100 by omega), if_neg (show ¬ v < 1000 by omega), if_neg (show ¬ v < 10000 by omega), if_neg (show ¬ v < 100000 by omega), if_neg (show ¬ v < 1000000 by omega), if_pos (show v < 10000000 by omega)]
    rw [e] at h
    rw [show (((((((1 : Int32) + 1) + 1) + 1) + 1) + 1) + 1) = nI 7 by decide]
    exact h
  rw [Int32.le_iff_toInt_le, ha, show ((10 * (10 * (10 * (10 * (10 * (10 * (-10 : Int32)))))))).toInt = -10000000 by decide] at h7
  unfold wxI_stringSize_c16
  refine ⟨fun z => absurd z (by decide), fun _ => ⟨fun h8 => ?_, fun h8 => ?_⟩⟩
  rotate_left
  · rw [Int32.le_iff_toInt_le, ha, show ((10 * (10 * (10 * (10 * (10 * (10 * (10 * (-10 : Int32))))))))).toInt = -100000000 by decide] at h8
    have e : sz v = 8 := by
      unfold sz
      rw [if_neg (show ¬ v < 10 by omega), if_neg (show ¬ v < 100 by omega), if_neg (show ¬ v < 1000 by omega), if_neg (show ¬ v < 10000 by omega), if_neg (show ¬ v < 100000 by omega), if_neg (show ¬ v < 1000000 by omega), if_neg (show ¬ v < 10000000 by omega), if_pos (show v < 100000000 by omega)]
    rw [e] at h
    rw [show ((((((((1 : Int32) + 1) + 1) + 1) + 1) + 1) + 1) + 1) = nI 8 by decide]
    exact h
  rw [Int32.le_iff_toInt_le, ha, show ((10 * (10 * (10 * (10 * (10 * (10 * (10 * (-10 : Int32))))))))).toInt = -100000000 by decide] at h8
  unfold wxI_stringSize_c16
  refine ⟨fun z => absurd z (by decide), fun _ => ⟨fun h9 => ?_, fun h9 => ?_⟩⟩
  rotate_left
  · rw [Int32.le_iff_toInt_le, ha, show ((10 * (10 * (10 * (10 * (10 * (10 * (10 * (10 * (-10 : Int32)))))))))).toInt = -1000000000 by decide] at h9
    have e : sz v = 9 := by
      unfold sz
      rw [if_neg (show ¬ v < 10 by omega), if_neg (show ¬ v < 100 by omega), if_neg (show ¬ v < 1000 by omega), if_neg (show ¬ v < 10000 by omega), if_neg (show ¬ v < 100000 by omega), if_neg (show ¬ v < 1000000 by omega), if_neg (show ¬ v < 10000000 by omega), if_neg (show ¬ v < 100000000 by omega), if_pos (show v < 1000000000 by omega)]
    rw [e] at h
    rw [show (((((((((1 : Int32) + 1) + 1) + 1) + 1) + 1) + 1) + 1) + 1) = nI 9 by decide]
    exact h
  rw [Int32.le_iff_toInt_le, ha, show ((10 * (10 * (10 * (10 * (10 * (10 * (10 * (10 * (-10 : Int32)))))))))).toInt = -1000000000 by decide] at h9
  unfold wxI_stringSize_c16
  refine ⟨fun _ => ?_, fun z => absurd (by decide) z⟩
  have e : sz v = 10 := by
    unfold sz
    rw [if_neg (show ¬ v < 10 by omega), if_neg (show ¬ v < 100 by omega), if_neg (show ¬ v < 1000 by omega), if_neg (show ¬ v < 10000 by omega), if_neg (show ¬ v < 100000 by omega), if_neg (show ¬ v < 1000000 by omega), if_neg (show ¬ v < 10000000 by omega), if_neg (show ¬ v < 100000000 by omega), if_neg (show ¬ v < 1000000000 by omega)]
  rw [e] at h
  exact h
theorem neg_pos {x : Int32} (h : ¬ x.toInt < 0) : (-x).toInt = -(x.toInt.natAbs : Int) := by
  have h2 := Int32.toInt_lt x
  rw [Int32.toInt_neg, Int.bmod_eq_of_le (by omega) (by omega)]
  omega
theorem ss {ρ : Rh} {S : Sg} {x : Int32} {post : Int32 → Sg → Prop} (h : post (nI (num x).length) S) : wxI_stringSize post ρ S x := by
  have e0 : (0 : Int32).toInt = 0 := rfl
  obtain ⟨h1, h2, h3⟩ := x_abs x
  rw [num_len] at h
  by_cases hx : x.toInt < 0
  · rw [if_pos hx] at h
    have hx' : x < 0 := by rw [Int32.lt_iff_toInt_lt, e0]; exact hx
    refine ⟨fun _ => ⟨10, ss_c (h2 hx) ?_⟩, fun z => absurd hx' z⟩
    show post (nI (sz x.toInt.natAbs) + nI 1) S
    rw [nI_add, Nat.add_comm]; exact h
  · rw [if_neg hx, Nat.zero_add] at h
    have hx' : ¬ x < 0 := by rw [Int32.lt_iff_toInt_lt, e0]; exact hx
    refine ⟨fun z => absurd z hx', fun _ => ⟨10, ss_c (neg_pos hx) ?_⟩⟩
    show post (nI (sz x.toInt.natAbs) + nI 0) S
    rw [nI_add, Nat.add_zero]; exact h
theorem pw_0 (v : Nat) : v / 10 ^ 0 % 10 = v % 10 := by rw [Nat.pow_zero, Nat.div_one]
theorem pw_1 (v : Nat) : v / 10 ^ 1 % 10 = v / 10 % 10 := by rw [Nat.pow_one]
theorem pw_2 (v k : Nat) : v / 100 / 10 ^ k = v / 10 ^ (k + 2) := by
  rw [Nat.div_div_eq_div_mul, Nat.pow_add, Nat.mul_comm (10 ^ k)]
section GC
variable {S : Sg} {x y a6 : Int32}
theorem gc_all : ∀ f v : Nat, v ≤ f → v ≤ 2147483648 → ∀ (a0 : Int32) (pos : Nat) (ρ : Rh), a0.toInt = -(v : Int) → sz v ≤ pos → pos ≤ ρ.2.2.2.2.2.2.1 → ρ.2.2.2.2.2.2.1 ≤ 500 → ∃ D : Nat, ∀ post : Int32 → Rh → Sg → Prop, (∀ (ρ' : Rh) (b0 : Int32), ρ'.2.2.2.2.2.2 = ρ.2.2.2.2.2.2 → Sm ρ ρ' → (∀ i, ρ'.2.2.2.2.2.1 i = if pos - sz v ≤ i ∧ i < pos then nI (48 + v / 10 ^ (pos - 1 - i) % 10) else ρ.2.2.2.2.2.1 i) → wxI_getChars_c104 post x y ρ' S b0 (nI (pos - sz v)) a6) → wxI_getChars_c22 post x y D ρ S a0 (nI pos) a6 := by
  have e100 : (-100 : Int32).toInt = -100 := by decide
  have e9 : (-9 : Int32).toInt = -9 := by decide
  intro f
  induction f with
  | zero =>
    intro v hvf hv a0 pos ρ ha hs hp hcap
    have hv0 : v = 0 := by omega
    subst hv0
    have hpos : 0 < pos := by have := sz_bd 0; omega
    have en : -a0 = nI 0 := Int32.toInt_inj.mp (by rw [Int32.toInt_neg, ha]; decide)
    have h100 : (-100 : Int32) < a0 := by rw [Int32.lt_iff_toInt_lt, ha, e100]; omega
    have h9 : (-9 : Int32) ≤ a0 := by rw [Int32.le_iff_toInt_le, ha, e9]; omega
    refine ⟨1, fun post hc => ?_⟩
    unfold wxI_getChars_c22
    rw [en, sb_m1 hpos, nI_clamp (by omega), nI_clamp (by omega)]
    refine ⟨fun _ => ⟨vp_in_nI (by omega) (by omega), vp_in_nI (by omega) (by omega), fun _ => hc _ a0 rfl ⟨rfl, rfl, rfl⟩ (fun i => ?_), fun z => absurd h9 z⟩, fun z => absurd h100 z⟩
    show upd ρ.2.2.2.2.2.1 (pos - 1) (vp_nar .byte (nI (48 + 0 % 10))) i = _
    rw [nar_n (by omega)]
    by_cases e : i = pos - 1
    · subst e; rw [pk_us, if_pos ⟨by rw [show sz 0 = 1 from rfl]; omega, by omega⟩, Nat.sub_self, pw_0]
    · rw [pk_un e, if_neg (by rw [show sz 0 = 1 from rfl]; omega)]
  | succ f ih =>
    intro v hvf hv a0 pos ρ ha hs hp hcap
    have hpos : 0 < pos := by have := sz_bd v; omega
    by_cases h1 : v < 100
    · have en : -a0 = nI v := Int32.toInt_inj.mp (by rw [Int32.toInt_neg, ha, nI_toInt (by omega), Int.bmod_eq_of_le (by omega) (by omega)]; omega)
      have h100 : (-100 : Int32) < a0 := by rw [Int32.lt_iff_toInt_lt, ha, e100]; omega
      refine ⟨1, fun post hc => ?_⟩
      unfold wxI_getChars_c22
      rw [en, sb_m1 hpos, nI_clamp (by omega), nI_clamp (by omega)]
      refine ⟨fun _ => ⟨vp_in_nI (by omega) (by omega), vp_in_nI (by omega) (by omega), fun h9 => ?_, fun h9 => ?_⟩, fun z => absurd h100 z⟩
      · rw [Int32.le_iff_toInt_le, ha, e9] at h9
        have es : sz v = 1 := by unfold sz; rw [if_pos (by omega)]
        rw [show pos - 1 = pos - sz v by omega]
        refine hc _ a0 rfl ⟨rfl, rfl, rfl⟩ (fun i => ?_)
        show upd ρ.2.2.2.2.2.1 (pos - sz v) (vp_nar .byte (nI (48 + v % 10))) i = _
        rw [nar_n (by omega)]
        by_cases e : i = pos - 1
        · rw [e, show pos - sz v = pos - 1 by omega, pk_us, if_pos ⟨by omega, by omega⟩, Nat.sub_self, pw_0]
        · rw [pk_un (by omega), if_neg (by omega)]
      · rw [Int32.le_iff_toInt_le, ha, e9] at h9
        have es : sz v = 2 := by unfold sz; rw [if_neg (by omega), if_pos (by omega)]
        rw [sb_m1 (by omega), nI_clamp (by omega)]
        refine ⟨vp_in_nI (show pos - 1 - 1 < ρ.2.2.2.2.2.2.1 by omega) (show ρ.2.2.2.2.2.2.1 < 2 ^ 31 by omega), ?_⟩
        rw [show pos - 1 - 1 = pos - sz v by omega]
        refine hc _ a0 rfl ⟨rfl, rfl, rfl⟩ (fun i => ?_)
        show upd (upd ρ.2.2.2.2.2.1 (pos - 1) (vp_nar .byte (nI (48 + v % 10)))) (pos - sz v) (vp_nar .byte (nI (48 + v / 10))) i = _
        rw [nar_n (by omega), nar_n (by omega)]
        by_cases e : i = pos - 2
        · rw [e, show pos - sz v = pos - 2 by omega, pk_us, if_pos ⟨by omega, by omega⟩, show pos - 1 - (pos - 2) = 1 by omega, pw_1, Nat.mod_eq_of_lt (show v / 10 < 10 by omega)]
        · rw [pk_un (by omega)]
          by_cases e2 : i = pos - 1
          · rw [e2, pk_us, if_pos ⟨by omega, by omega⟩, Nat.sub_self, pw_0]
          · rw [pk_un e2, if_neg (by omega)]
    · have hq : (a0 / 100).toInt = -((v / 100 : Nat) : Int) := by
        rw [Int32.toInt_div, ha, show (100 : Int32).toInt = 100 from rfl, Int.neg_tdiv, Int.tdiv_eq_ediv_of_nonneg (by omega), Int.bmod_eq_of_le (by omega) (by omega)]
        omega
      have hr : (a0 / 100) * 100 - a0 = nI (v % 100) := by
        apply Int32.toInt_inj.mp
        have hm : ((a0 / 100) * 100).toInt = -((v / 100 : Nat) : Int) * 100 := by
          rw [Int32.toInt_mul, hq, show (100 : Int32).toInt = 100 from rfl, Int.bmod_eq_of_le (by omega) (by omega)]
        rw [Int32.toInt_sub, hm, ha, nI_toInt (by omega), Int.bmod_eq_of_le (by omega) (by omega)]
        omega
      have h100 : ¬ (-100 : Int32) < a0 := by rw [Int32.lt_iff_toInt_lt, ha, e100]; omega
      have hsz := sz_100 (show 100 ≤ v by omega) hv
      have hsb := sz_bd (v / 100)
      obtain ⟨D, hD⟩ := ih (v / 100) (by omega) (by omega) (a0 / 100) (pos - 2) (rB (rB ρ (pos - 1) (vp_nar .byte (doF (v % 100)))) (pos - 1 - 1) (vp_nar .byte (dtF (v % 100)))) hq (by omega) (show pos - 2 ≤ ρ.2.2.2.2.2.2.1 by omega) hcap
      refine ⟨D + 1, fun post hc => ?_⟩
      unfold wxI_getChars_c22
      rw [hr, sb_m1 hpos, nI_clamp (by omega), nI_clamp (by omega), sb_m1 (show 0 < pos - 1 by omega), nI_clamp (by omega)]
      refine ⟨fun z => absurd z h100, fun _ => ⟨vp_in_nI (by omega) (by omega), vp_in_nI (by omega) (by omega), vp_in_nI (show pos - 1 - 1 < ρ.2.2.2.2.2.2.1 by omega) (show ρ.2.2.2.2.2.2.1 < 2 ^ 31 by omega), hD post (fun ρ' b0 e1 e2 e3 => ?_)⟩⟩
      rw [show pos - 2 - sz (v / 100) = pos - sz v by omega]
      refine hc ρ' b0 e1 (Sm_tr ⟨rfl, rfl, rfl⟩ e2) (fun i => ?_)
      rw [e3 i, show pos - 2 - sz (v / 100) = pos - sz v by omega]
      show (if pos - sz v ≤ i ∧ i < pos - 2 then _ else upd (upd ρ.2.2.2.2.2.1 (pos - 1) (vp_nar .byte (nI (48 + v % 100 % 10)))) (pos - 1 - 1) (vp_nar .byte (nI (48 + v % 100 / 10))) i) = _
      rw [nar_n (by omega), nar_n (by omega)]
      by_cases e : pos - sz v ≤ i ∧ i < pos - 2
      · rw [if_pos e, if_pos ⟨e.1, by omega⟩, pw_2, show pos - 2 - 1 - i + 2 = pos - 1 - i by omega]
      · rw [if_neg e]
        by_cases e1 : i = pos - 2
        · rw [e1, show pos - 1 - 1 = pos - 2 by omega, pk_us, if_pos ⟨by omega, by omega⟩, show pos - 1 - (pos - 2) = 1 by omega, pw_1, show v % 100 / 10 = v / 10 % 10 by omega]
        · rw [pk_un (by omega)]
          by_cases e2 : i = pos - 1
          · rw [e2, pk_us, if_pos ⟨by omega, by omega⟩, Nat.sub_self, pw_0, show v % 100 % 10 = v % 10 by omega]
          · rw [pk_un e2, if_neg (by omega)]
end GC
theorem ap_num {S : Sg} {l : List Int32} {cap0 : Nat} {x : Int32} (hlen : l.length + 11 ≤ 240) (h16 : 16 ≤ cap0) (h500 : cap0 ≤ 500) : Ap (fun ρ post m s => wxB_append3 post ρ S x m s) S l (num x) cap0 := by
  obtain ⟨nb1, nb2⟩ := num_bd x
  have hnl := num_len x
  obtain ⟨a1, a2, a3⟩ := x_abs x
  obtain ⟨m, s, cap', g1, g3, g4⟩ := en_cap (S := S) (l := l) (need := l.length + (num x).length) (by omega) h16 h500
  refine ⟨m, s, cap', g1, fun ρ hT hc post hp => ⟨m, s, ⟨by omega, by omega⟩, ss ⟨m, s, ⟨by omega, by omega⟩, ?_⟩⟩⟩
  rw [hT.1, nI_add]
  refine g4 ρ hT hc _ (fun ρ8 hT8 hS8 hc8 => ?_)
  have hcap := hT8.2.1
  have e0 : (0 : Int32).toInt = 0 := rfl
  have hsb := sz_bd x.toInt.natAbs
  refine ⟨fun z => absurd z (by decide), fun _ => ?_⟩
  by_cases hx : x.toInt < 0
  · rw [if_pos hx] at hnl
    have hx' : ¬ (0 : Int32) ≤ x := by rw [Int32.le_iff_toInt_le, e0]; omega
    obtain ⟨D, hD⟩ := gc_all (S := S) (x := x) (y := nI (l.length + (num x).length)) (a6 := 1) x.toInt.natAbs x.toInt.natAbs (Nat.le_refl _) a1 x (l.length + (num x).length) ρ8 (a2 hx) (by omega) (by omega) (by omega)
    refine ⟨fun z => absurd z hx', fun _ => ⟨D, hD _ (fun ρ' b0 e1 e2 e3 => ⟨fun z => absurd z (by decide), fun _ => ?_⟩)⟩⟩
    have ep : l.length + (num x).length - sz x.toInt.natAbs = l.length + 1 := by omega
    rw [ep, sb_m1 (by omega), nI_clamp (by omega), show l.length + 1 - 1 = l.length by omega]
    have ec : ρ'.2.2.2.2.2.2.1 = ρ8.2.2.2.2.2.2.1 := congrArg Prod.fst e1
    refine ⟨vp_in_nI (by omega) (by omega), hp _ (Tx_app hT8 rT_0 ec (by rw [hc8]; exact g3) (num_chr x) (fun i hi => ?_)) (Sm_tr hS8 e2) (ec.trans hc8)⟩
    show upd ρ'.2.2.2.2.2.1 l.length (vp_nar .byte (nI 45)) i = _
    rw [nar_n (by omega)]
    have gx : num x = [45] ++ numL x.toInt.natAbs (sz x.toInt.natAbs) := by unfold num; rw [if_pos hx]
    by_cases e : i = l.length
    · subst e
      rw [pk_us, if_pos ⟨by omega, by omega⟩, Nat.sub_self, gx]; rfl
    · rw [pk_un e, e3 i, ep]
      by_cases e4 : l.length + 1 ≤ i ∧ i < l.length + (num x).length
      · rw [if_pos e4, if_pos ⟨by omega, e4.2⟩, gx, gd_app, if_neg (show ¬ i - l.length < ([45] : List Int32).length from Nat.not_lt.mpr (show 1 ≤ i - l.length by omega)), show i - l.length - ([45] : List Int32).length = i - l.length - 1 from rfl, numL_at _ _ _ (by omega)]
        rw [← gx, show l.length + (num x).length - 1 - i = sz x.toInt.natAbs - 1 - (i - l.length - 1) by omega]
      · rw [if_neg e4, if_neg (by omega)]
  · rw [if_neg hx, Nat.zero_add] at hnl
    have hx' : (0 : Int32) ≤ x := by rw [Int32.le_iff_toInt_le, e0]; omega
    obtain ⟨D, hD⟩ := gc_all (S := S) (x := x) (y := nI (l.length + (num x).length)) (a6 := 0) x.toInt.natAbs x.toInt.natAbs (Nat.le_refl _) a1 (-x) (l.length + (num x).length) ρ8 (neg_pos hx) (by omega) (by omega) (by omega)
    refine ⟨fun _ => ⟨D, hD _ (fun ρ' b0 e1 e2 e3 => ⟨fun _ => ?_, fun z => absurd rfl z⟩)⟩, fun z => absurd hx' z⟩
    have ep : l.length + (num x).length - sz x.toInt.natAbs = l.length := by omega
    have ec : ρ'.2.2.2.2.2.2.1 = ρ8.2.2.2.2.2.2.1 := congrArg Prod.fst e1
    have gx : num x = numL x.toInt.natAbs (sz x.toInt.natAbs) := by unfold num; rw [if_neg hx]; rfl
    refine hp _ (Tx_app hT8 rT_0 ec (by rw [hc8]; exact g3) (num_chr x) (fun i hi => ?_)) (Sm_tr hS8 e2) (ec.trans hc8)
    show ρ'.2.2.2.2.2.1 i = _
    rw [e3 i, ep]
    by_cases e4 : l.length ≤ i ∧ i < l.length + (num x).length
    · rw [if_pos e4, if_pos e4, gx, numL_at _ _ _ (by omega), ← gx, show l.length + (num x).length - 1 - i = sz x.toInt.natAbs - 1 - (i - l.length) by omega]
    · rw [if_neg e4, if_neg e4]
