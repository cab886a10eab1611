/-! the pure part: one program, one run, two ways of doing it -/
def cI : Option Nat → Int32
  | none => -1
  | some j => nI j
def rk (i : Nat) : Nat := ([0, 3, 3, 3, 3, 2, 3, 2, 1, 1, 4, 5, 6, 7, 8, 9] : List Nat).getD i 10
def vr (N : Nat) (x : Int32) : Prop := ∃ v : Nat, v < N ∧ x = nI v
def ch (P : Rg) (n lv : Nat) (x : Int32) : Prop := ∃ j l : Nat, j < n ∧ x = nI j ∧ P 4 j = nI l ∧ 1 ≤ l ∧ l < lv
/-- the operands of a node of a kind -/
def nOk (P : Rg) (n c k lv : Nat) : Nat → Prop
  | 1 => vr 4 (P 1 k)
  | 2 => vr 4 (P 1 k)
  | 3 => vr 4 (P 1 k)
  | 4 => ch P n lv (P 1 k) ∧ ch P n lv (P 2 k)
  | 5 => vr 4 (P 1 k) ∧ ch P n lv (P 2 k) ∧ (P 3 k = -1 ∨ ch P n lv (P 3 k))
  | 6 => (∃ v : Nat, 1 ≤ v ∧ v ≤ 8 ∧ P 1 k = nI v) ∧ ch P n lv (P 2 k)
  | 8 => vr 4 (P 1 k)
  | 9 => vr 6 (P 1 k)
  | 10 => vr c (P 1 k)
  | 12 => vr c (P 1 k)
  | 13 => ch P n lv (P 1 k) ∧ ch P n lv (P 3 k)
  | 14 => ch P n lv (P 1 k) ∧ ch P n lv (P 2 k)
  | 15 => ch P n lv (P 1 k) ∧ ch P n lv (P 2 k)
  | 16 => vr 4 (P 1 k) ∧ vr 4 (P 2 k)
  | 17 => vr 4 (P 1 k) ∧ vr 5 (P 2 k)
  | 18 => vr c (P 1 k)
  | 19 => vr 4 (P 1 k)
  | 20 => vr 2 (P 1 k) ∧ ch P n lv (P 2 k)
  | 21 => vr 2 (P 1 k)
  | _ => True
/-- the program is well made: n nodes, c types of throwables, lm the depth allowed -/
def Pv (P : Rg) (n c lm : Nat) : Prop :=
  (n ≤ 64 ∧ P 7 1 = nI n) ∧ (10 ≤ c ∧ c ≤ 16 ∧ P 7 0 = nI c) ∧ (1 ≤ lm ∧ lm ≤ 12 ∧ P 7 3 = nI lm) ∧ (P 7 2 = -1 ∨ vr 6 (P 7 2)) ∧ (∀ r, r < 6 → P 5 r = -1 ∨ vr n (P 5 r)) ∧ (∀ i, i < c → P 6 i = -1 ∨ ∃ p, p < c ∧ P 6 i = nI p ∧ rk p < rk i) ∧
  (∀ k, k < n → ∃ lv kd : Nat, P 4 k = nI lv ∧ 1 ≤ lv ∧ lv ≤ 8 ∧ P 0 k = nI kd ∧ kd ≤ 22 ∧ nOk P n c k lv kd)
/-- the reference holds that program -/
def Pm (P M : Rg) : Prop := M 10 = P 0 ∧ M 11 = P 1 ∧ M 12 = P 2 ∧ M 13 = P 3 ∧ M 14 = P 4 ∧ (∀ i, i < 6 → M 15 i = P 5 i) ∧ (∀ i, i < 16 → M 16 i = P 6 i) ∧ (∀ i, i < 4 → M 17 i = P 7 i)
theorem Pm_u {P M : Rg} {a i : Nat} {v : Int32} (h : Pm P M) (ha : a < 10 ∨ 18 ≤ a) : Pm P (uu M a i v) := by
  obtain ⟨h0, h1, h2, h3, h4, h5, h6, h7⟩ := h
  refine ⟨?_, ?_, ?_, ?_, ?_, fun j hj => ?_, fun j hj => ?_, fun j hj => ?_⟩
  · rw [uu_row (by omega)]; exact h0
  · rw [uu_row (by omega)]; exact h1
  · rw [uu_row (by omega)]; exact h2
  · rw [uu_row (by omega)]; exact h3
  · rw [uu_row (by omega)]; exact h4
  · rw [uu_row (by omega)]; exact h5 j hj
  · rw [uu_row (by omega)]; exact h6 j hj
  · rw [uu_row (by omega)]; exact h7 j hj
/-- class and reference agree on the run's registers -/
def Ag (S : Sg) (M : Rg) : Prop := (∀ a, a < 7 → a ≠ 5 → M a = S.1 a) ∧ ∀ i, i < 6 → M 7 i = S.1 7 i
theorem uu_at {R : Rg} {a i b j : Nat} {v : Int32} : uu R a i v b j = if b = a ∧ j = i then v else R b j := by
  unfold uu
  by_cases h : b = a
  · subst h
    rw [if_pos rfl]
    unfold upd
    by_cases h2 : j = i
    · rw [if_pos h2, if_pos ⟨rfl, h2⟩]
    · rw [if_neg h2, if_neg (fun z => h2 z.2)]
  · rw [if_neg h, if_neg (fun z => h z.1)]
theorem uu_n {R : Rg} {a i b j : Nat} {v : Int32} (h : b ≠ a ∨ j ≠ i) : uu R a i v b j = R b j := by
  rw [uu_at, if_neg (fun z => by rcases h with h | h; exact h z.1; exact h z.2)]
theorem sR_n {S : Sg} {a i b j : Nat} {v : Int32} (h : b ≠ a ∨ j ≠ i) : (sR S a i v).1 b j = S.1 b j := uu_n h
theorem sR_row {S : Sg} {a i b : Nat} {v : Int32} (h : b ≠ a) : (sR S a i v).1 b = S.1 b := uu_row h
theorem sR_same {S : Sg} {a i : Nat} {v : Int32} : (sR S a i v).1 a i = v := uu_same
theorem sR_at {S : Sg} {a i b j : Nat} {v : Int32} : (sR S a i v).1 b j = if b = a ∧ j = i then v else S.1 b j := uu_at
theorem Ag_u {S : Sg} {M : Rg} {a i i' : Nat} {v v' : Int32} (h : Ag S M) (hi : i' = i) (hv : v' = v) : Ag (sR S a i v) (uu M a i' v') := by
  subst hi hv
  refine ⟨fun b hb h5 => ?_, fun j hj => ?_⟩
  · funext j
    show uu M a i' v' b j = uu S.1 a i' v' b j
    rw [uu_at, uu_at, h.1 b hb h5]
  · show uu M a i' v' 7 j = uu S.1 a i' v' 7 j
    rw [uu_at, uu_at, h.2 j hj]
theorem Ag_m {S : Sg} {M : Rg} {a i : Nat} {v : Int32} (h : Ag S M) (ha : 8 ≤ a ∨ a = 5) : Ag S (uu M a i v) := by
  refine ⟨fun b hb h5 => ?_, fun j hj => ?_⟩
  · rw [uu_row (by omega)]; exact h.1 b hb h5
  · rw [uu_row (by omega)]; exact h.2 j hj
theorem Ag_k {S : Sg} {M : Rg} {v : Int32} (h : Ag S M) : Ag (sR S 7 6 v) M := by
  refine ⟨fun b hb h5 => ?_, fun j hj => ?_⟩
  · show M b = uu S.1 7 6 v b
    rw [uu_row (by omega)]; exact h.1 b hb h5
  · show M 7 j = uu S.1 7 6 v 7 j
    rw [uu_n (Or.inr (by omega))]; exact h.2 j hj
theorem Ag_c {S : Sg} {M : Rg} {i : Nat} {o : Option Nat} (h : Ag S M) : Ag (sC S i o) M := h
/-- counts of a run: throwables made, ints logged, nodes begun; s of the begun ones have made and logged nothing yet -/
def Cn (S : Sg) (M : Rg) (c s mk lg bg : Nat) : Prop := S.1 7 1 = nI mk ∧ S.1 7 0 = nI lg ∧ S.1 7 2 = nI bg ∧ bg ≤ 300 ∧ mk + s ≤ bg ∧ lg + s ≤ bg ∧ ∀ i, i < mk → vr c (S.1 3 i) ∧ (∃ u : Nat, S.1 6 i = nI u ∧ u + s ≤ bg) ∧ M 5 i = cI (S.2 i) ∧ ∀ j, S.2 i = some j → j < i
theorem Cn_eq {S S' : Sg} {M M' : Rg} {c s mk lg bg : Nat} (h : Cn S M c s mk lg bg) (h1 : S'.1 7 1 = S.1 7 1) (h0 : S'.1 7 0 = S.1 7 0) (h2 : S'.1 7 2 = S.1 7 2) (h3 : S'.1 3 = S.1 3) (h6 : S'.1 6 = S.1 6) (h5 : M' 5 = M 5) (hc : ∀ i, i < mk → S'.2 i = S.2 i) : Cn S' M' c s mk lg bg := by
  obtain ⟨g1, g2, g3, g4, g5, g6, g7⟩ := h
  refine ⟨h1.trans g1, h0.trans g2, h2.trans g3, g4, g5, g6, fun i hi => ?_⟩
  rw [h3, h6, h5, hc i hi]
  exact g7 i hi
def Rn (P : Rg) (c s : Nat) (S : Sg) (M : Rg) (mk lg bg dp : Nat) : Prop := Ag S M ∧ Pm P M ∧ Cn S M c s mk lg bg ∧ S.1 7 5 = nI dp ∧ dp ≤ 12
section RN
variable {P : Rg} {c s : Nat} {S : Sg} {M : Rg} {mk lg bg dp : Nat}
theorem Rn_f {a i : Nat} {v : Int32} (h : Rn P c s S M mk lg bg dp) (ha : 20 ≤ a) : Rn P c s S (uu M a i v) mk lg bg dp :=
  ⟨Ag_m h.1 (Or.inl (by omega)), Pm_u h.2.1 (Or.inr (by omega)), Cn_eq h.2.2.1 rfl rfl rfl rfl rfl (uu_row (by omega)) (fun _ _ => rfl), h.2.2.2⟩
theorem Rn_v {a i i' : Nat} {v v' : Int32} (h : Rn P c s S M mk lg bg dp) (ha : a < 3) (hi : i' = i) (hv : v' = v) : Rn P c s (sR S a i v) (uu M a i' v') mk lg bg dp :=
  ⟨Ag_u h.1 hi hv, Pm_u h.2.1 (Or.inl (by omega)), Cn_eq h.2.2.1 (sR_n (Or.inl (by omega))) (sR_n (Or.inl (by omega))) (sR_n (Or.inl (by omega))) (sR_row (by omega)) (sR_row (by omega)) (uu_row (by omega)) (fun _ _ => rfl), (sR_n (Or.inl (by omega))).trans h.2.2.2.1, h.2.2.2.2⟩
theorem Rn_t {i : Nat} {v v' : Int32} (h : Rn P c s S M mk lg bg dp) (ha : i = 3 ∨ i = 4) (hv : v' = v) : Rn P c s (sR S 7 i v) (uu M 7 i v') mk lg bg dp :=
  ⟨Ag_u h.1 rfl hv, Pm_u h.2.1 (Or.inl (by omega)), Cn_eq h.2.2.1 (sR_n (Or.inr (by omega))) (sR_n (Or.inr (by omega))) (sR_n (Or.inr (by omega))) (sR_row (by omega)) (sR_row (by omega)) (uu_row (by omega)) (fun _ _ => rfl), (sR_n (Or.inr (by omega))).trans h.2.2.2.1, h.2.2.2.2⟩
theorem Rn_k {v : Int32} (h : Rn P c s S M mk lg bg dp) : Rn P c s (sR S 7 6 v) M mk lg bg dp :=
  ⟨Ag_k h.1, h.2.1, Cn_eq h.2.2.1 (sR_n (Or.inr (by omega))) (sR_n (Or.inr (by omega))) (sR_n (Or.inr (by omega))) (sR_row (by omega)) (sR_row (by omega)) rfl (fun _ _ => rfl), (sR_n (Or.inr (by omega))).trans h.2.2.2.1, h.2.2.2.2⟩
theorem Rn_bd (h : Rn P c s S M mk lg bg dp) : mk ≤ 300 ∧ lg ≤ 300 ∧ bg ≤ 300 := by
  obtain ⟨-, -, ⟨-, -, -, h1, h2, h3, -⟩, -⟩ := h
  omega
theorem Rn_c {i : Nat} {o : Option Nat} (h : Rn P c s S M mk lg bg dp) (hi : 300 ≤ i) : Rn P c s (sC S i o) M mk lg bg dp :=
  ⟨h.1, h.2.1, Cn_eq h.2.2.1 rfl rfl rfl rfl rfl rfl (fun j hj => if_neg (by have := Rn_bd h; omega)), h.2.2.2⟩
theorem Rn_s (h : Rn P c (s + 1) S M mk lg bg dp) : Rn P c s S M mk lg bg dp := by
  obtain ⟨h1, h2, ⟨g1, g2, g3, g4, g5, g6, g7⟩, h4⟩ := h
  refine ⟨h1, h2, ⟨g1, g2, g3, g4, by omega, by omega, fun i hi => ?_⟩, h4⟩
  obtain ⟨a1, ⟨u, a2, a3⟩, a4⟩ := g7 i hi
  exact ⟨a1, ⟨u, a2, by omega⟩, a4⟩
theorem Rn_log {x x' : Int32} (h : Rn P c (s + 1) S M mk lg bg dp) (hx : x' = x) : Rn P c s (sR (sR S 2 lg x) 7 0 (S.1 7 0 + 1)) (uu (uu M 2 lg x') 7 0 (M 7 0 + 1)) mk (lg + 1) bg dp := by
  have h0 := Rn_s h
  obtain ⟨g1, g2, g3, g4, g5, g6, g7⟩ := h.2.2.1
  obtain ⟨a1, a2, ⟨-, -, -, -, -, -, a7⟩, a8, a9⟩ := Rn_v (a := 2) (i := lg) h0 (by omega) rfl hx
  refine ⟨Ag_u a1 rfl (by rw [h.1.2 0 (by omega)]), Pm_u a2 (Or.inl (by omega)), ⟨?_, ?_, ?_, g4, by omega, by omega, ?_⟩, ?_, a9⟩
  · show uu (uu S.1 2 lg x) 7 0 (S.1 7 0 + 1) 7 1 = _
    rw [uu_n (Or.inr (by omega)), uu_n (Or.inl (by omega))]; exact g1
  · show uu (uu S.1 2 lg x) 7 0 (S.1 7 0 + 1) 7 0 = _
    rw [uu_same, g2, nI_1]
  · show uu (uu S.1 2 lg x) 7 0 (S.1 7 0 + 1) 7 2 = _
    rw [uu_n (Or.inr (by omega)), uu_n (Or.inl (by omega))]; exact g3
  · intro i hi
    have := a7 i hi
    show vr c (uu (uu S.1 2 lg x) 7 0 (S.1 7 0 + 1) 3 i) ∧ (∃ u : Nat, uu (uu S.1 2 lg x) 7 0 (S.1 7 0 + 1) 6 i = nI u ∧ u + s ≤ bg) ∧ uu (uu M 2 lg x') 7 0 (M 7 0 + 1) 5 i = cI (S.2 i) ∧ ∀ j, S.2 i = some j → j < i
    rw [uu_n (Or.inl (by omega)), uu_n (b := 6) (Or.inl (by omega)), uu_n (b := 5) (Or.inl (by omega))]
    exact this
  · show uu (uu S.1 2 lg x) 7 0 (S.1 7 0 + 1) 7 5 = _
    rw [uu_n (Or.inr (by omega)), uu_n (Or.inl (by omega))]; exact h.2.2.2.1
theorem Rn_sup {j : Nat} (h : Rn P c (s + 1) S M mk lg bg dp) (hj : j < mk) : Rn P c s (sR S 6 j (S.1 6 j + 1)) (uu M 6 j (M 6 j + 1)) mk lg bg dp := by
  obtain ⟨h1, h2, ⟨g1, g2, g3, g4, g5, g6, g7⟩, h4, h5⟩ := h
  refine ⟨Ag_u h1 rfl (by rw [h1.1 6 (by omega) (by omega)]), Pm_u h2 (Or.inl (by omega)), ⟨(sR_n (Or.inl (by omega))).trans g1, (sR_n (Or.inl (by omega))).trans g2, (sR_n (Or.inl (by omega))).trans g3, g4, by omega, by omega, fun i hi => ?_⟩, (sR_n (Or.inl (by omega))).trans h4, h5⟩
  obtain ⟨a1, ⟨u, a2, a3⟩, a4⟩ := g7 i hi
  refine ⟨?_, ?_, ?_⟩
  · show vr c (uu S.1 6 j (S.1 6 j + 1) 3 i)
    rw [uu_n (Or.inl (by omega))]; exact a1
  · show ∃ u : Nat, uu S.1 6 j (S.1 6 j + 1) 6 i = nI u ∧ u + s ≤ bg
    by_cases e : i = j
    · subst e
      exact ⟨u + 1, by rw [uu_same, a2, nI_1], by omega⟩
    · exact ⟨u, by rw [uu_n (Or.inr e)]; exact a2, by omega⟩
  · show uu M 6 j (M 6 j + 1) 5 i = cI (S.2 i) ∧ ∀ j, S.2 i = some j → j < i
    rw [uu_n (Or.inl (by omega))]; exact a4
theorem Rn_thr {x x' y y' q : Int32} {o : Option Nat} (h : Rn P c (s + 1) S M mk lg bg dp) (hx : x' = x) (hy : y' = y) (hq : q = cI o) (ho : ∀ j, o = some j → j < mk) (hv : vr c x) :
    Rn P c s (sR (sR (sC (sR (sR (sC S 300 (some mk)) 3 mk x) 4 mk y) mk o) 6 mk 0) 7 1 (S.1 7 1 + 1)) (uu (uu (uu (uu (uu M 3 mk x') 4 mk y') 5 mk q) 6 mk 0) 7 1 (M 7 1 + 1)) (mk + 1) lg bg dp := by
  have hb := Rn_bd h
  obtain ⟨h1, h2, ⟨g1, g2, g3, g4, g5, g6, g7⟩, h4, h5⟩ := h
  have k1 : Ag (sC S 300 (some mk)) M := h1
  have k2 := Ag_u (a := 3) (i := mk) k1 rfl hx
  have k3 := Ag_u (a := 4) (i := mk) k2 rfl hy
  have k4 : Ag (sC (sR (sR (sC S 300 (some mk)) 3 mk x) 4 mk y) mk o) (uu (uu (uu M 3 mk x') 4 mk y') 5 mk q) := Ag_m (a := 5) (i := mk) (v := q) k3 (Or.inr rfl)
  have k5 := Ag_u (a := 6) (i := mk) (v := 0) k4 rfl rfl
  have e7 : ∀ i w, uu (uu (uu (uu S.1 3 mk x) 4 mk y) 6 mk 0) 7 1 w 7 i = if i = 1 then w else S.1 7 i := fun i w => by
    rw [uu_at]
    by_cases e : i = 1
    · rw [if_pos ⟨rfl, e⟩, if_pos e]
    · rw [if_neg (fun z => e z.2), if_neg e, uu_n (Or.inl (by omega)), uu_n (Or.inl (by omega)), uu_n (Or.inl (by omega))]
  refine ⟨Ag_u k5 rfl (by rw [h1.2 1 (by omega)]), Pm_u (Pm_u (Pm_u (Pm_u (Pm_u h2 (Or.inl (by omega))) (Or.inl (by omega))) (Or.inl (by omega))) (Or.inl (by omega))) (Or.inl (by omega)), ⟨?_, ?_, ?_, g4, by omega, by omega, fun i hi => ?_⟩, ?_, h5⟩
  · show uu (uu (uu (uu S.1 3 mk x) 4 mk y) 6 mk 0) 7 1 (S.1 7 1 + 1) 7 1 = _
    rw [e7, if_pos rfl, g1, nI_1]
  · show uu (uu (uu (uu S.1 3 mk x) 4 mk y) 6 mk 0) 7 1 (S.1 7 1 + 1) 7 0 = _
    rw [e7, if_neg (by omega)]; exact g2
  · show uu (uu (uu (uu S.1 3 mk x) 4 mk y) 6 mk 0) 7 1 (S.1 7 1 + 1) 7 2 = _
    rw [e7, if_neg (by omega)]; exact g3
  · show vr c (uu (uu (uu (uu S.1 3 mk x) 4 mk y) 6 mk 0) 7 1 (S.1 7 1 + 1) 3 i) ∧ (∃ u : Nat, uu (uu (uu (uu S.1 3 mk x) 4 mk y) 6 mk 0) 7 1 (S.1 7 1 + 1) 6 i = nI u ∧ u + s ≤ bg) ∧ uu (uu (uu (uu (uu M 3 mk x') 4 mk y') 5 mk q) 6 mk 0) 7 1 (M 7 1 + 1) 5 i = cI (va_up (va_up S.2 300 (some mk)) mk o i) ∧ ∀ j, va_up (va_up S.2 300 (some mk)) mk o i = some j → j < i
    rw [uu_n (b := 3) (Or.inl (by omega)), uu_n (b := 3) (Or.inl (by omega)), uu_n (b := 3) (Or.inl (by omega)), uu_n (a := 7) (b := 6) (Or.inl (by omega)), uu_n (a := 7) (b := 5) (Or.inl (by omega)), uu_n (a := 6) (b := 5) (Or.inl (by omega))]
    by_cases e : i = mk
    · subst e
      refine ⟨by rw [uu_same]; exact hv, ⟨0, by rw [uu_same]; rfl, by omega⟩, ?_, ?_⟩
      · rw [uu_same, hq]
        show cI o = cI (if i = i then o else _)
        rw [if_pos rfl]
      · show ∀ j, (if i = i then o else _) = some j → j < i
        rw [if_pos rfl]; exact ho
    · obtain ⟨a1, ⟨u, a2, a3⟩, a4, a5⟩ := g7 i (by omega)
      have e2 : va_up (va_up S.2 300 (some mk)) mk o i = S.2 i := by
        show (if i = mk then o else if i = 300 then some mk else S.2 i) = S.2 i
        rw [if_neg e, if_neg (by omega)]
      rw [uu_n (a := 3) (Or.inr e), uu_n (a := 6) (Or.inr e), uu_n (b := 6) (Or.inl (by omega)), uu_n (b := 6) (Or.inl (by omega)), uu_n (a := 5) (Or.inr e), uu_n (b := 5) (Or.inl (by omega)), uu_n (b := 5) (Or.inl (by omega)), e2]
      exact ⟨a1, ⟨u, a2, by omega⟩, a4, a5⟩
  · show uu (uu (uu (uu S.1 3 mk x) 4 mk y) 6 mk 0) 7 1 (S.1 7 1 + 1) 7 5 = _
    rw [e7, if_neg (by omega)]; exact h4
end RN
