/-! what the calls keep -/
def tv (M : Rg) : Int64 := if M 27 11 = 0 then 1000000000000 else if M 27 8 ≠ 0 then (M 27 7).toInt64 else if M 27 6 = 4 then (M 27 7).toInt64 else 1000000000000
def Tx (ρ : Rh) (l : List Int32) : Prop := ρ.2.2.2.2.2.2.2 0 = nI l.length ∧ (l.length ≤ ρ.2.2.2.2.2.2.1 ∧ 16 ≤ ρ.2.2.2.2.2.2.1 ∧ ρ.2.2.2.2.2.2.1 ≤ 500) ∧ (∀ i, i < ρ.2.2.2.2.2.2.1 → fits .byte (.int (ρ.2.2.2.2.2.1 i)) = true) ∧ (∀ i, i < l.length → ρ.2.2.2.2.2.1 i = l.getD i 0) ∧ ∀ i, i < l.length → ∃ n : Nat, n < 128 ∧ l.getD i 0 = nI n
def Tm (M : Rg) (l : List Int32) : Prop := l.length ≤ 120 ∧ M 28 0 = nI l.length ∧ ∀ i, i < l.length → M 26 i = l.getD i 0
def Fl (S : Sg) (M : Rg) (mk : Nat) : Prop := (M 27 9 = cI (S.2 301) ∧ M 27 10 = cI (S.2 302)) ∧ (∀ j, S.2 301 = some j → j < mk) ∧ (∀ j, S.2 302 = some j → j < mk)
def Iv (ρ : Rh) (S : Sg) (M : Rg) : Prop := ∃ (c lm mk lg bg dp : Nat) (l : List Int32), Pv ρ.2.2.1 ρ.2.1 c lm ∧ Rn ρ.2.2.1 c 0 S M mk lg bg dp ∧ Fl S M mk ∧ ρ.2.2.2.1 = tv M ∧ Tx ρ l ∧ Tm M l
theorem i32_ex {x : Int32} {n : Nat} (h : x < 0 ∨ nI n ≤ x) (hn : n < 1000) : ¬ (¬ x < 0 ∧ x < nI n) := by
  intro ⟨h1, h2⟩
  rw [Int32.lt_iff_toInt_lt] at h1 h2
  rw [Int32.lt_iff_toInt_lt, Int32.le_iff_toInt_le] at h
  omega
theorem out_in {post : Int32 → Rg → Prop} {M : Rg} {q : Int32} {j n : Nat} (hj : j < n) (hn : n < 1000) (hq : q = nI (n - 1)) (h : post 0 M) : wxQ_out post M (nI j) 0 q :=
  ⟨fun z => absurd z (nI_pos (by omega)), fun _ => ⟨fun _ => h, fun z => absurd (by rw [hq]; exact nI_le (by omega) (by omega)) z⟩⟩
theorem out_ex {post : Int32 → Rg → Prop} {M : Rg} {x q : Int32} {n : Nat} (hx : x < 0 ∨ nI n ≤ x) (h1 : 1 ≤ n) (hn : n < 1000) (hq : q = nI (n - 1)) (h : post 1 M) : wxQ_out post M x 0 q := by
  refine ⟨fun _ => h, fun hge => ⟨fun hle => ?_, fun _ => h⟩⟩
  exfalso
  rw [Int32.lt_iff_toInt_lt] at hx hge
  rw [hq, Int32.le_iff_toInt_le, nI_toInt (by omega)] at hle
  rw [Int32.le_iff_toInt_le, nI_toInt (by omega)] at hx
  omega
theorem in_c {p0 p1 : Prop} {N : Int32} {j n : Nat} (hj : j < n) (hn : n < 1000) (hN : N = nI n) (h : p1) : ((nI j < (0 : Int32)) → p0) ∧ ((¬ (nI j < (0 : Int32))) → ((N ≤ nI j) → p0) ∧ ((¬ (N ≤ nI j)) → p1)) :=
  ⟨fun z => absurd z (nI_pos (by omega)), fun _ => ⟨fun z => absurd z (by rw [hN]; exact nI_ge hj (by omega)), fun _ => h⟩⟩
theorem ex_c {p0 p1 : Prop} {x N : Int32} {n : Nat} (hx : x < 0 ∨ nI n ≤ x) (hN : N = nI n) (h : p0) : ((x < (0 : Int32)) → p0) ∧ ((¬ (x < (0 : Int32))) → ((N ≤ x) → p0) ∧ ((¬ (N ≤ x)) → p1)) :=
  ⟨fun _ => h, fun z => ⟨fun _ => h, fun w => by rcases hx with hx | hx; exact absurd hx z; exact absurd (by rw [hN]; exact hx) w⟩⟩
theorem nn_in {post : Int32 → Rg → Prop} {M : Rg} {j n : Nat} (hj : j < n) (hn : n < 1000) (hN : M 17 1 = nI n) (h : post 0 M) : wxQ_noNode post M (nI j) :=
  ⟨fun z => absurd z (nI_pos (by omega)), fun _ => ⟨fun _ => h, fun z => absurd (by rw [hN]; exact nI_lt hj (by omega)) z⟩⟩
theorem nn_ex {post : Int32 → Rg → Prop} {M : Rg} {x : Int32} {n : Nat} (hx : x < 0 ∨ nI n ≤ x) (hn : n < 1000) (hN : M 17 1 = nI n) (h : post 1 M) : wxQ_noNode post M x :=
  ⟨fun _ => h, fun z => ⟨fun w => absurd ⟨z, by rw [hN] at w; exact w⟩ (i32_ex hx hn), fun _ => h⟩⟩
theorem ix_n (x : Int32) (n : Nat) (hn : n < 1000) : (x < 0 ∨ nI n ≤ x) ∨ ∃ j : Nat, j < n ∧ x = nI j := by
  rcases pk_ix x (n := n) (by omega) with h | h | h
  · exact Or.inl (Or.inl h)
  · exact Or.inl (Or.inr h)
  · exact Or.inr h
theorem iv_variable : ok_variable Iv := by
  intro ρ S M a1 hI
  have ag : M 0 = S.1 0 := by obtain ⟨c, lm, mk, lg, bg, dp, l, hP, hR, -⟩ := hI; exact hR.1.1 0 (by omega) (by omega)
  unfold wxT_variable wxP_isVariable wxM_variableAt wxQ_variable
  rcases ix_n a1 4 (by omega) with h | ⟨j, hj, rfl⟩
  · exact ex_c (n := 4) h rfl ⟨fun _ => out_ex h (by omega) (by omega) rfl ⟨fun z => absurd z (by decide), fun _ => ⟨rfl, hI⟩⟩, fun z => absurd rfl z⟩
  · refine in_c (n := 4) hj (by omega) rfl ⟨fun z => absurd z (by decide), fun _ => ⟨vp_in_nI hj (by omega), out_in hj (by omega) rfl ⟨fun _ => ⟨vp_in_nI hj (by omega), ?_, hI⟩, fun z => absurd rfl z⟩⟩⟩
    rw [ag]
theorem iv_value : ok_value Iv := by
  intro ρ S M hI
  have e : ρ.2.2.2.1 = tv M := by obtain ⟨c, lm, mk, lg, bg, dp, l, hP, hR, hF, hT, -⟩ := hI; exact hT
  unfold wxT_value wxQ_value
  rw [e]
  unfold tv
  refine ⟨fun h => ⟨if_pos h, hI⟩, fun h => ⟨fun h8 => ⟨by rw [if_neg h, if_pos h8], hI⟩, fun h8 => ⟨fun h6 => ⟨by rw [if_neg h, if_neg (fun z => z h8), if_neg h6], hI⟩, fun h6 => ⟨by rw [if_neg h, if_neg (fun z => z h8), if_pos h6], hI⟩⟩⟩⟩
theorem iv_logged : ok_logged Iv := by
  intro ρ S M a1 hI
  obtain ⟨c, lm, mk, lg, bg, dp, l, hP, hR, -⟩ := id hI
  have hb := Rn_bd hR
  have e0 : S.1 7 0 = nI lg := hR.2.2.1.2.1
  have e0' : M 7 0 = nI lg := (hR.1.2 0 (by omega)).trans e0
  have ag : M 2 = S.1 2 := hR.1.1 2 (by omega) (by omega)
  unfold wxT_logged wxM_logSize wxM_logAt wxQ_logged
  rw [e0, e0', ag]
  refine ⟨fun h => ⟨fun _ => ⟨rfl, hI⟩, fun z => absurd h z⟩, fun h => ?_⟩
  rcases ix_n a1 lg (by omega) with hx | ⟨j, hj, rfl⟩
  · have hle : nI lg ≤ a1 := by rcases hx with hx | hx; exact absurd hx h; exact hx
    exact ⟨fun _ => ⟨fun z => absurd z h, fun _ => ⟨fun w => absurd ⟨h, w⟩ (i32_ex hx (by omega)), fun _ => ⟨rfl, hI⟩⟩⟩, fun z => absurd hle z⟩
  · have cj : (nI j).toNatClampNeg = j := nI_clamp (by omega)
    exact ⟨fun z => absurd z (nI_ge hj (by omega)), fun _ => ⟨vp_in_nI (by omega) (by omega), fun z => absurd z h, fun _ => ⟨fun _ => ⟨vp_in_nI (by omega) (by omega), rfl, hI⟩, fun z => absurd (nI_lt hj (by omega)) z⟩⟩⟩
theorem iv_count : ok_count Iv := by
  intro ρ S M a1 hI
  obtain ⟨c, lm, mk, lg, bg, dp, l, hP, hR, -⟩ := id hI
  have p := hR.2.1.2.2.2.2.2.2.2
  have a7 := hR.1.2
  have a1' : M 1 = S.1 1 := hR.1.1 1 (by omega) (by omega)
  have q0 := p 0 (by omega)
  have q1 := p 1 (by omega)
  have r0 := a7 0 (by omega)
  have r1 := a7 1 (by omega)
  have r2 := a7 2 (by omega)
  have r3 := a7 3 (by omega)
  have r4 := a7 4 (by omega)
  have r5 := a7 5 (by omega)
  unfold wxT_count wxC_size wxP_size wxM_tally wxQ_count
  rw [q0, q1, r0, r1, r2, r3, r4, r5, a1']
  by_cases hr : a1.toInt < 0 ∨ 9 < a1.toInt
  · have k : ∀ n : Nat, n ≤ 9 → ¬ a1 = nI n := fun n hn z => by rw [z, nI_toInt (by omega)] at hr; omega
    have r : (fun r (S1 : Sg) => ((a1.toInt < 0 ∨ 9 < a1.toInt) → r = (-1 : Int32) ∧ Iv ρ S1 M) ∧ (a1 = 0 → r = ρ.2.2.1 7 0 ∧ Iv ρ S1 M) ∧ (a1 = 1 → r = ρ.2.2.1 7 1 ∧ Iv ρ S1 M) ∧ (a1 = 2 → r = S.1 7 2 ∧ Iv ρ S1 M) ∧ (a1 = 3 → r = S.1 7 1 ∧ Iv ρ S1 M) ∧ (a1 = 4 → r = S.1 7 3 ∧ Iv ρ S1 M) ∧ (a1 = 5 → r = S.1 7 4 ∧ Iv ρ S1 M) ∧ (a1 = 6 → r = S.1 7 5 ∧ Iv ρ S1 M) ∧ (a1 = 7 → r = S.1 7 0 ∧ Iv ρ S1 M) ∧ (a1 = 8 → vp_in (a1 - 8) 2 ∧ r = S.1 1 ((a1 - 8).toNatClampNeg) ∧ Iv ρ S1 M) ∧ (a1 = 9 → vp_in (a1 - 8) 2 ∧ r = S.1 1 ((a1 - 8).toNatClampNeg) ∧ Iv ρ S1 M)) (-1) S := ⟨fun _ => ⟨rfl, hI⟩, fun z => absurd z (k 0 (by omega)), fun z => absurd z (k 1 (by omega)), fun z => absurd z (k 2 (by omega)), fun z => absurd z (k 3 (by omega)), fun z => absurd z (k 4 (by omega)), fun z => absurd z (k 5 (by omega)), fun z => absurd z (k 6 (by omega)), fun z => absurd z (k 7 (by omega)), fun z => absurd z (k 8 (by omega)), fun z => absurd z (k 9 (by omega))⟩
    exact ⟨fun z => absurd z (k 0 (by omega)), fun _ => ⟨fun z => absurd z (k 1 (by omega)), fun _ => ⟨fun _ => r, fun z => absurd z (k 2 (by omega)), fun z => absurd z (k 3 (by omega)), fun z => absurd z (k 4 (by omega)), fun z => absurd z (k 5 (by omega)), fun z => absurd z (k 6 (by omega)), fun z => absurd z (k 7 (by omega)), fun z => absurd z (k 8 (by omega)), fun z => absurd z (k 9 (by omega))⟩⟩⟩
  · obtain ⟨n, hn, rfl⟩ : ∃ n : Nat, n < 10 ∧ a1 = nI n := by
      rcases ix_n a1 10 (by omega) with h | h
      · exfalso
        rw [Int32.lt_iff_toInt_lt, Int32.le_iff_toInt_le, nI_toInt (by omega)] at h
        have : (0 : Int32).toInt = 0 := rfl
        omega
      · exact h
    match n, hn with
    | 0, _ => exact ⟨fun _ => ⟨fun z => absurd z (by decide), fun _ => ⟨rfl, hI⟩, fun z => absurd z (by decide), fun z => absurd z (by decide), fun z => absurd z (by decide), fun z => absurd z (by decide), fun z => absurd z (by decide), fun z => absurd z (by decide), fun z => absurd z (by decide), fun z => absurd z (by decide), fun z => absurd z (by decide)⟩, fun z => absurd rfl z⟩
    | 1, _ => exact ⟨fun z => absurd z (by decide), fun _ => ⟨fun _ => ⟨fun z => absurd z (by decide), fun z => absurd z (by decide), fun _ => ⟨rfl, hI⟩, fun z => absurd z (by decide), fun z => absurd z (by decide), fun z => absurd z (by decide), fun z => absurd z (by decide), fun z => absurd z (by decide), fun z => absurd z (by decide), fun z => absurd z (by decide), fun z => absurd z (by decide)⟩, fun z => absurd rfl z⟩⟩
    | 2, _ => exact ⟨fun z => absurd z (by decide), fun _ => ⟨fun z => absurd z (by decide), fun _ => ⟨fun z => absurd z (by decide), fun _ => ⟨fun z => absurd z (by decide), fun z => absurd z (by decide), fun z => absurd z (by decide), fun _ => ⟨rfl, hI⟩, fun z => absurd z (by decide), fun z => absurd z (by decide), fun z => absurd z (by decide), fun z => absurd z (by decide), fun z => absurd z (by decide), fun z => absurd z (by decide), fun z => absurd z (by decide)⟩, fun z => absurd z (by decide), fun z => absurd z (by decide), fun z => absurd z (by decide), fun z => absurd z (by decide), fun z => absurd z (by decide), fun z => absurd z (by decide), fun z => absurd z (by decide)⟩⟩⟩
    | 3, _ => exact ⟨fun z => absurd z (by decide), fun _ => ⟨fun z => absurd z (by decide), fun _ => ⟨fun z => absurd z (by decide), fun z => absurd z (by decide), fun _ => ⟨fun z => absurd z (by decide), fun z => absurd z (by decide), fun z => absurd z (by decide), fun z => absurd z (by decide), fun _ => ⟨rfl, hI⟩, fun z => absurd z (by decide), fun z => absurd z (by decide), fun z => absurd z (by decide), fun z => absurd z (by decide), fun z => absurd z (by decide), fun z => absurd z (by decide)⟩, fun z => absurd z (by decide), fun z => absurd z (by decide), fun z => absurd z (by decide), fun z => absurd z (by decide), fun z => absurd z (by decide), fun z => absurd z (by decide)⟩⟩⟩
    | 4, _ => exact ⟨fun z => absurd z (by decide), fun _ => ⟨fun z => absurd z (by decide), fun _ => ⟨fun z => absurd z (by decide), fun z => absurd z (by decide), fun z => absurd z (by decide), fun _ => ⟨fun z => absurd z (by decide), fun z => absurd z (by decide), fun z => absurd z (by decide), fun z => absurd z (by decide), fun z => absurd z (by decide), fun _ => ⟨rfl, hI⟩, fun z => absurd z (by decide), fun z => absurd z (by decide), fun z => absurd z (by decide), fun z => absurd z (by decide), fun z => absurd z (by decide)⟩, fun z => absurd z (by decide), fun z => absurd z (by decide), fun z => absurd z (by decide), fun z => absurd z (by decide), fun z => absurd z (by decide)⟩⟩⟩
    | 5, _ => exact ⟨fun z => absurd z (by decide), fun _ => ⟨fun z => absurd z (by decide), fun _ => ⟨fun z => absurd z (by decide), fun z => absurd z (by decide), fun z => absurd z (by decide), fun z => absurd z (by decide), fun _ => ⟨fun z => absurd z (by decide), fun z => absurd z (by decide), fun z => absurd z (by decide), fun z => absurd z (by decide), fun z => absurd z (by decide), fun z => absurd z (by decide), fun _ => ⟨rfl, hI⟩, fun z => absurd z (by decide), fun z => absurd z (by decide), fun z => absurd z (by decide), fun z => absurd z (by decide)⟩, fun z => absurd z (by decide), fun z => absurd z (by decide), fun z => absurd z (by decide), fun z => absurd z (by decide)⟩⟩⟩
    | 6, _ => exact ⟨fun z => absurd z (by decide), fun _ => ⟨fun z => absurd z (by decide), fun _ => ⟨fun z => absurd z (by decide), fun z => absurd z (by decide), fun z => absurd z (by decide), fun z => absurd z (by decide), fun z => absurd z (by decide), fun _ => ⟨fun z => absurd z (by decide), fun z => absurd z (by decide), fun z => absurd z (by decide), fun z => absurd z (by decide), fun z => absurd z (by decide), fun z => absurd z (by decide), fun z => absurd z (by decide), fun _ => ⟨rfl, hI⟩, fun z => absurd z (by decide), fun z => absurd z (by decide), fun z => absurd z (by decide)⟩, fun z => absurd z (by decide), fun z => absurd z (by decide), fun z => absurd z (by decide)⟩⟩⟩
    | 7, _ => exact ⟨fun z => absurd z (by decide), fun _ => ⟨fun z => absurd z (by decide), fun _ => ⟨fun z => absurd z (by decide), fun z => absurd z (by decide), fun z => absurd z (by decide), fun z => absurd z (by decide), fun z => absurd z (by decide), fun z => absurd z (by decide), fun _ => ⟨fun z => absurd z (by decide), fun z => absurd z (by decide), fun z => absurd z (by decide), fun z => absurd z (by decide), fun z => absurd z (by decide), fun z => absurd z (by decide), fun z => absurd z (by decide), fun z => absurd z (by decide), fun _ => ⟨rfl, hI⟩, fun z => absurd z (by decide), fun z => absurd z (by decide)⟩, fun z => absurd z (by decide), fun z => absurd z (by decide)⟩⟩⟩
    | 8, _ => exact ⟨fun z => absurd z (by decide), fun _ => ⟨fun z => absurd z (by decide), fun _ => ⟨fun z => absurd z (by decide), fun z => absurd z (by decide), fun z => absurd z (by decide), fun z => absurd z (by decide), fun z => absurd z (by decide), fun z => absurd z (by decide), fun z => absurd z (by decide), fun _ => ⟨(by unfold vp_in; decide), ⟨fun z => absurd z (by decide), fun z => absurd z (by decide), fun z => absurd z (by decide), fun z => absurd z (by decide), fun z => absurd z (by decide), fun z => absurd z (by decide), fun z => absurd z (by decide), fun z => absurd z (by decide), fun z => absurd z (by decide), fun _ => ⟨(by unfold vp_in; decide), rfl, hI⟩, fun z => absurd z (by decide)⟩⟩, fun z => absurd z (by decide)⟩⟩⟩
    | 9, _ => exact ⟨fun z => absurd z (by decide), fun _ => ⟨fun z => absurd z (by decide), fun _ => ⟨fun z => absurd z (by decide), fun z => absurd z (by decide), fun z => absurd z (by decide), fun z => absurd z (by decide), fun z => absurd z (by decide), fun z => absurd z (by decide), fun z => absurd z (by decide), fun z => absurd z (by decide), fun _ => ⟨(by unfold vp_in; decide), ⟨fun z => absurd z (by decide), fun z => absurd z (by decide), fun z => absurd z (by decide), fun z => absurd z (by decide), fun z => absurd z (by decide), fun z => absurd z (by decide), fun z => absurd z (by decide), fun z => absurd z (by decide), fun z => absurd z (by decide), fun z => absurd z (by decide), fun _ => ⟨(by unfold vp_in; decide), rfl, hI⟩⟩⟩⟩⟩⟩
    | q + 10, h => exact absurd h (by omega)
theorem nOk_at {P P' : Rg} {n c k lv kd : Nat} (g : ∀ a, a ≤ 3 → P' a k = P a k) (h4 : ∀ j, j < n → P' 4 j = P 4 j) (h : nOk P n c k lv kd) : nOk P' (n + 1) c k lv kd := by
  have h1 := g 1 (by omega)
  have h2 := g 2 (by omega)
  have h3 := g 3 (by omega)
  have vm : ∀ x, vr c x → vr c x := fun x h => h
  have cm : ∀ x, ch P n lv x → ch P' (n + 1) lv x := fun x ⟨j, l, a, b, d, e, f⟩ => ⟨j, l, by omega, b, (h4 j a).trans d, e, f⟩
  match kd with
  | 0 => exact trivial
  | 1 =>
    simp only [nOk] at h ⊢
    exact (by rw [h1]; exact h)
  | 2 =>
    simp only [nOk] at h ⊢
    exact (by rw [h1]; exact h)
  | 3 =>
    simp only [nOk] at h ⊢
    exact (by rw [h1]; exact h)
  | 4 =>
    simp only [nOk] at h ⊢
    obtain ⟨g0, g1⟩ := h
    exact ⟨(by rw [h1]; exact cm _ g0), (by rw [h2]; exact cm _ g1)⟩
  | 5 =>
    simp only [nOk] at h ⊢
    obtain ⟨g0, g1, g2⟩ := h
    exact ⟨(by rw [h1]; exact g0), (by rw [h2]; exact cm _ g1), (by rw [h3]; rcases g2 with q | q; exact Or.inl q; exact Or.inr (cm _ q))⟩
  | 6 =>
    simp only [nOk] at h ⊢
    obtain ⟨g0, g1⟩ := h
    exact ⟨(by rw [h1]; exact g0), (by rw [h2]; exact cm _ g1)⟩
  | 7 => exact trivial
  | 8 =>
    simp only [nOk] at h ⊢
    exact (by rw [h1]; exact h)
  | 9 =>
    simp only [nOk] at h ⊢
    exact (by rw [h1]; exact h)
  | 10 =>
    simp only [nOk] at h ⊢
    exact (by rw [h1]; exact vm _ h)
  | 11 => exact trivial
  | 12 =>
    simp only [nOk] at h ⊢
    exact (by rw [h1]; exact vm _ h)
  | 13 =>
    simp only [nOk] at h ⊢
    obtain ⟨g0, g1⟩ := h
    exact ⟨(by rw [h1]; exact cm _ g0), (by rw [h3]; exact cm _ g1)⟩
  | 14 =>
    simp only [nOk] at h ⊢
    obtain ⟨g0, g1⟩ := h
    exact ⟨(by rw [h1]; exact cm _ g0), (by rw [h2]; exact cm _ g1)⟩
  | 15 =>
    simp only [nOk] at h ⊢
    obtain ⟨g0, g1⟩ := h
    exact ⟨(by rw [h1]; exact cm _ g0), (by rw [h2]; exact cm _ g1)⟩
  | 16 =>
    simp only [nOk] at h ⊢
    obtain ⟨g0, g1⟩ := h
    exact ⟨(by rw [h1]; exact g0), (by rw [h2]; exact g1)⟩
  | 17 =>
    simp only [nOk] at h ⊢
    obtain ⟨g0, g1⟩ := h
    exact ⟨(by rw [h1]; exact g0), (by rw [h2]; exact g1)⟩
  | 18 =>
    simp only [nOk] at h ⊢
    exact (by rw [h1]; exact vm _ h)
  | 19 =>
    simp only [nOk] at h ⊢
    exact (by rw [h1]; exact h)
  | 20 =>
    simp only [nOk] at h ⊢
    obtain ⟨g0, g1⟩ := h
    exact ⟨(by rw [h1]; exact g0), (by rw [h2]; exact cm _ g1)⟩
  | 21 =>
    simp only [nOk] at h ⊢
    exact (by rw [h1]; exact h)
  | 22 => exact trivial
  | q + 23 => exact trivial
theorem nOk_eq {P P' : Rg} {n n' c c' : Nat} (h1 : P' 1 = P 1) (h2 : P' 2 = P 2) (h3 : P' 3 = P 3) (h4 : P' 4 = P 4) (hn : n ≤ n') (hc : c ≤ c') (k lv kd : Nat) (h : nOk P n c k lv kd) : nOk P' n' c' k lv kd := by
  have vm : ∀ x, vr c x → vr c' x := fun x ⟨v, a, b⟩ => ⟨v, by omega, b⟩
  have cm : ∀ x, ch P n lv x → ch P' n' lv x := fun x ⟨j, l, a, b, d, e, f⟩ => ⟨j, l, by omega, b, by rw [h4]; exact d, e, f⟩
  match kd with
  | 0 => exact trivial
  | 1 =>
    simp only [nOk] at h ⊢
    exact (by rw [h1]; exact h)
  | 2 =>
    simp only [nOk] at h ⊢
    exact (by rw [h1]; exact h)
  | 3 =>
    simp only [nOk] at h ⊢
    exact (by rw [h1]; exact h)
  | 4 =>
    simp only [nOk] at h ⊢
    obtain ⟨g0, g1⟩ := h
    exact ⟨(by rw [h1]; exact cm _ g0), (by rw [h2]; exact cm _ g1)⟩
  | 5 =>
    simp only [nOk] at h ⊢
    obtain ⟨g0, g1, g2⟩ := h
    exact ⟨(by rw [h1]; exact g0), (by rw [h2]; exact cm _ g1), (by rw [h3]; rcases g2 with q | q; exact Or.inl q; exact Or.inr (cm _ q))⟩
  | 6 =>
    simp only [nOk] at h ⊢
    obtain ⟨g0, g1⟩ := h
    exact ⟨(by rw [h1]; exact g0), (by rw [h2]; exact cm _ g1)⟩
  | 7 => exact trivial
  | 8 =>
    simp only [nOk] at h ⊢
    exact (by rw [h1]; exact h)
  | 9 =>
    simp only [nOk] at h ⊢
    exact (by rw [h1]; exact h)
  | 10 =>
    simp only [nOk] at h ⊢
    exact (by rw [h1]; exact vm _ h)
  | 11 => exact trivial
  | 12 =>
    simp only [nOk] at h ⊢
    exact (by rw [h1]; exact vm _ h)
  | 13 =>
    simp only [nOk] at h ⊢
    obtain ⟨g0, g1⟩ := h
    exact ⟨(by rw [h1]; exact cm _ g0), (by rw [h3]; exact cm _ g1)⟩
  | 14 =>
    simp only [nOk] at h ⊢
    obtain ⟨g0, g1⟩ := h
    exact ⟨(by rw [h1]; exact cm _ g0), (by rw [h2]; exact cm _ g1)⟩
  | 15 =>
    simp only [nOk] at h ⊢
    obtain ⟨g0, g1⟩ := h
    exact ⟨(by rw [h1]; exact cm _ g0), (by rw [h2]; exact cm _ g1)⟩
  | 16 =>
    simp only [nOk] at h ⊢
    obtain ⟨g0, g1⟩ := h
    exact ⟨(by rw [h1]; exact g0), (by rw [h2]; exact g1)⟩
  | 17 =>
    simp only [nOk] at h ⊢
    obtain ⟨g0, g1⟩ := h
    exact ⟨(by rw [h1]; exact g0), (by rw [h2]; exact g1)⟩
  | 18 =>
    simp only [nOk] at h ⊢
    exact (by rw [h1]; exact vm _ h)
  | 19 =>
    simp only [nOk] at h ⊢
    exact (by rw [h1]; exact h)
  | 20 =>
    simp only [nOk] at h ⊢
    obtain ⟨g0, g1⟩ := h
    exact ⟨(by rw [h1]; exact g0), (by rw [h2]; exact cm _ g1)⟩
  | 21 =>
    simp only [nOk] at h ⊢
    exact (by rw [h1]; exact h)
  | 22 => exact trivial
  | q + 23 => exact trivial
theorem iv_define : ok_define Iv := by
  intro ρ S M a1 a2 hI
  obtain ⟨c, lm, mk, lg, bg, dp, l, hP, hR, hF, hV, hT⟩ := id hI
  have hn64 := hP.1.1
  have eN : ρ.2.2.1 7 1 = nI ρ.2.1 := hP.1.2
  have eM : M 17 1 = nI ρ.2.1 := (hR.2.1.2.2.2.2.2.2.2 1 (by omega)).trans eN
  unfold wxT_define wxP_isRoutine wxP_isNode wxP_setStatement wxQ_define
  rcases ix_n a1 6 (by omega) with h | ⟨j, hj, rfl⟩
  · exact ex_c (n := 6) h rfl ⟨fun _ => out_ex h (by omega) (by omega) rfl ⟨fun _ => ⟨rfl, hI⟩, fun z => absurd z (by decide)⟩, fun z => absurd rfl z⟩
  · refine in_c (n := 6) hj (by omega) rfl ⟨fun z => absurd z (by decide), fun _ => ?_⟩
    rcases ix_n a2 ρ.2.1 (by omega) with h | ⟨k, hk, rfl⟩
    · exact ex_c h eN ⟨fun z => absurd rfl z, fun _ => out_in hj (by omega) rfl ⟨fun z => absurd rfl z, fun _ => nn_ex h (by omega) eM ⟨fun z => absurd z (by decide), fun _ => ⟨rfl, hI⟩⟩⟩⟩
    · have cj : (nI j).toNatClampNeg = j := nI_clamp (by omega)
      refine in_c hk (by omega) eN ⟨fun _ => ⟨vp_in_nI hj (by omega), out_in hj (by omega) rfl ⟨fun z => absurd rfl z, fun _ => nn_in hk (by omega) eM ⟨fun _ => ⟨vp_in_nI hj (by omega), rfl, ?_⟩, fun z => absurd rfl z⟩⟩⟩, fun z => absurd z (by decide)⟩
      rw [cj]
      have hrow : ∀ a, a ≠ 5 → uu ρ.2.2.1 5 j (nI k) a = ρ.2.2.1 a := fun a ha => uu_row ha
      have hnode : ∀ (P' : Rg), (∀ a, a ≠ 5 → P' a = ρ.2.2.1 a) → ∀ (k lv kd : Nat), nOk ρ.2.2.1 ρ.2.1 c k lv kd → nOk P' ρ.2.1 c k lv kd := by
        intro P' hP' k lv kd h
        have h1 := hP' 1 (by omega)
        have h2 := hP' 2 (by omega)
        have h3 := hP' 3 (by omega)
        have h4 := hP' 4 (by omega)
        match kd with
        | 0 => exact trivial
        | 1 =>
          simp only [nOk, ch] at h ⊢
          simp only [h1]
          exact h
        | 2 =>
          simp only [nOk, ch] at h ⊢
          simp only [h1]
          exact h
        | 3 =>
          simp only [nOk, ch] at h ⊢
          simp only [h1]
          exact h
        | 4 =>
          simp only [nOk, ch] at h ⊢
          simp only [h1, h2, h4]
          exact h
        | 5 =>
          simp only [nOk, ch] at h ⊢
          simp only [h1, h2, h3, h4]
          exact h
        | 6 =>
          simp only [nOk, ch] at h ⊢
          simp only [h1, h2, h4]
          exact h
        | 7 => exact trivial
        | 8 =>
          simp only [nOk, ch] at h ⊢
          simp only [h1]
          exact h
        | 9 =>
          simp only [nOk, ch] at h ⊢
          simp only [h1]
          exact h
        | 10 =>
          simp only [nOk, ch] at h ⊢
          simp only [h1]
          exact h
        | 11 => exact trivial
        | 12 =>
          simp only [nOk, ch] at h ⊢
          simp only [h1]
          exact h
        | 13 =>
          simp only [nOk, ch] at h ⊢
          simp only [h1, h3, h4]
          exact h
        | 14 =>
          simp only [nOk, ch] at h ⊢
          simp only [h1, h2, h4]
          exact h
        | 15 =>
          simp only [nOk, ch] at h ⊢
          simp only [h1, h2, h4]
          exact h
        | 16 =>
          simp only [nOk, ch] at h ⊢
          simp only [h1, h2]
          exact h
        | 17 =>
          simp only [nOk, ch] at h ⊢
          simp only [h1, h2]
          exact h
        | 18 =>
          simp only [nOk, ch] at h ⊢
          simp only [h1]
          exact h
        | 19 =>
          simp only [nOk, ch] at h ⊢
          simp only [h1]
          exact h
        | 20 =>
          simp only [nOk, ch] at h ⊢
          simp only [h1, h2, h4]
          exact h
        | 21 =>
          simp only [nOk, ch] at h ⊢
          simp only [h1]
          exact h
        | 22 => exact trivial
        | q + 23 => exact trivial
      refine ⟨c, lm, mk, lg, bg, dp, l, ?_, ?_, ?_, ?_, ?_, ?_⟩
      · obtain ⟨⟨p1, p2⟩, ⟨p3, p4, p5⟩, ⟨p6, p7, p8⟩, p9, p10, p11, p12⟩ := hP
        refine ⟨⟨p1, (congrFun (hrow 7 (by omega)) 1).trans p2⟩, ⟨p3, p4, (congrFun (hrow 7 (by omega)) 0).trans p5⟩, ⟨p6, p7, (congrFun (hrow 7 (by omega)) 3).trans p8⟩, ?_, ?_, ?_, ?_⟩
        · show uu ρ.2.2.1 5 j (nI k) 7 2 = -1 ∨ vr 6 (uu ρ.2.2.1 5 j (nI k) 7 2)
          rw [hrow 7 (by omega)]; exact p9
        · intro r hr
          show uu ρ.2.2.1 5 j (nI k) 5 r = -1 ∨ vr ρ.2.1 (uu ρ.2.2.1 5 j (nI k) 5 r)
          rw [uu_at]
          by_cases e : r = j
          · rw [if_pos ⟨rfl, e⟩]; exact Or.inr ⟨k, hk, rfl⟩
          · rw [if_neg (fun z => e z.2)]; exact p10 r hr
        · intro i hi
          show uu ρ.2.2.1 5 j (nI k) 6 i = -1 ∨ ∃ p, p < c ∧ uu ρ.2.2.1 5 j (nI k) 6 i = nI p ∧ rk p < rk i
          rw [hrow 6 (by omega)]; exact p11 i hi
        · intro i hi
          obtain ⟨lv, kd, n1, n2, n3, n4, n5, n6⟩ := p12 i hi
          exact ⟨lv, kd, (congrFun (hrow 4 (by omega)) i).trans n1, n2, n3, (congrFun (hrow 0 (by omega)) i).trans n4, n5, hnode _ hrow i lv kd n6⟩
      · obtain ⟨r1, ⟨s0, s1, s2, s3, s4, s5, s6, s7⟩, ⟨g1, g2, g3, g4, g5, g6, g7⟩, r4⟩ := hR
        refine ⟨Ag_m r1 (Or.inl (by omega)), ⟨?_, ?_, ?_, ?_, ?_, ?_, ?_, ?_⟩, ⟨g1, g2, g3, g4, g5, g6, fun i hi => ?_⟩, r4⟩
        · rw [uu_row (by omega), s0]; exact (hrow 0 (by omega)).symm
        · rw [uu_row (by omega), s1]; exact (hrow 1 (by omega)).symm
        · rw [uu_row (by omega), s2]; exact (hrow 2 (by omega)).symm
        · rw [uu_row (by omega), s3]; exact (hrow 3 (by omega)).symm
        · rw [uu_row (by omega), s4]; exact (hrow 4 (by omega)).symm
        · intro i hi
          show uu M 15 j (nI k) 15 i = uu ρ.2.2.1 5 j (nI k) 5 i
          rw [uu_at, uu_at]
          by_cases e : i = j
          · rw [if_pos ⟨rfl, e⟩, if_pos ⟨rfl, e⟩]
          · rw [if_neg (fun z => e z.2), if_neg (fun z => e z.2)]; exact s5 i hi
        · intro i hi
          rw [uu_row (by omega), s6 i hi]; exact (congrFun (hrow 6 (by omega)) i).symm
        · intro i hi
          rw [uu_row (by omega), s7 i hi]; exact (congrFun (hrow 7 (by omega)) i).symm
        · rw [uu_row (by omega)]; exact g7 i hi
      · obtain ⟨⟨a1, a2⟩, a3⟩ := hF
        exact ⟨⟨(uu_n (by omega)).trans a1, (uu_n (by omega)).trans a2⟩, a3⟩
      · show ρ.2.2.2.1 = tv (uu M 15 j (nI k))
        unfold tv
        rw [uu_row (by omega)]; exact hV
      · exact hT.1
      · obtain ⟨-, t1, t2, t3⟩ := hT
        exact ⟨t1, (uu_n (by omega)).trans t2, fun i hi => (uu_n (by omega)).trans (t3 i hi)⟩
