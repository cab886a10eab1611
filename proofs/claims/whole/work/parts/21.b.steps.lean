/-! frames of the reference, and its steps -/
def Lo (t : Nat) (M M' : Rg) : Prop := (∀ a i, 20 ≤ a → a < 26 → i < t → M' a i = M a i) ∧ M' 27 1 = M 27 1 ∧ M' 27 2 = M 27 2
def Kp (M M' : Rg) : Prop := M' 27 8 = M 27 8 ∧ M' 27 9 = M 27 9 ∧ M' 27 10 = M 27 10 ∧ M' 27 11 = M 27 11
theorem Lo_rf {t : Nat} {M : Rg} : Lo t M M := ⟨fun _ _ _ _ _ => rfl, rfl, rfl⟩
theorem Lo_tr {t : Nat} {M M1 M2 : Rg} (h : Lo t M M1) (g : Lo t M1 M2) : Lo t M M2 := ⟨fun a i h1 h2 h3 => (g.1 a i h1 h2 h3).trans (h.1 a i h1 h2 h3), g.2.1.trans h.2.1, g.2.2.trans h.2.2⟩
theorem Lo_le {t u : Nat} {M M1 : Rg} (hu : u ≤ t) (h : Lo t M M1) : Lo u M M1 := ⟨fun a i h1 h2 h3 => h.1 a i h1 h2 (by omega), h.2⟩
theorem Lo_u {t a i : Nat} {M M1 : Rg} {v : Int32} (h : Lo t M M1) (ha : a < 20 ∨ (a < 26 ∧ t ≤ i) ∨ (a = 27 ∧ i ≠ 1 ∧ i ≠ 2) ∨ a = 26 ∨ 28 ≤ a) : Lo t M (uu M1 a i v) := by
  refine ⟨fun b j h1 h2 h3 => ?_, ?_, ?_⟩
  · rw [uu_n (by omega)]; exact h.1 b j h1 h2 h3
  · rw [uu_n (by omega)]; exact h.2.1
  · rw [uu_n (by omega)]; exact h.2.2
theorem Kp_rf {M : Rg} : Kp M M := ⟨rfl, rfl, rfl, rfl⟩
theorem Kp_tr {M M1 M2 : Rg} (h : Kp M M1) (g : Kp M1 M2) : Kp M M2 := ⟨g.1.trans h.1, g.2.1.trans h.2.1, g.2.2.1.trans h.2.2.1, g.2.2.2.trans h.2.2.2⟩
theorem Kp_u {a i : Nat} {M M1 : Rg} {v : Int32} (h : Kp M M1) (ha : a ≠ 27 ∨ i < 8) : Kp M (uu M1 a i v) := by
  refine ⟨?_, ?_, ?_, ?_⟩
  · rw [uu_n (by omega)]; exact h.1
  · rw [uu_n (by omega)]; exact h.2.1
  · rw [uu_n (by omega)]; exact h.2.2.1
  · rw [uu_n (by omega)]; exact h.2.2.2
def en (M : Rg) (x y : Int32) : Rg := uu (uu (uu M 27 0 (M 27 0 - 1)) 27 3 x) 27 4 y
def bgn (M : Rg) (x : Int32) : Rg := uu (uu (uu (uu (uu M 7 2 ((M 7 2) + 1)) 20 ((M 27 0).toNatClampNeg) x) 21 ((M 27 0).toNatClampNeg) 0) 22 ((M 27 0).toNatClampNeg) 0) 27 0 ((M 27 0) + 1)
def trd (M : Rg) : Rg := uu (uu M 27 6 5) 27 5 1
def Reach (M M' : Rg) : Prop := ∀ (post : Int32 → Rg → Prop) (x y : Int32) (f : Nat), wxQ_complete_c34 post x y f M' → ∃ f', wxQ_complete_c34 post x y f' M
theorem Reach_rf {M : Rg} : Reach M M := fun _ _ _ f h => ⟨f, h⟩
theorem Reach_tr {M M1 M2 : Rg} (h : Reach M M1) (g : Reach M1 M2) : Reach M M2 := fun post x y f k => by
  obtain ⟨f1, k1⟩ := g post x y f k
  exact h post x y f1 k1
theorem reach_go {M M' : Rg} {t : Nat} (h5 : M 27 5 = 0) (h0 : M 27 0 = nI (t + 1)) (ht : t < 1000) (hg : ∀ post : Unit → Rg → Prop, post () M' → wxQ_go post M) : Reach M M' := by
  intro post x y f h
  refine ⟨f + 1, ?_⟩
  unfold wxQ_complete_c34
  exact ⟨fun c1 => absurd h5 c1, fun _ => ⟨fun c2 => absurd c2 (by rw [h0]; exact nI_nle (by omega) (by omega)), fun _ => hg _ h⟩⟩
/-- how a node ends -/
def Dn (P : Rg) (c s t : Nat) (S : Sg) (M : Rg) (mk dp : Nat) (r : Nat) (S' : Sg) (M' : Rg) : Prop :=
  r < 6 ∧ (∃ mk' lg' bg' dp', Rn P c s S' M' mk' lg' bg' dp' ∧ mk ≤ mk' ∧ dp ≤ dp' ∧ (r = 3 → ∃ j, j < mk' ∧ S'.2 300 = some j ∧ M' 27 4 = nI j)) ∧
  (S'.2 301 = S.2 301 ∧ S'.2 302 = S.2 302) ∧ Kp M M' ∧
  (r < 4 → M' 27 5 = 0 ∧ M' 27 0 = nI t ∧ M' 27 3 = nI r ∧ Lo t M M') ∧ (r = 2 → M' 27 4 = S'.1 7 6) ∧
  (r = 4 → M' 27 5 = 1 ∧ M' 27 6 = 4 ∧ M' 27 7 = S'.1 7 6) ∧ (r = 5 → M' 27 5 = 1 ∧ M' 27 6 = 5)
theorem en_0 {M : Rg} {x y : Int32} : en M x y 27 0 = M 27 0 - 1 := by unfold en; rw [uu_n (Or.inr (by omega)), uu_n (Or.inr (by omega)), uu_same]
theorem en_3 {M : Rg} {x y : Int32} : en M x y 27 3 = x := by unfold en; rw [uu_n (Or.inr (by omega)), uu_same]
theorem en_4 {M : Rg} {x y : Int32} : en M x y 27 4 = y := by unfold en; rw [uu_same]
theorem en_o {M : Rg} {x y : Int32} {a i : Nat} (h : a ≠ 27 ∨ (i ≠ 0 ∧ i ≠ 3 ∧ i ≠ 4)) : en M x y a i = M a i := by unfold en; rw [uu_n (by omega), uu_n (by omega), uu_n (by omega)]
theorem Rn_en {P : Rg} {c s : Nat} {S : Sg} {M : Rg} {mk lg bg dp : Nat} {x y : Int32} (h : Rn P c s S M mk lg bg dp) : Rn P c s S (en M x y) mk lg bg dp := Rn_f (Rn_f (Rn_f h (by omega)) (by omega)) (by omega)
theorem dn_en {P : Rg} {c s t mk dp r mk' lg' bg' dp' : Nat} {S S' : Sg} {M M1 : Rg} {v w : Int32} (h : Rn P c s S' M1 mk' lg' bg' dp') (hm : mk ≤ mk') (hd : dp ≤ dp') (hr : r < 4) (h01 : S'.2 301 = S.2 301) (h02 : S'.2 302 = S.2 302) (hk : Kp M M1) (hl : Lo t M M1) (h5 : M1 27 5 = 0) (h0 : M1 27 0 = nI (t + 1)) (hw : w = nI r) (h2 : r = 2 → v = S'.1 7 6) (h3 : r = 3 → ∃ j, j < mk' ∧ S'.2 300 = some j ∧ v = nI j) : Dn P c s t S M mk dp r S' (en M1 w v) := by
  subst hw
  refine ⟨by omega, ⟨mk', lg', bg', dp', Rn_en h, hm, hd, fun hr3 => ?_⟩, ⟨h01, h02⟩, Kp_u (Kp_u (Kp_u hk (by omega)) (by omega)) (by omega), fun _ => ⟨?_, ?_, en_3, Lo_u (Lo_u (Lo_u hl (by omega)) (by omega)) (by omega)⟩, fun hr2 => ?_, fun h4 => absurd hr (by omega), fun h4 => absurd hr (by omega)⟩
  · obtain ⟨j, a1, a2, a3⟩ := h3 hr3
    exact ⟨j, a1, a2, by rw [en_4]; exact a3⟩
  · rw [en_o (by omega)]; exact h5
  · rw [en_0, h0]; exact nI_pred t
  · rw [en_4]; exact h2 hr2
/-- the class's own question whether a throwable's type is of another's, and the reference's -/
theorem is_both {P : Rg} {n c lm : Nat} (hP : Pv P n c lm) (y : Int32) : ∀ m i st : Nat, i < c → rk i ≤ m → st + m < 15 → ∃ r : Int32, (∃ D : Nat, ∀ (post : Int32 → Sg → Prop) (ρ : Rh) (S : Sg) (x : Int32), ρ.2.2.1 = P → post r S → wxC_is_c5 post ρ x y D S (nI i) (nI st)) ∧ (∃ D : Nat, ∀ (post : Int32 → Rg → Prop) (M : Rg) (x : Int32), Pm P M → post r M → wxQ_is_c2 post x y D M (nI i)) := by
  obtain ⟨-, ⟨hc1, hc2, hc⟩, -, -, -, hpar, -⟩ := hP
  have hcl : ∀ i : Nat, i < 16 → (nI i).toNatClampNeg = i := fun i hi => nI_clamp (by omega)
  -- the last step
  have last : ∀ (z : Int32) (st : Nat), z < 0 → st < 17 → ∃ D : Nat, ∀ (post : Int32 → Sg → Prop) (ρ : Rh) (S : Sg) (x : Int32), ρ.2.2.1 = P → post (if z = y then 1 else 0) S → wxC_is_c5 post ρ x y D S z (nI st) := by
    intro z st hz hst
    refine ⟨1, fun post ρ S x hρ hp => ?_⟩
    unfold wxC_is_c5
    have two : ((¬ (z = y)) → post (0 : Int32) S) ∧ ((z = y) → post (1 : Int32) S) := by
      refine ⟨fun h => ?_, fun h => ?_⟩
      · rw [if_neg h] at hp; exact hp
      · rw [if_pos h] at hp; exact hp
    refine ⟨fun _ => two, fun _ => ?_⟩
    unfold wxC_has
    exact ⟨fun _ => ⟨fun _ => two, fun h => absurd rfl h⟩, fun h => absurd hz h⟩
  intro m
  induction m with
  | zero =>
    intro i st hi hrk hst
    by_cases e : nI i = y
    · refine ⟨1, ⟨1, fun post ρ S x hρ hp => ?_⟩, ⟨1, fun post M x hM hp => ?_⟩⟩
      · unfold wxC_is_c5 wxC_has
        refine ⟨fun h => absurd h (by exact nI_ge (a := st) (b := 16) (by omega) (by omega)), fun _ => ⟨fun h => absurd h (nI_pos (by omega)), fun _ => ⟨fun h => absurd h (by rw [hρ, hc]; exact nI_ge hi (by omega)), fun _ => ⟨fun h => absurd h (by decide), fun _ => ⟨fun _ => ⟨fun h => absurd e h, fun _ => hp⟩, fun h => absurd e h⟩⟩⟩⟩⟩
      · unfold wxQ_is_c2
        exact ⟨fun h => absurd h (nI_pos (by omega)), fun _ => ⟨fun _ => ⟨fun h => absurd e h, fun _ => hp⟩, fun h => absurd e h⟩⟩
    · rcases hpar i hi with hp | ⟨p, hp1, hp2, hp3⟩
      · obtain ⟨D, hD⟩ := last (-1) (st + 1) (by decide) (by omega)
        refine ⟨(if (-1 : Int32) = y then 1 else 0), ⟨D + 1, fun post ρ S x hρ hpo => ?_⟩, ⟨2, fun post M x hM hpo => ?_⟩⟩
        · unfold wxC_is_c5 wxC_has
          refine ⟨fun h => absurd h (by exact nI_ge (a := st) (b := 16) (by omega) (by omega)), fun _ => ⟨fun h => absurd h (nI_pos (by omega)), fun _ => ⟨fun h => absurd h (by rw [hρ, hc]; exact nI_ge hi (by omega)), fun _ => ⟨fun h => absurd h (by decide), fun _ => ⟨fun h => absurd h e, fun _ => ⟨vp_in_nI (by omega) (by omega), ?_⟩⟩⟩⟩⟩⟩
          rw [hcl i (by omega), hρ, hp, nI_1]
          exact hD post ρ S x hρ hpo
        · unfold wxQ_is_c2
          refine ⟨fun h => absurd h (nI_pos (by omega)), fun _ => ⟨fun h => absurd h e, fun _ => ⟨vp_in_nI (by omega) (by omega), ?_⟩⟩⟩
          rw [hcl i (by omega), hM.2.2.2.2.2.2.1 i (by omega), hp]
          unfold wxQ_is_c2
          refine ⟨fun _ => ⟨fun h => ?_, fun h => ?_⟩, fun h => absurd (by decide) h⟩
          · rw [if_neg h] at hpo; exact hpo
          · rw [if_pos h] at hpo; exact hpo
      · exact absurd hp3 (by omega)
  | succ m ih =>
    intro i st hi hrk hst
    by_cases e : nI i = y
    · refine ⟨1, ⟨1, fun post ρ S x hρ hp => ?_⟩, ⟨1, fun post M x hM hp => ?_⟩⟩
      · unfold wxC_is_c5 wxC_has
        refine ⟨fun h => absurd h (by exact nI_ge (a := st) (b := 16) (by omega) (by omega)), fun _ => ⟨fun h => absurd h (nI_pos (by omega)), fun _ => ⟨fun h => absurd h (by rw [hρ, hc]; exact nI_ge hi (by omega)), fun _ => ⟨fun h => absurd h (by decide), fun _ => ⟨fun _ => ⟨fun h => absurd e h, fun _ => hp⟩, fun h => absurd e h⟩⟩⟩⟩⟩
      · unfold wxQ_is_c2
        exact ⟨fun h => absurd h (nI_pos (by omega)), fun _ => ⟨fun _ => ⟨fun h => absurd e h, fun _ => hp⟩, fun h => absurd e h⟩⟩
    · rcases hpar i hi with hp | ⟨p, hp1, hp2, hp3⟩
      · obtain ⟨D, hD⟩ := last (-1) (st + 1) (by decide) (by omega)
        refine ⟨(if (-1 : Int32) = y then 1 else 0), ⟨D + 1, fun post ρ S x hρ hpo => ?_⟩, ⟨2, fun post M x hM hpo => ?_⟩⟩
        · unfold wxC_is_c5 wxC_has
          refine ⟨fun h => absurd h (by exact nI_ge (a := st) (b := 16) (by omega) (by omega)), fun _ => ⟨fun h => absurd h (nI_pos (by omega)), fun _ => ⟨fun h => absurd h (by rw [hρ, hc]; exact nI_ge hi (by omega)), fun _ => ⟨fun h => absurd h (by decide), fun _ => ⟨fun h => absurd h e, fun _ => ⟨vp_in_nI (by omega) (by omega), ?_⟩⟩⟩⟩⟩⟩
          rw [hcl i (by omega), hρ, hp, nI_1]
          exact hD post ρ S x hρ hpo
        · unfold wxQ_is_c2
          refine ⟨fun h => absurd h (nI_pos (by omega)), fun _ => ⟨fun h => absurd h e, fun _ => ⟨vp_in_nI (by omega) (by omega), ?_⟩⟩⟩
          rw [hcl i (by omega), hM.2.2.2.2.2.2.1 i (by omega), hp]
          unfold wxQ_is_c2
          refine ⟨fun _ => ⟨fun h => ?_, fun h => ?_⟩, fun h => absurd (by decide) h⟩
          · rw [if_neg h] at hpo; exact hpo
          · rw [if_pos h] at hpo; exact hpo
      · obtain ⟨r, ⟨D1, h1⟩, ⟨D2, h2⟩⟩ := ih p (st + 1) hp1 (by omega) (by omega)
        refine ⟨r, ⟨D1 + 1, fun post ρ S x hρ hpo => ?_⟩, ⟨D2 + 1, fun post M x hM hpo => ?_⟩⟩
        · unfold wxC_is_c5 wxC_has
          refine ⟨fun h => absurd h (by exact nI_ge (a := st) (b := 16) (by omega) (by omega)), fun _ => ⟨fun h => absurd h (nI_pos (by omega)), fun _ => ⟨fun h => absurd h (by rw [hρ, hc]; exact nI_ge hi (by omega)), fun _ => ⟨fun h => absurd h (by decide), fun _ => ⟨fun h => absurd h e, fun _ => ⟨vp_in_nI (by omega) (by omega), ?_⟩⟩⟩⟩⟩⟩
          rw [hcl i (by omega), hρ, hp2, nI_1]
          exact h1 post ρ S x hρ hpo
        · unfold wxQ_is_c2
          refine ⟨fun h => absurd h (nI_pos (by omega)), fun _ => ⟨fun h => absurd h e, fun _ => ⟨vp_in_nI (by omega) (by omega), ?_⟩⟩⟩
          rw [hcl i (by omega), hM.2.2.2.2.2.2.1 i (by omega), hp2]
          exact h2 post M x hM hpo
theorem is_all {P : Rg} {n c lm : Nat} (hP : Pv P n c lm) {z y : Int32} (hz : vr c z) : ∃ r : Int32, (∀ (post : Int32 → Sg → Prop) (ρ : Rh) (S : Sg), ρ.2.2.1 = P → post r S → wxC_is post ρ S z y) ∧ (∀ (post : Int32 → Rg → Prop) (M : Rg), Pm P M → post r M → wxQ_is post M z y) := by
  obtain ⟨i, hi, rfl⟩ := hz
  have h16 : i < 16 := by have := hP.2.1.2.1; omega
  have hrk : rk i ≤ 9 := by
    match i, h16 with
    | 0, _ => decide
    | 1, _ => decide
    | 2, _ => decide
    | 3, _ => decide
    | 4, _ => decide
    | 5, _ => decide
    | 6, _ => decide
    | 7, _ => decide
    | 8, _ => decide
    | 9, _ => decide
    | 10, _ => decide
    | 11, _ => decide
    | 12, _ => decide
    | 13, _ => decide
    | 14, _ => decide
    | 15, _ => decide
    | k + 16, h => exact absurd h (by omega)
  obtain ⟨r, ⟨D1, h1⟩, ⟨D2, h2⟩⟩ := is_both hP y 9 i 0 hi hrk (by omega)
  exact ⟨r, fun post ρ S hρ h => ⟨D1, h1 post ρ S _ hρ h⟩, fun post M hM h => ⟨D2, h2 post M _ hM h⟩⟩
/-- the end of a chain of causes -/
theorem last_both {P : Rg} {c s : Nat} {S : Sg} {M : Rg} {mk lg bg dp : Nat} (h : Rn P c s S M mk lg bg dp) : ∀ m j : Nat, j < mk → j ≤ m → ∃ j' : Nat, j' < mk ∧ (∃ D : Nat, ∀ (post : Nat → Sg → Prop) (ρ : Rh) (x : Nat), post j' S → wxH_origin_c2 post ρ x D S j) ∧ (∃ D : Nat, ∀ (post : Int32 → Rg → Prop) (x : Int32), post (nI j') M → wxQ_lastOf_c2 post x D M (nI j)) := by
  have hb := Rn_bd h
  obtain ⟨-, -, -, -, -, -, g7⟩ := h.2.2.1
  have hcl : ∀ i : Nat, i < 300 → (nI i).toNatClampNeg = i := fun i hi => nI_clamp (by omega)
  intro m
  induction m with
  | zero =>
    intro j hj hm
    obtain rfl : j = 0 := by omega
    obtain ⟨-, -, a4, a5⟩ := g7 0 hj
    have hn : S.2 0 = none := by
      cases e : S.2 0 with
      | none => rfl
      | some q => exact absurd (a5 q e) (by omega)
    refine ⟨0, hj, ⟨1, fun post ρ x hp => ?_⟩, ⟨1, fun post x hp => ?_⟩⟩
    · unfold wxH_origin_c2
      exact ⟨by omega, fun _ => hp, fun q hq => by rw [hn] at hq; cases hq⟩
    · unfold wxQ_lastOf_c2
      rw [hcl 0 (by omega), a4, hn]
      exact ⟨vp_in_nI (by omega) (by omega), fun _ => hp, fun q => absurd (by decide) q⟩
  | succ m ih =>
    intro j hj hm
    obtain ⟨-, -, a4, a5⟩ := g7 j hj
    cases e : S.2 j with
    | none =>
      refine ⟨j, hj, ⟨1, fun post ρ x hp => ?_⟩, ⟨1, fun post x hp => ?_⟩⟩
      · unfold wxH_origin_c2
        exact ⟨by omega, fun _ => hp, fun q hq => by rw [e] at hq; cases hq⟩
      · unfold wxQ_lastOf_c2
        rw [hcl j (by omega), a4, e]
        exact ⟨vp_in_nI (by omega) (by omega), fun _ => hp, fun q => absurd (by decide) q⟩
    | some q =>
      have hq := a5 q e
      obtain ⟨j', hj', ⟨D1, h1⟩, ⟨D2, h2⟩⟩ := ih q (by omega) (by omega)
      refine ⟨j', hj', ⟨D1 + 1, fun post ρ x hp => ?_⟩, ⟨D2 + 1, fun post x hp => ?_⟩⟩
      · unfold wxH_origin_c2
        exact ⟨by omega, fun z => (by rw [e] at z; cases z), fun z hz => (by rw [e] at hz; cases hz; exact h1 post ρ x hp)⟩
      · unfold wxQ_lastOf_c2
        rw [hcl j (by omega), a4, e]
        exact ⟨vp_in_nI (by omega) (by omega), fun z => absurd z (nI_pos (by omega)), fun _ => h2 post x hp⟩
