/-! nodes with parts: a node between its parts -/
theorem uu_comm {R : Rg} {a i b j : Nat} {v w : Int32} (h : a ≠ b ∨ i ≠ j) : uu (uu R a i v) b j w = uu (uu R b j w) a i v := by
  funext x y
  simp only [uu_at]
  by_cases h1 : x = b ∧ y = j
  · rw [if_pos h1, if_pos h1, if_neg (fun z => by omega)]
  · rw [if_neg h1, if_neg h1]
theorem sR_comm {S : Sg} {a i b j : Nat} {v w : Int32} (h : a ≠ b ∨ i ≠ j) : sR (sR S a i v) b j w = sR (sR S b j w) a i v := Prod.ext (uu_comm h) rfl
theorem uu_self {R : Rg} {a i : Nat} {v : Int32} (hv : R a i = v) : uu R a i v = R := by
  funext x y
  rw [uu_at]
  by_cases h1 : x = a ∧ y = i
  · rw [if_pos h1, h1.1, h1.2, hv]
  · rw [if_neg h1]
theorem sR_self {S : Sg} {a i : Nat} {v : Int32} (hv : S.1 a i = v) : sR S a i v = S := Prod.ext (uu_self hv) rfl
def sB (S : Sg) (y : Int32) : Sg := sR (sR S 7 2 (S.1 7 2 + 1)) 7 5 (if S.1 7 5 < y then y else S.1 7 5)
section RB
variable {P : Rg} {c s : Nat} {S : Sg} {M : Rg} {mk lg bg dp yd : Nat}
theorem Rn_bgn {x : Int32} (h : Rn P c s S M mk lg bg dp) (hb : bg < 300) : Rn P c (s + 1) (sR S 7 2 (S.1 7 2 + 1)) (bgn M x) mk lg (bg + 1) dp := by
  obtain ⟨h1, h2, ⟨g1, g2, g3, g4, g5, g6, g7⟩, h4, h5⟩ := h
  have k : Rn P c (s + 1) (sR S 7 2 (S.1 7 2 + 1)) (uu M 7 2 (M 7 2 + 1)) mk lg (bg + 1) dp := by
    refine ⟨Ag_u h1 rfl (by rw [h1.2 2 (by omega)]), Pm_u h2 (Or.inl (by omega)), ⟨(sR_n (Or.inr (by omega))).trans g1, (sR_n (Or.inr (by omega))).trans g2, ?_, by omega, by omega, by omega, fun i hi => ?_⟩, (sR_n (Or.inr (by omega))).trans h4, h5⟩
    · rw [sR_same, g3, nI_1]
    · obtain ⟨a1, ⟨u, a2, a3⟩, a4⟩ := g7 i hi
      rw [sR_row (by omega), sR_row (by omega), uu_row (by omega)]
      exact ⟨a1, ⟨u, a2, by omega⟩, a4⟩
  exact Rn_f (Rn_f (Rn_f (Rn_f k (by omega)) (by omega)) (by omega)) (by omega)
theorem Rn_sB {x : Int32} (h : Rn P c s S M mk lg bg dp) (hb : bg < 300) (hy : yd ≤ dp) : Rn P c (s + 1) (sB S (nI yd)) (bgn M x) mk lg (bg + 1) dp := by
  have k := Rn_bgn (x := x) h hb
  have e := h.2.2.2.1
  have e5 := h.2.2.2.2
  unfold sB
  rw [if_neg (by rw [e]; exact nI_nlt hy (by omega)), sR_self (sR_n (Or.inr (by omega)))]
  exact k
theorem Rn_sBc {v : Int32} (h5 : S.1 7 5 = nI dp) (h : Rn P c s (sR S 7 2 (S.1 7 2 + 1)) M mk lg bg dp) (hy : dp < yd) (hl : yd ≤ 12) (hv : v = nI yd) : Rn P c s (sB S (nI yd)) (uu M 7 5 v) mk lg bg yd := by
  unfold sB
  rw [if_pos (by rw [h5]; exact nI_lt hy (by omega))]
  exact ⟨Ag_u h.1 rfl hv, Pm_u h.2.1 (Or.inl (by omega)), Cn_eq h.2.2.1 (sR_n (Or.inr (by omega))) (sR_n (Or.inr (by omega))) (sR_n (Or.inr (by omega))) (sR_row (by omega)) (sR_row (by omega)) (uu_row (by omega)) (fun _ _ => rfl), sR_same, hl⟩
end RB
theorem bgn_7 {M : Rg} {x v : Int32} {i : Nat} (hi : i ≠ 2) : bgn (uu M 7 i v) x = uu (bgn M x) 7 i v := by
  unfold bgn
  rw [uu_n (a := 7) (b := 27) (Or.inl (by omega)), uu_n (a := 7) (b := 7) (i := i) (j := 2) (Or.inr (by omega)), uu_comm (a := 7) (b := 7) (Or.inr hi), uu_comm (a := 7) (i := i) (b := 20) (Or.inl (by omega)), uu_comm (a := 7) (i := i) (b := 21) (Or.inl (by omega)), uu_comm (a := 7) (i := i) (b := 22) (Or.inl (by omega)), uu_comm (a := 7) (i := i) (b := 27) (Or.inl (by omega))]
theorem bgn_n {M : Rg} {x : Int32} {t a j : Nat} (h0 : M 27 0 = nI t) (ht : t < 1000) (h : (a ≠ 7 ∧ a ≠ 27 ∧ j ≠ t) ∨ a < 7 ∨ (7 < a ∧ a < 20) ∨ (22 < a ∧ a < 27) ∨ 27 < a ∨ (a = 7 ∧ j ≠ 2) ∨ (a = 27 ∧ j ≠ 0)) : bgn M x a j = M a j := by
  unfold bgn
  rw [h0, nI_clamp (by omega)]
  rw [uu_n (by omega), uu_n (by omega), uu_n (by omega), uu_n (by omega), uu_n (by omega)]
theorem bgn_f {M : Rg} {x : Int32} {t : Nat} (h0 : M 27 0 = nI t) (ht : t < 1000) : bgn M x 27 0 = nI (t + 1) ∧ bgn M x 20 t = x ∧ bgn M x 21 t = 0 ∧ bgn M x 22 t = 0 := by
  unfold bgn
  rw [h0, nI_clamp (by omega)]
  refine ⟨?_, ?_, ?_, ?_⟩
  · rw [uu_same, nI_1]
  · rw [uu_n (by omega), uu_n (by omega), uu_n (by omega), uu_same]
  · rw [uu_n (by omega), uu_n (by omega), uu_same]
  · rw [uu_n (by omega), uu_same]
theorem beg_go {post : Int32 → Rg → Prop} {M : Rg} {x : Int32} {t bg : Nat} (h2 : M 7 2 = nI bg) (hb : bg < 300) (h0 : M 27 0 = nI t) (ht : t < 112) (h : post 1 (bgn M x)) : wxQ_begin post M x := by
  unfold wxQ_begin
  have e : ¬ M 7 2 = 300 := by rw [h2]; exact fun z => absurd ((nI_eq (a := bg) (b := 300) (by omega) (by omega)).mp z) (by omega)
  exact ⟨fun _ => ⟨by rw [h0]; exact vp_in_nI ht (by omega), h⟩, fun z => absurd z e⟩
theorem beg_tired {post : Int32 → Rg → Prop} {M : Rg} {x : Int32} (h2 : M 7 2 = nI 300) (h : post 0 (trd M)) : wxQ_begin post M x := by
  unfold wxQ_begin
  exact ⟨fun z => absurd h2 z, fun _ => h⟩
/-- a node between its parts -/
def Md (P : Rg) (c s t k : Nat) (S : Sg) (M : Rg) (mk dp i tp : Nat) (S1 : Sg) (M1 : Rg) (mk1 lg1 bg1 dp1 yd1 : Nat) (o1 : Option Nat) : Prop :=
  Rn P c s S1 M1 mk1 lg1 bg1 dp1 ∧ (mk ≤ mk1 ∧ dp ≤ dp1) ∧ (S1.2 301 = S.2 301 ∧ S1.2 302 = S.2 302) ∧ Kp M M1 ∧ (∀ a j, 20 ≤ a → a < 26 → j < t → M1 a j = M a j) ∧
  M1 27 0 = nI tp ∧ M1 27 5 = 0 ∧ M1 20 t = nI k ∧ M1 21 t = nI i ∧ M1 27 1 = nI yd1 ∧ M1 27 2 = cI o1
/-- the answer of a part -/
def Cr (r : Nat) (S2 : Sg) (M2 : Rg) (mk2 : Nat) : Prop := r < 4 ∧ M2 27 3 = nI r ∧ (r = 2 → M2 27 4 = S2.1 7 6) ∧ (r = 3 → ∃ j, j < mk2 ∧ S2.2 300 = some j ∧ M2 27 4 = nI j)
def SimT (ρ : Rh) (c lm d : Nat) : Prop := ∀ (S : Sg) (M : Rg) (k yd t s mk lg bg dp lv : Nat) (o : Option Nat) (post : Nat → Sg → Prop), k < ρ.2.1 → ρ.2.2.1 4 k = nI lv → 1 ≤ lv → lv ≤ 8 → (lm - yd) * 8 + lv ≤ d → 1 ≤ yd → yd ≤ lm → t + d ≤ 111 → Rn ρ.2.2.1 c (s + 1) S M mk lg bg dp → yd ≤ dp → Fr M t k yd o mk →
  (∀ r S' M', Dn ρ.2.2.1 c s t S M mk dp r S' M' → Reach M M' → post r S') → wbody (wxM_perform d) post ρ S k (nI yd) o
section MD
variable {ρ : Rh} {c lm d s t k mk dp i : Nat} {S : Sg} {M : Rg} {S1 : Sg} {M1 : Rg} {mk1 lg1 bg1 dp1 yd1 : Nat} {o1 : Option Nat} {K : Nat → Sg → Prop}
theorem md_0 {lg bg yd : Nat} {o : Option Nat} (hR : Rn ρ.2.2.1 c s S M mk lg bg dp) (hF : Fr M t k yd o mk) : Md ρ.2.2.1 c s t k S M mk dp 0 (t + 1) S M mk lg bg dp yd o :=
  ⟨hR, ⟨Nat.le_refl _, Nat.le_refl _⟩, ⟨rfl, rfl⟩, Kp_rf, fun _ _ _ _ _ => rfl, hF.1, hF.2.1, hF.2.2.1, hF.2.2.2.1, hF.2.2.2.2.2.1, hF.2.2.2.2.2.2.1⟩
/-- the reference counts the step -/
theorem md_i {tp : Nat} (h : Md ρ.2.2.1 c s t k S M mk dp i tp S1 M1 mk1 lg1 bg1 dp1 yd1 o1) : Md ρ.2.2.1 c s t k S M mk dp (i + 1) tp S1 (uu M1 21 t (M1 21 t + 1)) mk1 lg1 bg1 dp1 yd1 o1 := by
  obtain ⟨h1, h2, h3, h4, h5, h6, h7, h8, h9, h10, h11⟩ := h
  refine ⟨Rn_f h1 (by omega), h2, h3, Kp_u h4 (by omega), fun a j ha hb hj => (uu_n (by omega)).trans (h5 a j ha hb hj), (uu_n (by omega)).trans h6, (uu_n (by omega)).trans h7, (uu_n (by omega)).trans h8, ?_, (uu_n (by omega)).trans h10, (uu_n (by omega)).trans h11⟩
  rw [uu_same, h9, nI_1]
/-- a part that begins when all is spent -/
theorem stp_t {x y : Int32} {o : Option Nat} {tp : Nat} (hm : Md ρ.2.2.1 c (s + 1) t k S M mk dp i tp S1 M1 mk1 lg1 300 dp1 yd1 o1) (hr : Reach M (trd M1)) (hK : ∀ M2, Dn ρ.2.2.1 c s t S M mk dp 5 S1 M2 → Reach M M2 → K 5 S1) : wxM_perform (d + 1) K ρ S1 x y o := by
  obtain ⟨h1, ⟨h2, h2'⟩, h3, h4, h5, h6, h7, h8, h9, h10, h11⟩ := hm
  have e := h1.2.2.1.2.2.1
  refine perf_tired (by rw [e]; decide) (hK (trd M1) ?_ hr)
  refine ⟨by omega, ⟨mk1, lg1, 300, dp1, Rn_f (Rn_f (Rn_s h1) (by omega)) (by omega), h2, h2', fun z => absurd z (by omega)⟩, h3, Kp_u (Kp_u h4 (by omega)) (by omega), fun z => absurd z (by omega), fun z => absurd z (by omega), fun z => absurd z (by omega), fun _ => ⟨uu_same, ?_⟩⟩
  show uu (uu M1 27 6 5) 27 5 1 27 6 = 5
  rw [uu_n (by omega), uu_same]
/-- a part that begins -/
theorem stp_g {k' lv' : Nat} {S0 : Sg} (ih : SimT ρ c lm d) (hk' : k' < ρ.2.1) (h64 : k' < 64) (hl : ρ.2.2.1 4 k' = nI lv') (hl1 : 1 ≤ lv') (hl8 : lv' ≤ 8) (hms : (lm - yd1) * 8 + lv' ≤ d) (hy1 : 1 ≤ yd1) (hy2 : yd1 ≤ lm) (ht : t + 1 + d ≤ 111) (hy3 : yd1 ≤ dp1) (h300 : ¬ (300 : Int32) ≤ S0.1 7 2) (hS : sB S0 (nI yd1) = S1)
    (hm : Md ρ.2.2.1 c (s + 2) t k S M mk dp i (t + 2) S1 M1 mk1 lg1 bg1 dp1 yd1 o1) (hr : Reach M M1) (f20 : M1 20 (t + 1) = nI k') (f21 : M1 21 (t + 1) = 0) (f22 : M1 22 (t + 1) = 0) (ho : ∀ j, o1 = some j → j < mk1)
    (hK4 : ∀ r S2 M2, 4 ≤ r → Dn ρ.2.2.1 c s t S M mk dp r S2 M2 → Reach M M2 → K r S2)
    (hK : ∀ r S2 M2 mk2 lg2 bg2 dp2, Md ρ.2.2.1 c (s + 1) t k S M mk dp i (t + 1) S2 M2 mk2 lg2 bg2 dp2 yd1 o1 → Reach M M2 → mk1 ≤ mk2 → dp1 ≤ dp2 → Cr r S2 M2 mk2 → (∀ a, 20 ≤ a → a < 26 → M2 a t = M1 a t) → K r S2) : wxM_perform (d + 1) K ρ S0 (nI k') (nI yd1) o1 := by
  obtain ⟨h1, ⟨h2, h2'⟩, h3, h4, h5, h6, h7, h8, h9, h10, h11⟩ := hm
  refine perf_go h300 h64 hk' ?_
  rw [show sR (sR S0 7 2 (S0.1 7 2 + 1)) 7 5 (if S0.1 7 5 < nI yd1 then nI yd1 else S0.1 7 5) = S1 from hS]
  refine ih S1 M1 k' yd1 (t + 1) (s + 1) mk1 lg1 bg1 dp1 lv' o1 K hk' hl hl1 hl8 hms hy1 hy2 ht h1 hy3 ⟨h6, h7, f20, f21, f22, h10, h11, ho⟩ ?_
  intro r S2 M2 hD hR2
  obtain ⟨d1, ⟨mk2, lg2, bg2, dp2, d2, d3, d4, d5⟩, ⟨d6, d7⟩, d8, d9, d10, d11, d12⟩ := hD
  have hR3 := Reach_tr hr hR2
  by_cases h4r : 4 ≤ r
  · exact hK4 r S2 M2 h4r ⟨d1, ⟨mk2, lg2, bg2, dp2, Rn_s d2, by omega, by omega, d5⟩, ⟨d6.trans h3.1, d7.trans h3.2⟩, Kp_tr h4 d8, fun z => absurd z (by omega), d10, d11, d12⟩ hR3
  · obtain ⟨e5, e0, e3, el, e1, e2⟩ := d9 (by omega)
    refine hK r S2 M2 mk2 lg2 bg2 dp2 ⟨d2, ⟨by omega, by omega⟩, ⟨d6.trans h3.1, d7.trans h3.2⟩, Kp_tr h4 d8, fun a j ha hb hj => (el a j ha hb (by omega)).trans (h5 a j ha hb hj), e0, e5, (el 20 t (by omega) (by omega) (by omega)).trans h8, (el 21 t (by omega) (by omega) (by omega)).trans h9, e1.trans h10, e2.trans h11⟩ hR3 d3 d4 ⟨by omega, e3, d10, d5⟩ (fun a ha hb => el a t ha hb (by omega))
/-- a part that begins or not -/
theorem stp {k' lv' : Nat} {Mc : Rg} (ih : SimT ρ c lm d) (hk' : k' < ρ.2.1) (h64 : k' < 64) (hl : ρ.2.2.1 4 k' = nI lv') (hl1 : 1 ≤ lv') (hl8 : lv' ≤ 8) (hms : (lm - yd1) * 8 + lv' ≤ d) (hy1 : 1 ≤ yd1) (hy2 : yd1 ≤ lm) (ht : t + 1 + d ≤ 111) (hy3 : yd1 ≤ dp1)
    (hm : Md ρ.2.2.1 c (s + 1) t k S M mk dp i (t + 1) S1 M1 mk1 lg1 bg1 dp1 yd1 o1) (hr : Reach M Mc) (hc5 : Mc 27 5 = 0) (hc0 : Mc 27 0 = nI (t + 1)) (hg : ∀ q : Unit → Rg → Prop, wxQ_begin (fun _ S => q () S) M1 (nI k') → wxQ_go q Mc) (ho : ∀ j, o1 = some j → j < mk1)
    (hK4 : ∀ r S2 M2, 4 ≤ r → Dn ρ.2.2.1 c s t S M mk dp r S2 M2 → Reach M M2 → K r S2)
    (hK : ∀ r S2 M2 mk2 lg2 bg2 dp2, Md ρ.2.2.1 c (s + 1) t k S M mk dp i (t + 1) S2 M2 mk2 lg2 bg2 dp2 yd1 o1 → Reach M M2 → mk1 ≤ mk2 → dp1 ≤ dp2 → Cr r S2 M2 mk2 → (∀ a, 20 ≤ a → a < 26 → M2 a t = M1 a t) → K r S2) : wxM_perform (d + 1) K ρ S1 (nI k') (nI yd1) o1 := by
  have hb := Rn_bd hm.1
  have e2 := hm.1.2.2.1.2.2.1
  have e2' : M1 7 2 = nI bg1 := (hm.1.1.2 2 (by omega)).trans e2
  by_cases h3 : bg1 = 300
  · subst h3
    exact stp_t hm (Reach_tr hr (reach_go hc5 hc0 (by omega) (fun q hq => hg q (beg_tired e2' hq)))) (fun M2 => hK4 5 S1 M2 (by omega))
  · obtain ⟨h1, h2, h3', h4, h5, h6, h7, h8, h9, h10, h11⟩ := hm
    obtain ⟨b1, b2, b3, b4⟩ := bgn_f (x := nI k') h6 (by omega)
    have bn : ∀ a j, ((a ≠ 7 ∧ a ≠ 27 ∧ j ≠ t + 1) ∨ (a = 27 ∧ j ≠ 0)) → bgn M1 (nI k') a j = M1 a j := fun a j hh => bgn_n h6 (by omega) (by omega)
    refine stp_g ih hk' h64 hl hl1 hl8 hms hy1 hy2 ht hy3 (by rw [e2]; exact nI_ge (b := 300) (by omega) (by omega)) rfl ⟨Rn_sB (x := nI k') h1 (by omega) hy3, h2, h3', ?_, fun a j ha hb hj => (bn a j (by omega)).trans (h5 a j ha hb hj), b1, (bn 27 5 (by omega)).trans h7, (bn 20 t (by omega)).trans h8, (bn 21 t (by omega)).trans h9, (bn 27 1 (by omega)).trans h10, (bn 27 2 (by omega)).trans h11⟩ (Reach_tr hr (reach_go hc5 hc0 (by omega) (fun q hq => hg q (beg_go e2' (by omega) h6 (by omega) hq)))) b2 b3 b4 ho hK4 ?_
    · obtain ⟨q1, q2, q3, q4⟩ := h4
      exact ⟨(bn 27 8 (by omega)).trans q1, (bn 27 9 (by omega)).trans q2, (bn 27 10 (by omega)).trans q3, (bn 27 11 (by omega)).trans q4⟩
    · intro r S2 M2 mk2 lg2 bg2 dp2 a1 a2 a3 a4 a5 a6
      exact hK r S2 M2 mk2 lg2 bg2 dp2 a1 a2 a3 a4 a5 (fun a ha hb => (a6 a ha hb).trans (bn a t (by omega)))
/-- a node's end after its parts -/
theorem mdend {r mk' lg' bg' dp' : Nat} {S' : Sg} {Mc Mx : Rg} {v w : Int32} (hpost : ∀ r S' M', Dn ρ.2.2.1 c s t S M mk dp r S' M' → Reach M M' → K r S') (hr : Reach M Mc) (hc5 : Mc 27 5 = 0) (hc0 : Mc 27 0 = nI (t + 1)) (ht : t ≤ 111) (h : Rn ρ.2.2.1 c s S' Mx mk' lg' bg' dp') (hm : mk ≤ mk') (hd : dp ≤ dp') (hr4 : r < 4) (h01 : S'.2 301 = S.2 301) (h02 : S'.2 302 = S.2 302) (hk : Kp M Mx) (hl : Lo t M Mx) (h5 : Mx 27 5 = 0) (h0 : Mx 27 0 = nI (t + 1)) (hw : w = nI r) (h2 : r = 2 → v = S'.1 7 6) (h3 : r = 3 → ∃ j, j < mk' ∧ S'.2 300 = some j ∧ v = nI j)
    (hg : ∀ q : Unit → Rg → Prop, q () (en Mx w v) → wxQ_go q Mc) : K r S' :=
  hpost r S' _ (dn_en h hm hd hr4 h01 h02 hk hl h5 h0 hw h2 h3) (Reach_tr hr (reach_go hc5 hc0 (by omega) hg))
theorem md_t {tp : Nat} (h : Md ρ.2.2.1 c s t k S M mk dp i tp S1 M1 mk1 lg1 bg1 dp1 yd1 o1) : M1 27 0 = nI tp := h.2.2.2.2.2.1
theorem md_v {tp : Nat} (h : Md ρ.2.2.1 c s t k S M mk dp i tp S1 M1 mk1 lg1 bg1 dp1 yd1 o1) : M1 27 5 = 0 := h.2.2.2.2.2.2.1
theorem md_k {tp : Nat} (h : Md ρ.2.2.1 c s t k S M mk dp i tp S1 M1 mk1 lg1 bg1 dp1 yd1 o1) : M1 20 t = nI k := h.2.2.2.2.2.2.2.1
theorem md_s {tp : Nat} (h : Md ρ.2.2.1 c s t k S M mk dp i tp S1 M1 mk1 lg1 bg1 dp1 yd1 o1) : M1 21 t = nI i := h.2.2.2.2.2.2.2.2.1
theorem md_d {tp : Nat} (h : Md ρ.2.2.1 c s t k S M mk dp i tp S1 M1 mk1 lg1 bg1 dp1 yd1 o1) : M1 27 1 = nI yd1 := h.2.2.2.2.2.2.2.2.2.1
theorem md_h {tp : Nat} (h : Md ρ.2.2.1 c s t k S M mk dp i tp S1 M1 mk1 lg1 bg1 dp1 yd1 o1) : M1 27 2 = cI o1 := h.2.2.2.2.2.2.2.2.2.2
theorem md_10 {tp kd : Nat} (h : Md ρ.2.2.1 c s t k S M mk dp i tp S1 M1 mk1 lg1 bg1 dp1 yd1 o1) (hd : ρ.2.2.1 0 k = nI kd) : M1 10 k = nI kd := by rw [h.1.2.1.1]; exact hd
theorem md_f {tp a : Nat} {v : Int32} (h : Md ρ.2.2.1 c s t k S M mk dp i tp S1 M1 mk1 lg1 bg1 dp1 yd1 o1) (ha : 22 ≤ a) (hb : a < 26) : Md ρ.2.2.1 c s t k S M mk dp i tp S1 (uu M1 a t v) mk1 lg1 bg1 dp1 yd1 o1 := by
  obtain ⟨h1, h2, h3, h4, h5, h6, h7, h8, h9, h10, h11⟩ := h
  exact ⟨Rn_f h1 (by omega), h2, h3, Kp_u h4 (by omega), fun a j ha hb hj => (uu_n (by omega)).trans (h5 a j ha hb hj), (uu_n (by omega)).trans h6, (uu_n (by omega)).trans h7, (uu_n (by omega)).trans h8, (uu_n (by omega)).trans h9, (uu_n (by omega)).trans h10, (uu_n (by omega)).trans h11⟩
theorem md_1 {tp j : Nat} {v v' : Int32} (h : Md ρ.2.2.1 c s t k S M mk dp i tp S1 M1 mk1 lg1 bg1 dp1 yd1 o1) (hv : v' = v) : Md ρ.2.2.1 c s t k S M mk dp i tp (sR S1 1 j v) (uu M1 1 j v') mk1 lg1 bg1 dp1 yd1 o1 := by
  obtain ⟨h1, h2, h3, h4, h5, h6, h7, h8, h9, h10, h11⟩ := h
  exact ⟨Rn_v h1 (by omega) rfl hv, h2, h3, Kp_u h4 (by omega), fun a j ha hb hj => (uu_n (by omega)).trans (h5 a j ha hb hj), (uu_n (by omega)).trans h6, (uu_n (by omega)).trans h7, (uu_n (by omega)).trans h8, (uu_n (by omega)).trans h9, (uu_n (by omega)).trans h10, (uu_n (by omega)).trans h11⟩
theorem mdfin {r yd : Nat} {o : Option Nat} {v w : Int32} (m : Md ρ.2.2.1 c (s + 1) t k S M mk dp i (t + 1) S1 M1 mk1 lg1 bg1 dp1 yd o) (hF : Fr M t k yd o mk) (hR1 : Reach M M1) (ht : t ≤ 111) (hpost : ∀ r S' M', Dn ρ.2.2.1 c s t S M mk dp r S' M' → Reach M M' → K r S') (hr4 : r < 4) (hw : w = nI r) (h2 : r = 2 → v = S1.1 7 6) (h3 : r = 3 → ∃ j, j < mk1 ∧ S1.2 300 = some j ∧ v = nI j)
    (hg : ∀ q : Unit → Rg → Prop, q () (en (uu M1 21 t (M1 21 t + 1)) w v) → wxQ_go q M1) : K r S1 := by
  obtain ⟨a1, a2, a3, a4, a5, a6, a7, a8, a9, a10, a11⟩ := md_i m
  exact mdend hpost hR1 (md_v m) (md_t m) ht (Rn_s a1) a2.1 a2.2 hr4 a3.1 a3.2 a4 ⟨a5, a10.trans hF.2.2.2.2.2.1.symm, a11.trans hF.2.2.2.2.2.2.1.symm⟩ a7 a6 hw h2 h3 hg
theorem mdpass {r yd : Nat} {o : Option Nat} (m : Md ρ.2.2.1 c (s + 1) t k S M mk dp i (t + 1) S1 M1 mk1 lg1 bg1 dp1 yd o) (hF : Fr M t k yd o mk) (hR1 : Reach M M1) (hcr : Cr r S1 M1 mk1) (ht : t ≤ 111) (hpost : ∀ r S' M', Dn ρ.2.2.1 c s t S M mk dp r S' M' → Reach M M' → K r S')
    (hg : ∀ q : Unit → Rg → Prop, q () (en (uu M1 21 t (M1 21 t + 1)) ((uu M1 21 t (M1 21 t + 1)) 27 3) ((uu M1 21 t (M1 21 t + 1)) 27 4)) → wxQ_go q M1) : K r S1 :=
  mdfin m hF hR1 ht hpost hcr.1 ((uu_n (by omega)).trans hcr.2.1) (fun z => (uu_n (by omega)).trans (hcr.2.2.1 z)) (fun z => by obtain ⟨j, j1, j2, j3⟩ := hcr.2.2.2 z; exact ⟨j, j1, j2, (uu_n (by omega)).trans j3⟩) hg
end MD
theorem er_0 {r : Nat} (h : r < 4) : er r = 0 := by
  match r, h with
  | 0, _ => rfl
  | 1, _ => rfl
  | 2, _ => rfl
  | 3, _ => rfl
  | q + 4, h => exact absurd h (by omega)
theorem er_1 {r : Nat} (h : 4 ≤ r) (h6 : r < 6) : ¬ er r = 0 := by
  match r, h, h6 with
  | 4, _, _ => decide
  | 5, _, _ => decide
  | q + 6, _, h => exact absurd h (by omega)
theorem nI_nq {a b : Nat} (ha : a < 1000) (hb : b < 1000) (h : a ≠ b) : ¬ nI a = nI b := fun z => h ((nI_eq (by omega) (by omega)).mp z)
