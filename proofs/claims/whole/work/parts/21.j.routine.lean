theorem sim_all {ρ : Rh} {c lm : Nat} (hP : Pv ρ.2.2.1 ρ.2.1 c lm) : ∀ d, SimT ρ c lm d := by
  intro d
  induction d with
  | zero =>
    intro S M k yd t s mk lg bg dp lv o post hk hl hl1 hl8 hms
    exact absurd hms (by omega)
  | succ d ih =>
    intro S M k yd t s mk lg bg dp lv o post hk hl hl1 hl8 hms hy1 hy2 ht hR hdp hF hpost
    obtain ⟨lv', kd, p1, p2, p3, p4, p5, p6⟩ := hP.2.2.2.2.2.2 k hk
    have ev : lv' = lv := (nI_eq (by omega) (by omega)).mp (p1.symm.trans hl)
    subst ev
    have ht0 : t ≤ 111 := by omega
    have ht1 : t + 1 + d ≤ 111 := by omega
    match kd, p4, p5, p6 with
    | 0, p4, _, p6 => exact lf_0 (lv := lv') hP hk ht0 hR hF hpost p4 p6
    | 1, p4, _, p6 => exact lf_1 (lv := lv') hP hk ht0 hR hF hpost p4 p6
    | 2, p4, _, p6 => exact lf_2 (lv := lv') hP hk ht0 hR hF hpost p4 p6
    | 3, p4, _, p6 => exact lf_3 (lv := lv') hP hk ht0 hR hF hpost p4 p6
    | 4, p4, _, p6 => exact cp_4 ih hP hk hl1 hl8 hms hy1 hy2 ht1 hR hdp hF hpost p4 p6
    | 5, p4, _, p6 => exact cp_5 ih hP hk hl1 hl8 hms hy1 hy2 ht1 hR hdp hF hpost p4 p6
    | 6, p4, _, p6 => exact cp_6 ih hP hk hl1 hl8 hms hy1 hy2 ht1 hR hdp hF hpost p4 p6
    | 7, p4, _, p6 => exact lf_7 (lv := lv') hP hk ht0 hR hF hpost p4 p6
    | 8, p4, _, p6 => exact lf_8 (lv := lv') hP hk ht0 hR hF hpost p4 p6
    | 9, p4, _, p6 => exact cp_9 ih hP hk hl1 hl8 hms hy1 hy2 ht1 hR hdp hF hpost p4 p6
    | 10, p4, _, p6 => exact lf_10 (lv := lv') hP hk ht0 hR hF hpost p4 p6
    | 11, p4, _, p6 => exact lf_11 (lv := lv') hP hk ht0 hR hF hpost p4 p6
    | 12, p4, _, p6 => exact lf_12 (lv := lv') hP hk ht0 hR hF hpost p4 p6
    | 13, p4, _, p6 => exact cp_13 ih hP hk hl1 hl8 hms hy1 hy2 ht1 hR hdp hF hpost p4 p6
    | 14, p4, _, p6 => exact cp_14 ih hP hk hl1 hl8 hms hy1 hy2 ht1 hR hdp hF hpost p4 p6
    | 15, p4, _, p6 => exact cp_15 ih hP hk hl1 hl8 hms hy1 hy2 ht1 hR hdp hF hpost p4 p6
    | 16, p4, _, p6 => exact lf_16 (lv := lv') hP hk ht0 hR hF hpost p4 p6
    | 17, p4, _, p6 => exact lf_17 (lv := lv') hP hk ht0 hR hF hpost p4 p6
    | 18, p4, _, p6 => exact lf_18 (lv := lv') hP hk ht0 hR hF hpost p4 p6
    | 19, p4, _, p6 => exact lf_19 (lv := lv') hP hk ht0 hR hF hpost p4 p6
    | 20, p4, _, p6 => exact cp_20 ih hP hk hl1 hl8 hms hy1 hy2 ht1 hR hdp hF hpost p4 p6
    | 21, p4, _, p6 => exact lf_21 (lv := lv') hP hk ht0 hR hF hpost p4 p6
    | 22, p4, _, p6 => exact lf_22 (lv := lv') hP hk ht0 hR hF hpost p4 p6
    | q + 23, _, p5, _ => exact absurd p5 (by omega)
/-! a routine, from its first node to its end -/
def Dx (P : Rg) (c : Nat) (S : Sg) (M : Rg) (mk : Nat) (r : Nat) (S' : Sg) (M' : Rg) : Prop :=
  r < 6 ∧ (∃ mk' lg' bg' dp', Rn P c 0 S' M' mk' lg' bg' dp' ∧ mk ≤ mk' ∧ 1 ≤ dp' ∧ (r = 3 → ∃ j, j < mk' ∧ S'.2 300 = some j ∧ M' 27 4 = nI j)) ∧
  (S'.2 301 = S.2 301 ∧ S'.2 302 = S.2 302) ∧ Kp M M' ∧ (r < 4 → M' 27 5 = 0 ∧ M' 27 3 = nI r) ∧ (r = 2 → M' 27 4 = S'.1 7 6) ∧
  (r = 4 → M' 27 5 = 1 ∧ M' 27 6 = 4 ∧ M' 27 7 = S'.1 7 6) ∧ (r = 5 → M' 27 5 = 1 ∧ M' 27 6 = 5)
section CM
variable {ρ : Rh} {c lm mk lg bg dp v b : Nat} {S : Sg} {M : Rg} {o : Option Nat} {K : Nat → Sg → Prop}
theorem cmpl (hP : Pv ρ.2.2.1 ρ.2.1 c lm) (hR : Rn ρ.2.2.1 c 0 S M mk lg bg dp) (hv : v < 6) (hb : ρ.2.2.1 5 v = nI b) (hb1 : b < ρ.2.1) (ho : ∀ j, o = some j → j < mk) (h3 : 1 ≤ dp ∨ bg < 300) (h5 : M 27 5 = 0)
    (hK : ∀ r S' M', Dx ρ.2.2.1 c S M mk r S' M' → (∀ post' : Int32 → Rg → Prop, (r < 4 → post' 1 M') → (4 ≤ r → post' 0 M') → wxQ_complete post' M (nI b) (cI o)) → K r S') : wxM_performRoutine K ρ S (nI v) o := by
  have hn64 := hP.1.1
  have hlm := hP.2.2.1
  have hbd := Rn_bd hR
  have hd12 := hR.2.2.2.2
  obtain ⟨lb, kd, hb3, hb4, hb5, -⟩ := hP.2.2.2.2.2.2 b hb1
  unfold wxM_performRoutine wxP_statementOf
  rw [nI_clamp (by omega), hb]
  refine ⟨vp_in_nI hv (by omega), ?_⟩
  have e72 := hR.2.2.1.2.2.1
  have e5 := hR.2.2.2.1
  have e5' : M 7 5 = nI dp := (hR.1.2 5 (by omega)).trans e5
  -- the reference's start, with its depth
  have main : ∀ (Ms : Rg) (dps : Nat), (bg = 300 → Rn ρ.2.2.1 c 0 S Ms mk lg bg dp ∧ 1 ≤ dp) → (bg < 300 → Rn ρ.2.2.1 c 1 (sB S (nI 1)) (bgn Ms (nI b)) mk lg (bg + 1) dps) → Ms 7 2 = nI bg → (Ms 27 0 = nI 0) → Ms 27 5 = 0 → Ms 27 1 = nI 1 → Ms 27 2 = cI o → Kp M Ms → (1 ≤ dps) → (∀ post' : Int32 → Rg → Prop, wxQ_begin (fun _ S3 => ∃ d7 : Nat, wxQ_complete_c34 post' (nI b) (cI o) d7 S3) Ms (nI b) → wxQ_complete post' M (nI b) (cI o)) → wxM_perform 100 (fun r3 S4 => K r3 S4) ρ S (nI b) 1 o := by
    intro Ms dps hRt hRg s72 s0 s5 s1 s2 sk hdp hbeg
    by_cases h300 : bg = 300
    · subst h300
      obtain ⟨hRs, hdp1⟩ := hRt rfl
      refine perf_tired (by rw [e72]; decide) (hK 5 S (trd Ms) ⟨by omega, ⟨mk, lg, 300, dp, Rn_f (Rn_f hRs (by omega)) (by omega), Nat.le_refl _, hdp1, fun z => absurd z (by omega)⟩, ⟨rfl, rfl⟩, Kp_u (Kp_u sk (by omega)) (by omega), fun z => absurd z (by omega), fun z => absurd z (by omega), fun z => absurd z (by omega), fun _ => ⟨uu_same, ?_⟩⟩ (fun post' _ h4 => hbeg post' (beg_tired s72 ⟨1, ?_⟩)))
      · show uu (uu Ms 27 6 5) 27 5 1 27 6 = 5
        rw [uu_n (by omega), uu_same]
      · unfold wxQ_complete_c34
        have e : (trd Ms) 27 5 = 1 := uu_same
        exact ⟨fun _ => ⟨fun _ => h4 (by omega), fun z => absurd (e.symm.trans z) (by decide)⟩, fun z => absurd (e.symm.trans z) (by decide)⟩
    · have h9 : bg < 300 := by omega
      obtain ⟨b1, b2, b3, b4⟩ := bgn_f (x := nI b) s0 (by omega)
      have bn : ∀ j, j ≠ 0 → bgn Ms (nI b) 27 j = Ms 27 j := fun j hj => bgn_n s0 (by omega) (by omega)
      have ks : Kp M (bgn Ms (nI b)) := by
        obtain ⟨q1, q2, q3, q4⟩ := sk
        exact ⟨(bn 8 (by omega)).trans q1, (bn 9 (by omega)).trans q2, (bn 10 (by omega)).trans q3, (bn 11 (by omega)).trans q4⟩
      refine perf_go (by rw [e72]; exact nI_ge (b := 300) (by omega) (by omega)) (by omega) hb1 ?_
      refine sim_all hP 99 (sB S (nI 1)) (bgn Ms (nI b)) b 1 0 0 mk lg (bg + 1) dps lb o K hb1 hb3 hb4 hb5 (by omega) (by omega) (by omega) (by omega) (hRg (by omega)) hdp ⟨b1, (bn 5 (by omega)).trans s5, b2, b3, b4, (bn 1 (by omega)).trans s1, (bn 2 (by omega)).trans s2, ho⟩ ?_
      intro r S' M' hD hRe
      obtain ⟨d1, ⟨mk2, lg2, bg2, dp2, d2, d3, d4, d5⟩, d6, d8, d9, d10, d11, d12⟩ := hD
      refine hK r S' M' ⟨d1, ⟨mk2, lg2, bg2, dp2, d2, d3, by omega, d5⟩, d6, Kp_tr ks d8, fun z => ⟨(d9 z).1, (d9 z).2.2.1⟩, d10, d11, d12⟩ (fun post' hp1 hp0 => hbeg post' (beg_go s72 h9 s0 (by decide) ?_))
      refine hRe post' (nI b) (cI o) 1 ?_
      unfold wxQ_complete_c34
      by_cases h4 : r < 4
      · obtain ⟨q5, q0, -⟩ := d9 h4
        exact ⟨fun z => absurd q5 z, fun _ => ⟨fun _ => ⟨fun z => absurd q5 z, fun _ => hp1 h4⟩, fun z => absurd (by rw [q0]; decide) z⟩⟩
      · have e : M' 27 5 = 1 := by
          by_cases h : r = 4
          · exact (d11 h).1
          · exact (d12 (by omega)).1
        exact ⟨fun _ => ⟨fun _ => hp0 (by omega), fun z => absurd (e.symm.trans z) (by decide)⟩, fun z => absurd (e.symm.trans z) (by decide)⟩
  have rs : Rn ρ.2.2.1 c 0 S (uu (uu (uu M 27 0 0) 27 1 1) 27 2 (cI o)) mk lg bg dp := Rn_f (Rn_f (Rn_f hR (by omega)) (by omega)) (by omega)
  by_cases hdp : 1 ≤ dp
  · refine main (uu (uu (uu M 27 0 0) 27 1 1) 27 2 (cI o)) dp (fun _ => ⟨rs, hdp⟩) (fun hlt => Rn_sB rs hlt hdp) ((rs.1.2 2 (by omega)).trans e72) ?_ ?_ ?_ uu_same (Kp_u (Kp_u (Kp_u Kp_rf (by omega)) (by omega)) (by omega)) hdp ?_
    · rw [uu_n (by omega), uu_n (by omega), uu_same]; rfl
    · rw [uu_n (by omega), uu_n (by omega), uu_n (by omega)]; exact h5
    · rw [uu_n (by omega), uu_same]; rfl
    · intro post' h
      unfold wxQ_complete
      rw [e5']
      exact ⟨fun _ => h, fun z => absurd (nI_le (a := 1) hdp (by omega)) z⟩
  · have hdp0 : dp = 0 := by omega
    have hlt : bg < 300 := by omega
    have eq7 : uu (uu (uu (uu M 27 0 0) 27 1 1) 7 5 1) 27 2 (cI o) = uu (uu (uu (uu M 27 0 0) 27 1 1) 27 2 (cI o)) 7 5 1 := uu_comm (by omega)
    refine main (uu (uu (uu (uu M 27 0 0) 27 1 1) 7 5 1) 27 2 (cI o)) 1 (fun z => absurd z (by omega)) (fun _ => ?_) ?_ ?_ ?_ ?_ uu_same (Kp_u (Kp_u (Kp_u (Kp_u Kp_rf (by omega)) (by omega)) (by omega)) (by omega)) (by omega) ?_
    · rw [eq7, bgn_7 (by omega)]
      exact Rn_sBc e5 (Rn_bgn rs hlt) (by omega) (by omega) rfl
    · rw [uu_n (by omega), uu_n (by omega), uu_n (by omega), uu_n (by omega)]; exact (hR.1.2 2 (by omega)).trans e72
    · rw [uu_n (by omega), uu_n (by omega), uu_n (by omega), uu_same]; rfl
    · rw [uu_n (by omega), uu_n (by omega), uu_n (by omega), uu_n (by omega)]; exact h5
    · rw [uu_n (by omega), uu_n (by omega), uu_same]; rfl
    · intro post' h
      unfold wxQ_complete
      rw [e5', hdp0]
      exact ⟨fun z => absurd z (by decide), fun _ => h⟩
end CM
