/-! a run -/
def Sp (S : Sg) (x y : Int32) : Sg := sC (sC (sR (sR (sR (sR (sR (sR (sR (sR (sR (sR (sR (sR S 0 0 x) 0 1 y) 0 2 0) 0 3 0) 1 0 0) 1 1 0) 7 0 0) 7 1 0) 7 2 0) 7 3 0) 7 4 0) 7 5 0) 301 none) 302 none
def Mr (S2 : Rg) (y q : Int32) : Rg := (uu (uu (uu (uu (uu (uu (uu (uu (uu (uu (uu (uu (uu (uu (uu (uu (uu S2 27 11 1) 27 5 0) 7 1 0) 7 0 0) 7 5 0) 7 4 0) 7 3 0) 7 2 0) 0 0 y) 0 1 q) 1 1 0) 1 0 0) 0 3 0) 0 2 0) 27 10 (-1)) 27 9 (-1)) 27 8 0)
theorem prep {P : Rg} {c : Nat} {S : Sg} {M : Rg} {mk lg bg dp : Nat} {x y : Int32} (hR : Rn P c 0 S M mk lg bg dp) : Rn P c 0 (Sp S x y) (Mr M x y) 0 0 0 0 := by
  have hag := hR.1.1
  refine ⟨⟨fun a ha h5 => ?_, fun i hi => ?_⟩, ?_, ⟨?_, ?_, ?_, by omega, by omega, by omega, fun i hi => absurd hi (by omega)⟩, ?_, by omega⟩
  · funext i
    match a, ha, h5 with
    | 0, _, _ =>
      have e := congrFun (hag 0 (by omega) (by omega)) i
      by_cases h0 : i = 0
      · subst h0; simp [Mr, Sp, sC, sR, uu_at]
      by_cases h1 : i = 1
      · subst h1; simp [Mr, Sp, sC, sR, uu_at]
      by_cases h2 : i = 2
      · subst h2; simp [Mr, Sp, sC, sR, uu_at]
      by_cases h3 : i = 3
      · subst h3; simp [Mr, Sp, sC, sR, uu_at]
      simp [Mr, Sp, sC, sR, uu_at, h0, h1, h2, h3, e]
    | 1, _, _ =>
      have e := congrFun (hag 1 (by omega) (by omega)) i
      by_cases h0 : i = 0
      · subst h0; simp [Mr, Sp, sC, sR, uu_at]
      by_cases h1 : i = 1
      · subst h1; simp [Mr, Sp, sC, sR, uu_at]
      simp [Mr, Sp, sC, sR, uu_at, h0, h1, e]
    | 2, _, _ =>
      have e := congrFun (hag 2 (by omega) (by omega)) i
      simp [Mr, Sp, sC, sR, uu_at, e]
    | 3, _, _ =>
      have e := congrFun (hag 3 (by omega) (by omega)) i
      simp [Mr, Sp, sC, sR, uu_at, e]
    | 4, _, _ =>
      have e := congrFun (hag 4 (by omega) (by omega)) i
      simp [Mr, Sp, sC, sR, uu_at, e]
    | 5, _, h => exact absurd rfl h
    | 6, _, _ =>
      have e := congrFun (hag 6 (by omega) (by omega)) i
      simp [Mr, Sp, sC, sR, uu_at, e]
    | q + 7, h, _ => exact absurd h (by omega)
  · match i, hi with
    | 0, _ => simp [Mr, Sp, sC, sR, uu_at]
    | 1, _ => simp [Mr, Sp, sC, sR, uu_at]
    | 2, _ => simp [Mr, Sp, sC, sR, uu_at]
    | 3, _ => simp [Mr, Sp, sC, sR, uu_at]
    | 4, _ => simp [Mr, Sp, sC, sR, uu_at]
    | 5, _ => simp [Mr, Sp, sC, sR, uu_at]
    | q + 6, h => exact absurd h (by omega)
  · unfold Mr
    exact Pm_u (Pm_u (Pm_u (Pm_u (Pm_u (Pm_u (Pm_u (Pm_u (Pm_u (Pm_u (Pm_u (Pm_u (Pm_u (Pm_u (Pm_u (Pm_u (Pm_u hR.2.1 (by omega)) (by omega)) (by omega)) (by omega)) (by omega)) (by omega)) (by omega)) (by omega)) (by omega)) (by omega)) (by omega)) (by omega)) (by omega)) (by omega)) (by omega)) (by omega)) (by omega)
  · simp [Sp, sC, sR, uu_at, nI_0]
  · simp [Sp, sC, sR, uu_at, nI_0]
  · simp [Sp, sC, sR, uu_at, nI_0]
  · simp [Sp, sC, sR, uu_at, nI_0]
theorem prep27 {M : Rg} {x y : Int32} : Mr M x y 27 5 = 0 ∧ Mr M x y 27 8 = 0 ∧ Mr M x y 27 9 = -1 ∧ Mr M x y 27 10 = -1 ∧ Mr M x y 27 11 = 1 := by
  refine ⟨?_, ?_, ?_, ?_, ?_⟩ <;> simp [Mr, uu_at]
theorem prepC {S : Sg} {x y : Int32} : (Sp S x y).2 301 = none ∧ (Sp S x y).2 302 = none := ⟨(sC_n (by omega)).trans sC_same, sC_same⟩
section R71
variable {ρ : Rh} {S' : Sg} {a1 a2 a3 : Int32} {oc w : Nat} {post : Int32 → Rh → Sg → Prop}
theorem c71_no (hw : w < 6) (h2 : w ≠ 2) (h4 : oc ≠ 4) (hoc : oc ≤ 5) (h : wxR_write (fun _ ρ6 S3 => post (nI oc) ρ6 S3) (rL ρ 1000000000000) S' (nI oc) 1000000000000 (S'.2 301) (S'.2 302) 6 2000) : wxT_run_c71 post a1 a2 a3 6 2000 ρ S' w (nI oc) 0 0 :=
  ⟨hw, fun z => absurd z h2, fun _ => ⟨fun _ => ⟨fun _ => ⟨6, 2000, ⟨by omega, by omega⟩, h⟩, fun z => absurd rfl z⟩, fun z => absurd ((nI_eq (b := 4) (by omega) (by omega)).mp z) h4⟩⟩
theorem c71_yes (hw : w < 6) (h2 : w = 2 ∨ oc = 4) (h : wxR_write (fun _ ρ6 S3 => post (nI oc) ρ6 S3) (rL ρ (S'.1 7 6).toInt64) S' (nI oc) (S'.1 7 6).toInt64 (S'.2 301) (S'.2 302) 6 2000) : wxT_run_c71 post a1 a2 a3 6 2000 ρ S' w (nI oc) 0 0 := by
  have k : wxT_run_c92 post a1 a2 a3 6 2000 ρ S' (nI oc) 1 0 0 := ⟨fun z => absurd z (by decide), fun _ => ⟨6, 2000, ⟨by omega, by omega⟩, h⟩⟩
  refine ⟨hw, fun _ => k, fun hn => ⟨fun hn4 => ?_, fun _ => k⟩⟩
  rcases h2 with h2 | h2
  · exact absurd h2 hn
  · exact absurd (by rw [h2]; rfl) hn4
end R71
theorem iv_run : ok_run Iv := by
  intro ρ S M a1 a2 a3 hI
  obtain ⟨c, lm, mk, lg, bg, dp, l, hP, hR, hF, hV, hT, hm⟩ := id hI
  unfold wxT_run wxP_isDefined wxP_isRoutine
  rcases ix_n a1 6 (by omega) with h | ⟨v, hv, rfl⟩
  · exact ex_c (n := 6) h rfl ⟨fun _ => ⟨fun z => absurd rfl z, fun _ => out_ex h (by omega) (by omega) rfl ⟨fun _ => ⟨rfl, hI⟩, fun z => absurd z (by decide)⟩⟩, fun z => absurd rfl z⟩
  have cv : (nI v).toNatClampNeg = v := nI_clamp (by omega)
  have e15 : M 15 v = ρ.2.2.1 5 v := hR.2.1.2.2.2.2.2.1 v hv
  have hn64 := hP.1.1
  rcases hP.2.2.2.2.1 v hv with hno | ⟨b, hb1, hb2⟩
  · refine in_c (n := 6) hv (by omega) rfl ⟨fun z => absurd z (by decide), fun _ => ⟨vp_in_nI hv (by omega), fun _ => ⟨fun z => absurd rfl z, fun _ => ?_⟩, fun z => absurd (by rw [cv]; exact hno) z⟩⟩
    refine out_in hv (by omega) rfl ⟨fun z => absurd rfl z, fun _ => ⟨vp_in_nI hv (by omega), fun z => ?_, fun _ => ⟨rfl, hI⟩⟩⟩
    rw [cv, e15, hno] at z
    exact absurd z (by decide)
  have nb : ¬ ρ.2.2.1 5 (nI v).toNatClampNeg = -1 := by rw [cv, hb2]; exact nI_m1 (by omega)
  refine in_c (n := 6) hv (by omega) rfl ⟨fun z => absurd z (by decide), fun _ => ⟨vp_in_nI hv (by omega), fun z => absurd z nb, fun _ => ⟨fun _ => ?_, fun z => absurd z (by decide)⟩⟩⟩
  refine ⟨vp_in_nI (n := 0) (by omega) (by omega), vp_in_nI (n := 1) (by omega) (by omega), vp_in_nI (n := 2) (by omega) (by omega), vp_in_nI (n := 3) (by omega) (by omega), vp_in_nI (n := 0) (by omega) (by omega), vp_in_nI (n := 1) (by omega) (by omega), ?_⟩
  obtain ⟨p5, p8, p9, p10, p11⟩ := prep27 (M := M) (x := a2) (y := a3)
  refine cmpl (S := Sp S a2 a3) (M := Mr M a2 a3) hP (prep hR) hv hb2 hb1 (fun j hj => by cases hj) (Or.inr (by omega)) p5 ?_
  intro r S1 M1 hD hcomp
  have hrun : ∀ post' : Int32 → Rg → Prop, (r < 4 → wxQ_settle (fun _ S18 => wxQ_write (fun _ S20 => post' (S20 27 6) S20) S18) M1) → (4 ≤ r → wxQ_write (fun _ S16 => post' (S16 27 6) S16) M1) → wxQ_run post' M (nI v) a2 a3 := by
    intro post' h1 h2
    refine out_in hv (by omega) rfl ⟨fun z => absurd rfl z, fun _ => ⟨vp_in_nI hv (by omega), fun _ => ⟨vp_in_nI (n := 0) (by omega) (by omega), vp_in_nI (n := 1) (by omega) (by omega), vp_in_nI (n := 1) (by omega) (by omega), vp_in_nI (n := 0) (by omega) (by omega), vp_in_nI (n := 3) (by omega) (by omega), vp_in_nI (n := 2) (by omega) (by omega), ?_⟩, fun z => absurd (by rw [cv, e15, hb2]; exact nI_pos' (by omega)) z⟩⟩
    rw [cv, e15, hb2]
    exact hcomp _ (fun h => ⟨fun z => absurd z (by decide), fun _ => h1 h⟩) (fun h => ⟨fun _ => h2 h, fun z => absurd rfl z⟩)
  obtain ⟨d1, ⟨mk1, lg1, bg1, dp1, R1, -, dpos, d3⟩, ⟨d301, d302⟩, ⟨k8, k9, k10, k11⟩, d4, d2, dx, dt⟩ := hD
  have m8 : M1 27 8 = 0 := k8.trans p8
  have m9 : M1 27 9 = -1 := k9.trans p9
  have m10 : M1 27 10 = -1 := k10.trans p10
  have m11 : M1 27 11 = 1 := k11.trans p11
  have s1 : S1.2 301 = none := d301.trans prepC.1
  have s2 : S1.2 302 = none := d302.trans prepC.2
  have F1 : Fl S1 M1 mk1 := ⟨⟨by rw [s1]; exact m9, by rw [s2]; exact m10⟩, fun j hj => (by rw [s1] at hj; cases hj), fun j hj => (by rw [s2] at hj; cases hj)⟩
  refine ⟨d1, fun hr3 => ⟨d1, fun h4 => ⟨fun h5 => ?_, fun h5 => ?_⟩, fun h4 => ?_⟩, fun hr3 => ?_⟩
  · obtain ⟨f5, f3⟩ := d4 (by omega)
    by_cases h2 : r = 2
    · subst h2
      refine c71_yes (oc := 0) (by omega) (Or.inl rfl) (run_end (M' := uu (uu (uu M1 27 6 0) 27 8 1) 27 7 (M1 27 4)) hP hT (Rn_f (Rn_f (Rn_f R1 (by omega)) (by omega)) (by omega)) ⟨⟨?_, ?_⟩, F1.2⟩ ?_ (by omega) ?_ (Or.inr ⟨S1.1 7 6, rfl, ?_, Or.inl ?_⟩) (fun post' hw => hrun post' (fun _ => ⟨fun z => absurd (f3.symm.trans z) (by decide), fun _ => ⟨fun z => absurd f3 z, fun _ => hw⟩⟩) (fun z => absurd z (by omega))))
      · rw [uu_n (by omega), uu_n (by omega), uu_n (by omega)]; exact F1.1.1
      · rw [uu_n (by omega), uu_n (by omega), uu_n (by omega)]; exact F1.1.2
      · rw [uu_n (by omega), uu_n (by omega), uu_same]; rfl
      · rw [uu_n (by omega), uu_n (by omega), uu_n (by omega)]; exact m11
      · rw [uu_same]; exact d2 rfl
      · rw [uu_n (by omega), uu_same]; decide
    · refine c71_no (oc := 0) d1 h2 (by omega) (by omega) (run_end (M' := uu (uu (uu M1 27 6 0) 27 8 0) 27 7 (M1 27 4)) hP hT (Rn_f (Rn_f (Rn_f R1 (by omega)) (by omega)) (by omega)) ⟨⟨?_, ?_⟩, F1.2⟩ ?_ (by omega) ?_ (Or.inl ⟨rfl, ?_, by omega⟩) (fun post' hw => hrun post' (fun _ => ⟨fun z => absurd (f3.symm.trans z) (nI_nq (b := 3) (by omega) (by omega) hr3), fun _ => ⟨fun _ => hw, fun z => absurd (f3.symm.trans z) (nI_nq (b := 2) (by omega) (by omega) h2)⟩⟩) (fun z => absurd z (by omega))))
      · rw [uu_n (by omega), uu_n (by omega), uu_n (by omega)]; exact F1.1.1
      · rw [uu_n (by omega), uu_n (by omega), uu_n (by omega)]; exact F1.1.2
      · rw [uu_n (by omega), uu_n (by omega), uu_same]; rfl
      · rw [uu_n (by omega), uu_n (by omega), uu_n (by omega)]; exact m11
      · rw [uu_n (by omega), uu_same]
  · subst h5
    exact c71_no (oc := 5) (by omega) (by omega) (by omega) (by omega) (run_end hP hT R1 F1 (dt rfl).2 (by omega) m11 (Or.inl ⟨rfl, m8, by omega⟩) (fun post' hw => hrun post' (fun z => absurd z (by omega)) (fun _ => hw)))
  · subst h4
    exact c71_yes (oc := 4) (by omega) (Or.inr rfl) (run_end hP hT R1 F1 (dx rfl).2.1 (by omega) m11 (Or.inr ⟨S1.1 7 6, rfl, (dx rfl).2.2, Or.inr rfl⟩) (fun post' hw => hrun post' (fun z => absurd z (by omega)) (fun _ => hw)))
  · subst hr3
    obtain ⟨f5, f3⟩ := d4 (by omega)
    obtain ⟨jf, j1, j2, j3⟩ := d3 rfl
    have hb1' := Rn_bd R1
    have e17 : M1 17 2 = ρ.2.2.1 7 2 := R1.2.1.2.2.2.2.2.2.2 2 (by omega)
    show wxT_afterFailure (fun r17 S18 => wxT_run_c71 (fun r ρ1 S1 => wxQ_run (fun r2 M1 => r = r2 ∧ Iv ρ1 S1 M1) M (nI v) a2 a3) (nI v) a2 a3 6 2000 ρ S18 3 r17 0 0) ρ S1 (S1.2 300)
    rw [j2]
    have R2 : Rn ρ.2.2.1 c 0 (sC S1 301 (some jf)) (uu (uu M1 27 9 (nI jf)) 27 6 1) mk1 lg1 bg1 dp1 := Rn_f (Rn_f (Rn_c R1 (by omega)) (by omega)) (by omega)
    have t301 : (sC S1 301 (some jf)).2 301 = some jf := sC_same
    have t302 : (sC S1 301 (some jf)).2 302 = none := (sC_n (by omega)).trans s2
    have n5 : (uu (uu M1 27 9 (nI jf)) 27 6 1) 27 5 = 0 := by rw [uu_n (by omega), uu_n (by omega)]; exact f5
    have n6 : (uu (uu M1 27 9 (nI jf)) 27 6 1) 27 6 = nI 1 := uu_same
    have n8 : (uu (uu M1 27 9 (nI jf)) 27 6 1) 27 8 = 0 := by rw [uu_n (by omega), uu_n (by omega)]; exact m8
    have n9 : (uu (uu M1 27 9 (nI jf)) 27 6 1) 27 9 = nI jf := by rw [uu_n (by omega), uu_same]
    have n10 : (uu (uu M1 27 9 (nI jf)) 27 6 1) 27 10 = -1 := by rw [uu_n (by omega), uu_n (by omega)]; exact m10
    have n11 : (uu (uu M1 27 9 (nI jf)) 27 6 1) 27 11 = 1 := by rw [uu_n (by omega), uu_n (by omega)]; exact m11
    have F2 : Fl (sC S1 301 (some jf)) (uu (uu M1 27 9 (nI jf)) 27 6 1) mk1 := ⟨⟨by rw [t301]; exact n9, by rw [t302]; exact n10⟩, fun j hj => (by rw [t301] at hj; cases hj; exact j1), fun j hj => (by rw [t302] at hj; cases hj)⟩
    have last : (∀ post' : Unit → Rg → Prop, post' () (uu (uu M1 27 9 (nI jf)) 27 6 1) → wxQ_settle post' M1) → wxT_run_c71 (fun r ρ1 S1 => wxQ_run (fun r2 M1 => r = r2 ∧ Iv ρ1 S1 M1) M (nI v) a2 a3) (nI v) a2 a3 6 2000 ρ (sC S1 301 (some jf)) 3 1 0 0 := fun hset =>
      c71_no (oc := 1) (by omega) (by omega) (by omega) (by omega) (run_end hP hT R2 F2 n6 (by omega) n11 (Or.inl ⟨rfl, n8, by omega⟩) (fun post' hw => hrun post' (fun _ => hset _ hw) (fun z => absurd z (by omega))))
    unfold wxT_afterFailure wxP_isDefined wxP_isRoutine
    rcases hP.2.2.2.1 with hm1 | ⟨v2, hv2, hv2'⟩
    · rw [hm1]
      refine ⟨fun _ => ⟨fun _ => ⟨fun z => absurd rfl z, fun _ => last (fun post' h => ?_)⟩, fun z => absurd rfl z⟩, fun z => absurd (by decide) z⟩
      unfold wxQ_settle
      rw [e17, hm1, j3]
      exact ⟨fun _ => ⟨fun _ => h, fun z => absurd (by decide) z⟩, fun z => absurd f3 z⟩
    have cv2 : (nI v2).toNatClampNeg = v2 := nI_clamp (by omega)
    have e15' : M1 15 v2 = ρ.2.2.1 5 v2 := R1.2.1.2.2.2.2.2.1 v2 hv2
    have np2 : ¬ nI v2 < 0 := nI_pos (by omega)
    have vp2 : vp_in (nI v2) 6 := vp_in_nI hv2 (by omega)
    rw [hv2']
    rcases hP.2.2.2.2.1 v2 hv2 with hno | ⟨b2, hc1, hc2⟩
    · refine in_c (n := 6) hv2 (by omega) rfl ⟨fun z => absurd z (by decide), fun _ => ⟨vp2, fun _ => ⟨fun z => absurd rfl z, fun _ => last (fun post' h => ?_)⟩, fun z => absurd (by rw [cv2]; exact hno) z⟩⟩
      unfold wxQ_settle
      rw [e17, hv2', cv2, e15', hno, j3]
      exact ⟨fun _ => ⟨fun z => absurd z np2, fun _ => ⟨vp2, fun _ => h, fun z => absurd (by decide) z⟩⟩, fun z => absurd f3 z⟩
    have nb2 : ¬ ρ.2.2.1 5 (nI v2).toNatClampNeg = -1 := by rw [cv2, hc2]; exact nI_m1 (by omega)
    refine in_c (n := 6) hv2 (by omega) rfl ⟨fun z => absurd z (by decide), fun _ => ⟨vp2, fun z => absurd z nb2, fun _ => ⟨fun _ => ?_, fun z => absurd z (by decide)⟩⟩⟩
    refine cmpl hP R2 hv2 hc2 hc1 (fun j hj => by cases hj; exact j1) (Or.inl dpos) n5 ?_
    intro r' S3 M3 hD' hcomp'
    obtain ⟨g1, ⟨mk3, lg3, bg3, dp3, R3, hmk3, -, g3⟩, ⟨g301, g302⟩, ⟨q8, q9, q10, q11⟩, g4, g2, gx, gt⟩ := hD'
    have hset : ∀ post' : Unit → Rg → Prop, (r' < 4 → r' ≠ 3 → post' () (uu M3 27 6 2)) → (r' = 3 → post' () (uu (uu M3 27 6 3) 27 10 (M3 27 4))) → (4 ≤ r' → post' () M3) → wxQ_settle post' M1 := by
      intro post' h1 h2 h3
      unfold wxQ_settle
      rw [e17, hv2', cv2, e15', hc2, j3]
      refine ⟨fun _ => ⟨fun z => absurd z np2, fun _ => ⟨vp2, fun z => absurd z (nI_pos (by omega)), fun _ => hcomp' _ (fun h => ⟨fun _ => ?_, fun z => absurd z (by decide)⟩) (fun h => ⟨fun z => absurd rfl z, fun _ => h3 h⟩)⟩⟩, fun z => absurd f3 z⟩
      have e3 := (g4 h).2
      by_cases hh : r' = 3
      · have e3' : M3 27 3 = 3 := by rw [e3, hh]; rfl
        exact ⟨fun z => absurd e3' z, fun _ => ⟨fun z => absurd e3' z, fun _ => h2 hh⟩⟩
      · have e3' : ¬ M3 27 3 = 3 := by rw [e3]; exact nI_nq (b := 3) (by omega) (by omega) hh
        exact ⟨fun _ => ⟨fun _ => h1 h hh, fun z => absurd z e3'⟩, fun z => absurd z e3'⟩
    have u8 : M3 27 8 = 0 := q8.trans n8
    have u9 : M3 27 9 = nI jf := q9.trans n9
    have u10 : M3 27 10 = -1 := q10.trans n10
    have u11 : M3 27 11 = 1 := q11.trans n11
    have v301 : S3.2 301 = some jf := g301.trans t301
    have v302 : S3.2 302 = none := g302.trans t302
    have F3 : Fl S3 M3 mk3 := ⟨⟨by rw [v301]; exact u9, by rw [v302]; exact u10⟩, fun j hj => (by rw [v301] at hj; cases hj; omega), fun j hj => (by rw [v302] at hj; cases hj)⟩
    refine ⟨g1, fun hr3 => ⟨g1, fun h4 => ⟨fun h5 => ?_, fun h5 => ?_⟩, fun h4 => ?_⟩, fun hr3 => ?_⟩
    · refine c71_no (oc := 2) (by omega) (by omega) (by omega) (by omega) (run_end (M' := uu M3 27 6 2) hP hT (Rn_f R3 (by omega)) ⟨⟨(uu_n (by omega)).trans F3.1.1, (uu_n (by omega)).trans F3.1.2⟩, F3.2⟩ uu_same (by omega) ((uu_n (by omega)).trans u11) (Or.inl ⟨rfl, (uu_n (by omega)).trans u8, by omega⟩) (fun post' hw => hrun post' (fun _ => hset _ (fun _ _ => hw) (fun z => absurd z hr3) (fun z => absurd z (by omega))) (fun z => absurd z (by omega))))
    · subst h5
      exact c71_no (oc := 5) (by omega) (by omega) (by omega) (by omega) (run_end hP hT R3 F3 (gt rfl).2 (by omega) u11 (Or.inl ⟨rfl, u8, by omega⟩) (fun post' hw => hrun post' (fun _ => hset _ (fun z => absurd z (by omega)) (fun z => absurd z (by omega)) (fun _ => hw)) (fun z => absurd z (by omega))))
    · subst h4
      exact c71_yes (oc := 4) (by omega) (Or.inr rfl) (run_end hP hT R3 F3 (gx rfl).2.1 (by omega) u11 (Or.inr ⟨S3.1 7 6, rfl, (gx rfl).2.2, Or.inr rfl⟩) (fun post' hw => hrun post' (fun _ => hset _ (fun z => absurd z (by omega)) (fun z => absurd z (by omega)) (fun _ => hw)) (fun z => absurd z (by omega))))
    · subst hr3
      obtain ⟨js, k1, k2, k3⟩ := g3 rfl
      have hb3 := Rn_bd R3
      show wxT_run_c71 (fun r ρ1 S1 => wxQ_run (fun r2 M1 => r = r2 ∧ Iv ρ1 S1 M1) M (nI v) a2 a3) (nI v) a2 a3 6 2000 ρ (sC S3 302 (S3.2 300)) 3 3 0 0
      rw [k2]
      have w301 : (sC S3 302 (some js)).2 301 = some jf := (sC_n (by omega)).trans v301
      have w302 : (sC S3 302 (some js)).2 302 = some js := sC_same
      refine c71_no (oc := 3) (by omega) (by omega) (by omega) (by omega) (run_end (M' := uu (uu M3 27 6 3) 27 10 (M3 27 4)) hP hT (Rn_f (Rn_f (Rn_c R3 (by omega)) (by omega)) (by omega)) ⟨⟨?_, ?_⟩, fun j hj => (by rw [w301] at hj; cases hj; omega), fun j hj => (by rw [w302] at hj; cases hj; exact k1)⟩ ?_ (by omega) ?_ (Or.inl ⟨rfl, ?_, by omega⟩) (fun post' hw => hrun post' (fun _ => hset _ (fun _ z => absurd rfl z) (fun _ => hw) (fun z => absurd z (by omega))) (fun z => absurd z (by omega))))
      · rw [w301, uu_n (by omega), uu_n (by omega)]; exact u9
      · rw [w302, uu_same]; exact k3
      · rw [uu_n (by omega), uu_same]; rfl
      · rw [uu_n (by omega), uu_n (by omega)]; exact u11
      · rw [uu_n (by omega), uu_n (by omega)]; exact u8
