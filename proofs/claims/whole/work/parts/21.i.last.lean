section LC
variable {ρ : Rh} {c lm d s t k yd mk lg bg dp lv : Nat} {S : Sg} {M : Rg} {o : Option Nat} {post : Nat → Sg → Prop}

theorem cp_13 (ih : SimT ρ c lm d) (hP : Pv ρ.2.2.1 ρ.2.1 c lm) (hk : k < ρ.2.1) (hl1 : 1 ≤ lv) (hl8 : lv ≤ 8) (hms : (lm - yd) * 8 + lv ≤ d + 1) (hy1 : 1 ≤ yd) (hy2 : yd ≤ lm) (ht1 : t + 1 + d ≤ 111) (hR : Rn ρ.2.2.1 c (s + 1) S M mk lg bg dp) (hdp : yd ≤ dp) (hF : Fr M t k yd o mk) (hpost : ∀ r S' M', Dn ρ.2.2.1 c s t S M mk dp r S' M' → Reach M M' → post r S') (hd : ρ.2.2.1 0 k = nI 13) (hok : nOk ρ.2.2.1 ρ.2.1 c k lv 13) : wbody (wxM_perform (d + 1)) post ρ S k (nI yd) o := by
  have hk64 : k < 64 := by have := hP.1.1; omega
  have hn64 := hP.1.1
  have hlm := hP.2.2.1.2.1
  have hb := Rn_bd hR
  have hc16 := hP.2.1.2.1
  have ht : t ≤ 111 := by omega
  obtain ⟨f0, f5, f20, f21, f22, f1, f2, fo⟩ := id hF
  have m0 := md_0 hR hF
  have m1 := md_i m0
  have pM : Pm ρ.2.2.1 (uu M 21 t (M 21 t + 1)) := m1.1.2.1
  have ck : (nI k).toNatClampNeg = k := nI_clamp (by omega)
  have ct : (nI t).toNatClampNeg = t := nI_clamp (by omega)
  have vk : vp_in (nI k) 64 := vp_in_nI hk64 (by omega)
  have vt : vp_in (nI t) 112 := vp_in_nI (by omega) (by omega)
  have hM : M 10 k = nI 13 := md_10 m0 hd
  obtain ⟨⟨a, la, ha1, ha2, ha3, ha4, ha5⟩, ⟨e, le, he1, he2, he3, he4, he5⟩⟩ := hok
  refine wb_13 hk hd ⟨hk, ?_⟩
  rw [ha2]
  refine stp ih ha1 (by omega) ha3 ha4 (by omega) (by omega) hy1 hy2 ht1 hdp m1 Reach_rf f5 f0 (fun q h => go_13 f0 (by omega) f20 hk64 hM ?_) fo (fun r S2 M2 hr hD hR2 => ⟨hD.1, fun _ => hpost r S2 M2 hD hR2, fun z => absurd z (by omega)⟩) ?_
  · unfold wxQ_attempt
    rw [ck, pM.2.1, ha2]
    exact ⟨fun z => absurd f21 z, fun _ => ⟨vk, h⟩⟩
  intro r S2 M2 mk2 lg2 bg2 dp2 m2 hR2 hmk hdp2 hcr hfr
  have hM2 := md_10 m2 hd
  have hc4 := hcr.1
  have c3 : (uu M2 21 t (M2 21 t + 1)) 27 3 = nI r := (uu_n (by omega)).trans hcr.2.1
  have p2 : Pm ρ.2.2.1 (uu M2 21 t (M2 21 t + 1)) := (md_i m2).1.2.1
  have gt : ∀ q : Unit → Rg → Prop, wxQ_attempt q (uu M2 21 t (M2 21 t + 1)) (nI t) (nI k) (M2 21 t) → wxQ_go q M2 := fun q h => go_13 (md_t m2) (by omega) (md_k m2) hk64 hM2 h
  refine ⟨by omega, fun h3 => ?_, fun h3 => ?_⟩
  · refine mdpass m2 hF hR2 hcr ht hpost (fun q h => gt q ?_)
    unfold wxQ_attempt
    exact ⟨fun _ => ⟨fun z => absurd (md_s m2) z, fun _ => ⟨fun _ => ⟨fun _ => h, fun z => absurd ((md_s m2).symm.trans z) (by decide)⟩, fun z => absurd (c3.symm.trans z) (nI_nq (b := 3) (by omega) (by omega) h3)⟩⟩, fun z => absurd ((md_s m2).symm.trans z) (by decide)⟩
  · subst h3
    obtain ⟨j, j1, j2, j3⟩ := hcr.2.2.2 rfl
    have hb2 := Rn_bd m2.1
    have c4 : (uu M2 21 t (M2 21 t + 1)) 27 4 = nI j := (uu_n (by omega)).trans j3
    have cj : (nI j).toNatClampNeg = j := nI_clamp (by omega)
    have e3 : (uu M2 21 t (M2 21 t + 1)) 3 j = S2.1 3 j := by rw [(md_i m2).1.1.1 3 (by omega) (by omega)]
    obtain ⟨rr, i1, i2⟩ := is_all (y := ρ.2.2.1 2 k) hP (m2.1.2.2.1.2.2.2.2.2.2 j j1).1
    have e72 := m2.1.2.2.1.2.2.1
    have e72' : (uu M2 21 t (M2 21 t + 1)) 7 2 = nI bg2 := ((md_i m2).1.1.2 2 (by omega)).trans e72
    have hm2 := m2.2.1
    have vj : vp_in (nI j) 302 := vp_in_nI (by omega) (by omega)
    refine ⟨j, j2, by omega, i1 _ ρ S2 rfl ⟨fun hrr => ?_, fun hrr => ?_⟩⟩
    · have gb : ∀ q : Unit → Rg → Prop, wxQ_begin (fun r27 S28 => ((¬ (r27 = (0 : Int32))) → (vp_in (nI t) 112) ∧ q () (uu (uu (uu S28 7 3 ((S28 7 3) + 1)) 25 t (S28 27 2)) 27 2 ((uu M2 21 t (M2 21 t + 1)) 27 4))) ∧ ((r27 = (0 : Int32)) → q () S28)) (uu M2 21 t (M2 21 t + 1)) (nI e) → wxQ_go q M2 := by
        intro q h
        refine gt q ?_
        unfold wxQ_attempt
        rw [ck, ct]
        refine ⟨fun _ => ⟨fun z => absurd (md_s m2) z, fun _ => ⟨fun z => absurd c3 z, fun _ => ?_⟩⟩, fun z => absurd ((md_s m2).symm.trans z) (by decide)⟩
        rw [c4, cj, e3, p2.2.2.1]
        refine ⟨vj, vk, i2 _ _ p2 ⟨fun z => absurd z hrr, fun _ => ?_⟩⟩
        rw [p2.2.2.2.1, he2]
        exact h
      unfold wxM_mayBegin
      rw [e72]
      by_cases h300 : bg2 = 300
      · subst h300
        refine ⟨fun _ => ⟨fun _ => ?_, fun z => absurd rfl z⟩, fun z => absurd (by decide) z⟩
        exact stp_t (md_i m2) (Reach_tr hR2 (reach_go (md_v m2) (md_t m2) (by omega) (fun q hq => gb q (beg_tired e72' ⟨fun z => absurd rfl z, fun _ => hq⟩)))) (fun M3 hD hR3 => hpost 5 S2 M3 hD hR3)
      · refine ⟨fun z => absurd z (nI_ge (b := 300) (by omega) (by omega)), fun _ => ⟨fun z => absurd z (by decide), fun _ => ?_⟩⟩
        rw [he2, j2]
        obtain ⟨h1, h2, h3', h4, h5, h6, h7, h8, h9, h10, h11⟩ := md_i m2
        obtain ⟨b1, b2, b3, b4⟩ := bgn_f (x := nI e) h6 (by omega)
        have bn : ∀ a j, ((a ≠ 7 ∧ a ≠ 27 ∧ j ≠ t + 1) ∨ (22 < a ∧ a < 26) ∨ (a = 7 ∧ j = 3) ∨ (a = 27 ∧ j ≠ 0)) → bgn (uu M2 21 t (M2 21 t + 1)) (nI e) a j = (uu M2 21 t (M2 21 t + 1)) a j := fun a j hh => bgn_n h6 (by omega) (by omega)
        have gg : ∀ a j, ((a ≠ 7 ∧ a ≠ 27 ∧ a ≠ 25 ∧ j ≠ t + 1) ∨ (a = 25 ∧ j ≠ t) ∨ (a = 27 ∧ j ≠ 0 ∧ j ≠ 2)) → (uu (uu (uu (bgn (uu M2 21 t (M2 21 t + 1)) (nI e)) 7 3 (bgn (uu M2 21 t (M2 21 t + 1)) (nI e) 7 3 + 1)) 25 t (bgn (uu M2 21 t (M2 21 t + 1)) (nI e) 27 2)) 27 2 ((uu M2 21 t (M2 21 t + 1)) 27 4)) a j = (uu M2 21 t (M2 21 t + 1)) a j := fun a j hh => by
          rw [uu_n (by omega), uu_n (by omega), uu_n (by omega)]; exact bn a j (by omega)
        have rg : Rn ρ.2.2.1 c (s + 2) (sB (sR S2 7 3 (S2.1 7 3 + 1)) (nI yd)) (uu (uu (uu (bgn (uu M2 21 t (M2 21 t + 1)) (nI e)) 7 3 (bgn (uu M2 21 t (M2 21 t + 1)) (nI e) 7 3 + 1)) 25 t (bgn (uu M2 21 t (M2 21 t + 1)) (nI e) 27 2)) 27 2 ((uu M2 21 t (M2 21 t + 1)) 27 4)) mk2 lg2 (bg2 + 1) dp2 := by
          refine Rn_f (Rn_f ?_ (by omega)) (by omega)
          rw [← bgn_7 (by omega)]
          exact Rn_sB (Rn_t h1 (Or.inl rfl) (by rw [bn 7 3 (by omega), h1.1.2 3 (by omega)])) (by omega) (by omega)
        have gz : (uu (uu (uu (bgn (uu M2 21 t (M2 21 t + 1)) (nI e)) 7 3 (bgn (uu M2 21 t (M2 21 t + 1)) (nI e) 7 3 + 1)) 25 t (bgn (uu M2 21 t (M2 21 t + 1)) (nI e) 27 2)) 27 2 ((uu M2 21 t (M2 21 t + 1)) 27 4)) 25 t = cI o := by
          rw [uu_n (by omega), uu_same, bn 27 2 (by omega)]; exact h11
        refine stp_g (S1 := sB (sR S2 7 3 (S2.1 7 3 + 1)) (nI yd)) (M1 := (uu (uu (uu (bgn (uu M2 21 t (M2 21 t + 1)) (nI e)) 7 3 (bgn (uu M2 21 t (M2 21 t + 1)) (nI e) 7 3 + 1)) 25 t (bgn (uu M2 21 t (M2 21 t + 1)) (nI e) 27 2)) 27 2 ((uu M2 21 t (M2 21 t + 1)) 27 4))) (i := 0 + 1 + 1) (lg1 := lg2) (bg1 := bg2 + 1) ih he1 (by omega) he3 he4 (by omega) (by omega) hy1 hy2 ht1 (by omega) (by rw [sR_n (by omega), e72]; exact nI_ge (b := 300) (by omega) (by omega)) rfl ⟨rg, h2, h3', ?_, fun a j ha hb hj => (gg a j (by omega)).trans (h5 a j ha hb hj), ?_, (gg 27 5 (by omega)).trans h7, (gg 20 t (by omega)).trans h8, (gg 21 t (by omega)).trans h9, (gg 27 1 (by omega)).trans h10, ?_⟩ (Reach_tr hR2 (reach_go (md_v m2) (md_t m2) (by omega) (fun q hq => gb q (beg_go e72' (by omega) h6 (by omega) ⟨fun _ => ⟨vt, hq⟩, fun z => absurd z (by decide)⟩)))) ?_ ?_ ?_ (fun q hq => by cases hq; exact j1) (fun r S3 M3 _ hD hR3 => hpost r S3 M3 hD hR3) ?_
        · obtain ⟨q1, q2, q3, q4⟩ := h4
          exact ⟨(gg 27 8 (by omega)).trans q1, (gg 27 9 (by omega)).trans q2, (gg 27 10 (by omega)).trans q3, (gg 27 11 (by omega)).trans q4⟩
        · rw [uu_n (by omega), uu_n (by omega), uu_n (by omega)]; exact b1
        · rw [uu_same]; exact c4
        · rw [uu_n (by omega), uu_n (by omega), uu_n (by omega)]; exact b2
        · rw [uu_n (by omega), uu_n (by omega), uu_n (by omega)]; exact b3
        · rw [uu_n (by omega), uu_n (by omega), uu_n (by omega)]; exact b4
        · intro r S3 M3 mk3 lg3 bg3 dp3 m3 hR3 hmk3 hdp3 hcr3 hfr3
          obtain ⟨a1, a2, a3, a4, a5, a6, a7, a8, a9, a10, a11⟩ := md_i m3
          refine mdend (w := (uu M3 21 t (M3 21 t + 1)) 27 3) (v := (uu M3 21 t (M3 21 t + 1)) 27 4) (Mx := (uu (uu M3 21 t (M3 21 t + 1)) 27 2 ((uu M3 21 t (M3 21 t + 1)) 25 t))) hpost hR3 (md_v m3) (md_t m3) ht (Rn_f (Rn_s a1) (by omega)) a2.1 a2.2 hcr3.1 a3.1 a3.2 (Kp_u a4 (by omega)) ⟨fun a j ha hb hj => (uu_n (by omega)).trans (a5 a j ha hb hj), (uu_n (by omega)).trans (a10.trans f1.symm), ?_⟩ ((uu_n (by omega)).trans a7) ((uu_n (by omega)).trans a6) ((uu_n (by omega)).trans hcr3.2.1) (fun z => (uu_n (by omega)).trans (hcr3.2.2.1 z)) (fun z => ?_) (fun q h => go_13 (md_t m3) (by omega) (md_k m3) hk64 (md_10 m3 hd) ?_)
          · rw [uu_same, uu_n (by omega), hfr3 25 (by omega) (by omega), gz, f2]
          · obtain ⟨q, q1, q2, q3⟩ := hcr3.2.2.2 z
            exact ⟨q, q1, q2, (uu_n (by omega)).trans q3⟩
          · unfold wxQ_attempt
            rw [ct]
            exact ⟨fun _ => ⟨fun _ => ⟨fun z => absurd (md_s m3) z, fun _ => ⟨vt, h⟩⟩, fun z => absurd ((md_s m3).symm.trans z) (by decide)⟩, fun z => absurd ((md_s m3).symm.trans z) (by decide)⟩
    · refine mdpass m2 hF hR2 hcr ht hpost (fun q h => gt q ?_)
      unfold wxQ_attempt
      rw [ck]
      refine ⟨fun _ => ⟨fun z => absurd (md_s m2) z, fun _ => ⟨fun z => absurd c3 z, fun _ => ?_⟩⟩, fun z => absurd ((md_s m2).symm.trans z) (by decide)⟩
      rw [c4, cj, e3, p2.2.2.1]
      exact ⟨vj, vk, i2 _ _ p2 ⟨fun _ => ⟨fun _ => h, fun z => absurd ((md_s m2).symm.trans z) (by decide)⟩, fun z => absurd hrr z⟩⟩
theorem cp_14 (ih : SimT ρ c lm d) (hP : Pv ρ.2.2.1 ρ.2.1 c lm) (hk : k < ρ.2.1) (hl1 : 1 ≤ lv) (hl8 : lv ≤ 8) (hms : (lm - yd) * 8 + lv ≤ d + 1) (hy1 : 1 ≤ yd) (hy2 : yd ≤ lm) (ht1 : t + 1 + d ≤ 111) (hR : Rn ρ.2.2.1 c (s + 1) S M mk lg bg dp) (hdp : yd ≤ dp) (hF : Fr M t k yd o mk) (hpost : ∀ r S' M', Dn ρ.2.2.1 c s t S M mk dp r S' M' → Reach M M' → post r S') (hd : ρ.2.2.1 0 k = nI 14) (hok : nOk ρ.2.2.1 ρ.2.1 c k lv 14) : wbody (wxM_perform (d + 1)) post ρ S k (nI yd) o := by
  have hk64 : k < 64 := by have := hP.1.1; omega
  have hn64 := hP.1.1
  have hlm := hP.2.2.1.2.1
  have hb := Rn_bd hR
  have hc16 := hP.2.1.2.1
  have ht : t ≤ 111 := by omega
  obtain ⟨f0, f5, f20, f21, f22, f1, f2, fo⟩ := id hF
  have m0 := md_0 hR hF
  have m1 := md_i m0
  have pM : Pm ρ.2.2.1 (uu M 21 t (M 21 t + 1)) := m1.1.2.1
  have ck : (nI k).toNatClampNeg = k := nI_clamp (by omega)
  have ct : (nI t).toNatClampNeg = t := nI_clamp (by omega)
  have vk : vp_in (nI k) 64 := vp_in_nI hk64 (by omega)
  have vt : vp_in (nI t) 112 := vp_in_nI (by omega) (by omega)
  have hM : M 10 k = nI 14 := md_10 m0 hd
  obtain ⟨⟨a, la, ha1, ha2, ha3, ha4, ha5⟩, ⟨b, lb, hb1, hb2, hb3, hb4, hb5⟩⟩ := hok
  refine wb_14 hk hd ⟨hk, ?_⟩
  rw [ha2]
  refine stp ih ha1 (by omega) ha3 ha4 (by omega) (by omega) hy1 hy2 ht1 hdp m1 Reach_rf f5 f0 (fun q h => go_14 f0 (by omega) f20 hk64 hM ?_) fo (fun r S2 M2 hr hD hR2 => ⟨hD.1, fun z => absurd z (er_1 hr hD.1), fun _ => hpost r S2 M2 hD hR2⟩) ?_
  · unfold wxQ_atLast
    rw [ck, pM.2.1, ha2]
    exact ⟨fun z => absurd f21 z, fun _ => ⟨vk, h⟩⟩
  intro r S2 M2 mk2 lg2 bg2 dp2 m2 hR2 hmk hdp2 hcr hfr
  have hM2 := md_10 m2 hd
  have hc4 := hcr.1
  have c3 : (uu M2 21 t (M2 21 t + 1)) 27 3 = nI r := (uu_n (by omega)).trans hcr.2.1
  have p2 : Pm ρ.2.2.1 (uu M2 21 t (M2 21 t + 1)) := (md_i m2).1.2.1
  have e72 := m2.1.2.2.1.2.2.1
  have hbd := Rn_bd m2.1
  have hm2 := m2.2.1
  have m1' : Md ρ.2.2.1 c (s + 1) t k S M mk dp (0 + 1 + 1) (t + 1) S2 (uu (uu (uu M2 21 t (M2 21 t + 1)) 23 t ((uu M2 21 t (M2 21 t + 1)) 27 3)) 24 t ((uu M2 21 t (M2 21 t + 1)) 27 4)) mk2 lg2 bg2 dp2 yd o := md_f (md_f (md_i m2) (by omega) (by omega)) (by omega) (by omega)
  have e72' : (uu (uu (uu M2 21 t (M2 21 t + 1)) 23 t ((uu M2 21 t (M2 21 t + 1)) 27 3)) 24 t ((uu M2 21 t (M2 21 t + 1)) 27 4)) 7 2 = nI bg2 := (m1'.1.1.2 2 (by omega)).trans e72
  have gb : ∀ q : Unit → Rg → Prop, wxQ_begin (fun r26 S27 => ((r26 = (0 : Int32)) → q () S27) ∧ ((¬ (r26 = (0 : Int32))) → q () (uu S27 7 4 ((S27 7 4) + 1)))) (uu (uu (uu M2 21 t (M2 21 t + 1)) 23 t ((uu M2 21 t (M2 21 t + 1)) 27 3)) 24 t ((uu M2 21 t (M2 21 t + 1)) 27 4)) (nI b) → wxQ_go q M2 := by
    intro q h
    refine go_14 (md_t m2) (by omega) (md_k m2) hk64 hM2 ?_
    unfold wxQ_atLast
    rw [ck, ct]
    refine ⟨fun _ => ⟨fun z => absurd (md_s m2) z, fun _ => ⟨vt, vk, ?_⟩⟩, fun z => absurd ((md_s m2).symm.trans z) (by decide)⟩
    rw [p2.2.2.1, hb2]
    exact h
  have k4 : ∀ (q : Nat) (S3 : Sg) (M3 : Rg), 4 ≤ q → Dn ρ.2.2.1 c s t S M mk dp q S3 M3 → Reach M M3 → (fun r2 S3 => ((¬ ((ρ.2.2.1 0 k) = (15 : Int32))) → wxM_doBoth_c94 (wxM_perform (d + 1)) post ρ k (nI yd) o S3 r (S2.1 7 6) (S2.2 300) r2 (0 : Int32)) ∧ (((ρ.2.2.1 0 k) = (15 : Int32)) → (r < 6) ∧ ((¬ (r = 3)) → wxM_doBoth_c94 (wxM_perform (d + 1)) post ρ k (nI yd) o S3 r (S2.1 7 6) (S2.2 300) r2 (0 : Int32)) ∧ ((r = 3) → (r2 < 6) ∧ ((¬ ((er r2) = (0 : Int32))) → wxM_doBoth_c94 (wxM_perform (d + 1)) post ρ k (nI yd) o S3 r (S2.1 7 6) (S2.2 300) r2 (0 : Int32)) ∧ (((er r2) = (0 : Int32)) → wxM_doBoth_c94 (wxM_perform (d + 1)) post ρ k (nI yd) o S3 r (S2.1 7 6) (S2.2 300) r2 (1 : Int32))))) q S3 := by
    intro q S3 M3 hr4 hD hR3
    have hr6 := hD.1
    have h94 : wxM_doBoth_c94 (wxM_perform (d + 1)) post ρ k (nI yd) o S3 r (S2.1 7 6) (S2.2 300) q 0 := ⟨hr6, (fun z => absurd z (by omega)), fun _ => ⟨fun z => absurd rfl z, fun _ => hpost q S3 M3 hD hR3⟩⟩
    exact ⟨fun _ => h94, fun z => absurd (hd.symm.trans z) (by decide)⟩
  refine ⟨by omega, fun _ => ?_, fun z => absurd (er_0 hc4) z⟩
  unfold wxM_mayBegin
  rw [e72]
  by_cases h300 : bg2 = 300
  · subst h300
    refine ⟨fun _ => ⟨fun _ => ⟨hk, ?_⟩, fun z => absurd rfl z⟩, fun z => absurd (by decide) z⟩
    exact stp_t (K := (fun r2 S3 => ((¬ ((ρ.2.2.1 0 k) = (15 : Int32))) → wxM_doBoth_c94 (wxM_perform (d + 1)) post ρ k (nI yd) o S3 r (S2.1 7 6) (S2.2 300) r2 (0 : Int32)) ∧ (((ρ.2.2.1 0 k) = (15 : Int32)) → (r < 6) ∧ ((¬ (r = 3)) → wxM_doBoth_c94 (wxM_perform (d + 1)) post ρ k (nI yd) o S3 r (S2.1 7 6) (S2.2 300) r2 (0 : Int32)) ∧ ((r = 3) → (r2 < 6) ∧ ((¬ ((er r2) = (0 : Int32))) → wxM_doBoth_c94 (wxM_perform (d + 1)) post ρ k (nI yd) o S3 r (S2.1 7 6) (S2.2 300) r2 (0 : Int32)) ∧ (((er r2) = (0 : Int32)) → wxM_doBoth_c94 (wxM_perform (d + 1)) post ρ k (nI yd) o S3 r (S2.1 7 6) (S2.2 300) r2 (1 : Int32)))))) m1' (Reach_tr hR2 (reach_go (md_v m2) (md_t m2) (by omega) (fun q hq => gb q (beg_tired e72' ⟨fun _ => hq, fun z => absurd rfl z⟩)))) (fun M3 hD hR3 => k4 5 S2 M3 (by omega) hD hR3)
  · refine ⟨fun z => absurd z (nI_ge (b := 300) (by omega) (by omega)), fun _ => ⟨fun z => absurd z (by decide), fun _ => ⟨hk, ?_⟩⟩⟩
    rw [hb2]
    obtain ⟨h1, h2, h3', h4, h5, h6, h7, h8, h9, h10, h11⟩ := m1'
    obtain ⟨b1, b2, b3, b4⟩ := bgn_f (x := nI b) h6 (by omega)
    have bn : ∀ a j, ((a ≠ 7 ∧ a ≠ 27 ∧ j ≠ t + 1) ∨ (22 < a ∧ a < 26) ∨ (a = 7 ∧ j = 4) ∨ (a = 27 ∧ j ≠ 0)) → bgn (uu (uu (uu M2 21 t (M2 21 t + 1)) 23 t ((uu M2 21 t (M2 21 t + 1)) 27 3)) 24 t ((uu M2 21 t (M2 21 t + 1)) 27 4)) (nI b) a j = (uu (uu (uu M2 21 t (M2 21 t + 1)) 23 t ((uu M2 21 t (M2 21 t + 1)) 27 3)) 24 t ((uu M2 21 t (M2 21 t + 1)) 27 4)) a j := fun a j hh => bgn_n h6 (by omega) (by omega)
    have gg : ∀ a j, ((a ≠ 7 ∧ a ≠ 27 ∧ j ≠ t + 1) ∨ (22 < a ∧ a < 26) ∨ (a = 27 ∧ j ≠ 0)) → (uu (bgn (uu (uu (uu M2 21 t (M2 21 t + 1)) 23 t ((uu M2 21 t (M2 21 t + 1)) 27 3)) 24 t ((uu M2 21 t (M2 21 t + 1)) 27 4)) (nI b)) 7 4 (bgn (uu (uu (uu M2 21 t (M2 21 t + 1)) 23 t ((uu M2 21 t (M2 21 t + 1)) 27 3)) 24 t ((uu M2 21 t (M2 21 t + 1)) 27 4)) (nI b) 7 4 + 1)) a j = (uu (uu (uu M2 21 t (M2 21 t + 1)) 23 t ((uu M2 21 t (M2 21 t + 1)) 27 3)) 24 t ((uu M2 21 t (M2 21 t + 1)) 27 4)) a j := fun a j hh => by
      rw [uu_n (by omega)]; exact bn a j (by omega)
    have rg : Rn ρ.2.2.1 c (s + 2) (sB (sR S2 7 4 (S2.1 7 4 + 1)) (nI yd)) (uu (bgn (uu (uu (uu M2 21 t (M2 21 t + 1)) 23 t ((uu M2 21 t (M2 21 t + 1)) 27 3)) 24 t ((uu M2 21 t (M2 21 t + 1)) 27 4)) (nI b)) 7 4 (bgn (uu (uu (uu M2 21 t (M2 21 t + 1)) 23 t ((uu M2 21 t (M2 21 t + 1)) 27 3)) 24 t ((uu M2 21 t (M2 21 t + 1)) 27 4)) (nI b) 7 4 + 1)) mk2 lg2 (bg2 + 1) dp2 := by
      rw [← bgn_7 (by omega)]
      exact Rn_sB (Rn_t h1 (Or.inr rfl) (by rw [bn 7 4 (by omega), h1.1.2 4 (by omega)])) (by omega) (by omega)
    refine stp_g (K := (fun r2 S3 => ((¬ ((ρ.2.2.1 0 k) = (15 : Int32))) → wxM_doBoth_c94 (wxM_perform (d + 1)) post ρ k (nI yd) o S3 r (S2.1 7 6) (S2.2 300) r2 (0 : Int32)) ∧ (((ρ.2.2.1 0 k) = (15 : Int32)) → (r < 6) ∧ ((¬ (r = 3)) → wxM_doBoth_c94 (wxM_perform (d + 1)) post ρ k (nI yd) o S3 r (S2.1 7 6) (S2.2 300) r2 (0 : Int32)) ∧ ((r = 3) → (r2 < 6) ∧ ((¬ ((er r2) = (0 : Int32))) → wxM_doBoth_c94 (wxM_perform (d + 1)) post ρ k (nI yd) o S3 r (S2.1 7 6) (S2.2 300) r2 (0 : Int32)) ∧ (((er r2) = (0 : Int32)) → wxM_doBoth_c94 (wxM_perform (d + 1)) post ρ k (nI yd) o S3 r (S2.1 7 6) (S2.2 300) r2 (1 : Int32)))))) (S1 := sB (sR S2 7 4 (S2.1 7 4 + 1)) (nI yd)) (M1 := (uu (bgn (uu (uu (uu M2 21 t (M2 21 t + 1)) 23 t ((uu M2 21 t (M2 21 t + 1)) 27 3)) 24 t ((uu M2 21 t (M2 21 t + 1)) 27 4)) (nI b)) 7 4 (bgn (uu (uu (uu M2 21 t (M2 21 t + 1)) 23 t ((uu M2 21 t (M2 21 t + 1)) 27 3)) 24 t ((uu M2 21 t (M2 21 t + 1)) 27 4)) (nI b) 7 4 + 1))) (i := 0 + 1 + 1) (lg1 := lg2) (bg1 := bg2 + 1) ih hb1 (by omega) hb3 hb4 (by omega) (by omega) hy1 hy2 ht1 (by omega) (by rw [sR_n (by omega), e72]; exact nI_ge (b := 300) (by omega) (by omega)) rfl ⟨rg, h2, h3', ?_, fun a j ha hb hj => (gg a j (by omega)).trans (h5 a j ha hb hj), ?_, (gg 27 5 (by omega)).trans h7, (gg 20 t (by omega)).trans h8, (gg 21 t (by omega)).trans h9, (gg 27 1 (by omega)).trans h10, (gg 27 2 (by omega)).trans h11⟩ (Reach_tr hR2 (reach_go (md_v m2) (md_t m2) (by omega) (fun q hq => gb q (beg_go e72' (by omega) h6 (by omega) ⟨fun z => absurd z (by decide), fun _ => hq⟩)))) ?_ ?_ ?_ (fun q hq => by have := fo q hq; omega) k4 ?_
    · obtain ⟨q1, q2, q3, q4⟩ := h4
      exact ⟨(gg 27 8 (by omega)).trans q1, (gg 27 9 (by omega)).trans q2, (gg 27 10 (by omega)).trans q3, (gg 27 11 (by omega)).trans q4⟩
    · rw [uu_n (by omega)]; exact b1
    · rw [uu_n (by omega)]; exact b2
    · rw [uu_n (by omega)]; exact b3
    · rw [uu_n (by omega)]; exact b4
    · intro q S3 M3 mk3 lg3 bg3 dp3 m3 hR3 hmk3 hdp3 hcr3 hfr3
      have hq4 := hcr3.1
      have hq6 : q < 6 := by omega
      have c33 : (uu M3 21 t (M3 21 t + 1)) 27 3 = nI q := (uu_n (by omega)).trans hcr3.2.1
      have p3 : Pm ρ.2.2.1 (uu M3 21 t (M3 21 t + 1)) := (md_i m3).1.2.1
      have hM30 : (uu M3 21 t (M3 21 t + 1)) 10 k = nI 14 := md_10 (md_i m3) hd
      have c23 : (uu M3 21 t (M3 21 t + 1)) 23 t = nI r := by rw [uu_n (by omega), hfr3 23 (by omega) (by omega), gg 23 t (by omega), uu_n (by omega), uu_same]; exact c3
      have c24 : (uu M3 21 t (M3 21 t + 1)) 24 t = M2 27 4 := by rw [uu_n (by omega), hfr3 24 (by omega) (by omega), gg 24 t (by omega), uu_same, uu_n (by omega)]
      obtain ⟨a1, a2, a3, a4, a5, a6, a7, a8, a9, a10, a11⟩ := md_i m3
      have ga : ∀ z : Unit → Rg → Prop, wxQ_atLast z (uu M3 21 t (M3 21 t + 1)) (nI t) (nI k) (M3 21 t) → wxQ_go z M3 := fun z h => go_14 (md_t m3) (by omega) (md_k m3) hk64 (md_10 m3 hd) h
      have at2 : ∀ {z : Unit → Rg → Prop}, (((¬ (((uu M3 21 t (M3 21 t + 1)) 10 k) = (15 : Int32))) → ((¬ (((uu M3 21 t (M3 21 t + 1)) 27 3) = (0 : Int32))) → wxQ_end (fun (_ : Unit) S7 => z () S7) (uu M3 21 t (M3 21 t + 1)) ((uu M3 21 t (M3 21 t + 1)) 27 3) ((uu M3 21 t (M3 21 t + 1)) 27 4)) ∧ ((((uu M3 21 t (M3 21 t + 1)) 27 3) = (0 : Int32)) → (vp_in (nI t) 112) ∧ wxQ_end (fun (_ : Unit) S10 => z () S10) (uu M3 21 t (M3 21 t + 1)) ((uu M3 21 t (M3 21 t + 1)) 23 t) ((uu M3 21 t (M3 21 t + 1)) 24 t))) ∧ ((((uu M3 21 t (M3 21 t + 1)) 10 k) = (15 : Int32)) → (vp_in (nI t) 112) ∧ ((¬ (((uu M3 21 t (M3 21 t + 1)) 23 t) = (3 : Int32))) → ((¬ (((uu M3 21 t (M3 21 t + 1)) 27 3) = (0 : Int32))) → wxQ_end (fun (_ : Unit) S15 => z () S15) (uu M3 21 t (M3 21 t + 1)) ((uu M3 21 t (M3 21 t + 1)) 27 3) ((uu M3 21 t (M3 21 t + 1)) 27 4)) ∧ ((((uu M3 21 t (M3 21 t + 1)) 27 3) = (0 : Int32)) → wxQ_end (fun (_ : Unit) S17 => z () S17) (uu M3 21 t (M3 21 t + 1)) ((uu M3 21 t (M3 21 t + 1)) 23 t) ((uu M3 21 t (M3 21 t + 1)) 24 t))) ∧ ((((uu M3 21 t (M3 21 t + 1)) 23 t) = (3 : Int32)) → ((¬ (((uu M3 21 t (M3 21 t + 1)) 27 3) = (3 : Int32))) → wxQ_end (fun (_ : Unit) S20 => z () S20) (uu M3 21 t (M3 21 t + 1)) ((uu M3 21 t (M3 21 t + 1)) 23 t) ((uu M3 21 t (M3 21 t + 1)) 24 t)) ∧ ((((uu M3 21 t (M3 21 t + 1)) 27 3) = (3 : Int32)) → (vp_in ((uu M3 21 t (M3 21 t + 1)) 24 t) 302) ∧ wxQ_end (fun (_ : Unit) S23 => z () S23) (uu (uu M3 21 t (M3 21 t + 1)) 6 (((uu M3 21 t (M3 21 t + 1)) 24 t).toNatClampNeg) (((uu M3 21 t (M3 21 t + 1)) 6 (((uu M3 21 t (M3 21 t + 1)) 24 t).toNatClampNeg)) + 1)) ((uu M3 21 t (M3 21 t + 1)) 23 t) ((uu M3 21 t (M3 21 t + 1)) 24 t))))) → wxQ_atLast z (uu M3 21 t (M3 21 t + 1)) (nI t) (nI k) (M3 21 t) := by
        intro z h
        unfold wxQ_atLast
        rw [ck, ct]
        exact ⟨fun _ => ⟨fun _ => ⟨vk, h⟩, fun z => absurd ((md_s m3).symm.trans z) (by decide)⟩, fun z => absurd ((md_s m3).symm.trans z) (by decide)⟩
      have rst : (∀ z : Unit → Rg → Prop, z () (en (uu M3 21 t (M3 21 t + 1)) ((uu M3 21 t (M3 21 t + 1)) 23 t) ((uu M3 21 t (M3 21 t + 1)) 24 t)) → wxQ_go z M3) → post r (sC (sR S3 7 6 (S2.1 7 6)) 300 (S2.2 300)) := by
        intro hg
        refine mdend (w := (uu M3 21 t (M3 21 t + 1)) 23 t) (v := (uu M3 21 t (M3 21 t + 1)) 24 t) hpost hR3 (md_v m3) (md_t m3) ht (Rn_c (i := 300) (o := S2.2 300) (Rn_k (v := S2.1 7 6) (Rn_s a1)) (by omega)) a2.1 a2.2 hc4 ((sC_n (by omega)).trans a3.1) ((sC_n (by omega)).trans a3.2) a4 ⟨a5, a10.trans f1.symm, a11.trans f2.symm⟩ a7 a6 c23 (fun z => c24.trans ((hcr.2.2.1 z).trans (show S2.1 7 6 = (sR S3 7 6 (S2.1 7 6)).1 7 6 from sR_same.symm))) (fun z => ?_) hg
        obtain ⟨j, j1, j2, j3⟩ := hcr.2.2.2 z
        exact ⟨j, by omega, sC_same.trans j2, c24.trans j3⟩
      refine ⟨fun _ => ?_, fun z => absurd (hd.symm.trans z) (by decide)⟩
      exact ⟨hq6, fun hq0 => ⟨fun _ => rst (fun z h => ga z (at2 ⟨fun _ => ⟨fun z => absurd (c33.trans (by rw [hq0]; rfl)) z, fun _ => ⟨vt, h⟩⟩, fun z => absurd (hM30.symm.trans z) (by decide)⟩)), fun z => absurd rfl z⟩, fun hq0 => ⟨fun z => absurd rfl z, fun _ => mdpass m3 hF hR3 hcr3 ht hpost (fun z h => ga z (at2 ⟨fun _ => ⟨fun _ => h, fun z => absurd (c33.symm.trans z) (nI_nq (b := 0) (by omega) (by omega) hq0)⟩, fun z => absurd (hM30.symm.trans z) (by decide)⟩))⟩⟩
theorem cp_15 (ih : SimT ρ c lm d) (hP : Pv ρ.2.2.1 ρ.2.1 c lm) (hk : k < ρ.2.1) (hl1 : 1 ≤ lv) (hl8 : lv ≤ 8) (hms : (lm - yd) * 8 + lv ≤ d + 1) (hy1 : 1 ≤ yd) (hy2 : yd ≤ lm) (ht1 : t + 1 + d ≤ 111) (hR : Rn ρ.2.2.1 c (s + 1) S M mk lg bg dp) (hdp : yd ≤ dp) (hF : Fr M t k yd o mk) (hpost : ∀ r S' M', Dn ρ.2.2.1 c s t S M mk dp r S' M' → Reach M M' → post r S') (hd : ρ.2.2.1 0 k = nI 15) (hok : nOk ρ.2.2.1 ρ.2.1 c k lv 15) : wbody (wxM_perform (d + 1)) post ρ S k (nI yd) o := by
  have hk64 : k < 64 := by have := hP.1.1; omega
  have hn64 := hP.1.1
  have hlm := hP.2.2.1.2.1
  have hb := Rn_bd hR
  have hc16 := hP.2.1.2.1
  have ht : t ≤ 111 := by omega
  obtain ⟨f0, f5, f20, f21, f22, f1, f2, fo⟩ := id hF
  have m0 := md_0 hR hF
  have m1 := md_i m0
  have pM : Pm ρ.2.2.1 (uu M 21 t (M 21 t + 1)) := m1.1.2.1
  have ck : (nI k).toNatClampNeg = k := nI_clamp (by omega)
  have ct : (nI t).toNatClampNeg = t := nI_clamp (by omega)
  have vk : vp_in (nI k) 64 := vp_in_nI hk64 (by omega)
  have vt : vp_in (nI t) 112 := vp_in_nI (by omega) (by omega)
  have hM : M 10 k = nI 15 := md_10 m0 hd
  obtain ⟨⟨a, la, ha1, ha2, ha3, ha4, ha5⟩, ⟨b, lb, hb1, hb2, hb3, hb4, hb5⟩⟩ := hok
  refine wb_15 hk hd ⟨hk, ?_⟩
  rw [ha2]
  refine stp ih ha1 (by omega) ha3 ha4 (by omega) (by omega) hy1 hy2 ht1 hdp m1 Reach_rf f5 f0 (fun q h => go_15 f0 (by omega) f20 hk64 hM ?_) fo (fun r S2 M2 hr hD hR2 => ⟨hD.1, fun z => absurd z (er_1 hr hD.1), fun _ => hpost r S2 M2 hD hR2⟩) ?_
  · unfold wxQ_atLast
    rw [ck, pM.2.1, ha2]
    exact ⟨fun z => absurd f21 z, fun _ => ⟨vk, h⟩⟩
  intro r S2 M2 mk2 lg2 bg2 dp2 m2 hR2 hmk hdp2 hcr hfr
  have hM2 := md_10 m2 hd
  have hc4 := hcr.1
  have c3 : (uu M2 21 t (M2 21 t + 1)) 27 3 = nI r := (uu_n (by omega)).trans hcr.2.1
  have p2 : Pm ρ.2.2.1 (uu M2 21 t (M2 21 t + 1)) := (md_i m2).1.2.1
  have e72 := m2.1.2.2.1.2.2.1
  have hbd := Rn_bd m2.1
  have hm2 := m2.2.1
  have m1' : Md ρ.2.2.1 c (s + 1) t k S M mk dp (0 + 1 + 1) (t + 1) S2 (uu (uu (uu M2 21 t (M2 21 t + 1)) 23 t ((uu M2 21 t (M2 21 t + 1)) 27 3)) 24 t ((uu M2 21 t (M2 21 t + 1)) 27 4)) mk2 lg2 bg2 dp2 yd o := md_f (md_f (md_i m2) (by omega) (by omega)) (by omega) (by omega)
  have e72' : (uu (uu (uu M2 21 t (M2 21 t + 1)) 23 t ((uu M2 21 t (M2 21 t + 1)) 27 3)) 24 t ((uu M2 21 t (M2 21 t + 1)) 27 4)) 7 2 = nI bg2 := (m1'.1.1.2 2 (by omega)).trans e72
  have gb : ∀ q : Unit → Rg → Prop, wxQ_begin (fun r26 S27 => ((r26 = (0 : Int32)) → q () S27) ∧ ((¬ (r26 = (0 : Int32))) → q () (uu S27 7 4 ((S27 7 4) + 1)))) (uu (uu (uu M2 21 t (M2 21 t + 1)) 23 t ((uu M2 21 t (M2 21 t + 1)) 27 3)) 24 t ((uu M2 21 t (M2 21 t + 1)) 27 4)) (nI b) → wxQ_go q M2 := by
    intro q h
    refine go_15 (md_t m2) (by omega) (md_k m2) hk64 hM2 ?_
    unfold wxQ_atLast
    rw [ck, ct]
    refine ⟨fun _ => ⟨fun z => absurd (md_s m2) z, fun _ => ⟨vt, vk, ?_⟩⟩, fun z => absurd ((md_s m2).symm.trans z) (by decide)⟩
    rw [p2.2.2.1, hb2]
    exact h
  have k4 : ∀ (q : Nat) (S3 : Sg) (M3 : Rg), 4 ≤ q → Dn ρ.2.2.1 c s t S M mk dp q S3 M3 → Reach M M3 → (fun r2 S3 => ((¬ ((ρ.2.2.1 0 k) = (15 : Int32))) → wxM_doBoth_c94 (wxM_perform (d + 1)) post ρ k (nI yd) o S3 r (S2.1 7 6) (S2.2 300) r2 (0 : Int32)) ∧ (((ρ.2.2.1 0 k) = (15 : Int32)) → (r < 6) ∧ ((¬ (r = 3)) → wxM_doBoth_c94 (wxM_perform (d + 1)) post ρ k (nI yd) o S3 r (S2.1 7 6) (S2.2 300) r2 (0 : Int32)) ∧ ((r = 3) → (r2 < 6) ∧ ((¬ ((er r2) = (0 : Int32))) → wxM_doBoth_c94 (wxM_perform (d + 1)) post ρ k (nI yd) o S3 r (S2.1 7 6) (S2.2 300) r2 (0 : Int32)) ∧ (((er r2) = (0 : Int32)) → wxM_doBoth_c94 (wxM_perform (d + 1)) post ρ k (nI yd) o S3 r (S2.1 7 6) (S2.2 300) r2 (1 : Int32))))) q S3 := by
    intro q S3 M3 hr4 hD hR3
    have hr6 := hD.1
    have h94 : wxM_doBoth_c94 (wxM_perform (d + 1)) post ρ k (nI yd) o S3 r (S2.1 7 6) (S2.2 300) q 0 := ⟨hr6, (fun z => absurd z (by omega)), fun _ => ⟨fun z => absurd rfl z, fun _ => hpost q S3 M3 hD hR3⟩⟩
    exact ⟨fun z => absurd hd z, fun _ => ⟨by omega, fun _ => h94, fun _ => ⟨hr6, fun _ => h94, fun z => absurd z (er_1 hr4 hr6)⟩⟩⟩
  refine ⟨by omega, fun _ => ?_, fun z => absurd (er_0 hc4) z⟩
  unfold wxM_mayBegin
  rw [e72]
  by_cases h300 : bg2 = 300
  · subst h300
    refine ⟨fun _ => ⟨fun _ => ⟨hk, ?_⟩, fun z => absurd rfl z⟩, fun z => absurd (by decide) z⟩
    exact stp_t (K := (fun r2 S3 => ((¬ ((ρ.2.2.1 0 k) = (15 : Int32))) → wxM_doBoth_c94 (wxM_perform (d + 1)) post ρ k (nI yd) o S3 r (S2.1 7 6) (S2.2 300) r2 (0 : Int32)) ∧ (((ρ.2.2.1 0 k) = (15 : Int32)) → (r < 6) ∧ ((¬ (r = 3)) → wxM_doBoth_c94 (wxM_perform (d + 1)) post ρ k (nI yd) o S3 r (S2.1 7 6) (S2.2 300) r2 (0 : Int32)) ∧ ((r = 3) → (r2 < 6) ∧ ((¬ ((er r2) = (0 : Int32))) → wxM_doBoth_c94 (wxM_perform (d + 1)) post ρ k (nI yd) o S3 r (S2.1 7 6) (S2.2 300) r2 (0 : Int32)) ∧ (((er r2) = (0 : Int32)) → wxM_doBoth_c94 (wxM_perform (d + 1)) post ρ k (nI yd) o S3 r (S2.1 7 6) (S2.2 300) r2 (1 : Int32)))))) m1' (Reach_tr hR2 (reach_go (md_v m2) (md_t m2) (by omega) (fun q hq => gb q (beg_tired e72' ⟨fun _ => hq, fun z => absurd rfl z⟩)))) (fun M3 hD hR3 => k4 5 S2 M3 (by omega) hD hR3)
  · refine ⟨fun z => absurd z (nI_ge (b := 300) (by omega) (by omega)), fun _ => ⟨fun z => absurd z (by decide), fun _ => ⟨hk, ?_⟩⟩⟩
    rw [hb2]
    obtain ⟨h1, h2, h3', h4, h5, h6, h7, h8, h9, h10, h11⟩ := m1'
    obtain ⟨b1, b2, b3, b4⟩ := bgn_f (x := nI b) h6 (by omega)
    have bn : ∀ a j, ((a ≠ 7 ∧ a ≠ 27 ∧ j ≠ t + 1) ∨ (22 < a ∧ a < 26) ∨ (a = 7 ∧ j = 4) ∨ (a = 27 ∧ j ≠ 0)) → bgn (uu (uu (uu M2 21 t (M2 21 t + 1)) 23 t ((uu M2 21 t (M2 21 t + 1)) 27 3)) 24 t ((uu M2 21 t (M2 21 t + 1)) 27 4)) (nI b) a j = (uu (uu (uu M2 21 t (M2 21 t + 1)) 23 t ((uu M2 21 t (M2 21 t + 1)) 27 3)) 24 t ((uu M2 21 t (M2 21 t + 1)) 27 4)) a j := fun a j hh => bgn_n h6 (by omega) (by omega)
    have gg : ∀ a j, ((a ≠ 7 ∧ a ≠ 27 ∧ j ≠ t + 1) ∨ (22 < a ∧ a < 26) ∨ (a = 27 ∧ j ≠ 0)) → (uu (bgn (uu (uu (uu M2 21 t (M2 21 t + 1)) 23 t ((uu M2 21 t (M2 21 t + 1)) 27 3)) 24 t ((uu M2 21 t (M2 21 t + 1)) 27 4)) (nI b)) 7 4 (bgn (uu (uu (uu M2 21 t (M2 21 t + 1)) 23 t ((uu M2 21 t (M2 21 t + 1)) 27 3)) 24 t ((uu M2 21 t (M2 21 t + 1)) 27 4)) (nI b) 7 4 + 1)) a j = (uu (uu (uu M2 21 t (M2 21 t + 1)) 23 t ((uu M2 21 t (M2 21 t + 1)) 27 3)) 24 t ((uu M2 21 t (M2 21 t + 1)) 27 4)) a j := fun a j hh => by
      rw [uu_n (by omega)]; exact bn a j (by omega)
    have rg : Rn ρ.2.2.1 c (s + 2) (sB (sR S2 7 4 (S2.1 7 4 + 1)) (nI yd)) (uu (bgn (uu (uu (uu M2 21 t (M2 21 t + 1)) 23 t ((uu M2 21 t (M2 21 t + 1)) 27 3)) 24 t ((uu M2 21 t (M2 21 t + 1)) 27 4)) (nI b)) 7 4 (bgn (uu (uu (uu M2 21 t (M2 21 t + 1)) 23 t ((uu M2 21 t (M2 21 t + 1)) 27 3)) 24 t ((uu M2 21 t (M2 21 t + 1)) 27 4)) (nI b) 7 4 + 1)) mk2 lg2 (bg2 + 1) dp2 := by
      rw [← bgn_7 (by omega)]
      exact Rn_sB (Rn_t h1 (Or.inr rfl) (by rw [bn 7 4 (by omega), h1.1.2 4 (by omega)])) (by omega) (by omega)
    refine stp_g (K := (fun r2 S3 => ((¬ ((ρ.2.2.1 0 k) = (15 : Int32))) → wxM_doBoth_c94 (wxM_perform (d + 1)) post ρ k (nI yd) o S3 r (S2.1 7 6) (S2.2 300) r2 (0 : Int32)) ∧ (((ρ.2.2.1 0 k) = (15 : Int32)) → (r < 6) ∧ ((¬ (r = 3)) → wxM_doBoth_c94 (wxM_perform (d + 1)) post ρ k (nI yd) o S3 r (S2.1 7 6) (S2.2 300) r2 (0 : Int32)) ∧ ((r = 3) → (r2 < 6) ∧ ((¬ ((er r2) = (0 : Int32))) → wxM_doBoth_c94 (wxM_perform (d + 1)) post ρ k (nI yd) o S3 r (S2.1 7 6) (S2.2 300) r2 (0 : Int32)) ∧ (((er r2) = (0 : Int32)) → wxM_doBoth_c94 (wxM_perform (d + 1)) post ρ k (nI yd) o S3 r (S2.1 7 6) (S2.2 300) r2 (1 : Int32)))))) (S1 := sB (sR S2 7 4 (S2.1 7 4 + 1)) (nI yd)) (M1 := (uu (bgn (uu (uu (uu M2 21 t (M2 21 t + 1)) 23 t ((uu M2 21 t (M2 21 t + 1)) 27 3)) 24 t ((uu M2 21 t (M2 21 t + 1)) 27 4)) (nI b)) 7 4 (bgn (uu (uu (uu M2 21 t (M2 21 t + 1)) 23 t ((uu M2 21 t (M2 21 t + 1)) 27 3)) 24 t ((uu M2 21 t (M2 21 t + 1)) 27 4)) (nI b) 7 4 + 1))) (i := 0 + 1 + 1) (lg1 := lg2) (bg1 := bg2 + 1) ih hb1 (by omega) hb3 hb4 (by omega) (by omega) hy1 hy2 ht1 (by omega) (by rw [sR_n (by omega), e72]; exact nI_ge (b := 300) (by omega) (by omega)) rfl ⟨rg, h2, h3', ?_, fun a j ha hb hj => (gg a j (by omega)).trans (h5 a j ha hb hj), ?_, (gg 27 5 (by omega)).trans h7, (gg 20 t (by omega)).trans h8, (gg 21 t (by omega)).trans h9, (gg 27 1 (by omega)).trans h10, (gg 27 2 (by omega)).trans h11⟩ (Reach_tr hR2 (reach_go (md_v m2) (md_t m2) (by omega) (fun q hq => gb q (beg_go e72' (by omega) h6 (by omega) ⟨fun z => absurd z (by decide), fun _ => hq⟩)))) ?_ ?_ ?_ (fun q hq => by have := fo q hq; omega) k4 ?_
    · obtain ⟨q1, q2, q3, q4⟩ := h4
      exact ⟨(gg 27 8 (by omega)).trans q1, (gg 27 9 (by omega)).trans q2, (gg 27 10 (by omega)).trans q3, (gg 27 11 (by omega)).trans q4⟩
    · rw [uu_n (by omega)]; exact b1
    · rw [uu_n (by omega)]; exact b2
    · rw [uu_n (by omega)]; exact b3
    · rw [uu_n (by omega)]; exact b4
    · intro q S3 M3 mk3 lg3 bg3 dp3 m3 hR3 hmk3 hdp3 hcr3 hfr3
      have hq4 := hcr3.1
      have hq6 : q < 6 := by omega
      have c33 : (uu M3 21 t (M3 21 t + 1)) 27 3 = nI q := (uu_n (by omega)).trans hcr3.2.1
      have p3 : Pm ρ.2.2.1 (uu M3 21 t (M3 21 t + 1)) := (md_i m3).1.2.1
      have hM30 : (uu M3 21 t (M3 21 t + 1)) 10 k = nI 15 := md_10 (md_i m3) hd
      have c23 : (uu M3 21 t (M3 21 t + 1)) 23 t = nI r := by rw [uu_n (by omega), hfr3 23 (by omega) (by omega), gg 23 t (by omega), uu_n (by omega), uu_same]; exact c3
      have c24 : (uu M3 21 t (M3 21 t + 1)) 24 t = M2 27 4 := by rw [uu_n (by omega), hfr3 24 (by omega) (by omega), gg 24 t (by omega), uu_same, uu_n (by omega)]
      obtain ⟨a1, a2, a3, a4, a5, a6, a7, a8, a9, a10, a11⟩ := md_i m3
      have ga : ∀ z : Unit → Rg → Prop, wxQ_atLast z (uu M3 21 t (M3 21 t + 1)) (nI t) (nI k) (M3 21 t) → wxQ_go z M3 := fun z h => go_15 (md_t m3) (by omega) (md_k m3) hk64 (md_10 m3 hd) h
      have at2 : ∀ {z : Unit → Rg → Prop}, (((¬ (((uu M3 21 t (M3 21 t + 1)) 10 k) = (15 : Int32))) → ((¬ (((uu M3 21 t (M3 21 t + 1)) 27 3) = (0 : Int32))) → wxQ_end (fun (_ : Unit) S7 => z () S7) (uu M3 21 t (M3 21 t + 1)) ((uu M3 21 t (M3 21 t + 1)) 27 3) ((uu M3 21 t (M3 21 t + 1)) 27 4)) ∧ ((((uu M3 21 t (M3 21 t + 1)) 27 3) = (0 : Int32)) → (vp_in (nI t) 112) ∧ wxQ_end (fun (_ : Unit) S10 => z () S10) (uu M3 21 t (M3 21 t + 1)) ((uu M3 21 t (M3 21 t + 1)) 23 t) ((uu M3 21 t (M3 21 t + 1)) 24 t))) ∧ ((((uu M3 21 t (M3 21 t + 1)) 10 k) = (15 : Int32)) → (vp_in (nI t) 112) ∧ ((¬ (((uu M3 21 t (M3 21 t + 1)) 23 t) = (3 : Int32))) → ((¬ (((uu M3 21 t (M3 21 t + 1)) 27 3) = (0 : Int32))) → wxQ_end (fun (_ : Unit) S15 => z () S15) (uu M3 21 t (M3 21 t + 1)) ((uu M3 21 t (M3 21 t + 1)) 27 3) ((uu M3 21 t (M3 21 t + 1)) 27 4)) ∧ ((((uu M3 21 t (M3 21 t + 1)) 27 3) = (0 : Int32)) → wxQ_end (fun (_ : Unit) S17 => z () S17) (uu M3 21 t (M3 21 t + 1)) ((uu M3 21 t (M3 21 t + 1)) 23 t) ((uu M3 21 t (M3 21 t + 1)) 24 t))) ∧ ((((uu M3 21 t (M3 21 t + 1)) 23 t) = (3 : Int32)) → ((¬ (((uu M3 21 t (M3 21 t + 1)) 27 3) = (3 : Int32))) → wxQ_end (fun (_ : Unit) S20 => z () S20) (uu M3 21 t (M3 21 t + 1)) ((uu M3 21 t (M3 21 t + 1)) 23 t) ((uu M3 21 t (M3 21 t + 1)) 24 t)) ∧ ((((uu M3 21 t (M3 21 t + 1)) 27 3) = (3 : Int32)) → (vp_in ((uu M3 21 t (M3 21 t + 1)) 24 t) 302) ∧ wxQ_end (fun (_ : Unit) S23 => z () S23) (uu (uu M3 21 t (M3 21 t + 1)) 6 (((uu M3 21 t (M3 21 t + 1)) 24 t).toNatClampNeg) (((uu M3 21 t (M3 21 t + 1)) 6 (((uu M3 21 t (M3 21 t + 1)) 24 t).toNatClampNeg)) + 1)) ((uu M3 21 t (M3 21 t + 1)) 23 t) ((uu M3 21 t (M3 21 t + 1)) 24 t))))) → wxQ_atLast z (uu M3 21 t (M3 21 t + 1)) (nI t) (nI k) (M3 21 t) := by
        intro z h
        unfold wxQ_atLast
        rw [ck, ct]
        exact ⟨fun _ => ⟨fun _ => ⟨vk, h⟩, fun z => absurd ((md_s m3).symm.trans z) (by decide)⟩, fun z => absurd ((md_s m3).symm.trans z) (by decide)⟩
      have rst : (∀ z : Unit → Rg → Prop, z () (en (uu M3 21 t (M3 21 t + 1)) ((uu M3 21 t (M3 21 t + 1)) 23 t) ((uu M3 21 t (M3 21 t + 1)) 24 t)) → wxQ_go z M3) → post r (sC (sR S3 7 6 (S2.1 7 6)) 300 (S2.2 300)) := by
        intro hg
        refine mdend (w := (uu M3 21 t (M3 21 t + 1)) 23 t) (v := (uu M3 21 t (M3 21 t + 1)) 24 t) hpost hR3 (md_v m3) (md_t m3) ht (Rn_c (i := 300) (o := S2.2 300) (Rn_k (v := S2.1 7 6) (Rn_s a1)) (by omega)) a2.1 a2.2 hc4 ((sC_n (by omega)).trans a3.1) ((sC_n (by omega)).trans a3.2) a4 ⟨a5, a10.trans f1.symm, a11.trans f2.symm⟩ a7 a6 c23 (fun z => c24.trans ((hcr.2.2.1 z).trans (show S2.1 7 6 = (sR S3 7 6 (S2.1 7 6)).1 7 6 from sR_same.symm))) (fun z => ?_) hg
        obtain ⟨j, j1, j2, j3⟩ := hcr.2.2.2 z
        exact ⟨j, by omega, sC_same.trans j2, c24.trans j3⟩
      refine ⟨fun z => absurd hd z, fun _ => ⟨by omega, fun hr3 => ?_, fun hr3 => ⟨by omega, fun z => absurd (er_0 hcr3.1) z, fun _ => ?_⟩⟩⟩
      · exact ⟨hq6, fun hq0 => ⟨fun _ => rst (fun z h => ga z (at2 ⟨fun z => absurd hM30 z, fun _ => ⟨vt, fun _ => ⟨fun z => absurd (c33.trans (by rw [hq0]; rfl)) z, fun _ => h⟩, fun z => absurd (c23.symm.trans z) (nI_nq (b := 3) (by omega) (by omega) hr3)⟩⟩)), fun z => absurd rfl z⟩, fun hq0 => ⟨fun z => absurd rfl z, fun _ => mdpass m3 hF hR3 hcr3 ht hpost (fun z h => ga z (at2 ⟨fun z => absurd hM30 z, fun _ => ⟨vt, fun _ => ⟨fun _ => h, fun z => absurd (c33.symm.trans z) (nI_nq (b := 0) (by omega) (by omega) hq0)⟩, fun z => absurd (c23.symm.trans z) (nI_nq (b := 3) (by omega) (by omega) hr3)⟩⟩))⟩⟩
      · have c112 : wxM_doBoth_c112 (wxM_perform (d + 1)) post ρ k (nI yd) o S3 r (S2.1 7 6) (S2.2 300) q 1 := by
          refine ⟨fun z => absurd z (by decide), fun _ => ⟨by omega, fun hq3 => ?_, fun hq3 => ?_⟩⟩
          · exact rst (fun z h => ga z (at2 ⟨fun z => absurd hM30 z, fun _ => ⟨vt, fun z => absurd (c23.trans (by rw [hr3]; rfl)) z, fun _ => ⟨fun _ => h, fun z => absurd (c33.symm.trans z) (nI_nq (b := 3) (by omega) (by omega) hq3)⟩⟩⟩))
          · obtain ⟨j, j1, j2, j3⟩ := hcr.2.2.2 hr3
            have hb3 := Rn_bd m3.1
            have e24 : (uu M3 21 t (M3 21 t + 1)) 24 t = nI j := c24.trans j3
            refine ⟨j, j2, by omega, ?_⟩
            have rs := Rn_c (i := 300) (o := some j) (Rn_k (v := S2.1 7 6) (Rn_sup (j := j) a1 (by omega))) (by omega)
            refine mdend (w := (uu M3 21 t (M3 21 t + 1)) 23 t) (v := (uu M3 21 t (M3 21 t + 1)) 24 t) hpost hR3 (md_v m3) (md_t m3) ht rs a2.1 a2.2 hc4 ((sC_n (by omega)).trans a3.1) ((sC_n (by omega)).trans a3.2) (Kp_u a4 (by omega)) ⟨fun a j ha hb hj => (uu_n (by omega)).trans (a5 a j ha hb hj), (uu_n (by omega)).trans (a10.trans f1.symm), (uu_n (by omega)).trans (a11.trans f2.symm)⟩ ((uu_n (by omega)).trans a7) ((uu_n (by omega)).trans a6) c23 (fun z => absurd z (by omega)) (fun z => ⟨j, by omega, sC_same, e24⟩) (fun z h => ga z (at2 ⟨fun z => absurd hM30 z, fun _ => ⟨vt, fun z => absurd (c23.trans (by rw [hr3]; rfl)) z, fun _ => ⟨fun z => absurd (c33.trans (by rw [hq3]; rfl)) z, fun _ => ?_⟩⟩⟩))
            rw [e24, nI_clamp (by omega)]
            rw [e24] at h
            exact ⟨vp_in_nI (by omega) (by omega), h⟩
        exact ⟨by omega, fun _ => c112, fun _ => ⟨fun _ => c112, fun z => absurd z (by decide)⟩⟩
end LC
