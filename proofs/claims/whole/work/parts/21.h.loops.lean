section LC
variable {ρ : Rh} {c lm d s t k yd mk lg bg dp lv : Nat} {S : Sg} {M : Rg} {o : Option Nat} {post : Nat → Sg → Prop}

theorem cp_6 (ih : SimT ρ c lm d) (hP : Pv ρ.2.2.1 ρ.2.1 c lm) (hk : k < ρ.2.1) (hl1 : 1 ≤ lv) (hl8 : lv ≤ 8) (hms : (lm - yd) * 8 + lv ≤ d + 1) (hy1 : 1 ≤ yd) (hy2 : yd ≤ lm) (ht1 : t + 1 + d ≤ 111) (hR : Rn ρ.2.2.1 c (s + 1) S M mk lg bg dp) (hdp : yd ≤ dp) (hF : Fr M t k yd o mk) (hpost : ∀ r S' M', Dn ρ.2.2.1 c s t S M mk dp r S' M' → Reach M M' → post r S') (hd : ρ.2.2.1 0 k = nI 6) (hok : nOk ρ.2.2.1 ρ.2.1 c k lv 6) : wbody (wxM_perform (d + 1)) post ρ S k (nI yd) o := by
  have hk64 : k < 64 := by have := hP.1.1; omega
  have hn64 := hP.1.1
  have hlm := hP.2.2.1.2.1
  have hb := Rn_bd hR
  have hc16 := hP.2.1.2.1
  have ht : t ≤ 111 := by omega
  obtain ⟨f0, f5, f20, f21, f22, f1, f2, fo⟩ := id hF
  have m0 := md_0 hR hF
  have m1 := md_i m0
  have pM : Pm ρ.2.2.1 (uu M 21 t (M 21 t + 1)) := m1.1.2.1
  have ck : (nI k).toNatClampNeg = k := nI_clamp (by omega)
  have ct : (nI t).toNatClampNeg = t := nI_clamp (by omega)
  have vk : vp_in (nI k) 64 := vp_in_nI hk64 (by omega)
  have vt : vp_in (nI t) 112 := vp_in_nI (by omega) (by omega)
  have hM : M 10 k = nI 6 := md_10 m0 hd
  obtain ⟨⟨n, hn1, hn2, hn⟩, ⟨b, lb, hb1, hb2, hb3, hb4, hb5⟩⟩ := hok
  have fin : ∀ (j r : Nat) (S2 : Sg) (M2 : Rg) (mk2 lg2 bg2 dp2 : Nat), Md ρ.2.2.1 c (s + 1) t k S M mk dp j (t + 1) S2 M2 mk2 lg2 bg2 dp2 yd o → Reach M M2 → M2 22 t = nI j → 0 < j → j ≤ n → Cr r S2 M2 mk2 → (j = n ∨ r ≠ 0) → wxM_loop_c43 (wxM_perform (d + 1)) post ρ k (nI yd) o S2 r := by
    intro j r S2 M2 mk2 lg2 bg2 dp2 m2 hR2 h22 hj hjn hcr hor
    have hc4 := hcr.1
    have c3 : (uu M2 21 t (M2 21 t + 1)) 27 3 = nI r := (uu_n (by omega)).trans hcr.2.1
    have p2 : Pm ρ.2.2.1 (uu M2 21 t (M2 21 t + 1)) := (md_i m2).1.2.1
    have e11 : (uu M2 21 t (M2 21 t + 1)) 11 k = nI n := by rw [p2.2.1]; exact hn
    have e22 : (uu M2 21 t (M2 21 t + 1)) 22 t = nI j := (uu_n (by omega)).trans h22
    have nq : ¬ M2 21 t ≤ 0 := by rw [md_s m2]; exact nI_nle hj (by omega)
    have gl : ∀ q : Unit → Rg → Prop, wxQ_loop q (uu M2 21 t (M2 21 t + 1)) (nI t) (nI k) (M2 21 t) → wxQ_go q M2 := fun q h => go_6 (md_t m2) (by omega) (md_k m2) hk64 (md_10 m2 hd) h
    unfold wxM_loop_c43
    refine ⟨by omega, fun h1 => ?_, fun h1 => ?_⟩
    · by_cases h0 : r = 0
      · subst h0
        refine mdfin (r := 0) (v := 0) (w := 0) m2 hF hR2 ht hpost (by omega) rfl (fun z => absurd z (by omega)) (fun z => absurd z (by omega)) (fun q h => gl q ?_)
        unfold wxQ_loop
        rw [ct, ck, e22, e11]
        exact ⟨fun z => absurd z nq, fun _ => ⟨fun _ => ⟨vt, vk, fun z => absurd (by rw [show j = n by omega]) z, fun _ => h⟩, fun z => absurd c3 z⟩⟩
      · refine mdpass m2 hF hR2 hcr ht hpost (fun q h => gl q ?_)
        unfold wxQ_loop
        exact ⟨fun z => absurd z nq, fun _ => ⟨fun z => absurd (c3.symm.trans z) (nI_nq (b := 0) (by omega) (by omega) h0), fun _ => ⟨fun _ => h, fun z => absurd (c3.symm.trans z) (nI_nq (b := 1) (by omega) (by omega) h1)⟩⟩⟩
    · subst h1
      refine mdfin (r := 0) (v := (uu M2 21 t (M2 21 t + 1)) 27 4) (w := 0) m2 hF hR2 ht hpost (by omega) rfl (fun z => absurd z (by omega)) (fun z => absurd z (by omega)) (fun q h => gl q ?_)
      unfold wxQ_loop
      exact ⟨fun z => absurd z nq, fun _ => ⟨fun z => absurd (c3.symm.trans z) (by decide), fun _ => ⟨fun z => absurd c3 z, fun _ => h⟩⟩⟩
  have it : ∀ (m j r : Nat) (S2 : Sg) (M2 : Rg) (mk2 lg2 bg2 dp2 : Nat), m + j = n → Md ρ.2.2.1 c (s + 1) t k S M mk dp j (t + 1) S2 M2 mk2 lg2 bg2 dp2 yd o → Reach M M2 → M2 22 t = nI j → ((j = 0 ∧ r = 0) ∨ (0 < j ∧ Cr r S2 M2 mk2)) → wxM_loop_c8 (wxM_perform (d + 1)) post ρ k (nI yd) o (m + 1) S2 r (nI j) := by
    intro m
    induction m with
    | zero =>
      intro j r S2 M2 mk2 lg2 bg2 dp2 hmj m2 hR2 h22 hr
      unfold wxM_loop_c8
      rw [hn]
      refine ⟨hk, fun _ => ?_, fun z => absurd (nI_le (by omega) (by omega)) z⟩
      rcases hr with ⟨h1, h2⟩ | ⟨h1, h2⟩
      · exact absurd hmj (by omega)
      · exact fin j r S2 M2 mk2 lg2 bg2 dp2 m2 hR2 h22 h1 (by omega) h2 (Or.inl (by omega))
    | succ m ihm =>
      intro j r S2 M2 mk2 lg2 bg2 dp2 hmj m2 hR2 h22 hr
      unfold wxM_loop_c8
      rw [hn]
      refine ⟨hk, fun z => absurd z (nI_ge (by omega) (by omega)), fun _ => ⟨?_, fun hr0 => ?_, fun hr0 => ?_⟩⟩
      · rcases hr with ⟨h1, h2⟩ | ⟨h1, h2⟩
        · omega
        · have := h2.1; omega
      · rcases hr with ⟨h1, h2⟩ | ⟨h1, h2⟩
        · exact absurd h2 hr0
        · exact fin j r S2 M2 mk2 lg2 bg2 dp2 m2 hR2 h22 h1 (by omega) h2 (Or.inr hr0)
      · have p2 : Pm ρ.2.2.1 (uu M2 21 t (M2 21 t + 1)) := (md_i m2).1.2.1
        have e11 : (uu M2 21 t (M2 21 t + 1)) 11 k = nI n := by rw [p2.2.1]; exact hn
        have e22 : (uu M2 21 t (M2 21 t + 1)) 22 t = nI j := (uu_n (by omega)).trans h22
        have ne : ¬ (uu M2 21 t (M2 21 t + 1)) 22 t = (uu M2 21 t (M2 21 t + 1)) 11 k := by rw [e22, e11]; exact nI_nq (by omega) (by omega) (by omega)
        have hmm := m2.2.1
        rw [hb2, nI_1]
        refine stp (M1 := uu (uu M2 21 t (M2 21 t + 1)) 22 t ((uu M2 21 t (M2 21 t + 1)) 22 t + 1)) ih hb1 (by omega) hb3 hb4 (by omega) (by omega) hy1 hy2 ht1 (by omega) (md_f (md_i m2) (by omega) (by omega)) hR2 (md_v m2) (md_t m2) (fun q h => go_6 (md_t m2) (by omega) (md_k m2) hk64 (md_10 m2 hd) ?_) (fun j hj => by have := fo j hj; omega) (fun r S3 M3 hr4 hD hR3 => ?_) ?_
        · unfold wxQ_loop
          rw [ct, ck, p2.2.2.1, hb2]
          refine ⟨fun _ => ⟨vt, vk, fun _ => h, fun z => absurd z ne⟩, fun nq => ⟨fun _ => ⟨vt, vk, fun _ => h, fun z => absurd z ne⟩, fun z => ?_⟩⟩
          rcases hr with ⟨h1, h2⟩ | ⟨h1, h2⟩
          · exact absurd (by rw [md_s m2, h1]; decide) nq
          · subst hr0
            exact absurd ((uu_n (by omega)).trans h2.2.1) z
        · have r6 := hD.1
          have c43 : wxM_loop_c43 (wxM_perform (d + 1)) post ρ k (nI yd) o S3 r := ⟨r6, fun _ => hpost r S3 M3 hD hR3, fun z => absurd z (by omega)⟩
          unfold wxM_loop_c8
          exact ⟨hk, fun _ => c43, fun _ => ⟨r6, fun _ => c43, fun z => absurd z (by omega)⟩⟩
        · intro r S3 M3 mk3 lg3 bg3 dp3 m3 hR3 hmk3 hdp3 hcr3 hfr3
          exact ihm (j + 1) r S3 M3 mk3 lg3 bg3 dp3 (by omega) m3 hR3 (by rw [hfr3 22 (by omega) (by omega), uu_same, e22, nI_1]) (Or.inr ⟨by omega, hcr3⟩)
  exact wb_6 hk hd ⟨n + 1, it n 0 0 S M mk lg bg dp (by omega) m0 Reach_rf f22 (Or.inl ⟨rfl, rfl⟩)⟩
theorem cp_9 (ih : SimT ρ c lm d) (hP : Pv ρ.2.2.1 ρ.2.1 c lm) (hk : k < ρ.2.1) (hl1 : 1 ≤ lv) (hl8 : lv ≤ 8) (hms : (lm - yd) * 8 + lv ≤ d + 1) (hy1 : 1 ≤ yd) (hy2 : yd ≤ lm) (ht1 : t + 1 + d ≤ 111) (hR : Rn ρ.2.2.1 c (s + 1) S M mk lg bg dp) (hdp : yd ≤ dp) (hF : Fr M t k yd o mk) (hpost : ∀ r S' M', Dn ρ.2.2.1 c s t S M mk dp r S' M' → Reach M M' → post r S') (hd : ρ.2.2.1 0 k = nI 9) (hok : nOk ρ.2.2.1 ρ.2.1 c k lv 9) : wbody (wxM_perform (d + 1)) post ρ S k (nI yd) o := by
  have hk64 : k < 64 := by have := hP.1.1; omega
  have hn64 := hP.1.1
  have hlm := hP.2.2.1.2.1
  have hb := Rn_bd hR
  have hc16 := hP.2.1.2.1
  have ht : t ≤ 111 := by omega
  obtain ⟨f0, f5, f20, f21, f22, f1, f2, fo⟩ := id hF
  have m0 := md_0 hR hF
  have m1 := md_i m0
  have pM : Pm ρ.2.2.1 (uu M 21 t (M 21 t + 1)) := m1.1.2.1
  have ck : (nI k).toNatClampNeg = k := nI_clamp (by omega)
  have ct : (nI t).toNatClampNeg = t := nI_clamp (by omega)
  have vk : vp_in (nI k) 64 := vp_in_nI hk64 (by omega)
  have vt : vp_in (nI t) 112 := vp_in_nI (by omega) (by omega)
  have hM : M 10 k = nI 9 := md_10 m0 hd
  obtain ⟨v, hv1, hv⟩ := hok
  have cv : (nI v).toNatClampNeg = v := nI_clamp (by omega)
  have e11 : (uu M 21 t (M 21 t + 1)) 11 k = nI v := by rw [pM.2.1]; exact hv
  have e15 : (uu M 21 t (M 21 t + 1)) 15 v = ρ.2.2.1 5 v := pM.2.2.2.2.2.1 v hv1
  have eL : ρ.2.2.1 7 3 = nI lm := hP.2.2.1.2.2
  have e17 : (uu M 21 t (M 21 t + 1)) 17 3 = nI lm := (pM.2.2.2.2.2.2.2 3 (by omega)).trans eL
  have z1 : (uu M 21 t (M 21 t + 1)) 27 1 = nI yd := (uu_n (by omega)).trans f1
  have z2 : (uu M 21 t (M 21 t + 1)) 27 2 = cI o := (uu_n (by omega)).trans f2
  have gc : ∀ q : Unit → Rg → Prop, wxQ_call q (uu M 21 t (M 21 t + 1)) (nI t) (nI k) (M 21 t) → wxQ_go q M := fun q h => go_9 f0 (by omega) f20 hk64 hM h
  refine wb_9 hk hd ?_
  unfold wxM_call wxP_isDefined wxP_isRoutine
  rw [hv, cv]
  refine ⟨hk, fun z => absurd z (nI_pos (by omega)), fun _ => ⟨fun z => absurd z (nI_ge (b := 6) hv1 (by omega)), fun _ => ⟨fun z => absurd z (by decide), fun _ => ⟨vp_in_nI hv1 (by omega), fun hm1 => ⟨fun z => absurd rfl z, fun _ => ?_⟩, fun hm1 => ⟨fun _ => ⟨fun hlt => ?_, fun hlt => ?_⟩, fun z => absurd z (by decide)⟩⟩⟩⟩⟩
  · refine mdfin (r := 0) (v := 0) (w := 0) m0 hF Reach_rf ht hpost (by omega) rfl (fun z => absurd z (by omega)) (fun z => absurd z (by omega)) (fun q h => gc q ?_)
    unfold wxQ_call
    rw [ck, e11, cv, e15, hm1]
    exact ⟨fun z => absurd f21 z, fun _ => ⟨vk, vp_in_nI hv1 (by omega), fun z => absurd z (by decide), fun _ => h⟩⟩
  · rcases hP.2.2.2.2.1 v hv1 with hno | ⟨b, hb1, hb2⟩
    · exact absurd hno hm1
    rw [eL] at hlt
    have hlt' : yd < lm := (nI_ltI (by omega) (by omega)).mp hlt
    obtain ⟨lb, kd, hb3, hb4, hb5, -⟩ := hP.2.2.2.2.2.2 b hb1
    have after : ∀ r S2 M2 mk2 lg2 bg2 dp2, Md ρ.2.2.1 c (s + 1) t k S M mk dp (0 + 1) (t + 1) S2 M2 mk2 lg2 bg2 dp2 (yd + 1) none → Reach M M2 → Cr r S2 M2 mk2 → M2 25 t = cI o → (fun r8 S9 => (r8 < 6) ∧ ((¬ (r8 = 2)) → wxM_call_c74 (wxM_perform (d + 1)) post ρ k (nI yd) S9 r8) ∧ ((r8 = 2) → (vp_in (0 : Int32) 4) ∧ wxM_call_c74 (wxM_perform (d + 1)) post ρ k (nI yd) (sR S9 0 0 (S9.1 7 6)) r8)) r S2 := by
      intro r S2 M2 mk2 lg2 bg2 dp2 m2 hR2 hcr h25
      have hM2 := md_10 m2 hd
      have hc4 := hcr.1
      have c3 : (uu M2 21 t (M2 21 t + 1)) 27 3 = nI r := (uu_n (by omega)).trans hcr.2.1
      obtain ⟨a1, a2, a3, a4, a5, a6, a7, a8, a9, a10, a11⟩ := md_i m2
      have rn : Rn ρ.2.2.1 c s S2 (uu (uu (uu M2 21 t (M2 21 t + 1)) 27 1 ((uu M2 21 t (M2 21 t + 1)) 27 1 - 1)) 27 2 ((uu M2 21 t (M2 21 t + 1)) 25 t)) mk2 lg2 bg2 dp2 := Rn_f (Rn_f (Rn_s a1) (by omega)) (by omega)
      have kx : Kp M (uu (uu (uu M2 21 t (M2 21 t + 1)) 27 1 ((uu M2 21 t (M2 21 t + 1)) 27 1 - 1)) 27 2 ((uu M2 21 t (M2 21 t + 1)) 25 t)) := Kp_u (Kp_u a4 (by omega)) (by omega)
      have x5 : (uu (uu (uu M2 21 t (M2 21 t + 1)) 27 1 ((uu M2 21 t (M2 21 t + 1)) 27 1 - 1)) 27 2 ((uu M2 21 t (M2 21 t + 1)) 25 t)) 27 5 = 0 := by rw [uu_n (by omega), uu_n (by omega)]; exact a7
      have x0 : (uu (uu (uu M2 21 t (M2 21 t + 1)) 27 1 ((uu M2 21 t (M2 21 t + 1)) 27 1 - 1)) 27 2 ((uu M2 21 t (M2 21 t + 1)) 25 t)) 27 0 = nI (t + 1) := by rw [uu_n (by omega), uu_n (by omega)]; exact a6
      have lx : Lo t M (uu (uu (uu M2 21 t (M2 21 t + 1)) 27 1 ((uu M2 21 t (M2 21 t + 1)) 27 1 - 1)) 27 2 ((uu M2 21 t (M2 21 t + 1)) 25 t)) := by
        refine ⟨fun a j ha hb hj => ?_, ?_, ?_⟩
        · rw [uu_n (by omega), uu_n (by omega)]; exact a5 a j ha hb hj
        · rw [uu_n (by omega), uu_same, a10, nI_pred, f1]
        · rw [uu_same, uu_n (by omega), h25, f2]
      have gc2 : ∀ q : Unit → Rg → Prop, wxQ_call q (uu M2 21 t (M2 21 t + 1)) (nI t) (nI k) (M2 21 t) → wxQ_go q M2 := fun q h => go_9 (md_t m2) (by omega) (md_k m2) hk64 hM2 h
      refine ⟨by omega, fun h2 => ⟨by omega, fun h3 => ?_, fun h3 => ⟨fun _ => ?_, fun z => absurd (er_0 hc4) z⟩⟩, fun h2 => ⟨vp_in_nI (n := 0) (by omega) (by omega), by omega, fun h3 => absurd h3 (by omega), fun h3 => ⟨fun _ => ?_, fun z => absurd (er_0 hc4) z⟩⟩⟩
      · subst h3
        refine mdend (w := 3) (v := (uu M2 21 t (M2 21 t + 1)) 27 4) hpost hR2 (md_v m2) (md_t m2) ht rn a2.1 a2.2 (by omega) a3.1 a3.2 kx lx x5 x0 rfl (fun z => absurd z (by omega)) (fun z => ?_) (fun q h => gc2 q ?_)
        · obtain ⟨j, j1, j2, j3⟩ := hcr.2.2.2 z
          exact ⟨j, j1, j2, (uu_n (by omega)).trans j3⟩
        · unfold wxQ_call
          rw [ct]
          exact ⟨fun _ => ⟨vt, fun _ => ⟨fun z => absurd c3 z, fun _ => h⟩, fun z => absurd (c3.symm.trans z) (by decide)⟩, fun z => absurd ((md_s m2).symm.trans z) (by decide)⟩
      · refine mdend (r := 0) (w := 0) (v := 0) hpost hR2 (md_v m2) (md_t m2) ht rn a2.1 a2.2 (by omega) a3.1 a3.2 kx lx x5 x0 rfl (fun z => absurd z (by omega)) (fun z => absurd z (by omega)) (fun q h => gc2 q ?_)
        unfold wxQ_call
        rw [ct]
        exact ⟨fun _ => ⟨vt, fun _ => ⟨fun _ => h, fun z => absurd (c3.symm.trans z) (nI_nq (b := 3) (by omega) (by omega) h3)⟩, fun z => absurd (c3.symm.trans z) (nI_nq (b := 2) (by omega) (by omega) h2)⟩, fun z => absurd ((md_s m2).symm.trans z) (by decide)⟩
      · subst h2
        refine mdend (r := 0) (w := 0) (v := 0) (Mx := uu (uu (uu (uu M2 21 t (M2 21 t + 1)) 27 1 ((uu M2 21 t (M2 21 t + 1)) 27 1 - 1)) 27 2 ((uu M2 21 t (M2 21 t + 1)) 25 t)) 0 0 ((uu M2 21 t (M2 21 t + 1)) 27 4)) hpost hR2 (md_v m2) (md_t m2) ht (Rn_v rn (by omega) rfl ((uu_n (by omega)).trans (hcr.2.2.1 rfl))) a2.1 a2.2 (by omega) a3.1 a3.2 (Kp_u kx (by omega)) (Lo_u lx (by omega)) ((uu_n (by omega)).trans x5) ((uu_n (by omega)).trans x0) rfl (fun z => absurd z (by omega)) (fun z => absurd z (by omega)) (fun q h => gc2 q ?_)
        unfold wxQ_call
        rw [ct]
        exact ⟨fun _ => ⟨vt, fun z => absurd c3 z, fun _ => ⟨vp_in_nI (n := 0) (by omega) (by omega), fun _ => h, fun z => absurd (c3.symm.trans z) (by decide)⟩⟩, fun z => absurd ((md_s m2).symm.trans z) (by decide)⟩
    have k4 : ∀ (r : Nat) (S2 : Sg) (M2 : Rg), 4 ≤ r → Dn ρ.2.2.1 c s t S M mk dp r S2 M2 → Reach M M2 → (fun r8 S9 => (r8 < 6) ∧ ((¬ (r8 = 2)) → wxM_call_c74 (wxM_perform (d + 1)) post ρ k (nI yd) S9 r8) ∧ ((r8 = 2) → (vp_in (0 : Int32) 4) ∧ wxM_call_c74 (wxM_perform (d + 1)) post ρ k (nI yd) (sR S9 0 0 (S9.1 7 6)) r8)) r S2 := fun r S2 M2 h4 hD hR2 => ⟨hD.1, fun _ => ⟨hD.1, (fun z => absurd z (by omega)), fun _ => ⟨fun z => absurd z (er_1 h4 hD.1), fun _ => hpost r S2 M2 hD hR2⟩⟩, (fun z => absurd z (by omega))⟩
    unfold wxP_statementOf
    rw [cv, hb2, nI_1]
    refine ⟨vp_in_nI hv1 (by omega), ?_⟩
    have m1' : Md ρ.2.2.1 c (s + 1) t k S M mk dp (0 + 1) (t + 1) S (uu (uu M 21 t (M 21 t + 1)) 25 t ((uu M 21 t (M 21 t + 1)) 27 2)) mk lg bg dp yd o := md_f m1 (by omega) (by omega)
    have e72 := m1'.1.2.2.1.2.2.1
    have e72' : (uu (uu M 21 t (M 21 t + 1)) 25 t ((uu M 21 t (M 21 t + 1)) 27 2)) 7 2 = nI bg := (m1'.1.1.2 2 (by omega)).trans e72
    have nlm : ¬ (uu M 21 t (M 21 t + 1)) 27 1 = (uu M 21 t (M 21 t + 1)) 17 3 := by rw [z1, e17]; exact nI_nq (by omega) (by omega) (by omega)
    have gb : ∀ q : Unit → Rg → Prop, wxQ_begin (fun r20 S21 => ((¬ (r20 = (0 : Int32))) → ((((S21 27 1) + 1) ≤ (S21 7 5)) → q () (uu (uu S21 27 1 ((S21 27 1) + 1)) 27 2 (-1))) ∧ ((¬ (((S21 27 1) + 1) ≤ (S21 7 5))) → q () (uu (uu (uu S21 27 1 ((S21 27 1) + 1)) 7 5 ((S21 27 1) + 1)) 27 2 (-1)))) ∧ ((r20 = (0 : Int32)) → q () S21)) (uu (uu M 21 t (M 21 t + 1)) 25 t ((uu M 21 t (M 21 t + 1)) 27 2)) (nI b) → wxQ_go q M := by
      intro q h
      refine gc q ?_
      unfold wxQ_call
      rw [ck, ct, e11, cv, e15, hb2]
      exact ⟨fun z => absurd f21 z, fun _ => ⟨vk, vp_in_nI hv1 (by omega), fun _ => ⟨fun _ => ⟨vt, h⟩, fun z => absurd z nlm⟩, fun z => absurd (nI_pos' (by omega)) z⟩⟩
    by_cases h300 : bg = 300
    · subst h300
      exact stp_t m1' (reach_go f5 f0 (by omega) (fun q hq => gb q (beg_tired e72' ⟨fun z => absurd rfl z, fun _ => hq⟩))) (fun M2 hD hR2 => k4 5 S M2 (by omega) hD hR2)
    · obtain ⟨h1, h2, h3', h4, h5, h6, h7, h8, h9, h10, h11⟩ := m1'
      obtain ⟨b1, b2, b3, b4⟩ := bgn_f (x := nI b) h6 (by omega)
      have bn : ∀ a j, ((a ≠ 7 ∧ a ≠ 27 ∧ j ≠ t + 1) ∨ (22 < a ∧ a < 26) ∨ (a = 7 ∧ j = 5) ∨ (a = 27 ∧ j ≠ 0)) → bgn (uu (uu M 21 t (M 21 t + 1)) 25 t ((uu M 21 t (M 21 t + 1)) 27 2)) (nI b) a j = (uu (uu M 21 t (M 21 t + 1)) 25 t ((uu M 21 t (M 21 t + 1)) 27 2)) a j := fun a j hh => bgn_n h6 (by omega) (by omega)
      have goS : ∀ Mg dpg, Rn ρ.2.2.1 c (s + 2) (sB S (nI (yd + 1))) Mg mk lg (bg + 1) dpg → dp ≤ dpg → yd + 1 ≤ dpg → (∀ a j, a ≠ 7 → (a ≠ 27 ∨ (j ≠ 1 ∧ j ≠ 2)) → Mg a j = bgn (uu (uu M 21 t (M 21 t + 1)) 25 t ((uu M 21 t (M 21 t + 1)) 27 2)) (nI b) a j) → Mg 27 1 = nI (yd + 1) → Mg 27 2 = -1 → Reach M Mg → wxM_perform (d + 1) (fun r8 S9 => (r8 < 6) ∧ ((¬ (r8 = 2)) → wxM_call_c74 (wxM_perform (d + 1)) post ρ k (nI yd) S9 r8) ∧ ((r8 = 2) → (vp_in (0 : Int32) 4) ∧ wxM_call_c74 (wxM_perform (d + 1)) post ρ k (nI yd) (sR S9 0 0 (S9.1 7 6)) r8)) ρ S (nI b) (nI (yd + 1)) none := by
        intro Mg dpg rg hdg hyg hsame g1 g2 hrg
        have gg : ∀ a j, a ≠ 7 → (a ≠ 27 ∨ (j ≠ 1 ∧ j ≠ 2)) → ((a ≠ 7 ∧ a ≠ 27 ∧ j ≠ t + 1) ∨ (22 < a ∧ a < 26) ∨ (a = 27 ∧ j ≠ 0)) → Mg a j = (uu (uu M 21 t (M 21 t + 1)) 25 t ((uu M 21 t (M 21 t + 1)) 27 2)) a j := fun a j q1 q2 q3 => (hsame a j q1 q2).trans (bn a j (by omega))
        refine stp_g (S1 := sB S (nI (yd + 1))) (M1 := Mg) (dp1 := dpg) (i := 0 + 1) ih hb1 (by omega) hb3 hb4 (by omega) (by omega) (by omega) (by omega) ht1 hyg (by rw [e72]; exact nI_ge (b := 300) (by omega) (by omega)) rfl ⟨rg, ⟨Nat.le_refl _, hdg⟩, h3', ?_, fun a j ha hb hj => (gg a j (by omega) (by omega) (by omega)).trans (h5 a j ha hb hj), (hsame 27 0 (by omega) (by omega)).trans b1, (gg 27 5 (by omega) (by omega) (by omega)).trans h7, (gg 20 t (by omega) (by omega) (by omega)).trans h8, (gg 21 t (by omega) (by omega) (by omega)).trans h9, g1, g2⟩ hrg ((hsame 20 (t + 1) (by omega) (by omega)).trans b2) ((hsame 21 (t + 1) (by omega) (by omega)).trans b3) ((hsame 22 (t + 1) (by omega) (by omega)).trans b4) (fun j hj => by cases hj) k4 ?_
        · obtain ⟨q1, q2, q3, q4⟩ := h4
          exact ⟨(gg 27 8 (by omega) (by omega) (by omega)).trans q1, (gg 27 9 (by omega) (by omega) (by omega)).trans q2, (gg 27 10 (by omega) (by omega) (by omega)).trans q3, (gg 27 11 (by omega) (by omega) (by omega)).trans q4⟩
        · intro r S2 M2 mk2 lg2 bg2 dp2 a1 a2 a3 a4 a5 a6
          refine after r S2 M2 mk2 lg2 bg2 dp2 a1 a2 a5 ?_
          rw [a6 25 (by omega) (by omega), gg 25 t (by omega) (by omega) (by omega), uu_same, z2]
      have B1 : bgn (uu (uu M 21 t (M 21 t + 1)) 25 t ((uu M 21 t (M 21 t + 1)) 27 2)) (nI b) 27 1 = nI yd := (bn 27 1 (by omega)).trans h10
      have B1' : bgn (uu (uu M 21 t (M 21 t + 1)) 25 t ((uu M 21 t (M 21 t + 1)) 27 2)) (nI b) 27 1 + 1 = nI (yd + 1) := by rw [B1, nI_1]
      have B5 : bgn (uu (uu M 21 t (M 21 t + 1)) 25 t ((uu M 21 t (M 21 t + 1)) 27 2)) (nI b) 7 5 = nI dp := (bn 7 5 (by omega)).trans ((h1.1.2 5 (by omega)).trans h1.2.2.2.1)
      have hd12 := h1.2.2.2.2
      by_cases hle : yd + 1 ≤ dp
      · refine goS (uu (uu (bgn (uu (uu M 21 t (M 21 t + 1)) 25 t ((uu M 21 t (M 21 t + 1)) 27 2)) (nI b)) 27 1 (bgn (uu (uu M 21 t (M 21 t + 1)) 25 t ((uu M 21 t (M 21 t + 1)) 27 2)) (nI b) 27 1 + 1)) 27 2 (-1)) dp (Rn_f (Rn_f (Rn_sB h1 (by omega) hle) (by omega)) (by omega)) (Nat.le_refl _) hle (fun a j q1 q2 => by rw [uu_n (by omega), uu_n (by omega)]) (by rw [uu_n (by omega), uu_same]; exact B1') uu_same (reach_go f5 f0 (by omega) (fun q hq => gb q (beg_go e72' (by omega) h6 (by omega) ⟨fun _ => ⟨fun _ => hq, fun z => absurd (by rw [B1', B5]; exact nI_le hle (by omega)) z⟩, fun z => absurd z (by decide)⟩)))
      · refine goS (uu (uu (uu (bgn (uu (uu M 21 t (M 21 t + 1)) 25 t ((uu M 21 t (M 21 t + 1)) 27 2)) (nI b)) 27 1 (bgn (uu (uu M 21 t (M 21 t + 1)) 25 t ((uu M 21 t (M 21 t + 1)) 27 2)) (nI b) 27 1 + 1)) 7 5 (bgn (uu (uu M 21 t (M 21 t + 1)) 25 t ((uu M 21 t (M 21 t + 1)) 27 2)) (nI b) 27 1 + 1)) 27 2 (-1)) (yd + 1) (Rn_f (Rn_sBc h1.2.2.2.1 (Rn_f (Rn_bgn h1 (by omega)) (by omega)) (by omega) (by omega) B1') (by omega)) (by omega) (Nat.le_refl _) (fun a j q1 q2 => by rw [uu_n (by omega), uu_n (by omega), uu_n (by omega)]) (by rw [uu_n (by omega), uu_n (by omega), uu_same]; exact B1') uu_same (reach_go f5 f0 (by omega) (fun q hq => gb q (beg_go e72' (by omega) h6 (by omega) ⟨fun _ => ⟨fun z => absurd z (by rw [B1', B5]; exact nI_ge (by omega) (by omega)), fun _ => hq⟩, fun z => absurd z (by decide)⟩)))
  · rw [eL] at hlt
    have hlt' : yd = lm := by
      by_cases q : yd < lm
      · exact absurd (nI_lt q (by omega)) hlt
      · omega
    rcases hP.2.2.2.2.1 v hv1 with hno | ⟨b, hb1, hb2⟩
    · exact absurd hno hm1
    refine cx_thr (x' := 5) (y' := (uu M 21 t (M 21 t + 1)) 17 3) (q := -1) hR hF ht rfl (e17.trans eL.symm) rfl (fun j h => by cases h) ⟨5, by have := hP.2.1.1; omega, rfl⟩ hpost (fun q h => gc q ?_)
    unfold wxQ_call
    rw [ck, e11, cv, e15, hb2]
    exact ⟨fun z => absurd f21 z, fun _ => ⟨vk, vp_in_nI hv1 (by omega), fun _ => ⟨fun z => absurd (by rw [z1, e17, hlt']) z, fun _ => h⟩, fun z => absurd (nI_pos' (by omega)) z⟩⟩
end LC
