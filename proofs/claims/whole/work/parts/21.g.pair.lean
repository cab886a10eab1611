section LC
variable {ρ : Rh} {c lm d s t k yd mk lg bg dp lv : Nat} {S : Sg} {M : Rg} {o : Option Nat} {post : Nat → Sg → Prop}

theorem cp_4 (ih : SimT ρ c lm d) (hP : Pv ρ.2.2.1 ρ.2.1 c lm) (hk : k < ρ.2.1) (hl1 : 1 ≤ lv) (hl8 : lv ≤ 8) (hms : (lm - yd) * 8 + lv ≤ d + 1) (hy1 : 1 ≤ yd) (hy2 : yd ≤ lm) (ht1 : t + 1 + d ≤ 111) (hR : Rn ρ.2.2.1 c (s + 1) S M mk lg bg dp) (hdp : yd ≤ dp) (hF : Fr M t k yd o mk) (hpost : ∀ r S' M', Dn ρ.2.2.1 c s t S M mk dp r S' M' → Reach M M' → post r S') (hd : ρ.2.2.1 0 k = nI 4) (hok : nOk ρ.2.2.1 ρ.2.1 c k lv 4) : wbody (wxM_perform (d + 1)) post ρ S k (nI yd) o := by
  have hk64 : k < 64 := by have := hP.1.1; omega
  have hn64 := hP.1.1
  have hlm := hP.2.2.1.2.1
  have hb := Rn_bd hR
  have hc16 := hP.2.1.2.1
  have ht : t ≤ 111 := by omega
  obtain ⟨f0, f5, f20, f21, f22, f1, f2, fo⟩ := id hF
  have m0 := md_0 hR hF
  have m1 := md_i m0
  have pM : Pm ρ.2.2.1 (uu M 21 t (M 21 t + 1)) := m1.1.2.1
  have ck : (nI k).toNatClampNeg = k := nI_clamp (by omega)
  have ct : (nI t).toNatClampNeg = t := nI_clamp (by omega)
  have vk : vp_in (nI k) 64 := vp_in_nI hk64 (by omega)
  have vt : vp_in (nI t) 112 := vp_in_nI (by omega) (by omega)
  have hM : M 10 k = nI 4 := md_10 m0 hd
  obtain ⟨⟨a, la, ha1, ha2, ha3, ha4, ha5⟩, ⟨b, lb, hb1, hb2, hb3, hb4, hb5⟩⟩ := hok
  refine wb_4 hk hd ⟨hk, ?_⟩
  rw [ha2]
  refine stp ih ha1 (by omega) ha3 ha4 (by omega) (by omega) hy1 hy2 ht1 (by have := m1.2.1; omega) m1 Reach_rf f5 f0 (fun q h => go_4 f0 (by omega) f20 hk64 hM ⟨fun z => absurd f21 z, fun _ => ?_⟩) fo (fun r S2 M2 hr hD hR2 => ⟨hD.1, fun _ => hpost r S2 M2 hD hR2, fun z => absurd z (by omega)⟩) ?_
  · rw [pM.2.1, ha2]; exact h
  intro r S2 M2 mk2 lg2 bg2 dp2 m2 hR2 hmk hdp2 hcr hfr
  have hM2 := md_10 m2 hd
  have hc4 := hcr.1
  have c3 : (uu M2 21 t (M2 21 t + 1)) 27 3 = nI r := (uu_n (by omega)).trans hcr.2.1
  have p2 : Pm ρ.2.2.1 (uu M2 21 t (M2 21 t + 1)) := (md_i m2).1.2.1
  refine ⟨by omega, fun hr0 => ?_, fun hr0 => ?_⟩
  · exact mdpass m2 hF hR2 hcr ht hpost (fun q h => go_4 (md_t m2) (by omega) (md_k m2) hk64 hM2 ⟨fun _ => ⟨fun z => absurd (md_s m2) z, fun _ => ⟨fun _ => h, fun z => absurd (c3.symm.trans z) (nI_nq (b := 0) (by omega) (by omega) hr0)⟩⟩, fun z => absurd ((md_s m2).symm.trans z) (by decide)⟩)
  · subst hr0
    rw [hb2]
    refine stp ih hb1 (by omega) hb3 hb4 (by omega) (by omega) hy1 hy2 ht1 (by omega) (md_i m2) hR2 (md_v m2) (md_t m2) (fun q h => go_4 (md_t m2) (by omega) (md_k m2) hk64 hM2 ⟨fun _ => ⟨fun z => absurd (md_s m2) z, fun _ => ⟨fun z => absurd c3 z, fun _ => ?_⟩⟩, fun z => absurd ((md_s m2).symm.trans z) (by decide)⟩) (fun j hj => by have := fo j hj; omega) (fun r S2 M2 _ hD hR2 => hpost r S2 M2 hD hR2) ?_
    · rw [p2.2.2.1, hb2]; exact h
    intro r S3 M3 mk3 lg3 bg3 dp3 m3 hR3 hmk3 hdp3 hcr3 hfr3
    exact mdpass m3 hF hR3 hcr3 ht hpost (fun q h => go_4 (md_t m3) (by omega) (md_k m3) hk64 (md_10 m3 hd) ⟨fun _ => ⟨fun _ => h, fun z => absurd ((md_s m3).symm.trans z) (by decide)⟩, fun z => absurd ((md_s m3).symm.trans z) (by decide)⟩)
theorem cp_5 (ih : SimT ρ c lm d) (hP : Pv ρ.2.2.1 ρ.2.1 c lm) (hk : k < ρ.2.1) (hl1 : 1 ≤ lv) (hl8 : lv ≤ 8) (hms : (lm - yd) * 8 + lv ≤ d + 1) (hy1 : 1 ≤ yd) (hy2 : yd ≤ lm) (ht1 : t + 1 + d ≤ 111) (hR : Rn ρ.2.2.1 c (s + 1) S M mk lg bg dp) (hdp : yd ≤ dp) (hF : Fr M t k yd o mk) (hpost : ∀ r S' M', Dn ρ.2.2.1 c s t S M mk dp r S' M' → Reach M M' → post r S') (hd : ρ.2.2.1 0 k = nI 5) (hok : nOk ρ.2.2.1 ρ.2.1 c k lv 5) : wbody (wxM_perform (d + 1)) post ρ S k (nI yd) o := by
  have hk64 : k < 64 := by have := hP.1.1; omega
  have hn64 := hP.1.1
  have hlm := hP.2.2.1.2.1
  have hb := Rn_bd hR
  have hc16 := hP.2.1.2.1
  have ht : t ≤ 111 := by omega
  obtain ⟨f0, f5, f20, f21, f22, f1, f2, fo⟩ := id hF
  have m0 := md_0 hR hF
  have m1 := md_i m0
  have pM : Pm ρ.2.2.1 (uu M 21 t (M 21 t + 1)) := m1.1.2.1
  have ck : (nI k).toNatClampNeg = k := nI_clamp (by omega)
  have ct : (nI t).toNatClampNeg = t := nI_clamp (by omega)
  have vk : vp_in (nI k) 64 := vp_in_nI hk64 (by omega)
  have vt : vp_in (nI t) 112 := vp_in_nI (by omega) (by omega)
  have hM : M 10 k = nI 5 := md_10 m0 hd
  obtain ⟨⟨v, hv1, hv⟩, ⟨b, lb, hb1, hb2, hb3, hb4, hb5⟩, hcc⟩ := hok
  have cv : (nI v).toNatClampNeg = v := nI_clamp (by omega)
  have ev : (uu M 21 t (M 21 t + 1)) 0 v = S.1 0 v := by rw [m1.1.1.1 0 (by omega) (by omega)]
  have e11 : (uu M 21 t (M 21 t + 1)) 11 k = nI v := by rw [pM.2.1]; exact hv
  have after : ∀ r S2 M2 mk2 lg2 bg2 dp2, Md ρ.2.2.1 c (s + 1) t k S M mk dp (0 + 1) (t + 1) S2 M2 mk2 lg2 bg2 dp2 yd o → Reach M M2 → mk ≤ mk2 → dp ≤ dp2 → Cr r S2 M2 mk2 → (∀ a, 20 ≤ a → a < 26 → M2 a t = (uu M 21 t (M 21 t + 1)) a t) → post r S2 := by
    intro r S2 M2 mk2 lg2 bg2 dp2 m2 hR2 hmk hdp2 hcr hfr
    have p2 : Pm ρ.2.2.1 (uu M2 21 t (M2 21 t + 1)) := (md_i m2).1.2.1
    have e2 : (uu M2 21 t (M2 21 t + 1)) 11 k = nI v := by rw [p2.2.1]; exact hv
    refine mdpass m2 hF hR2 hcr ht hpost (fun q h => go_5 (md_t m2) (by omega) (md_k m2) hk64 (md_10 m2 hd) ?_)
    unfold wxQ_branch
    rw [ck, e2, cv]
    exact ⟨vk, vp_in_nI hv1 (by omega), fun _ => ⟨fun z => absurd (md_s m2) z, fun _ => h⟩, fun _ => ⟨fun z => absurd (md_s m2) z, fun _ => h⟩⟩
  refine wb_5 hk hd ?_
  unfold wxM_choose
  rw [hv, cv]
  refine ⟨hk, vp_in_nI hv1 (by omega), fun h0 => ⟨fun hne => ?_, fun heq => ?_⟩, fun h0 => ⟨fun _ => ?_, fun heq => ?_⟩⟩
  · rcases hcc with hcc | ⟨e, le, he1, he2, he3, he4, he5⟩
    · exact absurd hcc hne
    · rw [he2]
      refine stp ih he1 (by omega) he3 he4 (by omega) (by omega) hy1 hy2 ht1 hdp m1 Reach_rf f5 f0 (fun q h => go_5 f0 (by omega) f20 hk64 hM ?_) fo (fun r S2 M2 _ hD hR2 => hpost r S2 M2 hD hR2) after
      unfold wxQ_branch
      rw [ck, e11, cv, ev, pM.2.2.2.1, he2]
      exact ⟨vk, vp_in_nI hv1 (by omega), fun _ => ⟨fun _ => ⟨fun _ => h, fun z => absurd (nI_pos' (by omega)) z⟩, fun z => absurd (f21.symm.trans z) (by decide)⟩, fun z => absurd h0 z⟩
  · refine mdfin (r := 0) (v := 0) (w := 0) m0 hF Reach_rf ht hpost (by omega) rfl (fun z => absurd z (by omega)) (fun z => absurd z (by omega)) (fun q h => go_5 f0 (by omega) f20 hk64 hM ?_)
    unfold wxQ_branch
    rw [ck, e11, cv, ev, pM.2.2.2.1, heq]
    exact ⟨vk, vp_in_nI hv1 (by omega), fun _ => ⟨fun _ => ⟨fun z => absurd z (by decide), fun _ => h⟩, fun z => absurd (f21.symm.trans z) (by decide)⟩, fun z => absurd h0 z⟩
  · rw [hb2]
    refine stp ih hb1 (by omega) hb3 hb4 (by omega) (by omega) hy1 hy2 ht1 hdp m1 Reach_rf f5 f0 (fun q h => go_5 f0 (by omega) f20 hk64 hM ?_) fo (fun r S2 M2 _ hD hR2 => hpost r S2 M2 hD hR2) after
    unfold wxQ_branch
    rw [ck, e11, cv, ev, pM.2.2.1, hb2]
    exact ⟨vk, vp_in_nI hv1 (by omega), fun z => absurd z h0, fun _ => ⟨fun _ => ⟨fun _ => h, fun z => absurd (nI_pos' (by omega)) z⟩, fun z => absurd (f21.symm.trans z) (by decide)⟩⟩
  · rw [hb2] at heq
    exact absurd heq (fun z => absurd (nI_pos' (n := b) (by omega)) (by rw [z]; decide))
theorem cp_20 (ih : SimT ρ c lm d) (hP : Pv ρ.2.2.1 ρ.2.1 c lm) (hk : k < ρ.2.1) (hl1 : 1 ≤ lv) (hl8 : lv ≤ 8) (hms : (lm - yd) * 8 + lv ≤ d + 1) (hy1 : 1 ≤ yd) (hy2 : yd ≤ lm) (ht1 : t + 1 + d ≤ 111) (hR : Rn ρ.2.2.1 c (s + 1) S M mk lg bg dp) (hdp : yd ≤ dp) (hF : Fr M t k yd o mk) (hpost : ∀ r S' M', Dn ρ.2.2.1 c s t S M mk dp r S' M' → Reach M M' → post r S') (hd : ρ.2.2.1 0 k = nI 20) (hok : nOk ρ.2.2.1 ρ.2.1 c k lv 20) : wbody (wxM_perform (d + 1)) post ρ S k (nI yd) o := by
  have hk64 : k < 64 := by have := hP.1.1; omega
  have hn64 := hP.1.1
  have hlm := hP.2.2.1.2.1
  have hb := Rn_bd hR
  have hc16 := hP.2.1.2.1
  have ht : t ≤ 111 := by omega
  obtain ⟨f0, f5, f20, f21, f22, f1, f2, fo⟩ := id hF
  have m0 := md_0 hR hF
  have m1 := md_i m0
  have pM : Pm ρ.2.2.1 (uu M 21 t (M 21 t + 1)) := m1.1.2.1
  have ck : (nI k).toNatClampNeg = k := nI_clamp (by omega)
  have ct : (nI t).toNatClampNeg = t := nI_clamp (by omega)
  have vk : vp_in (nI k) 64 := vp_in_nI hk64 (by omega)
  have vt : vp_in (nI t) 112 := vp_in_nI (by omega) (by omega)
  have hM : M 10 k = nI 20 := md_10 m0 hd
  obtain ⟨⟨v, hv1, hv⟩, ⟨b, lb, hb1, hb2, hb3, hb4, hb5⟩⟩ := hok
  have cv : (nI v).toNatClampNeg = v := nI_clamp (by omega)
  have ev : (uu M 21 t (M 21 t + 1)) 1 v = S.1 1 v := by rw [m1.1.1.1 1 (by omega) (by omega)]
  have e11 : (uu M 21 t (M 21 t + 1)) 11 k = nI v := by rw [pM.2.1]; exact hv
  refine wb_20 hk hd ?_
  unfold wxM_lock
  rw [hv, cv, hb2]
  refine ⟨hk, vp_in_nI hv1 (by omega), ?_⟩
  refine stp (M1 := uu (uu M 21 t (M 21 t + 1)) 1 v ((uu M 21 t (M 21 t + 1)) 1 v + 1)) ih hb1 (by omega) hb3 hb4 (by omega) (by omega) hy1 hy2 ht1 hdp (md_1 m1 (by rw [ev])) Reach_rf f5 f0 (fun q h => go_20 f0 (by omega) f20 hk64 hM ?_) fo (fun r S2 M2 hr hD hR2 => ⟨hD.1, fun _ => hpost r S2 M2 hD hR2, fun z => absurd z (er_1 hr hD.1)⟩) ?_
  · unfold wxQ_lock
    rw [ck, e11, cv, pM.2.2.1, hb2]
    exact ⟨fun z => absurd f21 z, fun _ => ⟨vk, vp_in_nI hv1 (by omega), h⟩⟩
  intro r S2 M2 mk2 lg2 bg2 dp2 m2 hR2 hmk hdp2 hcr hfr
  have hM2 := md_10 m2 hd
  have hc4 := hcr.1
  have c3 : (uu M2 21 t (M2 21 t + 1)) 27 3 = nI r := (uu_n (by omega)).trans hcr.2.1
  have p2 : Pm ρ.2.2.1 (uu M2 21 t (M2 21 t + 1)) := (md_i m2).1.2.1
  have e2 : (uu M2 21 t (M2 21 t + 1)) 11 k = nI v := by rw [p2.2.1]; exact hv
  have ev2 : (uu M2 21 t (M2 21 t + 1)) 1 v = S2.1 1 v := by rw [(md_i m2).1.1.1 1 (by omega) (by omega)]
  refine ⟨by omega, fun z => absurd (er_0 hc4) z, fun _ => ?_⟩
  obtain ⟨a1, a2, a3, a4, a5, a6, a7, a8, a9, a10, a11⟩ := md_1 (j := v) (v := S2.1 1 v - 1) (v' := (uu M2 21 t (M2 21 t + 1)) 1 v - 1) (md_i m2) (by rw [ev2])
  refine mdend (w := (uu M2 21 t (M2 21 t + 1)) 27 3) (v := (uu M2 21 t (M2 21 t + 1)) 27 4) hpost hR2 (md_v m2) (md_t m2) ht (Rn_s a1) a2.1 a2.2 hc4 a3.1 a3.2 a4 ⟨a5, a10.trans f1.symm, a11.trans f2.symm⟩ a7 a6 c3 (fun z => (uu_n (by omega)).trans ((hcr.2.2.1 z).trans (sR_n (by omega)).symm)) (fun z => ?_) (fun q h => go_20 (md_t m2) (by omega) (md_k m2) hk64 hM2 ?_)
  · obtain ⟨j, j1, j2, j3⟩ := hcr.2.2.2 z
    exact ⟨j, j1, j2, (uu_n (by omega)).trans j3⟩
  · unfold wxQ_lock
    rw [ck, e2, cv]
    exact ⟨fun _ => ⟨vk, vp_in_nI hv1 (by omega), h⟩, fun z => absurd ((md_s m2).symm.trans z) (by decide)⟩
end LC
