theorem i32_div_m1 (x : Int32) : x / (-1) = -x := by
  apply Int32.toInt_inj.mp
  rw [Int32.toInt_div, show (-1 : Int32).toInt = -1 by decide, Int.tdiv_neg, Int.tdiv_one, Int32.toInt_neg]
section LK
variable {ρ : Rh} {c lm d s t k yd mk lg bg dp lv : Nat} {S : Sg} {M : Rg} {o : Option Nat} {post : Nat → Sg → Prop}

theorem lf_0 (hP : Pv ρ.2.2.1 ρ.2.1 c lm) (hk : k < ρ.2.1) (ht : t ≤ 111) (hR : Rn ρ.2.2.1 c (s + 1) S M mk lg bg dp) (hF : Fr M t k yd o mk) (hpost : ∀ r S' M', Dn ρ.2.2.1 c s t S M mk dp r S' M' → Reach M M' → post r S') (hd : ρ.2.2.1 0 k = nI 0) (hok : nOk ρ.2.2.1 ρ.2.1 c k lv 0) : wbody (wxM_perform d) post ρ S k (nI yd) o := by
  have hk64 : k < 64 := by have := hP.1.1; omega
  have hb := Rn_bd hR
  have hc16 := hP.2.1.2.1
  obtain ⟨f0, f5, f20, f21, f22, f1, f2, fo⟩ := id hF
  have pM : Pm ρ.2.2.1 (uu M 21 t (M 21 t + 1)) := Pm_u hR.2.1 (Or.inr (by omega))
  have hM : M 10 k = nI 0 := by rw [hR.2.1.1]; exact hd
  have hM0 : (uu M 21 t (M 21 t + 1)) 10 k = nI 0 := by rw [pM.1]; exact hd
  have R0 : Rn ρ.2.2.1 c (s + 1) S (uu M 21 t (M 21 t + 1)) mk lg bg dp := Rn_f hR (by omega)
  have z5 : (uu M 21 t (M 21 t + 1)) 27 5 = 0 := (uu_n (Or.inl (by omega))).trans f5
  have z0 : (uu M 21 t (M 21 t + 1)) 27 0 = nI (t + 1) := (uu_n (Or.inl (by omega))).trans f0
  have z2 : (uu M 21 t (M 21 t + 1)) 27 2 = cI o := (uu_n (Or.inl (by omega))).trans f2
  have kp : Kp M (uu M 21 t (M 21 t + 1)) := Kp_u Kp_rf (by omega)
  have lo : Lo t M (uu M 21 t (M 21 t + 1)) := Lo_u Lo_rf (by omega)
  have gs : ∀ q : Unit → Rg → Prop, wxQ_simple q (uu M 21 t (M 21 t + 1)) (nI k) → wxQ_go q M := fun q h => go_0 f0 (by omega) f20 hk64 hM h
  exact wb_0 hk hd (nt_0 hk hd (cx_log (x' := (uu M 21 t (M 21 t + 1)) 11 k) hR hF ht (by rw [pM.2.1]) hpost (fun q h => gs q (simple_0 hk64 hM0 h))))
theorem lf_1 (hP : Pv ρ.2.2.1 ρ.2.1 c lm) (hk : k < ρ.2.1) (ht : t ≤ 111) (hR : Rn ρ.2.2.1 c (s + 1) S M mk lg bg dp) (hF : Fr M t k yd o mk) (hpost : ∀ r S' M', Dn ρ.2.2.1 c s t S M mk dp r S' M' → Reach M M' → post r S') (hd : ρ.2.2.1 0 k = nI 1) (hok : nOk ρ.2.2.1 ρ.2.1 c k lv 1) : wbody (wxM_perform d) post ρ S k (nI yd) o := by
  have hk64 : k < 64 := by have := hP.1.1; omega
  have hb := Rn_bd hR
  have hc16 := hP.2.1.2.1
  obtain ⟨f0, f5, f20, f21, f22, f1, f2, fo⟩ := id hF
  have pM : Pm ρ.2.2.1 (uu M 21 t (M 21 t + 1)) := Pm_u hR.2.1 (Or.inr (by omega))
  have hM : M 10 k = nI 1 := by rw [hR.2.1.1]; exact hd
  have hM0 : (uu M 21 t (M 21 t + 1)) 10 k = nI 1 := by rw [pM.1]; exact hd
  have R0 : Rn ρ.2.2.1 c (s + 1) S (uu M 21 t (M 21 t + 1)) mk lg bg dp := Rn_f hR (by omega)
  have z5 : (uu M 21 t (M 21 t + 1)) 27 5 = 0 := (uu_n (Or.inl (by omega))).trans f5
  have z0 : (uu M 21 t (M 21 t + 1)) 27 0 = nI (t + 1) := (uu_n (Or.inl (by omega))).trans f0
  have z2 : (uu M 21 t (M 21 t + 1)) 27 2 = cI o := (uu_n (Or.inl (by omega))).trans f2
  have kp : Kp M (uu M 21 t (M 21 t + 1)) := Kp_u Kp_rf (by omega)
  have lo : Lo t M (uu M 21 t (M 21 t + 1)) := Lo_u Lo_rf (by omega)
  have gs : ∀ q : Unit → Rg → Prop, wxQ_simple q (uu M 21 t (M 21 t + 1)) (nI k) → wxQ_go q M := fun q h => go_1 f0 (by omega) f20 hk64 hM h
  obtain ⟨v, hv1, hv⟩ := hok
  have hv' : (uu M 21 t (M 21 t + 1)) 11 k = nI v := by rw [pM.2.1]; exact hv
  have cv : (nI v).toNatClampNeg = v := nI_clamp (by omega)
  refine wb_1 hk hd (nt_1 hk hd ?_)
  rw [hv, cv]
  refine ⟨vp_in_nI hv1 (by omega), cx_log (x' := (uu M 21 t (M 21 t + 1)) 0 v) hR hF ht (by rw [uu_row (by omega)]; exact congrFun (hR.1.1 0 (by omega) (by omega)) v) hpost (fun q h => gs q (simple_1 hk64 hM0 ?_))⟩
  rw [hv', cv]
  exact ⟨vp_in_nI hv1 (by omega), h⟩
theorem lf_2 (hP : Pv ρ.2.2.1 ρ.2.1 c lm) (hk : k < ρ.2.1) (ht : t ≤ 111) (hR : Rn ρ.2.2.1 c (s + 1) S M mk lg bg dp) (hF : Fr M t k yd o mk) (hpost : ∀ r S' M', Dn ρ.2.2.1 c s t S M mk dp r S' M' → Reach M M' → post r S') (hd : ρ.2.2.1 0 k = nI 2) (hok : nOk ρ.2.2.1 ρ.2.1 c k lv 2) : wbody (wxM_perform d) post ρ S k (nI yd) o := by
  have hk64 : k < 64 := by have := hP.1.1; omega
  have hb := Rn_bd hR
  have hc16 := hP.2.1.2.1
  obtain ⟨f0, f5, f20, f21, f22, f1, f2, fo⟩ := id hF
  have pM : Pm ρ.2.2.1 (uu M 21 t (M 21 t + 1)) := Pm_u hR.2.1 (Or.inr (by omega))
  have hM : M 10 k = nI 2 := by rw [hR.2.1.1]; exact hd
  have hM0 : (uu M 21 t (M 21 t + 1)) 10 k = nI 2 := by rw [pM.1]; exact hd
  have R0 : Rn ρ.2.2.1 c (s + 1) S (uu M 21 t (M 21 t + 1)) mk lg bg dp := Rn_f hR (by omega)
  have z5 : (uu M 21 t (M 21 t + 1)) 27 5 = 0 := (uu_n (Or.inl (by omega))).trans f5
  have z0 : (uu M 21 t (M 21 t + 1)) 27 0 = nI (t + 1) := (uu_n (Or.inl (by omega))).trans f0
  have z2 : (uu M 21 t (M 21 t + 1)) 27 2 = cI o := (uu_n (Or.inl (by omega))).trans f2
  have kp : Kp M (uu M 21 t (M 21 t + 1)) := Kp_u Kp_rf (by omega)
  have lo : Lo t M (uu M 21 t (M 21 t + 1)) := Lo_u Lo_rf (by omega)
  have gs : ∀ q : Unit → Rg → Prop, wxQ_simple q (uu M 21 t (M 21 t + 1)) (nI k) → wxQ_go q M := fun q h => go_2 f0 (by omega) f20 hk64 hM h
  obtain ⟨v, hv1, hv⟩ := hok
  have hv' : (uu M 21 t (M 21 t + 1)) 11 k = nI v := by rw [pM.2.1]; exact hv
  have cv : (nI v).toNatClampNeg = v := nI_clamp (by omega)
  refine wb_2 hk hd (nt_2 hk hd ?_)
  rw [hv, cv]
  refine ⟨vp_in_nI hv1 (by omega), cx_end (r := 0) (v := 0) (w := 0) hF ht hpost (Rn_v (a := 0) (i := v) (v' := ((uu M 21 t (M 21 t + 1)) 12 k)) (Rn_s R0) (by omega) rfl (by rw [pM.2.2.1])) (Nat.le_refl _) (by omega) rfl rfl (Kp_u kp (by omega)) (Lo_u lo (by omega)) ((uu_n (Or.inl (by omega))).trans z5) ((uu_n (Or.inl (by omega))).trans z0) rfl (fun h => absurd h (by omega)) (fun h => absurd h (by omega)) (fun q h => gs q (simple_2 hk64 hM0 ?_))⟩
  rw [hv', cv]
  exact ⟨vp_in_nI hv1 (by omega), h⟩
theorem lf_3 (hP : Pv ρ.2.2.1 ρ.2.1 c lm) (hk : k < ρ.2.1) (ht : t ≤ 111) (hR : Rn ρ.2.2.1 c (s + 1) S M mk lg bg dp) (hF : Fr M t k yd o mk) (hpost : ∀ r S' M', Dn ρ.2.2.1 c s t S M mk dp r S' M' → Reach M M' → post r S') (hd : ρ.2.2.1 0 k = nI 3) (hok : nOk ρ.2.2.1 ρ.2.1 c k lv 3) : wbody (wxM_perform d) post ρ S k (nI yd) o := by
  have hk64 : k < 64 := by have := hP.1.1; omega
  have hb := Rn_bd hR
  have hc16 := hP.2.1.2.1
  obtain ⟨f0, f5, f20, f21, f22, f1, f2, fo⟩ := id hF
  have pM : Pm ρ.2.2.1 (uu M 21 t (M 21 t + 1)) := Pm_u hR.2.1 (Or.inr (by omega))
  have hM : M 10 k = nI 3 := by rw [hR.2.1.1]; exact hd
  have hM0 : (uu M 21 t (M 21 t + 1)) 10 k = nI 3 := by rw [pM.1]; exact hd
  have R0 : Rn ρ.2.2.1 c (s + 1) S (uu M 21 t (M 21 t + 1)) mk lg bg dp := Rn_f hR (by omega)
  have z5 : (uu M 21 t (M 21 t + 1)) 27 5 = 0 := (uu_n (Or.inl (by omega))).trans f5
  have z0 : (uu M 21 t (M 21 t + 1)) 27 0 = nI (t + 1) := (uu_n (Or.inl (by omega))).trans f0
  have z2 : (uu M 21 t (M 21 t + 1)) 27 2 = cI o := (uu_n (Or.inl (by omega))).trans f2
  have kp : Kp M (uu M 21 t (M 21 t + 1)) := Kp_u Kp_rf (by omega)
  have lo : Lo t M (uu M 21 t (M 21 t + 1)) := Lo_u Lo_rf (by omega)
  have gs : ∀ q : Unit → Rg → Prop, wxQ_simple q (uu M 21 t (M 21 t + 1)) (nI k) → wxQ_go q M := fun q h => go_3 f0 (by omega) f20 hk64 hM h
  obtain ⟨v, hv1, hv⟩ := hok
  have hv' : (uu M 21 t (M 21 t + 1)) 11 k = nI v := by rw [pM.2.1]; exact hv
  have cv : (nI v).toNatClampNeg = v := nI_clamp (by omega)
  refine wb_3 hk hd (nt_3 hk hd ?_)
  rw [hv, cv]
  refine ⟨vp_in_nI hv1 (by omega), cx_end (r := 0) (v := 0) (w := 0) hF ht hpost (Rn_v (a := 0) (i := v) (v' := (((uu M 21 t (M 21 t + 1)) 0 v) + ((uu M 21 t (M 21 t + 1)) 12 k))) (Rn_s R0) (by omega) rfl (by rw [pM.2.2.1, show (uu M 21 t (M 21 t + 1)) 0 v = S.1 0 v from (by rw [uu_row (by omega)]; exact congrFun (hR.1.1 0 (by omega) (by omega)) v)])) (Nat.le_refl _) (by omega) rfl rfl (Kp_u kp (by omega)) (Lo_u lo (by omega)) ((uu_n (Or.inl (by omega))).trans z5) ((uu_n (Or.inl (by omega))).trans z0) rfl (fun h => absurd h (by omega)) (fun h => absurd h (by omega)) (fun q h => gs q (simple_3 hk64 hM0 ?_))⟩
  rw [hv', cv]
  exact ⟨vp_in_nI hv1 (by omega), h⟩
theorem lf_7 (hP : Pv ρ.2.2.1 ρ.2.1 c lm) (hk : k < ρ.2.1) (ht : t ≤ 111) (hR : Rn ρ.2.2.1 c (s + 1) S M mk lg bg dp) (hF : Fr M t k yd o mk) (hpost : ∀ r S' M', Dn ρ.2.2.1 c s t S M mk dp r S' M' → Reach M M' → post r S') (hd : ρ.2.2.1 0 k = nI 7) (hok : nOk ρ.2.2.1 ρ.2.1 c k lv 7) : wbody (wxM_perform d) post ρ S k (nI yd) o := by
  have hk64 : k < 64 := by have := hP.1.1; omega
  have hb := Rn_bd hR
  have hc16 := hP.2.1.2.1
  obtain ⟨f0, f5, f20, f21, f22, f1, f2, fo⟩ := id hF
  have pM : Pm ρ.2.2.1 (uu M 21 t (M 21 t + 1)) := Pm_u hR.2.1 (Or.inr (by omega))
  have hM : M 10 k = nI 7 := by rw [hR.2.1.1]; exact hd
  have hM0 : (uu M 21 t (M 21 t + 1)) 10 k = nI 7 := by rw [pM.1]; exact hd
  have R0 : Rn ρ.2.2.1 c (s + 1) S (uu M 21 t (M 21 t + 1)) mk lg bg dp := Rn_f hR (by omega)
  have z5 : (uu M 21 t (M 21 t + 1)) 27 5 = 0 := (uu_n (Or.inl (by omega))).trans f5
  have z0 : (uu M 21 t (M 21 t + 1)) 27 0 = nI (t + 1) := (uu_n (Or.inl (by omega))).trans f0
  have z2 : (uu M 21 t (M 21 t + 1)) 27 2 = cI o := (uu_n (Or.inl (by omega))).trans f2
  have kp : Kp M (uu M 21 t (M 21 t + 1)) := Kp_u Kp_rf (by omega)
  have lo : Lo t M (uu M 21 t (M 21 t + 1)) := Lo_u Lo_rf (by omega)
  have gs : ∀ q : Unit → Rg → Prop, wxQ_simple q (uu M 21 t (M 21 t + 1)) (nI k) → wxQ_go q M := fun q h => go_7 f0 (by omega) f20 hk64 hM h
  exact wb_7 hk hd (cx_end (r := 1) (v := 0) (w := 1) hF ht hpost (Rn_s R0) (Nat.le_refl _) (by omega) rfl rfl kp lo z5 z0 rfl (fun h => absurd h (by omega)) (fun h => absurd h (by omega)) (fun q h => gs q (simple_7 hk64 hM0 h)))
theorem lf_8 (hP : Pv ρ.2.2.1 ρ.2.1 c lm) (hk : k < ρ.2.1) (ht : t ≤ 111) (hR : Rn ρ.2.2.1 c (s + 1) S M mk lg bg dp) (hF : Fr M t k yd o mk) (hpost : ∀ r S' M', Dn ρ.2.2.1 c s t S M mk dp r S' M' → Reach M M' → post r S') (hd : ρ.2.2.1 0 k = nI 8) (hok : nOk ρ.2.2.1 ρ.2.1 c k lv 8) : wbody (wxM_perform d) post ρ S k (nI yd) o := by
  have hk64 : k < 64 := by have := hP.1.1; omega
  have hb := Rn_bd hR
  have hc16 := hP.2.1.2.1
  obtain ⟨f0, f5, f20, f21, f22, f1, f2, fo⟩ := id hF
  have pM : Pm ρ.2.2.1 (uu M 21 t (M 21 t + 1)) := Pm_u hR.2.1 (Or.inr (by omega))
  have hM : M 10 k = nI 8 := by rw [hR.2.1.1]; exact hd
  have hM0 : (uu M 21 t (M 21 t + 1)) 10 k = nI 8 := by rw [pM.1]; exact hd
  have R0 : Rn ρ.2.2.1 c (s + 1) S (uu M 21 t (M 21 t + 1)) mk lg bg dp := Rn_f hR (by omega)
  have z5 : (uu M 21 t (M 21 t + 1)) 27 5 = 0 := (uu_n (Or.inl (by omega))).trans f5
  have z0 : (uu M 21 t (M 21 t + 1)) 27 0 = nI (t + 1) := (uu_n (Or.inl (by omega))).trans f0
  have z2 : (uu M 21 t (M 21 t + 1)) 27 2 = cI o := (uu_n (Or.inl (by omega))).trans f2
  have kp : Kp M (uu M 21 t (M 21 t + 1)) := Kp_u Kp_rf (by omega)
  have lo : Lo t M (uu M 21 t (M 21 t + 1)) := Lo_u Lo_rf (by omega)
  have gs : ∀ q : Unit → Rg → Prop, wxQ_simple q (uu M 21 t (M 21 t + 1)) (nI k) → wxQ_go q M := fun q h => go_8 f0 (by omega) f20 hk64 hM h
  obtain ⟨v, hv1, hv⟩ := hok
  have hv' : (uu M 21 t (M 21 t + 1)) 11 k = nI v := by rw [pM.2.1]; exact hv
  have cv : (nI v).toNatClampNeg = v := nI_clamp (by omega)
  refine wb_8 hk hd ?_
  rw [hv, cv]
  refine ⟨vp_in_nI hv1 (by omega), ?_⟩
  unfold wxM_carry
  refine cx_end (r := 2) (v := (uu M 21 t (M 21 t + 1)) 0 v) (w := 2) hF ht hpost (Rn_k (Rn_s R0)) (Nat.le_refl _) (by omega) rfl rfl kp lo z5 z0 rfl (fun h => ?_) (fun h => absurd h (by omega)) (fun q h => gs q (simple_8 hk64 hM0 ?_))
  · rw [sR_same]; exact (by rw [uu_row (by omega)]; exact congrFun (hR.1.1 0 (by omega) (by omega)) v)
  · rw [hv', cv]
    exact ⟨vp_in_nI hv1 (by omega), h⟩
theorem lf_10 (hP : Pv ρ.2.2.1 ρ.2.1 c lm) (hk : k < ρ.2.1) (ht : t ≤ 111) (hR : Rn ρ.2.2.1 c (s + 1) S M mk lg bg dp) (hF : Fr M t k yd o mk) (hpost : ∀ r S' M', Dn ρ.2.2.1 c s t S M mk dp r S' M' → Reach M M' → post r S') (hd : ρ.2.2.1 0 k = nI 10) (hok : nOk ρ.2.2.1 ρ.2.1 c k lv 10) : wbody (wxM_perform d) post ρ S k (nI yd) o := by
  have hk64 : k < 64 := by have := hP.1.1; omega
  have hb := Rn_bd hR
  have hc16 := hP.2.1.2.1
  obtain ⟨f0, f5, f20, f21, f22, f1, f2, fo⟩ := id hF
  have pM : Pm ρ.2.2.1 (uu M 21 t (M 21 t + 1)) := Pm_u hR.2.1 (Or.inr (by omega))
  have hM : M 10 k = nI 10 := by rw [hR.2.1.1]; exact hd
  have hM0 : (uu M 21 t (M 21 t + 1)) 10 k = nI 10 := by rw [pM.1]; exact hd
  have R0 : Rn ρ.2.2.1 c (s + 1) S (uu M 21 t (M 21 t + 1)) mk lg bg dp := Rn_f hR (by omega)
  have z5 : (uu M 21 t (M 21 t + 1)) 27 5 = 0 := (uu_n (Or.inl (by omega))).trans f5
  have z0 : (uu M 21 t (M 21 t + 1)) 27 0 = nI (t + 1) := (uu_n (Or.inl (by omega))).trans f0
  have z2 : (uu M 21 t (M 21 t + 1)) 27 2 = cI o := (uu_n (Or.inl (by omega))).trans f2
  have kp : Kp M (uu M 21 t (M 21 t + 1)) := Kp_u Kp_rf (by omega)
  have lo : Lo t M (uu M 21 t (M 21 t + 1)) := Lo_u Lo_rf (by omega)
  have gs : ∀ q : Unit → Rg → Prop, wxQ_simple q (uu M 21 t (M 21 t + 1)) (nI k) → wxQ_go q M := fun q h => go_10 f0 (by omega) f20 hk64 hM h
  exact wb_10 hk hd (cx_thr (x' := (uu M 21 t (M 21 t + 1)) 11 k) (y' := (uu M 21 t (M 21 t + 1)) 12 k) (q := -1) hR hF ht (by rw [pM.2.1]) (by rw [pM.2.2.1]) rfl (fun j h => by cases h) hok hpost (fun q h => gs q (simple_10 hk64 hM0 h)))
theorem lf_11 (hP : Pv ρ.2.2.1 ρ.2.1 c lm) (hk : k < ρ.2.1) (ht : t ≤ 111) (hR : Rn ρ.2.2.1 c (s + 1) S M mk lg bg dp) (hF : Fr M t k yd o mk) (hpost : ∀ r S' M', Dn ρ.2.2.1 c s t S M mk dp r S' M' → Reach M M' → post r S') (hd : ρ.2.2.1 0 k = nI 11) (hok : nOk ρ.2.2.1 ρ.2.1 c k lv 11) : wbody (wxM_perform d) post ρ S k (nI yd) o := by
  have hk64 : k < 64 := by have := hP.1.1; omega
  have hb := Rn_bd hR
  have hc16 := hP.2.1.2.1
  obtain ⟨f0, f5, f20, f21, f22, f1, f2, fo⟩ := id hF
  have pM : Pm ρ.2.2.1 (uu M 21 t (M 21 t + 1)) := Pm_u hR.2.1 (Or.inr (by omega))
  have hM : M 10 k = nI 11 := by rw [hR.2.1.1]; exact hd
  have hM0 : (uu M 21 t (M 21 t + 1)) 10 k = nI 11 := by rw [pM.1]; exact hd
  have R0 : Rn ρ.2.2.1 c (s + 1) S (uu M 21 t (M 21 t + 1)) mk lg bg dp := Rn_f hR (by omega)
  have z5 : (uu M 21 t (M 21 t + 1)) 27 5 = 0 := (uu_n (Or.inl (by omega))).trans f5
  have z0 : (uu M 21 t (M 21 t + 1)) 27 0 = nI (t + 1) := (uu_n (Or.inl (by omega))).trans f0
  have z2 : (uu M 21 t (M 21 t + 1)) 27 2 = cI o := (uu_n (Or.inl (by omega))).trans f2
  have kp : Kp M (uu M 21 t (M 21 t + 1)) := Kp_u Kp_rf (by omega)
  have lo : Lo t M (uu M 21 t (M 21 t + 1)) := Lo_u Lo_rf (by omega)
  have gs : ∀ q : Unit → Rg → Prop, wxQ_simple q (uu M 21 t (M 21 t + 1)) (nI k) → wxQ_go q M := fun q h => go_11 f0 (by omega) f20 hk64 hM h
  refine wb_11 hk hd ?_
  unfold wxM_rethrow
  refine ⟨fun ho => ?_, fun j ho => ?_⟩
  · refine cx_thr (x' := 1) (y' := 0) (q := -1) hR hF ht rfl rfl rfl (fun j h => by cases h) ⟨1, by have := hP.2.1.1; omega, rfl⟩ hpost (fun q h => gs q (simple_11 hk64 hM0 ?_))
    rw [z2, ho]
    exact ⟨fun h9 => absurd h9 (by decide), fun _ => h⟩
  · refine cx_end (r := 3) (v := nI j) (w := 3) hF ht hpost (Rn_c (i := 300) (Rn_s R0) (by omega)) (Nat.le_refl _) (by omega) (sC_n (by omega)) (sC_n (by omega)) kp lo z5 z0 rfl (fun h => absurd h (by omega)) (fun _ => ⟨j, fo j ho, sC_same, rfl⟩) (fun q h => gs q (simple_11 hk64 hM0 ?_))
    rw [z2, ho]
    exact ⟨fun _ => h, fun h9 => absurd (nI_pos' (by have := fo j ho; omega)) h9⟩
theorem lf_12 (hP : Pv ρ.2.2.1 ρ.2.1 c lm) (hk : k < ρ.2.1) (ht : t ≤ 111) (hR : Rn ρ.2.2.1 c (s + 1) S M mk lg bg dp) (hF : Fr M t k yd o mk) (hpost : ∀ r S' M', Dn ρ.2.2.1 c s t S M mk dp r S' M' → Reach M M' → post r S') (hd : ρ.2.2.1 0 k = nI 12) (hok : nOk ρ.2.2.1 ρ.2.1 c k lv 12) : wbody (wxM_perform d) post ρ S k (nI yd) o := by
  have hk64 : k < 64 := by have := hP.1.1; omega
  have hb := Rn_bd hR
  have hc16 := hP.2.1.2.1
  obtain ⟨f0, f5, f20, f21, f22, f1, f2, fo⟩ := id hF
  have pM : Pm ρ.2.2.1 (uu M 21 t (M 21 t + 1)) := Pm_u hR.2.1 (Or.inr (by omega))
  have hM : M 10 k = nI 12 := by rw [hR.2.1.1]; exact hd
  have hM0 : (uu M 21 t (M 21 t + 1)) 10 k = nI 12 := by rw [pM.1]; exact hd
  have R0 : Rn ρ.2.2.1 c (s + 1) S (uu M 21 t (M 21 t + 1)) mk lg bg dp := Rn_f hR (by omega)
  have z5 : (uu M 21 t (M 21 t + 1)) 27 5 = 0 := (uu_n (Or.inl (by omega))).trans f5
  have z0 : (uu M 21 t (M 21 t + 1)) 27 0 = nI (t + 1) := (uu_n (Or.inl (by omega))).trans f0
  have z2 : (uu M 21 t (M 21 t + 1)) 27 2 = cI o := (uu_n (Or.inl (by omega))).trans f2
  have kp : Kp M (uu M 21 t (M 21 t + 1)) := Kp_u Kp_rf (by omega)
  have lo : Lo t M (uu M 21 t (M 21 t + 1)) := Lo_u Lo_rf (by omega)
  have gs : ∀ q : Unit → Rg → Prop, wxQ_simple q (uu M 21 t (M 21 t + 1)) (nI k) → wxQ_go q M := fun q h => go_12 f0 (by omega) f20 hk64 hM h
  exact wb_12 hk hd (cx_thr (x' := (uu M 21 t (M 21 t + 1)) 11 k) (y' := (uu M 21 t (M 21 t + 1)) 12 k) (q := (uu M 21 t (M 21 t + 1)) 27 2) hR hF ht (by rw [pM.2.1]) (by rw [pM.2.2.1]) z2 fo hok hpost (fun q h => gs q (simple_12 hk64 hM0 h)))
theorem lf_16 (hP : Pv ρ.2.2.1 ρ.2.1 c lm) (hk : k < ρ.2.1) (ht : t ≤ 111) (hR : Rn ρ.2.2.1 c (s + 1) S M mk lg bg dp) (hF : Fr M t k yd o mk) (hpost : ∀ r S' M', Dn ρ.2.2.1 c s t S M mk dp r S' M' → Reach M M' → post r S') (hd : ρ.2.2.1 0 k = nI 16) (hok : nOk ρ.2.2.1 ρ.2.1 c k lv 16) : wbody (wxM_perform d) post ρ S k (nI yd) o := by
  have hk64 : k < 64 := by have := hP.1.1; omega
  have hb := Rn_bd hR
  have hc16 := hP.2.1.2.1
  obtain ⟨f0, f5, f20, f21, f22, f1, f2, fo⟩ := id hF
  have pM : Pm ρ.2.2.1 (uu M 21 t (M 21 t + 1)) := Pm_u hR.2.1 (Or.inr (by omega))
  have hM : M 10 k = nI 16 := by rw [hR.2.1.1]; exact hd
  have hM0 : (uu M 21 t (M 21 t + 1)) 10 k = nI 16 := by rw [pM.1]; exact hd
  have R0 : Rn ρ.2.2.1 c (s + 1) S (uu M 21 t (M 21 t + 1)) mk lg bg dp := Rn_f hR (by omega)
  have z5 : (uu M 21 t (M 21 t + 1)) 27 5 = 0 := (uu_n (Or.inl (by omega))).trans f5
  have z0 : (uu M 21 t (M 21 t + 1)) 27 0 = nI (t + 1) := (uu_n (Or.inl (by omega))).trans f0
  have z2 : (uu M 21 t (M 21 t + 1)) 27 2 = cI o := (uu_n (Or.inl (by omega))).trans f2
  have kp : Kp M (uu M 21 t (M 21 t + 1)) := Kp_u Kp_rf (by omega)
  have lo : Lo t M (uu M 21 t (M 21 t + 1)) := Lo_u Lo_rf (by omega)
  have gs : ∀ q : Unit → Rg → Prop, wxQ_simple q (uu M 21 t (M 21 t + 1)) (nI k) → wxQ_go q M := fun q h => go_16 f0 (by omega) f20 hk64 hM h
  obtain ⟨v, hv1, hv⟩ := hok.1
  have hv' : (uu M 21 t (M 21 t + 1)) 11 k = nI v := by rw [pM.2.1]; exact hv
  have cv : (nI v).toNatClampNeg = v := nI_clamp (by omega)
  obtain ⟨u, hu1, hu⟩ := hok.2
  have hu' : (uu M 21 t (M 21 t + 1)) 12 k = nI u := by rw [pM.2.2.1]; exact hu
  have cu : (nI u).toNatClampNeg = u := nI_clamp (by omega)
  have eu : (uu M 21 t (M 21 t + 1)) 0 u = S.1 0 u := (by rw [uu_row (by omega)]; exact congrFun (hR.1.1 0 (by omega) (by omega)) u)
  have ev : (uu M 21 t (M 21 t + 1)) 0 v = S.1 0 v := (by rw [uu_row (by omega)]; exact congrFun (hR.1.1 0 (by omega) (by omega)) v)
  have gm : ∀ q : Unit → Rg → Prop, wxQ_machine q (uu M 21 t (M 21 t + 1)) (nI k) (nI v) → wxQ_go q M := fun q h => gs q (simple_16 hk64 hM0 (by rw [hv']; exact h))
  refine wb_16 hk hd ?_
  unfold wxM_divide
  rw [hv, cv, hu, cu]
  refine ⟨hk, vp_in_nI hu1 (by omega), fun h9 => ⟨vp_in_nI hv1 (by omega), h9, ?_⟩, fun h9 => ?_⟩
  · by_cases e1 : S.1 0 u = -1
    · refine cx_end (r := 0) (v := 0) (w := 0) (M1 := uu (uu M 21 t (M 21 t + 1)) 0 v (-((uu M 21 t (M 21 t + 1)) 0 v))) hF ht hpost (Rn_v (a := 0) (i := v) (Rn_s R0) (by omega) rfl (by rw [ev, e1, i32_div_m1])) (Nat.le_refl _) (by omega) rfl rfl (Kp_u kp (by omega)) (Lo_u lo (by omega)) ((uu_n (Or.inl (by omega))).trans z5) ((uu_n (Or.inl (by omega))).trans z0) rfl (fun h => absurd h (by omega)) (fun h => absurd h (by omega)) (fun q h => gm q (machine_16 hk64 hM0 ?_))
      rw [hu', cu, eu, cv]
      exact ⟨vp_in_nI hu1 (by omega), fun _ => ⟨fun h8 => absurd e1 h8, fun _ => ⟨vp_in_nI hv1 (by omega), h⟩⟩, fun h8 => absurd h8 h9⟩
    · refine cx_end (r := 0) (v := 0) (w := 0) (M1 := uu (uu M 21 t (M 21 t + 1)) 0 v ((uu M 21 t (M 21 t + 1)) 0 v / S.1 0 u)) hF ht hpost (Rn_v (a := 0) (i := v) (Rn_s R0) (by omega) rfl (by rw [ev])) (Nat.le_refl _) (by omega) rfl rfl (Kp_u kp (by omega)) (Lo_u lo (by omega)) ((uu_n (Or.inl (by omega))).trans z5) ((uu_n (Or.inl (by omega))).trans z0) rfl (fun h => absurd h (by omega)) (fun h => absurd h (by omega)) (fun q h => gm q (machine_16 hk64 hM0 ?_))
      rw [hu', cu, eu, cv]
      exact ⟨vp_in_nI hu1 (by omega), fun _ => ⟨fun _ => ⟨vp_in_nI hv1 (by omega), h9, h⟩, fun h8 => absurd h8 e1⟩, fun h8 => absurd h8 h9⟩
  · refine cx_thr (x' := 2) (y' := 0) (q := -1) hR hF ht rfl rfl rfl (fun j h => by cases h) ⟨2, by have := hP.2.1.1; omega, rfl⟩ hpost (fun q h => gm q (machine_16 hk64 hM0 ?_))
    rw [hu', cu, eu]
    exact ⟨vp_in_nI hu1 (by omega), fun h8 => absurd h9 h8, fun _ => h⟩
theorem lf_17 (hP : Pv ρ.2.2.1 ρ.2.1 c lm) (hk : k < ρ.2.1) (ht : t ≤ 111) (hR : Rn ρ.2.2.1 c (s + 1) S M mk lg bg dp) (hF : Fr M t k yd o mk) (hpost : ∀ r S' M', Dn ρ.2.2.1 c s t S M mk dp r S' M' → Reach M M' → post r S') (hd : ρ.2.2.1 0 k = nI 17) (hok : nOk ρ.2.2.1 ρ.2.1 c k lv 17) : wbody (wxM_perform d) post ρ S k (nI yd) o := by
  have hk64 : k < 64 := by have := hP.1.1; omega
  have hb := Rn_bd hR
  have hc16 := hP.2.1.2.1
  obtain ⟨f0, f5, f20, f21, f22, f1, f2, fo⟩ := id hF
  have pM : Pm ρ.2.2.1 (uu M 21 t (M 21 t + 1)) := Pm_u hR.2.1 (Or.inr (by omega))
  have hM : M 10 k = nI 17 := by rw [hR.2.1.1]; exact hd
  have hM0 : (uu M 21 t (M 21 t + 1)) 10 k = nI 17 := by rw [pM.1]; exact hd
  have R0 : Rn ρ.2.2.1 c (s + 1) S (uu M 21 t (M 21 t + 1)) mk lg bg dp := Rn_f hR (by omega)
  have z5 : (uu M 21 t (M 21 t + 1)) 27 5 = 0 := (uu_n (Or.inl (by omega))).trans f5
  have z0 : (uu M 21 t (M 21 t + 1)) 27 0 = nI (t + 1) := (uu_n (Or.inl (by omega))).trans f0
  have z2 : (uu M 21 t (M 21 t + 1)) 27 2 = cI o := (uu_n (Or.inl (by omega))).trans f2
  have kp : Kp M (uu M 21 t (M 21 t + 1)) := Kp_u Kp_rf (by omega)
  have lo : Lo t M (uu M 21 t (M 21 t + 1)) := Lo_u Lo_rf (by omega)
  have gs : ∀ q : Unit → Rg → Prop, wxQ_simple q (uu M 21 t (M 21 t + 1)) (nI k) → wxQ_go q M := fun q h => go_17 f0 (by omega) f20 hk64 hM h
  obtain ⟨v, hv1, hv⟩ := hok.1
  have hv' : (uu M 21 t (M 21 t + 1)) 11 k = nI v := by rw [pM.2.1]; exact hv
  have cv : (nI v).toNatClampNeg = v := nI_clamp (by omega)
  obtain ⟨u, hu1, hu⟩ := hok.2
  have hu' : (uu M 21 t (M 21 t + 1)) 12 k = nI u := by rw [pM.2.2.1]; exact hu
  have ev : (uu M 21 t (M 21 t + 1)) 0 v = S.1 0 v := (by rw [uu_row (by omega)]; exact congrFun (hR.1.1 0 (by omega) (by omega)) v)
  have gm : ∀ q : Unit → Rg → Prop, wxQ_machine q (uu M 21 t (M 21 t + 1)) (nI k) (nI v) → wxQ_go q M := fun q h => gs q (simple_17 hk64 hM0 (by rw [hv']; exact h))
  have thr : ((S.1 0 v < 0) ∨ (nI u ≤ S.1 0 v)) → wxM_raise (fun r S4 => post r S4) ρ S 3 (S.1 0 v) none := by
    intro h9
    refine cx_thr (x' := 3) (y' := (uu M 21 t (M 21 t + 1)) 0 v) (q := -1) hR hF ht rfl ev rfl (fun j h => by cases h) ⟨3, by have := hP.2.1.1; omega, rfl⟩ hpost (fun q h => gm q (machine_17 hk64 hM0 ?_))
    rw [hu', cv]
    unfold wxQ_out
    refine ⟨vp_in_nI hv1 (by omega), fun _ => ⟨fun h8 => absurd h8 (by decide), fun _ => h⟩, fun h7 => ⟨fun h8 => ?_, fun _ => ⟨fun h8 => absurd h8 (by decide), fun _ => h⟩⟩⟩
    rw [ev] at h7 h8
    rcases h9 with h9 | h9
    · exact absurd h9 h7
    · exfalso
      have e := pk_sub_toInt (a := u) (b := 1) (by omega) (by omega)
      rw [Int32.le_iff_toInt_le, show (nI u - 1 : Int32).toInt = (u : Int) - 1 from e] at h8
      rw [Int32.le_iff_toInt_le, nI_toInt (by omega)] at h9
      omega
  refine wb_17 hk hd ?_
  unfold wxM_index
  rw [hv, cv, hu]
  refine ⟨hk, vp_in_nI hv1 (by omega), fun h9 => thr (Or.inl h9), fun h9 => ⟨fun h8 => thr (Or.inr h8), fun h8 => ?_⟩⟩
  refine cx_end (r := 0) (v := 0) (w := 0) (M1 := (uu M 21 t (M 21 t + 1))) hF ht hpost (Rn_s R0) (Nat.le_refl _) (by omega) rfl rfl kp lo z5 z0 rfl (fun h => absurd h (by omega)) (fun h => absurd h (by omega)) (fun q h => gm q (machine_17 hk64 hM0 ?_))
  rw [hu', cv]
  unfold wxQ_out
  rw [ev]
  refine ⟨vp_in_nI hv1 (by omega), fun h7 => absurd h7 h9, fun h7 => ⟨fun _ => ⟨fun _ => h, fun h6 => absurd rfl h6⟩, fun h6 => ?_⟩⟩
  exfalso
  have e := pk_sub_toInt (a := u) (b := 1) (by omega) (by omega)
  rw [Int32.le_iff_toInt_le, show (nI u - 1 : Int32).toInt = (u : Int) - 1 from e] at h6
  rw [Int32.le_iff_toInt_le, nI_toInt (by omega)] at h8
  omega
theorem lf_18 (hP : Pv ρ.2.2.1 ρ.2.1 c lm) (hk : k < ρ.2.1) (ht : t ≤ 111) (hR : Rn ρ.2.2.1 c (s + 1) S M mk lg bg dp) (hF : Fr M t k yd o mk) (hpost : ∀ r S' M', Dn ρ.2.2.1 c s t S M mk dp r S' M' → Reach M M' → post r S') (hd : ρ.2.2.1 0 k = nI 18) (hok : nOk ρ.2.2.1 ρ.2.1 c k lv 18) : wbody (wxM_perform d) post ρ S k (nI yd) o := by
  have hk64 : k < 64 := by have := hP.1.1; omega
  have hb := Rn_bd hR
  have hc16 := hP.2.1.2.1
  obtain ⟨f0, f5, f20, f21, f22, f1, f2, fo⟩ := id hF
  have pM : Pm ρ.2.2.1 (uu M 21 t (M 21 t + 1)) := Pm_u hR.2.1 (Or.inr (by omega))
  have hM : M 10 k = nI 18 := by rw [hR.2.1.1]; exact hd
  have hM0 : (uu M 21 t (M 21 t + 1)) 10 k = nI 18 := by rw [pM.1]; exact hd
  have R0 : Rn ρ.2.2.1 c (s + 1) S (uu M 21 t (M 21 t + 1)) mk lg bg dp := Rn_f hR (by omega)
  have z5 : (uu M 21 t (M 21 t + 1)) 27 5 = 0 := (uu_n (Or.inl (by omega))).trans f5
  have z0 : (uu M 21 t (M 21 t + 1)) 27 0 = nI (t + 1) := (uu_n (Or.inl (by omega))).trans f0
  have z2 : (uu M 21 t (M 21 t + 1)) 27 2 = cI o := (uu_n (Or.inl (by omega))).trans f2
  have kp : Kp M (uu M 21 t (M 21 t + 1)) := Kp_u Kp_rf (by omega)
  have lo : Lo t M (uu M 21 t (M 21 t + 1)) := Lo_u Lo_rf (by omega)
  have gs : ∀ q : Unit → Rg → Prop, wxQ_simple q (uu M 21 t (M 21 t + 1)) (nI k) → wxQ_go q M := fun q h => go_18 f0 (by omega) f20 hk64 hM h
  obtain ⟨v, hv1, hv⟩ := hok
  have hv' : (uu M 21 t (M 21 t + 1)) 11 k = nI v := by rw [pM.2.1]; exact hv
  have cv : (nI v).toNatClampNeg = v := nI_clamp (by omega)
  have gm : ∀ q : Unit → Rg → Prop, wxQ_machine q (uu M 21 t (M 21 t + 1)) (nI k) (nI v) → wxQ_go q M := fun q h => gs q (simple_18 hk64 hM0 (by rw [hv']; exact h))
  have fin : ∀ (hg : ∀ q : Unit → Rg → Prop, q () (en (uu M 21 t (M 21 t + 1)) 0 0) → wxQ_machine q (uu M 21 t (M 21 t + 1)) (nI k) (nI v)), post 0 S := fun hg => cx_end (r := 0) (v := 0) (w := 0) (M1 := (uu M 21 t (M 21 t + 1))) hF ht hpost (Rn_s R0) (Nat.le_refl _) (by omega) rfl rfl kp lo z5 z0 rfl (fun h => absurd h (by omega)) (fun h => absurd h (by omega)) (fun q h => gm q (hg q h))
  refine wb_18 hk hd ?_
  unfold wxM_cast
  rw [hv]
  refine ⟨fun ho => fin (fun q h => machine_18 hk64 hM0 ?_), fun j ho => ?_⟩
  · rw [z2, ho]
    exact ⟨fun _ => h, fun h9 => absurd (by decide) h9⟩
  · have hj := fo j ho
    have cj : (nI j).toNatClampNeg = j := nI_clamp (by omega)
    have e3 : (uu M 21 t (M 21 t + 1)) 3 j = S.1 3 j := (by rw [uu_row (by omega)]; exact congrFun (hR.1.1 3 (by omega) (by omega)) j)
    obtain ⟨r, i1, i2⟩ := is_all (y := nI v) hP (hR.2.2.1.2.2.2.2.2.2 j hj).1
    refine ⟨by omega, hk, i1 _ ρ S rfl ⟨fun hr => ?_, fun hr => fin (fun q h => machine_18 hk64 hM0 ?_)⟩⟩
    · refine cx_thr (x' := 4) (y' := S.1 3 j) (q := -1) hR hF ht rfl rfl rfl (fun j h => by cases h) ⟨4, by have := hP.2.1.1; omega, rfl⟩ hpost (fun q h => gm q (machine_18 hk64 hM0 ?_))
      rw [z2, ho]
      refine ⟨fun h9 => absurd h9 (nI_pos (by omega)), fun _ => ⟨vp_in_nI (by omega) (by omega), ?_⟩⟩
      show wxQ_is _ (uu M 21 t (M 21 t + 1)) ((uu M 21 t (M 21 t + 1)) 3 ((nI j).toNatClampNeg)) _
      rw [cj, e3]
      refine i2 _ _ pM ⟨fun h9 => absurd hr h9, fun _ => ?_⟩
      rw [z2, ho]
      show vp_in (nI j) 302 ∧ wxQ_endThrow _ (uu M 21 t (M 21 t + 1)) 4 ((uu M 21 t (M 21 t + 1)) 3 ((nI j).toNatClampNeg)) (-1)
      rw [cj, e3]
      exact ⟨vp_in_nI (by omega) (by omega), h⟩
    · rw [z2, ho]
      refine ⟨fun h9 => absurd h9 (nI_pos (by omega)), fun _ => ⟨vp_in_nI (by omega) (by omega), ?_⟩⟩
      show wxQ_is _ (uu M 21 t (M 21 t + 1)) ((uu M 21 t (M 21 t + 1)) 3 ((nI j).toNatClampNeg)) _
      rw [cj, e3]
      exact i2 _ _ pM ⟨fun _ => h, fun h9 => absurd h9 hr⟩
theorem lf_19 (hP : Pv ρ.2.2.1 ρ.2.1 c lm) (hk : k < ρ.2.1) (ht : t ≤ 111) (hR : Rn ρ.2.2.1 c (s + 1) S M mk lg bg dp) (hF : Fr M t k yd o mk) (hpost : ∀ r S' M', Dn ρ.2.2.1 c s t S M mk dp r S' M' → Reach M M' → post r S') (hd : ρ.2.2.1 0 k = nI 19) (hok : nOk ρ.2.2.1 ρ.2.1 c k lv 19) : wbody (wxM_perform d) post ρ S k (nI yd) o := by
  have hk64 : k < 64 := by have := hP.1.1; omega
  have hb := Rn_bd hR
  have hc16 := hP.2.1.2.1
  obtain ⟨f0, f5, f20, f21, f22, f1, f2, fo⟩ := id hF
  have pM : Pm ρ.2.2.1 (uu M 21 t (M 21 t + 1)) := Pm_u hR.2.1 (Or.inr (by omega))
  have hM : M 10 k = nI 19 := by rw [hR.2.1.1]; exact hd
  have hM0 : (uu M 21 t (M 21 t + 1)) 10 k = nI 19 := by rw [pM.1]; exact hd
  have R0 : Rn ρ.2.2.1 c (s + 1) S (uu M 21 t (M 21 t + 1)) mk lg bg dp := Rn_f hR (by omega)
  have z5 : (uu M 21 t (M 21 t + 1)) 27 5 = 0 := (uu_n (Or.inl (by omega))).trans f5
  have z0 : (uu M 21 t (M 21 t + 1)) 27 0 = nI (t + 1) := (uu_n (Or.inl (by omega))).trans f0
  have z2 : (uu M 21 t (M 21 t + 1)) 27 2 = cI o := (uu_n (Or.inl (by omega))).trans f2
  have kp : Kp M (uu M 21 t (M 21 t + 1)) := Kp_u Kp_rf (by omega)
  have lo : Lo t M (uu M 21 t (M 21 t + 1)) := Lo_u Lo_rf (by omega)
  have gs : ∀ q : Unit → Rg → Prop, wxQ_simple q (uu M 21 t (M 21 t + 1)) (nI k) → wxQ_go q M := fun q h => go_19 f0 (by omega) f20 hk64 hM h
  obtain ⟨v, hv1, hv⟩ := hok
  have hv' : (uu M 21 t (M 21 t + 1)) 11 k = nI v := by rw [pM.2.1]; exact hv
  have cv : (nI v).toNatClampNeg = v := nI_clamp (by omega)
  have ev : (uu M 21 t (M 21 t + 1)) 0 v = S.1 0 v := (by rw [uu_row (by omega)]; exact congrFun (hR.1.1 0 (by omega) (by omega)) v)
  refine wb_19 hk hd ?_
  rw [hv, cv]
  refine ⟨vp_in_nI hv1 (by omega), ?_⟩
  unfold wxM_carry
  refine hpost 4 _ (uu (uu (uu (uu M 21 t (M 21 t + 1)) 27 6 4) 27 7 ((S.1 0 v) &&& 255)) 27 5 1) ⟨by omega, ⟨mk, lg, bg, dp, Rn_f (Rn_f (Rn_f (Rn_k (Rn_s R0)) (by omega)) (by omega)) (by omega), Nat.le_refl _, Nat.le_refl _, fun h => absurd h (by omega)⟩, ⟨rfl, rfl⟩, Kp_u (Kp_u (Kp_u kp (by omega)) (by omega)) (by omega), fun h => absurd h (by omega), fun h => absurd h (by omega), fun _ => ⟨uu_same, ?_, ?_⟩, fun h => absurd h (by omega)⟩ (reach_go f5 f0 (by omega) (fun q h => gs q (simple_19 hk64 hM0 ?_)))
  · rw [uu_n (Or.inr (by omega)), uu_n (Or.inr (by omega)), uu_same]
  · rw [uu_n (Or.inr (by omega)), uu_same, sR_same]
  · rw [hv']
    refine machine_19 hk64 hM0 ?_
    rw [cv, ev]
    exact ⟨vp_in_nI hv1 (by omega), h⟩
theorem lf_21 (hP : Pv ρ.2.2.1 ρ.2.1 c lm) (hk : k < ρ.2.1) (ht : t ≤ 111) (hR : Rn ρ.2.2.1 c (s + 1) S M mk lg bg dp) (hF : Fr M t k yd o mk) (hpost : ∀ r S' M', Dn ρ.2.2.1 c s t S M mk dp r S' M' → Reach M M' → post r S') (hd : ρ.2.2.1 0 k = nI 21) (hok : nOk ρ.2.2.1 ρ.2.1 c k lv 21) : wbody (wxM_perform d) post ρ S k (nI yd) o := by
  have hk64 : k < 64 := by have := hP.1.1; omega
  have hb := Rn_bd hR
  have hc16 := hP.2.1.2.1
  obtain ⟨f0, f5, f20, f21, f22, f1, f2, fo⟩ := id hF
  have pM : Pm ρ.2.2.1 (uu M 21 t (M 21 t + 1)) := Pm_u hR.2.1 (Or.inr (by omega))
  have hM : M 10 k = nI 21 := by rw [hR.2.1.1]; exact hd
  have hM0 : (uu M 21 t (M 21 t + 1)) 10 k = nI 21 := by rw [pM.1]; exact hd
  have R0 : Rn ρ.2.2.1 c (s + 1) S (uu M 21 t (M 21 t + 1)) mk lg bg dp := Rn_f hR (by omega)
  have z5 : (uu M 21 t (M 21 t + 1)) 27 5 = 0 := (uu_n (Or.inl (by omega))).trans f5
  have z0 : (uu M 21 t (M 21 t + 1)) 27 0 = nI (t + 1) := (uu_n (Or.inl (by omega))).trans f0
  have z2 : (uu M 21 t (M 21 t + 1)) 27 2 = cI o := (uu_n (Or.inl (by omega))).trans f2
  have kp : Kp M (uu M 21 t (M 21 t + 1)) := Kp_u Kp_rf (by omega)
  have lo : Lo t M (uu M 21 t (M 21 t + 1)) := Lo_u Lo_rf (by omega)
  have gs : ∀ q : Unit → Rg → Prop, wxQ_simple q (uu M 21 t (M 21 t + 1)) (nI k) → wxQ_go q M := fun q h => go_21 f0 (by omega) f20 hk64 hM h
  obtain ⟨v, hv1, hv⟩ := hok
  have hv' : (uu M 21 t (M 21 t + 1)) 11 k = nI v := by rw [pM.2.1]; exact hv
  have cv : (nI v).toNatClampNeg = v := nI_clamp (by omega)
  have ev : (uu M 21 t (M 21 t + 1)) 1 v = S.1 1 v := (by rw [uu_row (by omega)]; exact congrFun (hR.1.1 1 (by omega) (by omega)) v)
  have gm : ∀ q : Unit → Rg → Prop, wxQ_machine q (uu M 21 t (M 21 t + 1)) (nI k) (nI v) → wxQ_go q M := fun q h => gs q (simple_21 hk64 hM0 (by rw [hv']; exact h))
  refine wb_21 hk hd ?_
  unfold wxM_wake
  rw [hv, cv]
  refine ⟨hk, vp_in_nI hv1 (by omega), fun h9 => cx_log (x' := 100 + nI v) hR hF ht rfl hpost (fun q h => gm q (machine_21 hk64 hM0 ?_)), fun h9 => cx_thr (x' := 6) (y' := nI v) (q := -1) hR hF ht rfl rfl rfl (fun j h => by cases h) ⟨6, by have := hP.2.1.1; omega, rfl⟩ hpost (fun q h => gm q (machine_21 hk64 hM0 ?_))⟩
  · rw [cv, ev]
    exact ⟨vp_in_nI hv1 (by omega), fun _ => h, fun h8 => absurd h8 h9⟩
  · rw [cv, ev]
    exact ⟨vp_in_nI hv1 (by omega), fun h8 => absurd h9 h8, fun _ => h⟩
theorem lf_22 (hP : Pv ρ.2.2.1 ρ.2.1 c lm) (hk : k < ρ.2.1) (ht : t ≤ 111) (hR : Rn ρ.2.2.1 c (s + 1) S M mk lg bg dp) (hF : Fr M t k yd o mk) (hpost : ∀ r S' M', Dn ρ.2.2.1 c s t S M mk dp r S' M' → Reach M M' → post r S') (hd : ρ.2.2.1 0 k = nI 22) (hok : nOk ρ.2.2.1 ρ.2.1 c k lv 22) : wbody (wxM_perform d) post ρ S k (nI yd) o := by
  have hk64 : k < 64 := by have := hP.1.1; omega
  have hb := Rn_bd hR
  have hc16 := hP.2.1.2.1
  obtain ⟨f0, f5, f20, f21, f22, f1, f2, fo⟩ := id hF
  have pM : Pm ρ.2.2.1 (uu M 21 t (M 21 t + 1)) := Pm_u hR.2.1 (Or.inr (by omega))
  have hM : M 10 k = nI 22 := by rw [hR.2.1.1]; exact hd
  have hM0 : (uu M 21 t (M 21 t + 1)) 10 k = nI 22 := by rw [pM.1]; exact hd
  have R0 : Rn ρ.2.2.1 c (s + 1) S (uu M 21 t (M 21 t + 1)) mk lg bg dp := Rn_f hR (by omega)
  have z5 : (uu M 21 t (M 21 t + 1)) 27 5 = 0 := (uu_n (Or.inl (by omega))).trans f5
  have z0 : (uu M 21 t (M 21 t + 1)) 27 0 = nI (t + 1) := (uu_n (Or.inl (by omega))).trans f0
  have z2 : (uu M 21 t (M 21 t + 1)) 27 2 = cI o := (uu_n (Or.inl (by omega))).trans f2
  have kp : Kp M (uu M 21 t (M 21 t + 1)) := Kp_u Kp_rf (by omega)
  have lo : Lo t M (uu M 21 t (M 21 t + 1)) := Lo_u Lo_rf (by omega)
  have gs : ∀ q : Unit → Rg → Prop, wxQ_simple q (uu M 21 t (M 21 t + 1)) (nI k) → wxQ_go q M := fun q h => go_22 f0 (by omega) f20 hk64 hM h
  have gm : ∀ q : Unit → Rg → Prop, wxQ_machine q (uu M 21 t (M 21 t + 1)) (nI k) ((uu M 21 t (M 21 t + 1)) 11 k) → wxQ_go q M := fun q h => gs q (simple_22 hk64 hM0 h)
  refine wb_22 hk hd (nt_22 hk hd ⟨fun ho => ?_, fun j ho => ?_⟩)
  · refine cx_end (r := 0) (v := 0) (w := 0) (M1 := (uu M 21 t (M 21 t + 1))) hF ht hpost (Rn_s R0) (Nat.le_refl _) (by omega) rfl rfl kp lo z5 z0 rfl (fun h => absurd h (by omega)) (fun h => absurd h (by omega)) (fun q h => gm q (machine_22 hk64 hM0 ?_))
    rw [z2, ho]
    exact ⟨fun _ => h, fun h9 => absurd (by decide) h9⟩
  · have hj := fo j ho
    obtain ⟨j', hj', ⟨D1, h1⟩, ⟨D2, h2⟩⟩ := last_both R0 j j hj (Nat.le_refl _)
    have e3 : (uu M 21 t (M 21 t + 1)) 3 j' = S.1 3 j' := (by rw [uu_row (by omega)]; exact congrFun (hR.1.1 3 (by omega) (by omega)) j')
    refine ⟨by omega, D1, h1 _ ρ j ⟨by omega, cx_log (x' := S.1 3 j') hR hF ht rfl hpost (fun q h => gm q (machine_22 hk64 hM0 ?_))⟩⟩
    rw [z2, ho]
    refine ⟨fun h9 => absurd h9 (nI_pos (by omega)), fun _ => ⟨D2, h2 _ _ ?_⟩⟩
    show vp_in (nI j') 302 ∧ wxQ_note _ (uu M 21 t (M 21 t + 1)) ((uu M 21 t (M 21 t + 1)) 3 ((nI j').toNatClampNeg))
    rw [nI_clamp (by omega), e3]
    exact ⟨vp_in_nI (by omega) (by omega), h⟩
end LK
