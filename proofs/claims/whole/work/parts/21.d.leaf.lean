/-! nodes without parts -/
def Fr (M : Rg) (t k yd : Nat) (o : Option Nat) (mk : Nat) : Prop := M 27 0 = nI (t + 1) ∧ M 27 5 = 0 ∧ M 20 t = nI k ∧ M 21 t = 0 ∧ M 22 t = 0 ∧ M 27 1 = nI yd ∧ M 27 2 = cI o ∧ (∀ j, o = some j → j < mk)
theorem sC_n {S : Sg} {i j : Nat} {o : Option Nat} (h : j ≠ i) : (sC S i o).2 j = S.2 j := if_neg h
theorem sC_same {S : Sg} {i : Nat} {o : Option Nat} : (sC S i o).2 i = o := if_pos rfl
section LF
variable {ρ : Rh} {c lm d s t k yd mk lg bg dp : Nat} {S : Sg} {M : Rg} {o : Option Nat} {post : Nat → Sg → Prop}
theorem cx_end {r mk' lg' bg' : Nat} {S' : Sg} {M1 : Rg} {v w : Int32} (hF : Fr M t k yd o mk) (ht : t ≤ 111) (hpost : ∀ r S' M', Dn ρ.2.2.1 c s t S M mk dp r S' M' → Reach M M' → post r S') (h : Rn ρ.2.2.1 c s S' M1 mk' lg' bg' dp) (hm : mk ≤ mk') (hr : r < 4) (h01 : S'.2 301 = S.2 301) (h02 : S'.2 302 = S.2 302) (hk : Kp M M1) (hl : Lo t M M1) (h5 : M1 27 5 = 0) (h0 : M1 27 0 = nI (t + 1)) (hw : w = nI r) (h2 : r = 2 → v = S'.1 7 6) (h3 : r = 3 → ∃ j, j < mk' ∧ S'.2 300 = some j ∧ v = nI j)
    (hg : ∀ q : Unit → Rg → Prop, q () (en M1 w v) → wxQ_go q M) : post r S' :=
  hpost r S' _ (dn_en h hm (Nat.le_refl _) hr h01 h02 hk hl h5 h0 hw h2 h3) (reach_go hF.2.1 hF.1 (by omega) hg)
theorem cx_log {x x' : Int32} (hR : Rn ρ.2.2.1 c (s + 1) S M mk lg bg dp) (hF : Fr M t k yd o mk) (ht : t ≤ 111) (hx : x' = x) (hpost : ∀ r S' M', Dn ρ.2.2.1 c s t S M mk dp r S' M' → Reach M M' → post r S')
    (hg : ∀ q : Unit → Rg → Prop, wxQ_note q (uu M 21 t (M 21 t + 1)) x' → wxQ_go q M) : wxM_addToLog (fun (_ : Unit) S4 => post 0 S4) ρ S x := by
  have hb := Rn_bd hR
  obtain ⟨-, g2, -, g4, g5, g6, -⟩ := hR.2.2.1
  unfold wxM_addToLog
  rw [g2, nI_clamp (by omega)]
  refine ⟨vp_in_nI (by omega) (by omega), ?_⟩
  rw [← g2]
  have h0 : Rn ρ.2.2.1 c (s + 1) S (uu M 21 t (M 21 t + 1)) mk lg bg dp := Rn_f hR (by omega)
  have e70 : (uu M 21 t (M 21 t + 1)) 7 0 = nI lg := by rw [uu_n (Or.inl (by omega)), hR.1.2 0 (by omega)]; exact g2
  refine cx_end (r := 0) (v := 0) (w := 0) hF ht hpost (Rn_log h0 hx) (Nat.le_refl _) (by omega) rfl rfl (Kp_u (Kp_u (Kp_u Kp_rf (by omega)) (by omega)) (by omega)) (Lo_u (Lo_u (Lo_u Lo_rf (by omega)) (by omega)) (by omega)) ?_ ?_ rfl (fun h => absurd h (by omega)) (fun h => absurd h (by omega)) (fun q hq => hg q ?_)
  · rw [uu_n (Or.inl (by omega)), uu_n (Or.inl (by omega)), uu_n (Or.inl (by omega))]; exact hF.2.1
  · rw [uu_n (Or.inl (by omega)), uu_n (Or.inl (by omega)), uu_n (Or.inl (by omega))]; exact hF.1
  · unfold wxQ_note
    rw [e70, nI_clamp (by omega)]
    refine ⟨vp_in_nI (by omega) (by omega), ?_⟩
    rw [← e70]
    exact hq
theorem cx_thr {x x' y y' q : Int32} {o' : Option Nat} (hR : Rn ρ.2.2.1 c (s + 1) S M mk lg bg dp) (hF : Fr M t k yd o mk) (ht : t ≤ 111) (hx : x' = x) (hy : y' = y) (hq : q = cI o') (ho : ∀ j, o' = some j → j < mk) (hv : vr c x) (hpost : ∀ r S' M', Dn ρ.2.2.1 c s t S M mk dp r S' M' → Reach M M' → post r S')
    (hg : ∀ z : Unit → Rg → Prop, wxQ_endThrow z (uu M 21 t (M 21 t + 1)) x' y' q → wxQ_go z M) : wxM_raise (fun r S4 => post r S4) ρ S x y o' := by
  have hb := Rn_bd hR
  obtain ⟨g1, -, -, g4, g5, g6, -⟩ := hR.2.2.1
  unfold wxM_raise wxH_become
  rw [g1, nI_clamp (by omega)]
  refine ⟨vp_in_nI (by omega) (by omega), by omega, by omega, ?_⟩
  have h0 : Rn ρ.2.2.1 c (s + 1) S (uu M 21 t (M 21 t + 1)) mk lg bg dp := Rn_f hR (by omega)
  have e71 : (uu M 21 t (M 21 t + 1)) 7 1 = nI mk := by rw [uu_n (Or.inl (by omega)), hR.1.2 1 (by omega)]; exact g1
  have k5 : (uu (uu (uu (uu (uu (uu M 21 t (M 21 t + 1)) 3 mk x') 4 mk y') 5 mk q) 6 mk 0) 7 1 ((uu M 21 t (M 21 t + 1)) 7 1 + 1)) 27 5 = 0 := by
    rw [uu_n (Or.inl (by omega)), uu_n (Or.inl (by omega)), uu_n (Or.inl (by omega)), uu_n (Or.inl (by omega)), uu_n (Or.inl (by omega)), uu_n (Or.inl (by omega))]; exact hF.2.1
  have k0 : (uu (uu (uu (uu (uu (uu M 21 t (M 21 t + 1)) 3 mk x') 4 mk y') 5 mk q) 6 mk 0) 7 1 ((uu M 21 t (M 21 t + 1)) 7 1 + 1)) 27 0 = nI (t + 1) := by
    rw [uu_n (Or.inl (by omega)), uu_n (Or.inl (by omega)), uu_n (Or.inl (by omega)), uu_n (Or.inl (by omega)), uu_n (Or.inl (by omega)), uu_n (Or.inl (by omega))]; exact hF.1
  refine cx_end (r := 3) (v := ((uu M 21 t (M 21 t + 1)) 7 1 + 1) - 1) (w := 3) hF ht hpost (Rn_thr h0 hx hy hq ho hv) (Nat.le_succ _) (by omega) ?_ ?_ (Kp_u (Kp_u (Kp_u (Kp_u (Kp_u (Kp_u Kp_rf (by omega)) (by omega)) (by omega)) (by omega)) (by omega)) (by omega)) (Lo_u (Lo_u (Lo_u (Lo_u (Lo_u (Lo_u Lo_rf (by omega)) (by omega)) (by omega)) (by omega)) (by omega)) (by omega)) k5 k0 rfl (fun h => absurd h (by omega)) (fun _ => ⟨mk, by omega, ?_, ?_⟩) (fun z hz => hg z ?_)
  · show (if 301 = mk then o' else if 301 = 300 then some mk else S.2 301) = S.2 301
    rw [if_neg (by omega), if_neg (by omega)]
  · show (if 302 = mk then o' else if 302 = 300 then some mk else S.2 302) = S.2 302
    rw [if_neg (by omega), if_neg (by omega)]
  · show (if 300 = mk then o' else if 300 = 300 then some mk else S.2 300) = some mk
    rw [if_neg (by omega), if_pos rfl]
  · rw [e71, nI_1]; exact nI_pred mk
  · unfold wxQ_endThrow
    rw [e71, nI_clamp (by omega)]
    refine ⟨vp_in_nI (by omega) (by omega), ?_⟩
    rw [← e71]
    exact hz
end LF
