/-! the report and the run -/
def wI (oc : Nat) : Nat := ([5, 0, 1, 2, 3, 4] : List Nat).getD oc 5
theorem Gr_le (n : Nat) : Gr n ≤ 4 := by
  unfold Gr
  repeat' split
  all_goals omega
theorem wordsOf_n {post : Nat → Sg → Prop} {ρ : Rh} {S : Sg} {oc : Nat} (ho : oc ≤ 5) (h : post (wI oc) S) : wxR_wordsOf post ρ S (nI oc) := by
  match oc, ho, h with
  | 0, _, h => exact ⟨fun _ => h, fun z => absurd z (by decide), fun z => absurd z (by decide), fun z => absurd z (by decide), fun z => absurd z (by decide), fun z => absurd z (by decide)⟩
  | 1, _, h => exact ⟨fun z => absurd z (by decide), fun _ => h, fun z => absurd z (by decide), fun z => absurd z (by decide), fun z => absurd z (by decide), fun z => absurd z (by decide)⟩
  | 2, _, h => exact ⟨fun z => absurd z (by decide), fun z => absurd z (by decide), fun _ => h, fun z => absurd z (by decide), fun z => absurd z (by decide), fun z => absurd z (by decide)⟩
  | 3, _, h => exact ⟨fun z => absurd z (by decide), fun z => absurd z (by decide), fun z => absurd z (by decide), fun _ => h, fun z => absurd z (by decide), fun z => absurd z (by decide)⟩
  | 4, _, h => exact ⟨fun z => absurd z (by decide), fun z => absurd z (by decide), fun z => absurd z (by decide), fun z => absurd z (by decide), fun _ => h, fun z => absurd z (by decide)⟩
  | 5, _, h => exact ⟨fun z => absurd z (by decide), fun z => absurd z (by decide), fun z => absurd z (by decide), fun z => absurd z (by decide), fun z => absurd z (by decide), fun _ => h⟩
  | q + 6, h, _ => exact absurd h (by omega)
theorem ow_0 : wlF 5705892 0 14 1 60 = strB.getD 5 [] := by decide
theorem ow_1 : wlF 736689298708 0 14 1 60 = strB.getD 0 [] := by decide
theorem ow_2 : wlF 151303162536100 0 14 1 60 = strB.getD 1 [] := by decide
theorem ow_3 : wlF 8638312626 0 14 1 60 ++ ([32] ++ wlF 21252279 0 14 1 60) = strB.getD 2 [] := by decide
theorem ow_4 : wlF 188724 0 14 1 60 = strB.getD 3 [] := by decide
theorem ow_5 : wlF 21285028 0 14 1 60 = strB.getD 4 [] := by decide
theorem q_out {M : Rg} {l : List Int32} {oc : Nat} (ho : oc ≤ 5) (h6 : M 27 6 = nI oc) (hT : Ty M l) : Qp (fun post => wxQ_outcomeWord post M) M l (strB.getD (wI oc) []) := by
  unfold wxQ_outcomeWord
  rw [h6]
  match oc, ho with
  | 0, _ =>
    obtain ⟨M1, a1, a2, a3⟩ := q_word hT ow_0
    exact ⟨M1, a1, a2, fun post hp => ⟨fun z => absurd z (by decide), fun _ => a3 _ hp, fun z => absurd z (by decide), fun z => absurd z (by decide), fun z => absurd z (by decide), fun z => absurd z (by decide), fun z => absurd z (by decide)⟩⟩
  | 1, _ =>
    obtain ⟨M1, a1, a2, a3⟩ := q_word hT ow_1
    exact ⟨M1, a1, a2, fun post hp => ⟨fun z => absurd z (by decide), fun z => absurd z (by decide), fun _ => a3 _ hp, fun z => absurd z (by decide), fun z => absurd z (by decide), fun z => absurd z (by decide), fun z => absurd z (by decide)⟩⟩
  | 2, _ =>
    obtain ⟨M1, a1, a2, a3⟩ := q_word hT ow_2
    exact ⟨M1, a1, a2, fun post hp => ⟨fun z => absurd z (by decide), fun z => absurd z (by decide), fun z => absurd z (by decide), fun _ => a3 _ hp, fun z => absurd z (by decide), fun z => absurd z (by decide), fun z => absurd z (by decide)⟩⟩
  | 3, _ =>
    obtain ⟨M1, a1, a2, a3⟩ := q_word (x := 8638312626) (y := 0) hT rfl
    obtain ⟨M2, b1, b2, b3⟩ := q_letter a1 32
    obtain ⟨M3, c1, c2, c3⟩ := q_word (x := 21252279) (y := 0) b1 rfl
    refine ⟨M3, ?_, Sy_tr a2 (Sy_tr b2 c2), fun post hp => ⟨fun z => absurd z (by decide), fun z => absurd z (by decide), fun z => absurd z (by decide), fun z => absurd z (by decide), fun _ => a3 _ (b3 _ (c3 _ hp)), fun z => absurd z (by decide), fun z => absurd z (by decide)⟩⟩
    rw [List.append_assoc, List.append_assoc, ow_3] at c1
    exact c1
  | 4, _ =>
    obtain ⟨M1, a1, a2, a3⟩ := q_word hT ow_4
    exact ⟨M1, a1, a2, fun post hp => ⟨fun z => absurd z (by decide), fun z => absurd z (by decide), fun z => absurd z (by decide), fun z => absurd z (by decide), fun z => absurd z (by decide), fun _ => a3 _ hp, fun z => absurd z (by decide)⟩⟩
  | 5, _ =>
    obtain ⟨M1, a1, a2, a3⟩ := q_word hT ow_5
    exact ⟨M1, a1, a2, fun post hp => ⟨fun z => absurd z (by decide), fun z => absurd z (by decide), fun z => absurd z (by decide), fun z => absurd z (by decide), fun z => absurd z (by decide), fun z => absurd z (by decide), fun _ => a3 _ hp⟩⟩
  | q + 6, h => exact absurd h (by omega)
theorem i64_big (w : Int32) : ¬ w.toInt64 = 1000000000000 := fun z => by
  have h := congrArg Int64.toInt z
  have h2 := Int32.toInt_lt w
  rw [Int32.toInt_toInt64, show (1000000000000 : Int64).toInt = 1000000000000 by decide] at h
  omega
theorem wr_both {S : Sg} {mk : Nat} (hA : Na S mk) {ρ : Rh} {M : Rg} {l0 : List Int32} {y : Int64} {o u : Option Nat} {oc : Nat} (hTx : Tx ρ l0) (hC : Nc S M mk) (h9 : M 27 9 = cI o) (h10 : M 27 10 = cI u) (ho : ∀ j, o = some j → j < mk) (hu : ∀ j, u = some j → j < mk) (h6 : M 27 6 = nI oc) (hoc : oc ≤ 5) (htold : (y = 1000000000000 ∧ M 27 8 = 0 ∧ oc ≠ 4) ∨ (∃ w : Int32, y = w.toInt64 ∧ M 27 7 = w ∧ (M 27 8 ≠ 0 ∨ oc = 4))) {K : Rh → Sg → Rg → Prop} {Q : Rh → Sg → Prop} (hQ : ∀ ρ' S', (∀ z : Prop, (wxQ_write (fun _ M' => K ρ' S' M') M → z) → z) → Q ρ' S') (hK : ∀ ρ' M' l', Tx ρ' l' → Tm M' l' → Sm ρ ρ' → Sy M M' → K ρ' S M') : wxR_write (fun _ ρ' S' => Q ρ' S') ρ S (nI oc) y o u 6 2000 := by
  have hcap := hTx.2.1
  have hG := Gr_le ρ.2.2.2.2.2.2.1
  have ww := stw_len ⟨wI oc, by unfold wI; match oc, hoc with | 0, _ => decide | 1, _ => decide | 2, _ => decide | 3, _ => decide | 4, _ => decide | 5, _ => decide | q + 6, h => exact absurd h (by omega)⟩
  have w1 : (strB.getD (wI oc) []).length = strN.getD (wI oc) 0 := ww.1
  have w2 : strN.getD (wI oc) 0 ≤ 13 := ww.2
  have wi : wI oc < 19 := by unfold wI; match oc, hoc with | 0, _ => decide | 1, _ => decide | 2, _ => decide | 3, _ => decide | 4, _ => decide | 5, _ => decide | q + 6, h => exact absurd h (by omega)
  have T0 : Ty (uu M 28 0 0) [] := ⟨uu_same, fun i hi => absurd hi (by simp)⟩
  have s0 : Sy M (uu M 28 0 0) := fun a _ hb => uu_row hb
  have C0 := Nc_sy hC s0
  have r27 : (uu M 28 0 0) 27 = M 27 := uu_row (by omega)
  obtain ⟨m1, s1, c1, ⟨b1, b1', b1a, b1b⟩, k1⟩ := ap_word (S := S) (l := []) (i := wI oc) (cap0 := ρ.2.2.2.2.2.2.1) wi (by show 0 + 13 ≤ 240; omega) hcap.2.1 hcap.2.2
  obtain ⟨M1, a1, a2, a3⟩ := q_out hoc (by rw [r27]; exact h6) T0
  have C1 := Nc_sy C0 a2
  have q27 : M1 27 = M 27 := (a2 27 (by omega) (by omega)).trans r27
  have fin : ∀ ρ', (wxQ_write (fun _ M' => K ρ' S M') M) → Q ρ' S := fun ρ' h => hQ ρ' S (fun z hz => hz h)
  rcases htold with ⟨hy, h8, h4⟩ | ⟨w, hy, h7, h8⟩
  · obtain ⟨lf, ⟨m2, s2, c2, ⟨b2, b2', b2a, b2b⟩, k2⟩, M', t1, t2, t3⟩ := w_43 hA (x := nI oc) (y := y) ho hu C1 (by rw [q27]; exact h9) (by rw [q27]; exact h10) a1 (by rw [List.nil_append]; omega) b1a b1b
    refine ⟨0, 0, ⟨by omega, by omega⟩, ap_cut (k := 0) rfl hTx (by omega) (by omega) (fun ρ1 T1 S1 D1 => wordsOf_n hoc ⟨m1, s1, ⟨by omega, by omega⟩, k1 ρ1 T1 D1 _ (fun ρ2 T2 S2 D2 => ⟨fun _ => k2 ρ2 T2 D2 _ _ _ _ _ (by omega) (by omega) (fun ρ3 T3 S3 D3 => fin ρ3 ?_), fun z => absurd ((lg_cmp_eq _ _).mpr hy) z⟩)⟩)⟩
    refine a3 _ ⟨fun z => absurd (by rw [q27]; exact h8) z, fun _ => ⟨fun _ => t3 _ (hK ρ3 M' lf T3 t1 (Sm_tr S1 (Sm_tr S2 S3)) (Sy_tr s0 (Sy_tr a2 t2))), fun z => ?_⟩⟩
    rw [q27, h6] at z
    exact absurd ((nI_eq (b := 4) (by omega) (by omega)).mp z) h4
  · have e1 : ([] ++ strB.getD (wI oc) [] ++ [32] : List Int32).length = (strB.getD (wI oc) []).length + 1 := by rw [List.length_append, List.nil_append]; rfl
    have e2 : ([] ++ strB.getD (wI oc) [] ++ [32] ++ num w : List Int32).length = (strB.getD (wI oc) []).length + 1 + (num w).length := by rw [List.length_append, e1]
    have nw := num_bd w
    obtain ⟨m3, s3, c3, ⟨b3, b3', b3a, b3b⟩, k3⟩ := ap_char (S := S) (l := [] ++ strB.getD (wI oc) []) (n := 32) (x := 32) (cap0 := c1) rfl (by omega) (by rw [List.nil_append]; omega) b1a b1b
    obtain ⟨m4, s4, c4, ⟨b4, b4', b4a, b4b⟩, k4⟩ := ap_num (S := S) (l := [] ++ strB.getD (wI oc) [] ++ [32]) (x := w) (cap0 := c3) (by omega) b3a b3b
    obtain ⟨M2, d1, d2, d3⟩ := q_letter a1 32
    obtain ⟨M3, f1, f2, f3⟩ := q_num d1 w
    have C3 := Nc_sy (Nc_sy C1 d2) f2
    have q27' : M2 27 = M 27 := (d2 27 (by omega) (by omega)).trans q27
    have q27'' : M3 27 = M 27 := (f2 27 (by omega) (by omega)).trans q27'
    obtain ⟨lf, ⟨m2, s2, c2, ⟨b2, b2', b2a, b2b⟩, k2⟩, M', t1, t2, t3⟩ := w_43 hA (x := nI oc) (y := y) ho hu C3 (by rw [q27'']; exact h9) (by rw [q27'']; exact h10) f1 (by omega) b4a b4b
    have hy0 : ¬ lg_cmp y 1000000000000 = 0 := fun z => i64_big w (hy ▸ (lg_cmp_eq _ _).mp z)
    have hyw : y.toInt32 = w := by rw [hy]; exact lg_l2i_i2l w
    refine ⟨0, 0, ⟨by omega, by omega⟩, ap_cut (k := 0) rfl hTx (by omega) (by omega) (fun ρ1 T1 S1 D1 => wordsOf_n hoc ⟨m1, s1, ⟨by omega, by omega⟩, k1 ρ1 T1 D1 _ (fun ρ2 T2 S2 D2 => ⟨fun z => absurd z hy0, fun _ => ⟨m3, s3, ⟨by omega, by omega⟩, k3 ρ2 T2 D2 _ (fun ρ3 T3 S3 D3 => ⟨m4, s4, ⟨by omega, by omega⟩, ?_⟩)⟩⟩)⟩)⟩
    rw [hyw]
    refine k4 ρ3 T3 D3 _ (fun ρ4 T4 S4 D4 => k2 ρ4 T4 D4 _ _ _ _ _ (by omega) (by omega) (fun ρ5 T5 S5 D5 => fin ρ5 ?_))
    have goal := hK ρ5 M' lf T5 t1 (Sm_tr S1 (Sm_tr S2 (Sm_tr S3 (Sm_tr S4 S5)))) (Sy_tr s0 (Sy_tr a2 (Sy_tr d2 (Sy_tr f2 t2))))
    have g7 : M2 27 7 = w := by rw [q27']; exact h7
    have rest : wxQ_letter (fun (_ : Unit) S5 => wxQ_number (fun (_ : Unit) S7 => wxQ_write_c38 (fun _ M' => K ρ5 S M') S7) S5 (S5 27 7)) M1 32 := by
      refine d3 _ ?_
      rw [g7]
      exact f3 _ (t3 _ goal)
    refine a3 _ ⟨fun _ => rest, fun z8 => ⟨fun z => ?_, fun _ => rest⟩⟩
    rw [q27] at z8 z
    rcases h8 with h8 | h8
    · exact absurd z8 h8
    · exact absurd (by rw [h6, h8]; rfl) z
theorem Rn_sy {P : Rg} {c s : Nat} {S : Sg} {M M' : Rg} {mk lg bg dp : Nat} (h : Rn P c s S M mk lg bg dp) (g : Sy M M') : Rn P c s S M' mk lg bg dp := by
  obtain ⟨⟨r1, r2⟩, ⟨s0, s1, s2, s3, s4, s5, s6, s7⟩, ⟨g1, g2, g3, g4, g5, g6, g7⟩, r4⟩ := h
  refine ⟨⟨fun a ha h5 => (g a (by omega) (by omega)).trans (r1 a ha h5), fun i hi => by rw [g 7 (by omega) (by omega)]; exact r2 i hi⟩, ⟨(g 10 (by omega) (by omega)).trans s0, (g 11 (by omega) (by omega)).trans s1, (g 12 (by omega) (by omega)).trans s2, (g 13 (by omega) (by omega)).trans s3, (g 14 (by omega) (by omega)).trans s4, fun i hi => by rw [g 15 (by omega) (by omega)]; exact s5 i hi, fun i hi => by rw [g 16 (by omega) (by omega)]; exact s6 i hi, fun i hi => by rw [g 17 (by omega) (by omega)]; exact s7 i hi⟩, ⟨g1, g2, g3, g4, g5, g6, fun i hi => by rw [g 5 (by omega) (by omega)]; exact g7 i hi⟩, r4⟩
theorem Rn_na {P : Rg} {c s : Nat} {S : Sg} {M : Rg} {mk lg bg dp : Nat} (h : Rn P c s S M mk lg bg dp) (hc : c ≤ 16) : Na S mk ∧ Nc S M mk := by
  have hb := Rn_bd h
  obtain ⟨⟨r1, r2⟩, -, ⟨g1, g2, g3, g4, g5, g6, g7⟩, -⟩ := h
  refine ⟨fun j hj => ?_, ⟨r1 3 (by omega) (by omega), r1 4 (by omega) (by omega), r1 6 (by omega) (by omega)⟩, fun j hj => (g7 j hj).2.2.1⟩
  obtain ⟨⟨t, t1, t2⟩, ⟨u, u1, u2⟩, -, a5⟩ := g7 j hj
  exact ⟨⟨by omega, ⟨t, by omega, t2⟩, u, by omega, u1⟩, a5⟩
section RUN
variable {ρ : Rh} {S' : Sg} {M' M : Rg} {a1 a2 a3 : Int32} {c lm mk lg bg dp oc : Nat} {y : Int64} {l0 : List Int32}
theorem run_end (hP : Pv ρ.2.2.1 ρ.2.1 c lm) (hT : Tx ρ l0) (hR : Rn ρ.2.2.1 c 0 S' M' mk lg bg dp) (hF : Fl S' M' mk) (h6 : M' 27 6 = nI oc) (hoc : oc ≤ 5) (h11 : M' 27 11 = 1) (htold : (y = 1000000000000 ∧ M' 27 8 = 0 ∧ oc ≠ 4) ∨ (∃ w : Int32, y = w.toInt64 ∧ M' 27 7 = w ∧ (M' 27 8 ≠ 0 ∨ oc = 4))) (hq : ∀ post' : Int32 → Rg → Prop, wxQ_write (fun _ S16 => post' (S16 27 6) S16) M' → wxQ_run post' M a1 a2 a3) : wxR_write (fun _ ρ6 S3 => wxQ_run (fun r2 M1 => nI oc = r2 ∧ Iv ρ6 S3 M1) M a1 a2 a3) (rL ρ y) S' (nI oc) y (S'.2 301) (S'.2 302) 6 2000 := by
  obtain ⟨hA, hC⟩ := Rn_na hR hP.2.1.2.1
  have hT' : Tx (rL ρ y) l0 := hT
  refine wr_both hA hT' hC hF.1.1 hF.1.2 hF.2.1 hF.2.2 h6 hoc htold (K := fun ρ6 S3 M1 => nI oc = M1 27 6 ∧ Iv ρ6 S3 M1) (fun ρ6 S3 h => h _ (fun z => hq _ z)) ?_
  intro ρ' M2 l' t1 t2 t3 t4
  have e27 : M2 27 = M' 27 := t4 27 (by omega) (by omega)
  refine ⟨by rw [e27]; exact h6.symm, c, lm, mk, lg, bg, dp, l', ?_, ?_, ?_, ?_, t1, t2⟩
  · rw [t3.2.1, t3.1]; exact hP
  · rw [t3.2.1]; exact Rn_sy hR t4
  · unfold Fl; rw [e27]; exact hF
  · rw [t3.2.2]
    show y = tv M2
    unfold tv
    rw [e27, h11, if_neg (by decide)]
    rcases htold with ⟨hy, h8, h4⟩ | ⟨w, hy, h7, h8⟩
    · rw [if_neg (fun z => z h8), if_neg (by rw [h6]; exact fun z => h4 ((nI_eq (b := 4) (by omega) (by omega)).mp z))]; exact hy
    · rw [h7]
      by_cases e : M' 27 8 = 0
      · rcases h8 with h8 | h8
        · exact absurd e h8
        · rw [if_neg (fun z => z e), if_pos (by rw [h6, h8]; rfl)]; exact hy
      · rw [if_pos e]; exact hy
end RUN
