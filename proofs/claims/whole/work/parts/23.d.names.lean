/-! names and chains in the text, both ways -/
def nmH (t : Int32) : List Int32 := if t < 10 then strB.getD (6 + t.toNatClampNeg) [] else strB.getD 16 [] ++ num t
def nmT (u : Int32) : List Int32 := if u = 0 then [] else [43] ++ num u
def nm (S : Sg) (j : Nat) : List Int32 := nmH (S.1 3 j) ++ ([40] ++ (num (S.1 4 j) ++ ([41] ++ nmT (S.1 6 j))))
/-- one throwable's fields -/
def Nj (S : Sg) (j : Nat) : Prop := j < 300 ∧ (∃ t : Nat, t < 16 ∧ S.1 3 j = nI t) ∧ ∃ u : Nat, u ≤ 300 ∧ S.1 6 j = nI u
theorem nm_len {S : Sg} {j : Nat} (h : Nj S j) : (nm S j).length ≤ 49 := by
  obtain ⟨-, ⟨t, t1, t2⟩, -⟩ := h
  have n4 := num_bd (S.1 4 j)
  have n6 := num_bd (S.1 6 j)
  have n3 := num_bd (S.1 3 j)
  have hT : (nmT (S.1 6 j)).length ≤ 12 := by
    unfold nmT
    split
    · exact Nat.zero_le _
    · rw [List.length_append]; show 1 + _ ≤ 12; omega
  have hH : (nmH (S.1 3 j)).length ≤ 24 := by
    unfold nmH
    split
    · rename_i hlt
      rw [t2] at hlt ⊢
      have h10 : t < 10 := (nI_ltI (b := 10) (by omega) (by omega)).mp hlt
      rw [nI_clamp (by omega)]
      have := stw_len ⟨6 + t, by omega⟩
      have e1 : (strB.getD (6 + t) []).length = strN.getD (6 + t) 0 := this.1
      have e2 : strN.getD (6 + t) 0 ≤ 13 := this.2
      omega
    · rw [List.length_append]
      have : (strB.getD 16 []).length = 3 := rfl
      omega
  unfold nm
  rw [List.length_append, List.length_append, List.length_append, List.length_append]
  show _ + (1 + (_ + (1 + _))) ≤ 49
  omega
theorem wordOf_n {post : Nat → Sg → Prop} {ρ : Rh} {S : Sg} {t : Nat} (ht : t < 16) (h1 : t < 10 → post (6 + t) S) (h2 : 10 ≤ t → post 16 S) : wxC_wordOf post ρ S (nI t) := by
  match t, ht, h1, h2 with
  | 0, _, h1, h2 => exact ⟨fun z => absurd z (by decide), fun _ => h1 (by omega), fun z => absurd z (by decide), fun z => absurd z (by decide), fun z => absurd z (by decide), fun z => absurd z (by decide), fun z => absurd z (by decide), fun z => absurd z (by decide), fun z => absurd z (by decide), fun z => absurd z (by decide), fun z => absurd z (by decide)⟩
  | 1, _, h1, h2 => exact ⟨fun z => absurd z (by decide), fun z => absurd z (by decide), fun _ => h1 (by omega), fun z => absurd z (by decide), fun z => absurd z (by decide), fun z => absurd z (by decide), fun z => absurd z (by decide), fun z => absurd z (by decide), fun z => absurd z (by decide), fun z => absurd z (by decide), fun z => absurd z (by decide)⟩
  | 2, _, h1, h2 => exact ⟨fun z => absurd z (by decide), fun z => absurd z (by decide), fun z => absurd z (by decide), fun _ => h1 (by omega), fun z => absurd z (by decide), fun z => absurd z (by decide), fun z => absurd z (by decide), fun z => absurd z (by decide), fun z => absurd z (by decide), fun z => absurd z (by decide), fun z => absurd z (by decide)⟩
  | 3, _, h1, h2 => exact ⟨fun z => absurd z (by decide), fun z => absurd z (by decide), fun z => absurd z (by decide), fun z => absurd z (by decide), fun _ => h1 (by omega), fun z => absurd z (by decide), fun z => absurd z (by decide), fun z => absurd z (by decide), fun z => absurd z (by decide), fun z => absurd z (by decide), fun z => absurd z (by decide)⟩
  | 4, _, h1, h2 => exact ⟨fun z => absurd z (by decide), fun z => absurd z (by decide), fun z => absurd z (by decide), fun z => absurd z (by decide), fun z => absurd z (by decide), fun _ => h1 (by omega), fun z => absurd z (by decide), fun z => absurd z (by decide), fun z => absurd z (by decide), fun z => absurd z (by decide), fun z => absurd z (by decide)⟩
  | 5, _, h1, h2 => exact ⟨fun z => absurd z (by decide), fun z => absurd z (by decide), fun z => absurd z (by decide), fun z => absurd z (by decide), fun z => absurd z (by decide), fun z => absurd z (by decide), fun _ => h1 (by omega), fun z => absurd z (by decide), fun z => absurd z (by decide), fun z => absurd z (by decide), fun z => absurd z (by decide)⟩
  | 6, _, h1, h2 => exact ⟨fun z => absurd z (by decide), fun z => absurd z (by decide), fun z => absurd z (by decide), fun z => absurd z (by decide), fun z => absurd z (by decide), fun z => absurd z (by decide), fun z => absurd z (by decide), fun _ => h1 (by omega), fun z => absurd z (by decide), fun z => absurd z (by decide), fun z => absurd z (by decide)⟩
  | 7, _, h1, h2 => exact ⟨fun z => absurd z (by decide), fun z => absurd z (by decide), fun z => absurd z (by decide), fun z => absurd z (by decide), fun z => absurd z (by decide), fun z => absurd z (by decide), fun z => absurd z (by decide), fun z => absurd z (by decide), fun _ => h1 (by omega), fun z => absurd z (by decide), fun z => absurd z (by decide)⟩
  | 8, _, h1, h2 => exact ⟨fun z => absurd z (by decide), fun z => absurd z (by decide), fun z => absurd z (by decide), fun z => absurd z (by decide), fun z => absurd z (by decide), fun z => absurd z (by decide), fun z => absurd z (by decide), fun z => absurd z (by decide), fun z => absurd z (by decide), fun _ => h1 (by omega), fun z => absurd z (by decide)⟩
  | 9, _, h1, h2 => exact ⟨fun z => absurd z (by decide), fun z => absurd z (by decide), fun z => absurd z (by decide), fun z => absurd z (by decide), fun z => absurd z (by decide), fun z => absurd z (by decide), fun z => absurd z (by decide), fun z => absurd z (by decide), fun z => absurd z (by decide), fun z => absurd z (by decide), fun _ => h1 (by omega)⟩
  | 10, _, h1, h2 => exact ⟨fun _ => h2 (by omega), fun z => absurd z (by decide), fun z => absurd z (by decide), fun z => absurd z (by decide), fun z => absurd z (by decide), fun z => absurd z (by decide), fun z => absurd z (by decide), fun z => absurd z (by decide), fun z => absurd z (by decide), fun z => absurd z (by decide), fun z => absurd z (by decide)⟩
  | 11, _, h1, h2 => exact ⟨fun _ => h2 (by omega), fun z => absurd z (by decide), fun z => absurd z (by decide), fun z => absurd z (by decide), fun z => absurd z (by decide), fun z => absurd z (by decide), fun z => absurd z (by decide), fun z => absurd z (by decide), fun z => absurd z (by decide), fun z => absurd z (by decide), fun z => absurd z (by decide)⟩
  | 12, _, h1, h2 => exact ⟨fun _ => h2 (by omega), fun z => absurd z (by decide), fun z => absurd z (by decide), fun z => absurd z (by decide), fun z => absurd z (by decide), fun z => absurd z (by decide), fun z => absurd z (by decide), fun z => absurd z (by decide), fun z => absurd z (by decide), fun z => absurd z (by decide), fun z => absurd z (by decide)⟩
  | 13, _, h1, h2 => exact ⟨fun _ => h2 (by omega), fun z => absurd z (by decide), fun z => absurd z (by decide), fun z => absurd z (by decide), fun z => absurd z (by decide), fun z => absurd z (by decide), fun z => absurd z (by decide), fun z => absurd z (by decide), fun z => absurd z (by decide), fun z => absurd z (by decide), fun z => absurd z (by decide)⟩
  | 14, _, h1, h2 => exact ⟨fun _ => h2 (by omega), fun z => absurd z (by decide), fun z => absurd z (by decide), fun z => absurd z (by decide), fun z => absurd z (by decide), fun z => absurd z (by decide), fun z => absurd z (by decide), fun z => absurd z (by decide), fun z => absurd z (by decide), fun z => absurd z (by decide), fun z => absurd z (by decide)⟩
  | 15, _, h1, h2 => exact ⟨fun _ => h2 (by omega), fun z => absurd z (by decide), fun z => absurd z (by decide), fun z => absurd z (by decide), fun z => absurd z (by decide), fun z => absurd z (by decide), fun z => absurd z (by decide), fun z => absurd z (by decide), fun z => absurd z (by decide), fun z => absurd z (by decide), fun z => absurd z (by decide)⟩
  | q + 16, h, _, _ => exact absurd h (by omega)
def CP (F : Rh → (Unit → Rh → Sg → Prop) → Nat → Nat → Nat → Nat → Prop) (S : Sg) (l l' : List Int32) (cap0 : Nat) : Prop :=
  ∃ m s cap' : Nat, (m + Gr cap' ≤ Gr cap0 ∧ s + 500 * Gr cap' ≤ 500 * Gr cap0 ∧ 16 ≤ cap' ∧ cap' ≤ 500) ∧ ∀ ρ : Rh, Tx ρ l → ρ.2.2.2.2.2.2.1 = cap0 → ∀ (post : Unit → Rh → Sg → Prop) (cu su mc ms : Nat), cu + m ≤ mc → su + s ≤ ms → (∀ ρ', Tx ρ' l' → Sm ρ ρ' → ρ'.2.2.2.2.2.2.1 = cap' → post () ρ' S) → F ρ post mc ms cu su
theorem nm_c37 {S : Sg} {l : List Int32} {j cap0 : Nat} (hN : Nj S j) (hl : l.length + 25 ≤ 240) (h16 : 16 ≤ cap0) (h500 : cap0 ≤ 500) : CP (fun ρ post mc ms cu su => wxR_addName_c37 post j mc ms ρ S cu su) S l (l ++ ([40] ++ (num (S.1 4 j) ++ ([41] ++ nmT (S.1 6 j))))) cap0 := by
  obtain ⟨hj, -, u, u1, u2⟩ := hN
  have n4 := num_bd (S.1 4 j)
  have e1 : (l ++ [40]).length = l.length + 1 := List.length_append
  have e2 : (l ++ [40] ++ num (S.1 4 j)).length = l.length + 1 + (num (S.1 4 j)).length := by rw [List.length_append, e1]
  have e3 : (l ++ [40] ++ num (S.1 4 j) ++ [41]).length = l.length + 1 + (num (S.1 4 j)).length + 1 := by rw [List.length_append, e2]; rfl
  have e4 : (l ++ [40] ++ num (S.1 4 j) ++ [41] ++ [43]).length = l.length + 1 + (num (S.1 4 j)).length + 1 + 1 := by rw [List.length_append, e3]; rfl
  obtain ⟨m1, s1, c1, ⟨b1, b1', b1a, b1b⟩, k1⟩ := ap_char (S := S) (l := l) (n := 40) (x := 40) (cap0 := cap0) rfl (by omega) (by omega) h16 h500
  obtain ⟨m2, s2, c2, ⟨b2, b2', b2a, b2b⟩, k2⟩ := ap_num (S := S) (l := l ++ [40]) (x := S.1 4 j) (cap0 := c1) (by omega) b1a b1b
  obtain ⟨m3, s3, c3, ⟨b3, b3', b3a, b3b⟩, k3⟩ := ap_char (S := S) (l := l ++ [40] ++ num (S.1 4 j)) (n := 41) (x := 41) (cap0 := c2) rfl (by omega) (by omega) b2a b2b
  by_cases hu : S.1 6 j = 0
  · refine ⟨m1 + m2 + m3, s1 + s2 + s3, c3, ⟨by omega, by omega, b3a, b3b⟩, fun ρ hT hc post cu su mc ms q1 q2 hp => ⟨m1, s1, ⟨by omega, by omega⟩, k1 ρ hT hc _ (fun ρ1 T1 S1 C1 => ⟨hj, m2, s2, ⟨by omega, by omega⟩, k2 ρ1 T1 C1 _ (fun ρ2 T2 S2 C2 => ⟨m3, s3, ⟨by omega, by omega⟩, k3 ρ2 T2 C2 _ (fun ρ3 T3 S3 C3 => ⟨fun _ => hp ρ3 ?_ (Sm_tr S1 (Sm_tr S2 S3)) C3, fun z => absurd (by rw [hu]; decide) z⟩)⟩)⟩)⟩⟩
    unfold nmT
    rw [if_pos hu]
    simp only [List.append_assoc, List.append_nil] at T3 ⊢
    exact T3
  · have hu' : ¬ S.1 6 j ≤ 0 := by
      rw [u2] at hu ⊢
      exact nI_nle (by
        by_cases w : u = 0
        · exact absurd (by rw [w]; rfl) hu
        · omega) (by omega)
    obtain ⟨m4, s4, c4, ⟨b4, b4', b4a, b4b⟩, k4⟩ := ap_char (S := S) (l := l ++ [40] ++ num (S.1 4 j) ++ [41]) (n := 43) (x := 43) (cap0 := c3) rfl (by omega) (by omega) b3a b3b
    obtain ⟨m5, s5, c5, ⟨b5, b5', b5a, b5b⟩, k5⟩ := ap_num (S := S) (l := l ++ [40] ++ num (S.1 4 j) ++ [41] ++ [43]) (x := S.1 6 j) (cap0 := c4) (by omega) b4a b4b
    refine ⟨m1 + m2 + m3 + m4 + m5, s1 + s2 + s3 + s4 + s5, c5, ⟨by omega, by omega, b5a, b5b⟩, fun ρ hT hc post cu su mc ms q1 q2 hp => ⟨m1, s1, ⟨by omega, by omega⟩, k1 ρ hT hc _ (fun ρ1 T1 S1 C1 => ⟨hj, m2, s2, ⟨by omega, by omega⟩, k2 ρ1 T1 C1 _ (fun ρ2 T2 S2 C2 => ⟨m3, s3, ⟨by omega, by omega⟩, k3 ρ2 T2 C2 _ (fun ρ3 T3 S3 C3 => ⟨fun z => absurd z hu', fun _ => ⟨m4, s4, ⟨by omega, by omega⟩, k4 ρ3 T3 C3 _ (fun ρ4 T4 S4 C4 => ⟨m5, s5, ⟨by omega, by omega⟩, k5 ρ4 T4 C4 _ (fun ρ5 T5 S5 C5 => hp ρ5 ?_ (Sm_tr S1 (Sm_tr S2 (Sm_tr S3 (Sm_tr S4 S5)))) C5)⟩)⟩⟩)⟩)⟩)⟩⟩
    unfold nmT
    rw [if_neg hu]
    simp only [List.append_assoc] at T5 ⊢
    exact T5
theorem ap_name {S : Sg} {l : List Int32} {j cap0 : Nat} (hN : Nj S j) (hl : l.length + 49 ≤ 240) (h16 : 16 ≤ cap0) (h500 : cap0 ≤ 500) : Ap (fun ρ post m s => wxR_addName post ρ S j m s) S l (nm S j) cap0 := by
  obtain ⟨hj, ⟨t, t1, t2⟩, -⟩ := id hN
  have n3 := num_bd (S.1 3 j)
  by_cases h10 : t < 10
  · have w := stw_len ⟨6 + t, by omega⟩
    have w1 : (strB.getD (6 + t) []).length = strN.getD (6 + t) 0 := w.1
    have w2 : strN.getD (6 + t) 0 ≤ 13 := w.2
    have hlt : S.1 3 j < 10 := by rw [t2]; exact nI_lt (b := 10) h10 (by omega)
    have e1 : (l ++ strB.getD (6 + t) []).length = l.length + (strB.getD (6 + t) []).length := List.length_append
    obtain ⟨m1, s1, c1, ⟨b1, b1', b1a, b1b⟩, k1⟩ := ap_word (S := S) (l := l) (i := 6 + t) (cap0 := cap0) (by omega) (by omega) h16 h500
    obtain ⟨m2, s2, c2, ⟨b2, b2', b2a, b2b⟩, k2⟩ := nm_c37 (l := l ++ strB.getD (6 + t) []) (cap0 := c1) hN (by omega) b1a b1b
    refine ⟨m1 + m2, s1 + s2, c2, ⟨by omega, by omega, b2a, b2b⟩, fun ρ hT hc post hp => ⟨hj, ?_⟩⟩
    rw [t2]
    refine wordOf_n t1 (fun _ => ⟨m1, s1, ⟨by omega, by omega⟩, k1 ρ hT hc _ (fun ρ1 T1 S1 C1 => ⟨fun _ => ⟨fun _ => k2 ρ1 T1 C1 post _ _ _ _ (by omega) (by omega) (fun ρ2 T2 S2 C2 => hp ρ2 ?_ (Sm_tr S1 S2) C2), fun z => absurd rfl z⟩, fun z => absurd hlt z⟩)⟩) (fun z => absurd z (by omega))
    unfold nm nmH
    rw [if_pos hlt, t2, nI_clamp (by omega), ← List.append_assoc]
    exact T2
  · have hlt : ¬ S.1 3 j < 10 := by rw [t2]; exact nI_nlt (b := 10) (by omega) (by omega)
    have w1 : (strB.getD 16 []).length = 3 := rfl
    have e1 : (l ++ strB.getD 16 []).length = l.length + 3 := List.length_append
    have e2 : (l ++ strB.getD 16 [] ++ num (S.1 3 j)).length = l.length + 3 + (num (S.1 3 j)).length := by rw [List.length_append, e1]
    obtain ⟨m1, s1, c1, ⟨b1, b1', b1a, b1b⟩, k1⟩ := ap_word (S := S) (l := l) (i := 16) (cap0 := cap0) (by omega) (by omega) h16 h500
    obtain ⟨m3, s3, c3, ⟨b3, b3', b3a, b3b⟩, k3⟩ := ap_num (S := S) (l := l ++ strB.getD 16 []) (x := S.1 3 j) (cap0 := c1) (by omega) b1a b1b
    obtain ⟨m2, s2, c2, ⟨b2, b2', b2a, b2b⟩, k2⟩ := nm_c37 (l := l ++ strB.getD 16 [] ++ num (S.1 3 j)) (cap0 := c3) hN (by omega) b3a b3b
    refine ⟨m1 + m3 + m2, s1 + s3 + s2, c2, ⟨by omega, by omega, b2a, b2b⟩, fun ρ hT hc post hp => ⟨hj, ?_⟩⟩
    rw [t2]
    refine wordOf_n t1 (fun z => absurd z (by omega)) (fun _ => ⟨m1, s1, ⟨by omega, by omega⟩, k1 ρ hT hc _ (fun ρ1 T1 S1 C1 => ⟨fun z => absurd z hlt, fun _ => ⟨fun z => absurd z (by decide), fun _ => ⟨m3, s3, ⟨by omega, by omega⟩, k3 ρ1 T1 C1 _ (fun ρ3 T3 S3 C3 => k2 ρ3 T3 C3 post _ _ _ _ (by omega) (by omega) (fun ρ2 T2 S2 C2 => hp ρ2 ?_ (Sm_tr S1 (Sm_tr S3 S2)) C2))⟩⟩⟩)⟩)
    unfold nm nmH
    rw [if_neg hlt]
    simp only [List.append_assoc] at T2 ⊢
    exact T2
theorem wl_nm : ∀ t : Fin 10, wlF (wds t.val) 1 14 1 60 = strB.getD (6 + t.val) [] := by decide
theorem wl_own : wlF 16110 1 14 1 60 = strB.getD 16 [] := by decide
/-- the reference sees the same throwables -/
def Nq (S : Sg) (M : Rg) : Prop := M 3 = S.1 3 ∧ M 4 = S.1 4 ∧ M 6 = S.1 6
theorem Nq_sy {S : Sg} {M M' : Rg} (h : Nq S M) (g : Sy M M') : Nq S M' := ⟨(g 3 (by omega) (by omega)).trans h.1, (g 4 (by omega) (by omega)).trans h.2.1, (g 6 (by omega) (by omega)).trans h.2.2⟩
theorem q_tail {S : Sg} {M : Rg} {l : List Int32} {j : Nat} (hN : Nj S j) (hQ : Nq S M) (hT : Ty M l) : Qp (fun post => wxQ_letter (fun (_ : Unit) S8 => wxQ_number (fun (_ : Unit) S10 => wxQ_letter (fun (_ : Unit) S12 => ((¬ ((S12 6 j) = (0 : Int32))) → wxQ_letter (fun (_ : Unit) S15 => wxQ_number (fun (_ : Unit) S17 => post () S17) S15 (S15 6 j)) S12 (43)) ∧ (((S12 6 j) = (0 : Int32)) → post () S12)) S10 (41)) S8 (S8 4 j)) M (40)) M l ([40] ++ (num (S.1 4 j) ++ ([41] ++ nmT (S.1 6 j)))) := by
  obtain ⟨M1, a1, a2, a3⟩ := q_letter hT 40
  have Q1 := Nq_sy hQ a2
  obtain ⟨M2, b1, b2, b3⟩ := q_num a1 (S.1 4 j)
  have Q2 := Nq_sy Q1 b2
  obtain ⟨M3, c1, c2, c3⟩ := q_letter b1 41
  have Q3 := Nq_sy Q2 c2
  by_cases hu : S.1 6 j = 0
  · refine ⟨M3, ?_, Sy_tr a2 (Sy_tr b2 c2), fun post hp => a3 _ ?_⟩
    · unfold nmT
      rw [if_pos hu]
      simp only [List.append_assoc, List.append_nil] at c1 ⊢
      exact c1
    · rw [Q1.2.1]
      refine b3 _ (c3 _ ⟨fun z => absurd (by rw [Q3.2.2]; exact hu) z, fun _ => hp⟩)
  · obtain ⟨M4, d1, d2, d3⟩ := q_letter c1 43
    have Q4 := Nq_sy Q3 d2
    obtain ⟨M5, e1, e2, e3⟩ := q_num d1 (S.1 6 j)
    refine ⟨M5, ?_, Sy_tr a2 (Sy_tr b2 (Sy_tr c2 (Sy_tr d2 e2))), fun post hp => a3 _ ?_⟩
    · unfold nmT
      rw [if_neg hu]
      simp only [List.append_assoc] at e1 ⊢
      exact e1
    · rw [Q1.2.1]
      refine b3 _ (c3 _ ⟨fun _ => d3 _ ?_, fun z => absurd (by rw [Q3.2.2] at z; exact z) hu⟩)
      rw [Q4.2.2]
      exact e3 _ hp
theorem q_name {S : Sg} {M : Rg} {l : List Int32} {j : Nat} (hN : Nj S j) (hQ : Nq S M) (hT : Ty M l) : Qp (fun post => wxQ_name post M (nI j)) M l (nm S j) := by
  obtain ⟨hj, ⟨t, t1, t2⟩, -⟩ := id hN
  have cj : (nI j).toNatClampNeg = j := nI_clamp (by omega)
  have e3 : M 3 j = nI t := by rw [hQ.1]; exact t2
  by_cases h10 : t < 10
  · have hlt : S.1 3 j < 10 := by rw [t2]; exact nI_lt (b := 10) h10 (by omega)
    obtain ⟨M1, a1, a2, a3⟩ := q_word (x := wds t) (y := 1) hT (wl_nm ⟨t, h10⟩)
    obtain ⟨M2, b1, b2, b3⟩ := q_tail hN (Nq_sy hQ a2) a1
    refine ⟨M2, ?_, Sy_tr a2 b2, fun post hp => ?_⟩
    · unfold nm nmH
      rw [if_pos hlt, t2, nI_clamp (by omega), ← List.append_assoc]
      exact b1
    · unfold wxQ_name
      rw [cj, e3, nI_clamp (by omega)]
      exact ⟨vp_in_nI (by omega) (by omega), fun z => absurd z (nI_ge (b := 10) h10 (by omega)), fun _ => ⟨vp_in_nI h10 (by omega), a3 _ (b3 _ hp)⟩⟩
  · have hlt : ¬ S.1 3 j < 10 := by rw [t2]; exact nI_nlt (b := 10) (by omega) (by omega)
    obtain ⟨M1, a1, a2, a3⟩ := q_word (x := 16110) (y := 1) hT wl_own
    obtain ⟨M3, c1, c2, c3⟩ := q_num a1 (nI t)
    obtain ⟨M2, b1, b2, b3⟩ := q_tail hN (Nq_sy (Nq_sy hQ a2) c2) c1
    refine ⟨M2, ?_, Sy_tr a2 (Sy_tr c2 b2), fun post hp => ?_⟩
    · unfold nm nmH
      rw [if_neg hlt, t2]
      simp only [List.append_assoc] at b1 ⊢
      exact b1
    · unfold wxQ_name
      rw [cj, e3]
      exact ⟨vp_in_nI (by omega) (by omega), fun _ => a3 _ (c3 _ (b3 _ hp)), fun z => absurd (nI_le (a := 10) (by omega) (by omega)) z⟩
