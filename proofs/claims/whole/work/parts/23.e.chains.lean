/-! chains and the whole report, both ways -/
theorem fr_eq : strB.getD 17 [] = [32] ++ (wlF 215533 0 14 1 60 ++ [32]) := by decide
theorem th_eq : strB.getD 18 [] = [32] ++ (wlF 663726 0 14 1 60 ++ [32]) := by decide
/-- the reference between two names of a chain -/
def an53 (post : Unit → Rg → Prop) (d : Nat) (M : Rg) (q : Int32) : Prop := (((0 : Int32) ≤ q) → wxQ_letter (fun (_ : Unit) S16 => wxQ_word (fun (_ : Unit) S18 => wxQ_letter (fun (_ : Unit) S20 => wxQ_write_c53 post d S20 q) S18 (32)) S16 (215533 : Int64) (0)) M (32)) ∧ ((¬ ((0 : Int32) ≤ q)) → wxQ_write_c53 post d M q)
theorem q_bind {M : Rg} {l : List Int32} {x : Int64} (hT : Ty M l) : Qp (fun post => wxQ_letter (fun (_ : Unit) S16 => wxQ_word (fun (_ : Unit) S18 => wxQ_letter (fun (_ : Unit) S20 => post () S20) S18 (32)) S16 x (0)) M (32)) M l ([32] ++ (wlF x 0 14 1 60 ++ [32])) := by
  obtain ⟨M1, a1, a2, a3⟩ := q_letter hT 32
  obtain ⟨M2, b1, b2, b3⟩ := q_word (x := x) (y := 0) a1 rfl
  obtain ⟨M3, c1, c2, c3⟩ := q_letter b1 32
  refine ⟨M3, ?_, Sy_tr a2 (Sy_tr b2 c2), fun post hp => a3 _ (b3 _ (c3 _ hp))⟩
  simp only [List.append_assoc] at c1 ⊢
  exact c1
section CH
variable {S : Sg} {mk : Nat}
/-- all throwables made are fit for a name, and causes are earlier ones -/
def Na (S : Sg) (mk : Nat) : Prop := ∀ j, j < mk → Nj S j ∧ ∀ q, S.2 j = some q → q < j
def Nc (S : Sg) (M : Rg) (mk : Nat) : Prop := Nq S M ∧ ∀ j, j < mk → M 5 j = cI (S.2 j)
theorem Nc_sy {M M' : Rg} (h : Nc S M mk) (g : Sy M M') : Nc S M' mk := ⟨Nq_sy h.1 g, fun j hj => by rw [g 5 (by omega) (by omega)]; exact h.2 j hj⟩
theorem q_rest (hA : Na S mk) : ∀ (f : Nat) (a : Option Nat) (M : Rg) (l : List Int32), (∀ j, a = some j → j < mk ∧ j < f) → Nc S M mk → Ty M l → ∃ (M' : Rg) (e : List Int32), Ty M' (l ++ e) ∧ Sy M M' ∧ ∀ post : Unit → Rg → Prop, wxQ_write_c109 post M' → ∃ D : Nat, wxQ_write_c53 post D M (cI a) := by
  intro f
  have hnone : ∀ (M : Rg) (l : List Int32), Ty M l → ∃ (M' : Rg) (e : List Int32), Ty M' (l ++ e) ∧ Sy M M' ∧ ∀ post : Unit → Rg → Prop, wxQ_write_c109 post M' → ∃ D : Nat, wxQ_write_c53 post D M (cI none) := by
    intro M l hT
    refine ⟨M, [], by rw [List.append_nil]; exact hT, Sy_rf, fun post h => ⟨1, ?_⟩⟩
    unfold wxQ_write_c53
    exact ⟨fun _ => h, fun z => absurd (by decide) z⟩
  induction f with
  | zero =>
    intro a M l ha hC hT
    cases a with
    | none => exact hnone M l hT
    | some j => exact absurd (ha j rfl).2 (by omega)
  | succ f ih =>
    intro a M l ha hC hT
    cases a with
    | none => exact hnone M l hT
    | some j =>
      obtain ⟨j1, j2⟩ := ha j rfl
      obtain ⟨hN, hq⟩ := hA j j1
      have hj300 := hN.1
      have pj : ¬ cI (some j) < 0 := nI_pos (by omega)
      have e28 := hT.1
      by_cases h200 : 200 ≤ l.length
      · refine ⟨M, [], by rw [List.append_nil]; exact hT, Sy_rf, fun post h => ⟨1, ?_⟩⟩
        unfold wxQ_write_c53
        rw [e28]
        exact ⟨fun z => absurd z pj, fun _ => ⟨fun _ => h, fun z => absurd (nI_le (a := 200) (by omega) (by omega)) z⟩⟩
      · obtain ⟨M1, a1, a2, a3⟩ := q_name hN hC.1 hT
        have C1 := Nc_sy hC a2
        have e5 : M1 5 j = cI (S.2 j) := C1.2 j j1
        have head : ∀ (post : Unit → Rg → Prop) (D : Nat), an53 post D M1 (cI (S.2 j)) → wxQ_write_c53 post (D + 1) M (cI (some j)) := by
          intro post D h
          unfold wxQ_write_c53
          rw [e28]
          refine ⟨fun z => absurd z pj, fun _ => ⟨fun z => absurd z (nI_ge (b := 200) (by omega) (by omega)), fun _ => a3 _ ⟨vp_in_nI (by omega) (by omega), ?_⟩⟩⟩
          rw [show (cI (some j)).toNatClampNeg = j from nI_clamp (by omega), e5]
          exact h
        cases hc : S.2 j with
        | none =>
          obtain ⟨M', e, b1, b2, b3⟩ := hnone M1 _ a1
          refine ⟨M', nm S j ++ e, by rw [← List.append_assoc]; exact b1, Sy_tr a2 b2, fun post h => ?_⟩
          obtain ⟨D, hD⟩ := b3 post h
          exact ⟨D + 1, head post D (by rw [hc]; exact ⟨fun z => absurd z (by decide), fun _ => hD⟩)⟩
        | some q =>
          have hq' := hq q hc
          obtain ⟨M2, c1, c2, c3⟩ := q_bind (x := 215533) a1
          obtain ⟨M', e, b1, b2, b3⟩ := ih (some q) M2 _ (fun w hw => by cases hw; omega) (Nc_sy C1 c2) c1
          refine ⟨M', nm S j ++ (([32] ++ (wlF 215533 0 14 1 60 ++ [32])) ++ e), ?_, Sy_tr a2 (Sy_tr c2 b2), fun post h => ?_⟩
          · simp only [List.append_assoc] at b1 ⊢
            exact b1
          · obtain ⟨D, hD⟩ := b3 post h
            refine ⟨D + 1, head post D ?_⟩
            rw [hc]
            exact ⟨fun _ => c3 (fun _ S20 => wxQ_write_c53 post D S20 (cI (some q))) hD, fun z => absurd (nI_pos' (by omega)) z⟩
/-- the chain behind a name -/
theorem ch_rest (hA : Na S mk) {j0 : Nat} : ∀ (f : Nat) (a : Option Nat) (M : Rg) (l : List Int32) (cap0 : Nat), (∀ j, a = some j → j < mk ∧ j < f) → Nc S M mk → Ty M l → l.length ≤ 181 → 16 ≤ cap0 → cap0 ≤ 500 → ∃ (lc lr : List Int32), lc.length ≤ 181 ∧ (lc = lr ∨ ∃ e, 120 ≤ lc.length ∧ lr = lc ++ e) ∧
    (∃ D : Nat, CP (fun ρ post mc ms cu su => wxR_addChain_c20 post j0 mc ms D ρ S a cu su) S l lc cap0) ∧ ∃ M' : Rg, Ty M' lr ∧ Sy M M' ∧ ∀ post : Unit → Rg → Prop, wxQ_write_c109 post M' → ∃ D : Nat, an53 post D M (cI a) := by
  intro f
  have hnone : ∀ (M : Rg) (l : List Int32) (cap0 : Nat), Ty M l → l.length ≤ 181 → 16 ≤ cap0 → cap0 ≤ 500 → ∃ (lc lr : List Int32), lc.length ≤ 181 ∧ (lc = lr ∨ ∃ e, 120 ≤ lc.length ∧ lr = lc ++ e) ∧ (∃ D : Nat, CP (fun ρ post mc ms cu su => wxR_addChain_c20 post j0 mc ms D ρ S none cu su) S l lc cap0) ∧ ∃ M' : Rg, Ty M' lr ∧ Sy M M' ∧ ∀ post : Unit → Rg → Prop, wxQ_write_c109 post M' → ∃ D : Nat, an53 post D M (cI none) := by
    intro M l cap0 hT hl h16 h500
    refine ⟨l, l, hl, Or.inl rfl, ⟨1, 0, 0, cap0, ⟨by omega, by omega, h16, h500⟩, fun ρ hTx hc post cu su mc ms q1 q2 hp => ?_⟩, M, hT, Sy_rf, fun post h => ⟨1, fun z => absurd z (by decide), fun _ => ?_⟩⟩
    · show wxR_addChain_c20 post j0 mc ms 1 ρ S none cu su
      unfold wxR_addChain_c20
      exact ⟨fun _ => hp ρ hTx Sm_rf hc, fun j hj => by cases hj⟩
    · unfold wxQ_write_c53
      exact ⟨fun _ => h, fun z => absurd (by decide) z⟩
  induction f with
  | zero =>
    intro a M l cap0 ha hC hT hl h16 h500
    cases a with
    | none => exact hnone M l cap0 hT hl h16 h500
    | some j => exact absurd (ha j rfl).2 (by omega)
  | succ f ih =>
    intro a M l cap0 ha hC hT hl h16 h500
    cases a with
    | none => exact hnone M l cap0 hT hl h16 h500
    | some j =>
      obtain ⟨j1, j2⟩ := ha j rfl
      obtain ⟨hN, hq⟩ := hA j j1
      have hj300 := hN.1
      have pj : ¬ cI (some j) < 0 := nI_pos (by omega)
      have pj' : (0 : Int32) ≤ cI (some j) := nI_pos' (by omega)
      obtain ⟨M1, a1, a2, a3⟩ := q_bind (x := 215533) hT
      have C1 := Nc_sy hC a2
      by_cases h120 : 120 ≤ l.length
      · obtain ⟨M', e, b1, b2, b3⟩ := q_rest hA (f + 1) (some j) M1 _ ha C1 a1
        refine ⟨l, l ++ (([32] ++ (wlF 215533 0 14 1 60 ++ [32])) ++ e), hl, Or.inr ⟨_, h120, rfl⟩, ⟨1, 0, 0, cap0, ⟨by omega, by omega, h16, h500⟩, fun ρ hTx hc post cu su mc ms q1 q2 hp => ?_⟩, M', by rw [← List.append_assoc]; exact b1, Sy_tr a2 b2, fun post h => ?_⟩
        · show wxR_addChain_c20 post j0 mc ms 1 ρ S (some j) cu su
          unfold wxR_addChain_c20
          refine ⟨fun z => (by cases z), fun w hw => ?_⟩
          cases hw
          unfold wxB_length wxA_length
          rw [hTx.1]
          exact ⟨fun _ => hp ρ hTx Sm_rf hc, fun z => absurd (nI_le (a := 120) h120 (by omega)) z⟩
        · obtain ⟨D, hD⟩ := b3 post h
          exact ⟨D, fun _ => a3 (fun _ S20 => wxQ_write_c53 post D S20 (cI (some j))) hD, fun z => absurd pj' z⟩
      · have hnl := nm_len hN
        have w17 : (strB.getD 17 []).length = 6 := rfl
        have eF : ([32] ++ (wlF 215533 0 14 1 60 ++ [32]) : List Int32) = strB.getD 17 [] := fr_eq.symm
        rw [eF] at a1
        have e1 : (l ++ strB.getD 17 []).length = l.length + 6 := List.length_append
        have e2 : (l ++ strB.getD 17 [] ++ nm S j).length = l.length + 6 + (nm S j).length := by rw [List.length_append, e1]
        obtain ⟨m1, s1, c1, ⟨b1, b1', b1a, b1b⟩, k1⟩ := ap_word (S := S) (l := l) (i := 17) (cap0 := cap0) (by omega) (by omega) h16 h500
        obtain ⟨m2, s2, c2, ⟨b2, b2', b2a, b2b⟩, k2⟩ := ap_name (l := l ++ strB.getD 17 []) (cap0 := c1) hN (by omega) b1a b1b
        obtain ⟨M2, d1, d2, d3⟩ := q_name hN C1.1 a1
        have C2 := Nc_sy C1 d2
        have e5 : M2 5 j = cI (S.2 j) := C2.2 j j1
        have e28 : M1 28 0 = nI (l.length + 6) := by rw [a1.1, e1, show min (l.length + 6) 300 = l.length + 6 by omega]
        obtain ⟨lc, lr, r1, r2, ⟨D, m3, s3, c3, ⟨b3, b3', b3a, b3b⟩, k3⟩, M', t1, t2, t3⟩ := ih (S.2 j) M2 (l ++ strB.getD 17 [] ++ nm S j) c2 (fun q hq' => by have := hq q hq'; omega) C2 d1 (by omega) b2a b2b
        refine ⟨lc, lr, r1, r2, ⟨D + 1, m1 + m2 + m3, s1 + s2 + s3, c3, ⟨by omega, by omega, b3a, b3b⟩, fun ρ hTx hc post cu su mc ms q1 q2 hp => ?_⟩, M', t1, Sy_tr a2 (Sy_tr d2 t2), fun post h => ?_⟩
        · show wxR_addChain_c20 post j0 mc ms (D + 1) ρ S (some j) cu su
          unfold wxR_addChain_c20
          refine ⟨fun z => (by cases z), fun w hw => ?_⟩
          cases hw
          unfold wxB_length wxA_length
          rw [hTx.1]
          exact ⟨fun z => absurd z (nI_ge (b := 120) (by omega) (by omega)), fun _ => ⟨m1, s1, ⟨by omega, by omega⟩, k1 ρ hTx hc _ (fun ρ1 T1 S1 C1 => ⟨m2, s2, ⟨by omega, by omega⟩, k2 ρ1 T1 C1 _ (fun ρ2 T2 S2 C2 => ⟨hj300, k3 ρ2 T2 C2 post _ _ _ _ (by omega) (by omega) (fun ρ3 T3 S3 C3 => hp ρ3 T3 (Sm_tr S1 (Sm_tr S2 S3)) C3)⟩)⟩)⟩⟩
        · obtain ⟨D', hD⟩ := t3 post h
          refine ⟨D' + 1, fun _ => a3 (fun _ S20 => wxQ_write_c53 post (D' + 1) S20 (cI (some j))) ?_, fun z => absurd pj' z⟩
          show wxQ_write_c53 post (D' + 1) M1 (cI (some j))
          unfold wxQ_write_c53
          rw [e28]
          refine ⟨fun z => absurd z pj, fun _ => ⟨fun z => absurd z (nI_ge (b := 200) (by omega) (by omega)), fun _ => d3 _ ⟨vp_in_nI (by omega) (by omega), ?_⟩⟩⟩
          rw [show (cI (some j)).toNatClampNeg = j from nI_clamp (by omega), e5]
          exact hD
/-- the cut at 120 -/
theorem q_fin {M : Rg} {l : List Int32} (hT : Ty M l) : ∃ M', Tm M' (l.take 120) ∧ Sy M M' ∧ ∀ post : Unit → Rg → Prop, post () M' → wxQ_write_c144 post M := by
  obtain ⟨t1, t2⟩ := hT
  by_cases h : l.length ≤ 120
  · have hm : min l.length 300 = l.length := by omega
    rw [hm] at t1 t2
    have e : l.take 120 = l := List.take_of_length_le h
    refine ⟨M, ⟨by rw [e]; exact h, by rw [e]; exact t1, fun i hi => ?_⟩, Sy_rf, fun post hp => ?_⟩
    · rw [e] at hi ⊢; exact t2 i hi
    · unfold wxQ_write_c144
      rw [t1]
      exact ⟨fun _ => hp, fun z => absurd (nI_le (b := 120) h (by omega)) z⟩
  · have hlk : (l.take 120).length = 120 := by rw [List.length_take]; omega
    refine ⟨uu M 28 0 120, ⟨by omega, by rw [hlk, uu_same]; rfl, fun i hi => ?_⟩, fun a _ hb => uu_row hb, fun post hp => ?_⟩
    · rw [hlk] at hi
      rw [uu_n (by omega), t2 i (by omega), List.getD_eq_getElem?_getD, List.getD_eq_getElem?_getD, List.getElem?_take_of_lt hi]
    · unfold wxQ_write_c144
      rw [t1]
      exact ⟨fun z => absurd z (nI_ge (a := 120) (by omega) (by omega)), fun _ => hp⟩
theorem c_fin {x : Int32} {y : Int64} {o u : Option Nat} {l : List Int32} {cap0 : Nat} (hl : l.length ≤ 240) (h16 : 16 ≤ cap0) (h500 : cap0 ≤ 500) : CP (fun ρ post mc ms cu su => wxR_write_c75 post x y o u mc ms ρ S cu su) S l (l.take 120) cap0 := by
  refine ⟨0, 0, cap0, ⟨by omega, by omega, h16, h500⟩, fun ρ hT hc post cu su mc ms q1 q2 hp => ?_⟩
  show wxR_write_c75 post x y o u mc ms ρ S cu su
  unfold wxR_write_c75 wxB_length wxA_length
  rw [hT.1]
  refine ⟨fun h => hp ρ ?_ Sm_rf hc, fun h => ⟨0, 0, ⟨by omega, by omega⟩, ?_⟩⟩
  · have h' : l.length ≤ 120 := (nI_leI (b := 120) (by omega) (by omega)).mp h
    rw [List.take_of_length_le h']; exact hT
  · have h' : ¬ l.length ≤ 120 := fun w => h (nI_le (b := 120) w (by omega))
    exact ap_cut (k := 120) rfl hT (by omega) (by omega) (fun ρ' T' S' C' => hp ρ' T' S' (C'.trans hc))
/-- behind the chain -/
theorem w_54 (hA : Na S mk) {x : Int32} {y : Int64} {o u : Option Nat} (hu : ∀ j, u = some j → j < mk) {lc lr : List Int32} {M : Rg} {cap0 : Nat} (hC : Nc S M mk) (hM : M 27 10 = cI u) (hT : Ty M lr) (hl : lc.length ≤ 181) (hrel : lc = lr ∨ ∃ e, 120 ≤ lc.length ∧ lr = lc ++ e) (h16 : 16 ≤ cap0) (h500 : cap0 ≤ 500) : ∃ lf : List Int32, CP (fun ρ post mc ms cu su => wxR_write_c54 post x y o u mc ms ρ S cu su) S lc lf cap0 ∧ ∃ M', Tm M' lf ∧ Sy M M' ∧ ∀ post : Unit → Rg → Prop, post () M' → wxQ_write_c109 post M := by
  have htk : lc.take 120 = lr.take 120 := by
    rcases hrel with h | ⟨e, h1, h2⟩
    · rw [h]
    · rw [h2, List.take_append_of_le_length h1]
  cases u with
  | none =>
    obtain ⟨m1, s1, c1, b1, k1⟩ := c_fin (S := S) (x := x) (y := y) (o := o) (u := none) (l := lc) (cap0 := cap0) (by omega) h16 h500
    obtain ⟨M', t1, t2, t3⟩ := q_fin hT
    refine ⟨lc.take 120, ⟨m1, s1, c1, b1, fun ρ hTx hc post cu su mc ms q1 q2 hp => ⟨fun _ => k1 ρ hTx hc post cu su mc ms q1 q2 hp, fun j hj => by cases hj⟩⟩, M', by rw [htk]; exact t1, t2, fun post hp => ?_⟩
    unfold wxQ_write_c109
    rw [hM]
    exact ⟨fun _ => t3 post hp, fun z => absurd (by decide) z⟩
  | some j =>
    have j1 := hu j rfl
    obtain ⟨hN, -⟩ := hA j j1
    have hj300 := hN.1
    have hnl := nm_len hN
    have e1 : (lc ++ strB.getD 18 []).length = lc.length + 6 := List.length_append
    have e2 : (lc ++ strB.getD 18 [] ++ nm S j).length = lc.length + 6 + (nm S j).length := by rw [List.length_append, e1]
    obtain ⟨m1, s1, c1, ⟨b1, b1', b1a, b1b⟩, k1⟩ := ap_word (S := S) (l := lc) (i := 18) (cap0 := cap0) (by omega) (by omega) h16 h500
    obtain ⟨m2, s2, c2, ⟨b2, b2', b2a, b2b⟩, k2⟩ := ap_name (l := lc ++ strB.getD 18 []) (cap0 := c1) hN (by omega) b1a b1b
    obtain ⟨m3, s3, c3, ⟨b3, b3', b3a, b3b⟩, k3⟩ := c_fin (S := S) (x := x) (y := y) (o := o) (u := some j) (l := lc ++ strB.getD 18 [] ++ nm S j) (cap0 := c2) (by omega) b2a b2b
    obtain ⟨M1, a1, a2, a3⟩ := q_bind (x := 663726) hT
    obtain ⟨M2, d1, d2, d3⟩ := q_name hN (Nc_sy hC a2).1 a1
    obtain ⟨M', t1, t2, t3⟩ := q_fin d1
    have htk2 : (lc ++ strB.getD 18 [] ++ nm S j).take 120 = (lr ++ ([32] ++ (wlF 663726 0 14 1 60 ++ [32])) ++ nm S j).take 120 := by
      rw [th_eq]
      rcases hrel with h | ⟨e, h1, h2⟩
      · rw [h]
      · rw [h2, List.append_assoc lc, List.append_assoc lc, List.append_assoc lc, List.append_assoc, List.take_append_of_le_length h1, List.take_append_of_le_length h1]
    refine ⟨(lc ++ strB.getD 18 [] ++ nm S j).take 120, ⟨m1 + m2 + m3, s1 + s2 + s3, c3, ⟨by omega, by omega, b3a, b3b⟩, fun ρ hTx hc post cu su mc ms q1 q2 hp => ⟨fun z => (by cases z), fun w hw => ?_⟩⟩, M', by rw [htk2]; exact t1, Sy_tr a2 (Sy_tr d2 t2), fun post hp => ?_⟩
    · cases hw
      exact ⟨m1, s1, ⟨by omega, by omega⟩, k1 ρ hTx hc _ (fun ρ1 T1 S1 C1 => ⟨m2, s2, ⟨by omega, by omega⟩, k2 ρ1 T1 C1 _ (fun ρ2 T2 S2 C2 => k3 ρ2 T2 C2 post _ _ _ _ (by omega) (by omega) (fun ρ3 T3 S3 C3 => hp ρ3 T3 (Sm_tr S1 (Sm_tr S2 S3)) C3))⟩)⟩
    · unfold wxQ_write_c109
      rw [hM]
      refine ⟨fun z => absurd z (nI_pos (by omega)), fun _ => a3 (fun _ S7 => wxQ_name (fun (_ : Unit) S9 => wxQ_write_c144 post S9) S7 (S7 27 10)) ?_⟩
      show wxQ_name (fun (_ : Unit) S9 => wxQ_write_c144 post S9) M1 (M1 27 10)
      rw [a2 27 (by omega) (by omega), hM]
      exact d3 _ (t3 post hp)
/-- from the chain on -/
theorem w_43 (hA : Na S mk) {x : Int32} {y : Int64} {o u : Option Nat} (ho : ∀ j, o = some j → j < mk) (hu : ∀ j, u = some j → j < mk) {l : List Int32} {M : Rg} {cap0 : Nat} (hC : Nc S M mk) (hM9 : M 27 9 = cI o) (hM : M 27 10 = cI u) (hT : Ty M l) (hl : l.length ≤ 60) (h16 : 16 ≤ cap0) (h500 : cap0 ≤ 500) : ∃ lf : List Int32, CP (fun ρ post mc ms cu su => wxR_write_c43 post x y o u mc ms ρ S cu su) S l lf cap0 ∧ ∃ M', Tm M' lf ∧ Sy M M' ∧ ∀ post : Unit → Rg → Prop, post () M' → wxQ_write_c38 post M := by
  cases o with
  | none =>
    obtain ⟨lf, ⟨m1, s1, c1, b1, k1⟩, M', t1, t2, t3⟩ := w_54 hA (x := x) (y := y) (o := none) hu hC hM hT (by omega) (Or.inl rfl) h16 h500
    refine ⟨lf, ⟨m1, s1, c1, b1, fun ρ hTx hc post cu su mc ms q1 q2 hp => ⟨fun _ => k1 ρ hTx hc post cu su mc ms q1 q2 hp, fun j hj => by cases hj⟩⟩, M', t1, t2, fun post hp => ?_⟩
    unfold wxQ_write_c38
    rw [hM9]
    refine ⟨fun _ => ⟨1, ?_⟩, fun z => absurd (by decide) z⟩
    unfold wxQ_write_c53
    exact ⟨fun _ => t3 post hp, fun z => absurd (by decide) z⟩
  | some j =>
    have j1 := ho j rfl
    obtain ⟨hN, hq⟩ := hA j j1
    have hj300 := hN.1
    have hnl := nm_len hN
    have pj : ¬ cI (some j) < 0 := nI_pos (by omega)
    have e1 : (l ++ [32]).length = l.length + 1 := List.length_append
    have e2 : (l ++ [32] ++ nm S j).length = l.length + 1 + (nm S j).length := by rw [List.length_append, e1]
    obtain ⟨m1, s1, c1, ⟨b1, b1', b1a, b1b⟩, k1⟩ := ap_char (S := S) (l := l) (n := 32) (x := 32) (cap0 := cap0) rfl (by omega) (by omega) h16 h500
    obtain ⟨m2, s2, c2, ⟨b2, b2', b2a, b2b⟩, k2⟩ := ap_name (l := l ++ [32]) (cap0 := c1) hN (by omega) b1a b1b
    obtain ⟨M1, a1, a2, a3⟩ := q_letter hT 32
    obtain ⟨M2, d1, d2, d3⟩ := q_name hN (Nc_sy hC a2).1 a1
    have C2 := Nc_sy (Nc_sy hC a2) d2
    have e5 : M2 5 j = cI (S.2 j) := C2.2 j j1
    have e28 : M1 28 0 = nI (l.length + 1) := by rw [a1.1, e1, show min (l.length + 1) 300 = l.length + 1 by omega]
    obtain ⟨lc, lr, r1, r2, ⟨D, m3, s3, c3, ⟨b3, b3', b3a, b3b⟩, k3⟩, M3, t1, t2, t3⟩ := ch_rest hA (j0 := j) mk (S.2 j) M2 (l ++ [32] ++ nm S j) c2 (fun q hq' => by have := hq q hq'; omega) C2 d1 (by omega) b2a b2b
    have e27 : M3 27 = M 27 := ((t2 27 (by omega) (by omega)).trans (d2 27 (by omega) (by omega))).trans (a2 27 (by omega) (by omega))
    obtain ⟨lf, ⟨m4, s4, c4, ⟨b4, b4', b4a, b4b⟩, k4⟩, M', v1, v2, v3⟩ := w_54 hA (x := x) (y := y) (o := some j) hu (Nc_sy C2 t2) (by rw [e27]; exact hM) t1 r1 r2 b3a b3b
    refine ⟨lf, ⟨m1 + m2 + m3 + m4, s1 + s2 + s3 + s4, c4, ⟨by omega, by omega, b4a, b4b⟩, fun ρ hTx hc post cu su mc ms q1 q2 hp => ⟨fun z => (by cases z), fun w hw => ?_⟩⟩, M', v1, Sy_tr a2 (Sy_tr d2 (Sy_tr t2 v2)), fun post hp => ?_⟩
    · cases hw
      exact ⟨m1 + m2 + m3, s1 + s2 + s3, ⟨by omega, by omega⟩, m1, s1, ⟨by omega, by omega⟩, k1 ρ hTx hc _ (fun ρ1 T1 S1 C1 => ⟨m2, s2, ⟨by omega, by omega⟩, k2 ρ1 T1 C1 _ (fun ρ2 T2 S2 C2 => ⟨hj300, D, k3 ρ2 T2 C2 _ _ _ _ _ (by omega) (by omega) (fun ρ3 T3 S3 C3 => k4 ρ3 T3 C3 post _ _ _ _ (by omega) (by omega) (fun ρ4 T4 S4 C4 => hp ρ4 T4 (Sm_tr S1 (Sm_tr S2 (Sm_tr S3 S4))) C4))⟩)⟩)⟩
    · obtain ⟨D', hD⟩ := t3 post (v3 post hp)
      unfold wxQ_write_c38
      rw [hM9]
      refine ⟨fun z => absurd z pj, fun _ => a3 _ ⟨D' + 1, ?_⟩⟩
      unfold wxQ_write_c53
      rw [e28]
      refine ⟨fun z => absurd z pj, fun _ => ⟨fun z => absurd z (nI_ge (b := 200) (by omega) (by omega)), fun _ => d3 _ ⟨vp_in_nI (by omega) (by omega), ?_⟩⟩⟩
      rw [show (cI (some j)).toNatClampNeg = j from nI_clamp (by omega), e5]
      exact hD
end CH
