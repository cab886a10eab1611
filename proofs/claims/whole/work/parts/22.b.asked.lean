/-! calls that change the program, and questions -/
theorem Iv_prog {ρ ρ' : Rh} {S : Sg} {M M' : Rg} {c c' lm' mk lg bg dp : Nat} {l : List Int32} (hR : Rn ρ.2.2.1 c 0 S M mk lg bg dp) (hF : Fl S M mk) (hV : ρ.2.2.2.1 = tv M) (hT : Tx ρ l) (hm : Tm M l) (hP' : Pv ρ'.2.2.1 ρ'.2.1 c' lm') (hM : ∀ a, (a < 10 ∨ 18 ≤ a) → M' a = M a) (hPm : Pm ρ'.2.2.1 M') (hc : c ≤ c') (hr : ρ'.2.2.2 = ρ.2.2.2) : Iv ρ' S M' := by
  obtain ⟨r1, -, ⟨g1, g2, g3, g4, g5, g6, g7⟩, r4⟩ := hR
  have h27 := hM 27 (by omega)
  refine ⟨c', lm', mk, lg, bg, dp, l, hP', ⟨⟨fun a ha h5 => ?_, fun i hi => ?_⟩, hPm, ⟨g1, g2, g3, g4, g5, g6, fun i hi => ?_⟩, r4⟩, ?_, ?_, ?_, ?_⟩
  · rw [hM a (by omega)]; exact r1.1 a ha h5
  · rw [hM 7 (by omega)]; exact r1.2 i hi
  · rw [hM 5 (by omega)]
    obtain ⟨⟨v, v1, v2⟩, a2⟩ := g7 i hi
    exact ⟨⟨v, by omega, v2⟩, a2⟩
  · unfold Fl; rw [h27]; exact hF
  · unfold tv; rw [h27, hr]; exact hV
  · unfold Tx; rw [hr]; exact hT
  · unfold Tm; rw [hM 28 (by omega), hM 26 (by omega)]; exact hm
theorem uu_pair {R R' : Rg} {a b i j : Nat} {v : Int32} (h : j ≠ i → R a j = R' b j) : uu R a i v a j = uu R' b i v b j := by
  by_cases e : j = i
  · subst e; rw [uu_same, uu_same]
  · rw [uu_n (Or.inr e), uu_n (Or.inr e)]; exact h e
theorem iv_dispatch : ok_dispatch Iv := by
  intro ρ S M a1 hI
  obtain ⟨c, lm, mk, lg, bg, dp, l, hP, hR, hF, hV, hT, hm⟩ := id hI
  have good : ∀ x : Int32, (x = -1 ∨ vr 6 x) → Iv (rP ρ 7 2 x) S (uu M 17 2 x) := by
    intro x hx
    have hrow : ∀ a, a ≠ 7 → uu ρ.2.2.1 7 2 x a = ρ.2.2.1 a := fun a ha => uu_row ha
    have h7 : ∀ i, i ≠ 2 → uu ρ.2.2.1 7 2 x 7 i = ρ.2.2.1 7 i := fun i hi => uu_n (Or.inr hi)
    refine Iv_prog (ρ' := rP ρ 7 2 x) (lm' := lm) hR hF hV hT hm ?_ (fun a ha => uu_row (by omega)) ?_ (Nat.le_refl _) rfl
    · obtain ⟨⟨p1, p2⟩, ⟨p3, p4, p5⟩, ⟨p6, p7, p8⟩, p9, p10, p11, p12⟩ := hP
      refine ⟨⟨p1, (h7 1 (by omega)).trans p2⟩, ⟨p3, p4, (h7 0 (by omega)).trans p5⟩, ⟨p6, p7, (h7 3 (by omega)).trans p8⟩, ?_, ?_, ?_, ?_⟩
      · show uu ρ.2.2.1 7 2 x 7 2 = -1 ∨ vr 6 (uu ρ.2.2.1 7 2 x 7 2)
        rw [uu_same]; exact hx
      · intro r hr
        show uu ρ.2.2.1 7 2 x 5 r = -1 ∨ vr ρ.2.1 (uu ρ.2.2.1 7 2 x 5 r)
        rw [hrow 5 (by omega)]; exact p10 r hr
      · intro i hi
        show uu ρ.2.2.1 7 2 x 6 i = -1 ∨ ∃ p, p < c ∧ uu ρ.2.2.1 7 2 x 6 i = nI p ∧ rk p < rk i
        rw [hrow 6 (by omega)]; exact p11 i hi
      · intro i hi
        obtain ⟨lv, kd, n1, n2, n3, n4, n5, n6⟩ := p12 i hi
        refine ⟨lv, kd, (congrFun (hrow 4 (by omega)) i).trans n1, n2, n3, (congrFun (hrow 0 (by omega)) i).trans n4, n5, ?_⟩
        exact nOk_eq (hrow 1 (by omega)) (hrow 2 (by omega)) (hrow 3 (by omega)) (hrow 4 (by omega)) (Nat.le_refl _) (Nat.le_refl _) i lv kd n6
    · obtain ⟨s0, s1, s2, s3, s4, s5, s6, s7⟩ := hR.2.1
      refine ⟨?_, ?_, ?_, ?_, ?_, fun i hi => ?_, fun i hi => ?_, fun i hi => ?_⟩
      · rw [uu_row (by omega), s0]; exact (hrow 0 (by omega)).symm
      · rw [uu_row (by omega), s1]; exact (hrow 1 (by omega)).symm
      · rw [uu_row (by omega), s2]; exact (hrow 2 (by omega)).symm
      · rw [uu_row (by omega), s3]; exact (hrow 3 (by omega)).symm
      · rw [uu_row (by omega), s4]; exact (hrow 4 (by omega)).symm
      · rw [uu_row (by omega), s5 i hi]; exact (congrFun (hrow 5 (by omega)) i).symm
      · rw [uu_row (by omega), s6 i hi]; exact (congrFun (hrow 6 (by omega)) i).symm
      · show uu M 17 2 x 17 i = uu ρ.2.2.1 7 2 x 7 i
        rw [uu_at, uu_at]
        by_cases e : i = 2
        · rw [if_pos ⟨rfl, e⟩, if_pos ⟨rfl, e⟩]
        · rw [if_neg (fun z => e z.2), if_neg (fun z => e z.2)]; exact s7 i hi
  have e0 : (0 : Int32).toInt = 0 := rfl
  have em : (-1 : Int32).toInt = -1 := by decide
  unfold wxT_dispatch wxP_isRoutine wxQ_dispatch wxQ_out
  by_cases h1 : a1 = -1
  · subst h1
    refine ⟨fun _ => ⟨fun z => absurd z (by decide), fun _ => ⟨fun _ => ⟨fun _ => ⟨rfl, good _ (Or.inl rfl)⟩, fun z => absurd rfl z⟩, fun z => absurd (by decide) z⟩⟩, fun z => absurd rfl z⟩
  · refine ⟨fun z => absurd z h1, fun _ => ?_⟩
    rcases ix_n a1 6 (by omega) with h | ⟨j, hj, rfl⟩
    · refine ex_c (n := 6) h rfl ⟨fun z => absurd rfl z, fun _ => ?_⟩
      refine ⟨fun _ => ⟨fun z => absurd z (by decide), fun _ => ⟨rfl, hI⟩⟩, fun hge => ⟨fun hle => ?_, fun _ => ⟨fun z => absurd z (by decide), fun _ => ⟨rfl, hI⟩⟩⟩⟩
      exfalso
      have h1' : ¬ a1.toInt = -1 := fun z => h1 (Int32.toInt_inj.mp (by rw [z, em]))
      rw [Int32.lt_iff_toInt_lt, em] at hge
      rw [Int32.le_iff_toInt_le, show (5 : Int32).toInt = 5 from rfl] at hle
      rw [Int32.lt_iff_toInt_lt, Int32.le_iff_toInt_le, e0, show (nI 6).toInt = 6 from nI_toInt (by omega)] at h
      omega
    · refine in_c (n := 6) hj (by omega) rfl ⟨fun _ => ?_, fun z => absurd z (by decide)⟩
      refine ⟨fun z => ?_, fun _ => ⟨fun _ => ⟨fun _ => ⟨rfl, good _ (Or.inr ⟨j, hj, rfl⟩)⟩, fun z => absurd rfl z⟩, fun z => absurd (nI_le (b := 5) (by omega) (by omega)) z⟩⟩
      exfalso
      rw [Int32.lt_iff_toInt_lt, em, nI_toInt (by omega)] at z
      omega
theorem rk_lt : ∀ c : Fin 16, 10 ≤ c.val → ∀ j : Fin 16, j.val < c.val → rk j.val < rk c.val := by decide
theorem iv_declare : ok_declare Iv := by
  intro ρ S M a1 hI
  obtain ⟨c, lm, mk, lg, bg, dp, l, hP, hR, hF, hV, hT, hm⟩ := id hI
  have hc1 := hP.2.1.1
  have hc2 := hP.2.1.2.1
  have ec : ρ.2.2.1 7 0 = nI c := hP.2.1.2.2
  have eM : M 17 0 = nI c := (hR.2.1.2.2.2.2.2.2.2 0 (by omega)).trans ec
  have eq : M 17 0 - 1 = nI (c - 1) := by rw [eM, show c = (c - 1) + 1 by omega]; exact nI_pred _
  unfold wxT_declare wxC_has wxC_isFull wxC_add wxQ_declare
  rcases ix_n a1 c (by omega) with h | ⟨j, hj, rfl⟩
  · exact ex_c h ec ⟨fun z => absurd rfl z, fun _ => out_ex h (by omega) (by omega) eq ⟨fun z => absurd z (by decide), fun _ => ⟨rfl, hI⟩⟩⟩
  · refine in_c hj (by omega) ec ⟨fun _ => ?_, fun z => absurd z (by decide)⟩
    rw [ec, nI_clamp (by omega)]
    refine ⟨fun h16 => ⟨fun _ => ?_, fun z => absurd rfl z⟩, fun h16 => ⟨fun z => absurd z (by decide), fun _ => ?_⟩⟩
    · have hlt : c < 16 := by
        by_cases q : c = 16
        · exact absurd (by rw [q]; rfl) h16
        · omega
      refine ⟨vp_in_nI hlt (by omega), out_in hj (by omega) eq ⟨fun _ => ?_, fun z => absurd rfl z⟩⟩
      rw [eM, nI_clamp (by omega)]
      refine ⟨fun _ => ⟨vp_in_nI hlt (by omega), rfl, ?_⟩, fun z => absurd z h16⟩
      have hrow : ∀ a, a ≠ 6 → a ≠ 7 → uu (uu ρ.2.2.1 6 c (nI j)) 7 0 (nI c + 1) a = ρ.2.2.1 a := fun a ha hb => (uu_row hb).trans (uu_row ha)
      have h7 : ∀ i, i ≠ 0 → uu (uu ρ.2.2.1 6 c (nI j)) 7 0 (nI c + 1) 7 i = ρ.2.2.1 7 i := fun i hi => (uu_n (Or.inr hi)).trans (uu_n (Or.inl (by omega)))
      have h6 : ∀ i, i ≠ c → uu (uu ρ.2.2.1 6 c (nI j)) 7 0 (nI c + 1) 6 i = ρ.2.2.1 6 i := fun i hi => (uu_n (Or.inl (by omega))).trans (uu_n (Or.inr hi))
      refine Iv_prog (ρ' := rP (rP ρ 6 c (nI j)) 7 0 (nI c + 1)) (c' := c + 1) (lm' := lm) hR hF hV hT hm ?_ (fun a ha => (uu_row (by omega)).trans (uu_row (by omega))) ?_ (by omega) rfl
      · obtain ⟨⟨p1, p2⟩, ⟨p3, p4, p5⟩, ⟨p6, p7, p8⟩, p9, p10, p11, p12⟩ := hP
        refine ⟨⟨p1, (h7 1 (by omega)).trans p2⟩, ⟨by omega, by omega, ?_⟩, ⟨p6, p7, (h7 3 (by omega)).trans p8⟩, ?_, ?_, ?_, ?_⟩
        · show uu (uu ρ.2.2.1 6 c (nI j)) 7 0 (nI c + 1) 7 0 = nI (c + 1)
          rw [uu_same, nI_1]
        · show uu (uu ρ.2.2.1 6 c (nI j)) 7 0 (nI c + 1) 7 2 = -1 ∨ vr 6 (uu (uu ρ.2.2.1 6 c (nI j)) 7 0 (nI c + 1) 7 2)
          rw [h7 2 (by omega)]; exact p9
        · intro r hr
          show uu (uu ρ.2.2.1 6 c (nI j)) 7 0 (nI c + 1) 5 r = -1 ∨ vr ρ.2.1 (uu (uu ρ.2.2.1 6 c (nI j)) 7 0 (nI c + 1) 5 r)
          rw [hrow 5 (by omega) (by omega)]; exact p10 r hr
        · intro i hi
          show uu (uu ρ.2.2.1 6 c (nI j)) 7 0 (nI c + 1) 6 i = -1 ∨ ∃ p, p < c + 1 ∧ uu (uu ρ.2.2.1 6 c (nI j)) 7 0 (nI c + 1) 6 i = nI p ∧ rk p < rk i
          by_cases e : i = c
          · subst e
            rw [uu_n (by omega), uu_same]
            exact Or.inr ⟨j, by omega, rfl, rk_lt ⟨i, hlt⟩ hc1 ⟨j, by omega⟩ hj⟩
          · rw [h6 i e]
            rcases p11 i (by omega) with q | ⟨p, q1, q2⟩
            · exact Or.inl q
            · exact Or.inr ⟨p, by omega, q2⟩
        · intro i hi
          obtain ⟨lv, kd, n1, n2, n3, n4, n5, n6⟩ := p12 i hi
          refine ⟨lv, kd, (congrFun (hrow 4 (by omega) (by omega)) i).trans n1, n2, n3, (congrFun (hrow 0 (by omega) (by omega)) i).trans n4, n5, ?_⟩
          exact nOk_eq (hrow 1 (by omega) (by omega)) (hrow 2 (by omega) (by omega)) (hrow 3 (by omega) (by omega)) (hrow 4 (by omega) (by omega)) (Nat.le_refl _) (by omega) i lv kd n6
      · obtain ⟨s0, s1, s2, s3, s4, s5, s6, s7⟩ := hR.2.1
        have mrow : ∀ a, a ≠ 16 → a ≠ 17 → uu (uu M 16 c (nI j)) 17 0 (nI c + 1) a = M a := fun a ha hb => (uu_row hb).trans (uu_row ha)
        refine ⟨?_, ?_, ?_, ?_, ?_, fun i hi => ?_, fun i hi => ?_, fun i hi => ?_⟩
        · rw [mrow 10 (by omega) (by omega), s0]; exact (hrow 0 (by omega) (by omega)).symm
        · rw [mrow 11 (by omega) (by omega), s1]; exact (hrow 1 (by omega) (by omega)).symm
        · rw [mrow 12 (by omega) (by omega), s2]; exact (hrow 2 (by omega) (by omega)).symm
        · rw [mrow 13 (by omega) (by omega), s3]; exact (hrow 3 (by omega) (by omega)).symm
        · rw [mrow 14 (by omega) (by omega), s4]; exact (hrow 4 (by omega) (by omega)).symm
        · rw [mrow 15 (by omega) (by omega), s5 i hi]; exact (congrFun (hrow 5 (by omega) (by omega)) i).symm
        · have q1 : uu (uu M 16 c (nI j)) 17 0 (nI c + 1) 16 i = uu M 16 c (nI j) 16 i := uu_n (by omega)
          have q2 : uu (uu ρ.2.2.1 6 c (nI j)) 7 0 (nI c + 1) 6 i = uu ρ.2.2.1 6 c (nI j) 6 i := uu_n (by omega)
          exact q1.trans ((uu_pair (fun _ => s6 i hi)).trans q2.symm)
        · have q1 : uu M 16 c (nI j) 17 i = M 17 i := uu_n (by omega)
          have q2 : uu ρ.2.2.1 6 c (nI j) 7 i = ρ.2.2.1 7 i := uu_n (by omega)
          exact uu_pair (fun e => q1.trans ((s7 i hi).trans q2.symm))
    · refine out_in hj (by omega) eq ⟨fun _ => ?_, fun z => absurd rfl z⟩
      rw [eM]
      exact ⟨fun z => absurd h16 z, fun _ => ⟨rfl, hI⟩⟩
/-- a part of a chain, both ways -/
def an (S : Sg) (y : Int32) (j : Nat) : Int64 := if y = 0 then (S.1 3 j).toInt64 else if y = 1 then (S.1 4 j).toInt64 else if y = 2 then (S.1 6 j).toInt64 else 1000000000000
theorem an_c {S : Sg} {y x : Int32} {j : Nat} {post : Int64 → Sg → Prop} {ρ : Rh} {o : Option Nat} (hj : j < 300) (h : post (an S y j) S) : wxT_partOf_c34 post ρ o x y S (some j) := by
  unfold wxT_partOf_c34
  refine ⟨fun z => (by cases z), fun q hq => ?_⟩
  cases hq
  unfold an at h
  refine ⟨fun z => ?_, fun z => ⟨hj, by rw [if_pos z] at h; exact h⟩, fun z => ⟨hj, ?_⟩, fun z => ⟨hj, ?_⟩⟩
  · have e : ∀ n : Nat, n ≤ 2 → ¬ y = nI n := fun n hn w => by rw [w, nI_toInt (by omega)] at z; omega
    rw [if_neg (show ¬ y = 0 from e 0 (by omega)), if_neg (show ¬ y = 1 from e 1 (by omega)), if_neg (show ¬ y = 2 from e 2 (by omega))] at h
    exact h
  · subst z; rw [if_neg (by decide), if_pos rfl] at h; exact h
  · subst z; rw [if_neg (by decide), if_neg (by decide), if_pos rfl] at h; exact h
theorem an_m {S : Sg} {M : Rg} {q : Int32} {j : Nat} {post : Int64 → Rg → Prop} (hj : j < 300) (h3 : M 3 = S.1 3) (h4 : M 4 = S.1 4) (h6 : M 6 = S.1 6) (h : post (an S q j) M) : ((¬ (q = (0 : Int32))) → ((¬ (q = (1 : Int32))) → ((¬ (q = (2 : Int32))) → post (1000000000000 : Int64) M) ∧ ((q = (2 : Int32)) → (vp_in (nI j) 302) ∧ post ((M 6 (nI j).toNatClampNeg).toInt64) M)) ∧ ((q = (1 : Int32)) → (vp_in (nI j) 302) ∧ post ((M 4 (nI j).toNatClampNeg).toInt64) M)) ∧ ((q = (0 : Int32)) → (vp_in (nI j) 302) ∧ post ((M 3 (nI j).toNatClampNeg).toInt64) M) := by
  have v : vp_in (nI j) 302 := vp_in_nI (by omega) (by omega)
  rw [nI_clamp (by omega), h3, h4, h6]
  unfold an at h
  refine ⟨fun a => ⟨fun b => ⟨fun d => ?_, fun d => ⟨v, ?_⟩⟩, fun b => ⟨v, ?_⟩⟩, fun a => ⟨v, ?_⟩⟩
  · rw [if_neg a, if_neg b, if_neg d] at h; exact h
  · rw [if_neg a, if_neg b, if_pos d] at h; exact h
  · rw [if_neg a, if_pos b] at h; exact h
  · rw [if_pos a] at h; exact h
theorem ch_both {P : Rg} {c s : Nat} {S : Sg} {M : Rg} {mk lg bg dp : Nat} (hR : Rn P c s S M mk lg bg dp) {x y : Int32} (hx : ¬ x < 0) : ∀ (m : Nat) (a : Option Nat), (∀ j, a = some j → j < mk ∧ j < m) → ∀ z : Int32, ∃ v : Int64, (∃ D : Nat, ∀ (post : Int64 → Sg → Prop) (ρ : Rh) (o : Option Nat), post v S → wxT_partOf_c13 post ρ o x y D S a z) ∧ (∃ D : Nat, ∀ (post : Int64 → Rg → Prop) (x0 : Int32), post v M → wxQ_chained_c6 post x0 x y D M (cI a) z) := by
  have hb := Rn_bd hR
  obtain ⟨-, -, -, -, -, -, g7⟩ := hR.2.2.1
  have h3 := hR.1.1 3 (by omega) (by omega)
  have h4 := hR.1.1 4 (by omega) (by omega)
  have h6 := hR.1.1 6 (by omega) (by omega)
  have hnone : ∀ z : Int32, ∃ v : Int64, (∃ D : Nat, ∀ (post : Int64 → Sg → Prop) (ρ : Rh) (o : Option Nat), post v S → wxT_partOf_c13 post ρ o x y D S none z) ∧ (∃ D : Nat, ∀ (post : Int64 → Rg → Prop) (x0 : Int32), post v M → wxQ_chained_c6 post x0 x y D M (cI none) z) := by
    intro z
    refine ⟨1000000000000, ⟨1, fun post ρ o h => ?_⟩, ⟨1, fun post x0 h => ?_⟩⟩
    · have k : wxT_partOf_c34 post ρ o x y S none := ⟨fun _ => h, fun j hj => by cases hj⟩
      unfold wxT_partOf_c13
      exact ⟨fun _ => k, fun _ => ⟨fun _ => k, fun j hj => by cases hj⟩⟩
    · unfold wxQ_chained_c6
      have e : ¬ (0 : Int32) ≤ cI none := by decide
      refine ⟨fun _ => ⟨fun w => absurd w hx, fun _ => ⟨fun w => absurd w e, fun _ => h⟩⟩, fun _ => ⟨fun _ => ⟨fun w => absurd w hx, fun _ => ⟨fun w => absurd w e, fun _ => h⟩⟩, fun w => absurd (by decide) w⟩⟩
  intro m
  induction m with
  | zero =>
    intro a ha z
    cases a with
    | none => exact hnone z
    | some j => exact absurd (ha j rfl).2 (by omega)
  | succ m ih =>
    intro a ha z
    cases a with
    | none => exact hnone z
    | some j =>
      obtain ⟨j1, j2⟩ := ha j rfl
      have pj : ¬ cI (some j) < 0 := nI_pos (by omega)
      have pj' : (0 : Int32) ≤ cI (some j) := nI_pos' (by omega)
      by_cases hz : x ≤ z
      · refine ⟨an S y j, ⟨1, fun post ρ o h => ?_⟩, ⟨1, fun post x0 h => ?_⟩⟩
        · unfold wxT_partOf_c13
          exact ⟨fun _ => an_c (by omega) h, fun w => absurd hz w⟩
        · unfold wxQ_chained_c6
          exact ⟨fun _ => ⟨fun w => absurd w hx, fun _ => ⟨fun _ => an_m (by omega) h3 h4 h6 h, fun w => absurd pj' w⟩⟩, fun w => absurd hz w⟩
      · obtain ⟨-, -, a4, a5⟩ := g7 j j1
        obtain ⟨v, ⟨D1, k1⟩, ⟨D2, k2⟩⟩ := ih (S.2 j) (fun q hq => by have := a5 q hq; omega) (z + 1)
        refine ⟨v, ⟨D1 + 1, fun post ρ o h => ?_⟩, ⟨D2 + 1, fun post x0 h => ?_⟩⟩
        · unfold wxT_partOf_c13
          refine ⟨fun w => absurd w hz, fun _ => ⟨fun w => (by cases w), fun q hq => ?_⟩⟩
          cases hq
          exact ⟨by omega, k1 post ρ o h⟩
        · unfold wxQ_chained_c6
          refine ⟨fun w => absurd w hz, fun _ => ⟨fun w => absurd w pj, fun _ => ⟨vp_in_nI (by omega) (by omega), ?_⟩⟩⟩
          show wxQ_chained_c6 post x0 x y D2 M (M 5 (nI j).toNatClampNeg) (z + 1)
          rw [nI_clamp (by omega), a4]
          exact k2 post x0 h
theorem part_both {ρ : Rh} {P : Rg} {c s : Nat} {S : Sg} {M : Rg} {mk lg bg dp : Nat} (hR : Rn P c s S M mk lg bg dp) {o : Option Nat} (ho : ∀ j, o = some j → j < mk) {K : Int64 → Sg → Int64 → Rg → Prop} (x y : Int32) (h : ∀ v, K v S v M) : wxT_partOf (fun r S1 => wxQ_chained (fun r2 M1 => K r S1 r2 M1) M (cI o) x y) ρ S o x y := by
  have e0 : (0 : Int32).toInt = 0 := rfl
  unfold wxT_partOf wxT_partOf_c9 wxQ_chained
  by_cases hx : x < 0
  · have hx' : ¬ (0 : Int32) ≤ x := by
      rw [Int32.lt_iff_toInt_lt] at hx
      rw [Int32.le_iff_toInt_le]; omega
    have hx0 : x ≤ 0 := by
      rw [Int32.lt_iff_toInt_lt] at hx
      rw [Int32.le_iff_toInt_le]; omega
    refine ⟨fun w => absurd w hx', fun _ => ⟨1, ?_⟩⟩
    unfold wxT_partOf_c13
    refine ⟨fun _ => ⟨fun _ => ⟨1, ?_⟩, fun j hj => by cases hj⟩, fun w => absurd hx0 w⟩
    unfold wxQ_chained_c6
    exact ⟨fun _ => ⟨fun _ => h _, fun w => absurd hx w⟩, fun w => absurd hx0 w⟩
  · have hx' : (0 : Int32) ≤ x := by
      rw [Int32.lt_iff_toInt_lt] at hx
      rw [Int32.le_iff_toInt_le]; omega
    obtain ⟨v, ⟨D1, k1⟩, ⟨D2, k2⟩⟩ := ch_both hR (y := y) hx mk o (fun j hj => ⟨ho j hj, ho j hj⟩) 0
    exact ⟨fun _ => ⟨D1, k1 _ ρ o ⟨D2, k2 _ _ (h v)⟩⟩, fun w => absurd hx' w⟩
theorem iv_failure : ok_failure Iv := by
  intro ρ S M a1 a2 hI
  obtain ⟨c, lm, mk, lg, bg, dp, l, hP, hR, hF, -⟩ := id hI
  unfold wxT_failure wxQ_failure
  rw [hF.1.1]
  exact part_both (K := fun r S1 r2 M1 => r = r2 ∧ Iv ρ S1 M1) hR hF.2.1 a1 a2 (fun v => ⟨rfl, hI⟩)
theorem iv_second : ok_second Iv := by
  intro ρ S M a1 a2 hI
  obtain ⟨c, lm, mk, lg, bg, dp, l, hP, hR, hF, -⟩ := id hI
  unfold wxT_second wxQ_second
  rw [hF.1.2]
  exact part_both (K := fun r S1 r2 M1 => r = r2 ∧ Iv ρ S1 M1) hR hF.2.2 a1 a2 (fun v => ⟨rfl, hI⟩)
theorem iv_report : ok_report Iv := by
  intro ρ S M a1 hI
  obtain ⟨c, lm, mk, lg, bg, dp, l, hP, hR, hF, hV, ⟨t1, ⟨t2, t3, t4⟩, t5, t6, t7⟩, ⟨u1, u2, u3⟩⟩ := id hI
  unfold wxT_report wxR_length wxB_length wxA_length wxR_characterAt wxB_charAt wxA_charAt wxQ_report wxS_checkIndex wxX_checkIndex
  rw [t1, u2]
  refine ⟨fun h1 => ⟨fun h0 => ⟨fun _ => ⟨fun _ => ⟨rfl, hI⟩, fun z => absurd h0 z⟩, fun z => absurd z h1⟩, fun h0 => ?_⟩, fun h1 => ⟨fun z => absurd h1 z, fun _ => ⟨rfl, hI⟩⟩⟩
  rcases ix_n a1 l.length (by omega) with hx | ⟨j, hj, rfl⟩
  · have hle : nI l.length ≤ a1 := by rcases hx with hx | hx; exact absurd hx h0; exact hx
    exact ⟨fun _ => ⟨fun _ => ⟨fun z => absurd z h0, fun _ => ⟨fun w => absurd ⟨h0, w⟩ (i32_ex hx (by omega)), fun _ => ⟨rfl, hI⟩⟩⟩, fun z => absurd z h1⟩, fun z => absurd hle z⟩
  · have cj : (nI j).toNatClampNeg = j := nI_clamp (by omega)
    obtain ⟨n, n1, n2⟩ := t7 j hj
    have ec : (Int32.ofNat ρ.2.2.2.2.2.2.1) >>> ((0 : Int32) &&& 31) = nI ρ.2.2.2.2.2.2.1 := by
      have := pk_shrN (n := ρ.2.2.2.2.2.2.1) (by omega) ((0 : Int32) &&& 31) 0 (by decide)
      rw [Nat.pow_zero, Nat.div_one] at this
      exact this
    have ev : (((ρ.2.2.2.2.2.1 j) &&& 255).toUInt32 % 65536).toInt32 = nI n := by
      rw [t6 j hj, n2, pk_andN (by omega) 8 (by decide), pk_char, pk_tn (by omega)]
      congr 1
      omega
    rw [ec, cj, ev]
    have hlim : nI j < (if nI ρ.2.2.2.2.2.2.1 < nI l.length then nI ρ.2.2.2.2.2.2.1 else nI l.length) := by
      rw [if_neg (nI_nlt t2 (by omega))]; exact nI_lt hj (by omega)
    obtain ⟨c1, c2⟩ := pk_charN (q := n) (by omega)
    refine ⟨fun z => absurd z (nI_ge hj (by omega)), fun _ z1 => ⟨fun z => absurd z h0, fun _ => ⟨fun _ => ⟨vp_in_nI (by omega) (by omega), c1, c1, fun _ => ⟨fun z => absurd z h0, fun _ => ⟨fun _ => ⟨vp_in_nI (by omega) (by omega), ?_, hI⟩, fun z => absurd (nI_lt hj (by omega)) z⟩⟩, fun z => absurd z h1⟩, fun z => absurd hlim z⟩⟩⟩
    rw [u3 j hj, n2]
