theorem vk_S_ext {N : Nat} {len : List Nat} {byt : List (List Int32)} {adK adV adV' : Nat → Nat} {A : Nat → Prop} {U : State} {H : Heap} (he : ∀ i, i < N → adV' i = adV i) (h : vk_S N len byt adK adV A U H) : vk_S N len byt adK adV' A U H :=
  ⟨fun i hi => by rw [he i hi]; exact h.1 i hi, h.2⟩
theorem sr_0 : Cond.stringRef "ThrowScenario$Report" 55 "uncaught" ∈ lw_tbl := List.mem_of_getElem? (i := 575) (by decide +kernel)
theorem sr_1 : Cond.stringRef "ThrowScenario$Report" 57 "dispatched" ∈ lw_tbl := List.mem_of_getElem? (i := 576) (by decide +kernel)
theorem sr_2 : Cond.stringRef "ThrowScenario$Report" 59 "handler threw" ∈ lw_tbl := List.mem_of_getElem? (i := 577) (by decide +kernel)
theorem sr_3 : Cond.stringRef "ThrowScenario$Report" 61 "exit" ∈ lw_tbl := List.mem_of_getElem? (i := 578) (by decide +kernel)
theorem sr_4 : Cond.stringRef "ThrowScenario$Report" 63 "tired" ∈ lw_tbl := List.mem_of_getElem? (i := 579) (by decide +kernel)
theorem sr_5 : Cond.stringRef "ThrowScenario$Report" 65 "ended" ∈ lw_tbl := List.mem_of_getElem? (i := 580) (by decide +kernel)
theorem sr_6 : Cond.stringRef "ThrowScenario$Classes" 30 "Throwable" ∈ lw_tbl := List.mem_of_getElem? (i := 720) (by decide +kernel)
theorem sr_7 : Cond.stringRef "ThrowScenario$Classes" 32 "Null" ∈ lw_tbl := List.mem_of_getElem? (i := 721) (by decide +kernel)
theorem sr_8 : Cond.stringRef "ThrowScenario$Classes" 34 "Arithmetic" ∈ lw_tbl := List.mem_of_getElem? (i := 722) (by decide +kernel)
theorem sr_9 : Cond.stringRef "ThrowScenario$Classes" 36 "Index" ∈ lw_tbl := List.mem_of_getElem? (i := 723) (by decide +kernel)
theorem sr_10 : Cond.stringRef "ThrowScenario$Classes" 38 "Cast" ∈ lw_tbl := List.mem_of_getElem? (i := 724) (by decide +kernel)
theorem sr_11 : Cond.stringRef "ThrowScenario$Classes" 40 "Depth" ∈ lw_tbl := List.mem_of_getElem? (i := 725) (by decide +kernel)
theorem sr_12 : Cond.stringRef "ThrowScenario$Classes" 42 "Monitor" ∈ lw_tbl := List.mem_of_getElem? (i := 726) (by decide +kernel)
theorem sr_13 : Cond.stringRef "ThrowScenario$Classes" 44 "Runtime" ∈ lw_tbl := List.mem_of_getElem? (i := 727) (by decide +kernel)
theorem sr_14 : Cond.stringRef "ThrowScenario$Classes" 46 "Error" ∈ lw_tbl := List.mem_of_getElem? (i := 728) (by decide +kernel)
theorem sr_15 : Cond.stringRef "ThrowScenario$Classes" 48 "Exception" ∈ lw_tbl := List.mem_of_getElem? (i := 729) (by decide +kernel)
theorem sr_16 : Cond.stringRef "ThrowScenario$Classes" 50 "Own" ∈ lw_tbl := List.mem_of_getElem? (i := 730) (by decide +kernel)
theorem sr_17 : Cond.stringRef "ThrowScenario$Report" 73 " from " ∈ lw_tbl := List.mem_of_getElem? (i := 741) (by decide +kernel)
theorem sr_18 : Cond.stringRef "ThrowScenario$Report" 50 " then " ∈ lw_tbl := List.mem_of_getElem? (i := 742) (by decide +kernel)
theorem gs_ref {s : State} {args : Array Value} {adK : Nat → Nat} (hts : ∀ w ∈ lw_tbl, w.before args s = true) (hT : ∀ i : Nat, i < 19 → (strT i).eval args s none [] s = some (.ref (adK i))) : ∀ (i : Nat) (q : String × Nat × String), strL[i]? = some q → vk_R q.1 q.2.1 q.2.2 (adK i) s := by
  intro i q hq
  match i, hq with
  | 0, hq => cases hq; exact vk_R.of (hts _ sr_0) (hT 0 (by decide))
  | 1, hq => cases hq; exact vk_R.of (hts _ sr_1) (hT 1 (by decide))
  | 2, hq => cases hq; exact vk_R.of (hts _ sr_2) (hT 2 (by decide))
  | 3, hq => cases hq; exact vk_R.of (hts _ sr_3) (hT 3 (by decide))
  | 4, hq => cases hq; exact vk_R.of (hts _ sr_4) (hT 4 (by decide))
  | 5, hq => cases hq; exact vk_R.of (hts _ sr_5) (hT 5 (by decide))
  | 6, hq => cases hq; exact vk_R.of (hts _ sr_6) (hT 6 (by decide))
  | 7, hq => cases hq; exact vk_R.of (hts _ sr_7) (hT 7 (by decide))
  | 8, hq => cases hq; exact vk_R.of (hts _ sr_8) (hT 8 (by decide))
  | 9, hq => cases hq; exact vk_R.of (hts _ sr_9) (hT 9 (by decide))
  | 10, hq => cases hq; exact vk_R.of (hts _ sr_10) (hT 10 (by decide))
  | 11, hq => cases hq; exact vk_R.of (hts _ sr_11) (hT 11 (by decide))
  | 12, hq => cases hq; exact vk_R.of (hts _ sr_12) (hT 12 (by decide))
  | 13, hq => cases hq; exact vk_R.of (hts _ sr_13) (hT 13 (by decide))
  | 14, hq => cases hq; exact vk_R.of (hts _ sr_14) (hT 14 (by decide))
  | 15, hq => cases hq; exact vk_R.of (hts _ sr_15) (hT 15 (by decide))
  | 16, hq => cases hq; exact vk_R.of (hts _ sr_16) (hT 16 (by decide))
  | 17, hq => cases hq; exact vk_R.of (hts _ sr_17) (hT 17 (by decide))
  | 18, hq => cases hq; exact vk_R.of (hts _ sr_18) (hT 18 (by decide))
  | k + 19, hq => exact absurd hq (by simp)
theorem gx_start {s : State} {args : Array Value} (hts : ∀ w ∈ lw_tbl, w.before args s = true) (hs : ∀ w ∈ nrw, w.before args s = true) : ∃ Γ : Gm, Γ.2.1 = s.heap.size ∧ GX Γ s s.heap := by
  have hb := hts_big hts
  have hA : ∀ a : Nat, a < s.heap.size → ¬ (fun q => s.heap.size ≤ q) a := fun a ha => Nat.not_le.mpr ha
  obtain ⟨cT, iT, kT⟩ := u_known hb in_xT (hb _ k_is_xT)
  obtain ⟨cC, iC, kC⟩ := u_known hb in_xC (hb _ k_is_xC)
  obtain ⟨cP, iP, kP⟩ := u_known hb in_xP (hb _ k_is_xP)
  obtain ⟨cM, iM, kM⟩ := u_known hb in_xM (hb _ k_is_xM)
  obtain ⟨cR, iR, kR⟩ := u_known hb in_xR (hb _ k_is_xR)
  obtain ⟨cH, iH, kH⟩ := u_known hb in_xH (hb _ k_is_xH)
  obtain ⟨cN, iN, kN⟩ := u_known hb in_xN (hts _ (List.mem_of_getElem? (i := 331) (by decide +kernel) : Cond.instantiable RxN 5 ∈ lw_tbl))
  obtain ⟨cB, iB, kB⟩ := u_known hb in_xB (hb _ k_is_xB)
  obtain ⟨cQ, iQ, kQ⟩ := u_known hb in_xQ (hb _ k_is_xQ)
  obtain ⟨a0, hi1, hi2⟩ := arr_prim (hb _ k_ac_int) (fun C h => by cases h)
  obtain ⟨a3, hb1, hb2⟩ := arr_prim (hb _ k_ac_byte) (fun C h => by cases h)
  obtain ⟨a4, hl1, hl2⟩ := arr_prim (hb _ k_ac_long) (fun C h => by cases h)
  have oN := hts _ (List.mem_of_getElem? (i := 106) (by decide +kernel) : Cond.arrayOver (.object "ThrowScenario$Node") ∈ lw_tbl)
  have oH := hts _ (List.mem_of_getElem? (i := 176) (by decide +kernel) : Cond.arrayOver (.object "ThrowScenario$Thrown") ∈ lw_tbl)
  obtain ⟨a1, hn1, hn2⟩ := arr_obj oN
  obtain ⟨a2, hh1, hh2⟩ := arr_obj oH
  obtain ⟨ad, hE⟩ := gs_way hts hs hA
  obtain ⟨adK, adV, hS, hT⟩ := gs_str hs hA
  obtain ⟨⟨t0, e0, h0⟩, ⟨t1, e1, h1⟩, ⟨t2, e2, h2⟩⟩ := gs_tab hs hA
  refine ⟨((fun i => [cT, cC, cP, cM, cR, cH, cN, cB, cQ].getD i 0, fun i => [iT, iC, iP, iM, iR, iH, iN, iB, iQ].getD i (fun _ => 0)), s.heap.size, fun i => [a0, a1, a2, a3, a4].getD i 0, ad, adK, fun i => if i = 100 then t0 else if i = 101 then t1 else if i = 102 then t2 else adV i), rfl, Nat.le_refl _, ⟨?_, ?_⟩, hE, ?_⟩
  · intro i q hq
    match i, hq with
    | 0, hq => cases hq; exact kT
    | 1, hq => cases hq; exact kC
    | 2, hq => cases hq; exact kP
    | 3, hq => cases hq; exact kM
    | 4, hq => cases hq; exact kR
    | 5, hq => cases hq; exact kH
    | 6, hq => cases hq; exact kN
    | 7, hq => cases hq; exact kB
    | 8, hq => cases hq; exact kQ
    | k + 9, hq => exact absurd hq (by simp)
  · intro i q hq
    match i, hq with
    | 0, hq => cases hq; exact ⟨hi1, hi2⟩
    | 1, hq => cases hq; exact ⟨hn1, hn2⟩
    | 2, hq => cases hq; exact ⟨hh1, hh2⟩
    | 3, hq => cases hq; exact ⟨hb1, hb2⟩
    | 4, hq => cases hq; exact ⟨hl1, hl2⟩
    | k + 5, hq => exact absurd hq (by simp [tyG])
  · refine ⟨vk_S_ext (fun i hi => ?_) hS, gs_ref hts hT, va_Zof (hts _ (List.mem_of_getElem? (i := 136) (by decide +kernel))) (hts _ (List.mem_of_getElem? (i := 58) (by decide +kernel))) (va_eqt (hs _ t_cs)) hA, ⟨va_Zref (hts _ (List.mem_of_getElem? (i := 87) (by decide +kernel))) (hts _ (List.mem_of_getElem? (i := 52) (by decide +kernel))) e0 hA, h0⟩, ⟨va_Zref (hts _ (List.mem_of_getElem? (i := 700) (by decide +kernel))) (hts _ (List.mem_of_getElem? (i := 71) (by decide +kernel))) e1 hA, h1⟩, ⟨va_Zref (hts _ (List.mem_of_getElem? (i := 698) (by decide +kernel))) (hts _ (List.mem_of_getElem? (i := 71) (by decide +kernel))) e2 hA, h2⟩, va_Nw.of rfl (hts _ (List.mem_of_getElem? (i := 122) (by decide +kernel) : nwR ∈ lw_tbl)), va_Nw.of rfl (hts _ (List.mem_of_getElem? (i := 178) (by decide +kernel) : nwT ∈ lw_tbl)), va_Zqof (hts _ (List.mem_of_getElem? (i := 605) (by decide +kernel))) (hts _ (List.mem_of_getElem? (i := 70) (by decide +kernel))) (hs _ t_fm) hA, va_AO.of oN, va_AO.of oH⟩
    show (if i = 100 then t0 else if i = 101 then t1 else if i = 102 then t2 else adV i) = adV i
    rw [if_neg (by omega), if_neg (by omega), if_neg (by omega)]
