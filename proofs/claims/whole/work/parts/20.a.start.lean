/-! what the Statement gives at the law's entry: the globals -/
theorem hts_big {s : State} {args : Array Value} (hts : ∀ w ∈ lw_tbl, w.before args s = true) : ∀ w ∈ big, w.before args s = true := by
  have hb : ∀ w ∈ lw_tbl.filter goodWord, w.before args s = true := fun w hw => hts w (List.mem_filter.mp hw).1
  have h0 : (Cond.selects RxB yxA_isLatin1 yxA_isLatin1).before args s = true := hts _ (List.mem_of_getElem? (i := 557) (by decide +kernel))
  intro w hw
  rcases List.mem_append.mp hw with h | h
  · have e1 : (Cond.selects RxB yxA_ensureCapacityInternal yxA_ensureCapacityInternal).before args s = true := sel2 h0 rfl (by decide +kernel) (hts _ (List.mem_of_getElem? (i := 526) (by decide +kernel))) (hts _ (List.mem_of_getElem? (i := 527) (by decide +kernel)))
    have e2 : (Cond.selects RxB yxA_newCapacity yxA_newCapacity).before args s = true := sel2 h0 rfl (by decide +kernel) (hts _ (List.mem_of_getElem? (i := 530) (by decide +kernel))) (hts _ (List.mem_of_getElem? (i := 531) (by decide +kernel)))
    have e3 : (Cond.selects RxB yxA_putStringAt yxA_putStringAt).before args s = true := sel2 h0 rfl (by decide +kernel) (hts _ (List.mem_of_getElem? (i := 628) (by decide +kernel))) (hts _ (List.mem_of_getElem? (i := 629) (by decide +kernel)))
    have e4 : (Cond.selects RxB yxA_inflateIfNeededFor yxA_inflateIfNeededFor).before args s = true := sel2 h0 rfl (by decide +kernel) (hts _ (List.mem_of_getElem? (i := 632) (by decide +kernel))) (hts _ (List.mem_of_getElem? (i := 633) (by decide +kernel)))
    rcases List.mem_cons.mp h with rfl | h
    · exact e1
    rcases List.mem_cons.mp h with rfl | h
    · exact e2
    rcases List.mem_cons.mp h with rfl | h
    · exact e3
    rcases List.mem_cons.mp h with rfl | h
    · exact e4
    · exact absurd h List.not_mem_nil
  · exact hb w h
theorem arr_prim {s : State} {args : Array Value} {ty : FieldType} (h : (Cond.arrayClass ty).before args s = true) (hp : ∀ C, ty ≠ .object C) : ∃ cA : ClassId, ArrOfT s cA ty ∧ va_RA s cA ty := by
  obtain ⟨c, k, comp, h1, h2, h3⟩ := Cond.arrayClass_spec h
  refine ⟨c, fun n z => ⟨fun k h => (by cases h), k, h2, comp, h3⟩, ?_⟩
  cases ty with
  | object C => exact absurd rfl (hp C)
  | _ => exact h1
theorem arr_obj {s : State} {args : Array Value} {C : String} (h : (Cond.arrayOver (.object C)).before args s = true) : ∃ cA : ClassId, ArrOfT s cA (.object C) ∧ va_RA s cA (.object C) := by
  obtain ⟨comp, c, k, h1, -, h3, h4, h5⟩ := Cond.arrayOver_spec h
  exact ⟨c, fun n z => ⟨fun k h => (by cases h), k, h3, comp, h4⟩, k, comp, h3, h4, h1, h5⟩
abbrev nrw : List Cond := flatC (Jvm.Cond.and given_1 narrow_1)
def strT (i : Nat) : Term := .string (strL.getD i ("", 0, "")).1 (strL.getD i ("", 0, "")).2.1
theorem s1_0 : Cond.exactly (strT 0) "java/lang/String" ∈ nrw := (List.mem_of_getElem? (l := nrw) (i := 261) (by decide +kernel))
theorem s2_0 : Cond.eq (.field (strT 0) "java/lang/String" "coder" "B") (.int 0) ∈ nrw := (List.mem_of_getElem? (l := nrw) (i := 262) (by decide +kernel))
theorem s3_0 : Cond.arrayOf (.field (strT 0) "java/lang/String" "value" "[B") .byte ∈ nrw := (List.mem_of_getElem? (l := nrw) (i := 263) (by decide +kernel))
theorem s4_0 : Cond.eq (.length (.field (strT 0) "java/lang/String" "value" "[B")) (.int (Int32.ofNat (strN.getD 0 0))) ∈ nrw := (List.mem_of_getElem? (l := nrw) (i := 264) (by decide +kernel))
theorem s5_0 : ∀ j, j < 8 → Cond.eq (.elem (.field (strT 0) "java/lang/String" "value" "[B") (.int (Int32.ofNat j))) (.int ((strB.getD 0 []).getD j 0)) ∈ nrw := va_run (p := 265) (by decide +kernel)
theorem s1_1 : Cond.exactly (strT 1) "java/lang/String" ∈ nrw := (List.mem_of_getElem? (l := nrw) (i := 273) (by decide +kernel))
theorem s2_1 : Cond.eq (.field (strT 1) "java/lang/String" "coder" "B") (.int 0) ∈ nrw := (List.mem_of_getElem? (l := nrw) (i := 274) (by decide +kernel))
theorem s3_1 : Cond.arrayOf (.field (strT 1) "java/lang/String" "value" "[B") .byte ∈ nrw := (List.mem_of_getElem? (l := nrw) (i := 275) (by decide +kernel))
theorem s4_1 : Cond.eq (.length (.field (strT 1) "java/lang/String" "value" "[B")) (.int (Int32.ofNat (strN.getD 1 0))) ∈ nrw := (List.mem_of_getElem? (l := nrw) (i := 276) (by decide +kernel))
theorem s5_1 : ∀ j, j < 10 → Cond.eq (.elem (.field (strT 1) "java/lang/String" "value" "[B") (.int (Int32.ofNat j))) (.int ((strB.getD 1 []).getD j 0)) ∈ nrw := va_run (p := 277) (by decide +kernel)
theorem s1_2 : Cond.exactly (strT 2) "java/lang/String" ∈ nrw := (List.mem_of_getElem? (l := nrw) (i := 288) (by decide +kernel))
theorem s2_2 : Cond.eq (.field (strT 2) "java/lang/String" "coder" "B") (.int 0) ∈ nrw := (List.mem_of_getElem? (l := nrw) (i := 289) (by decide +kernel))
theorem s3_2 : Cond.arrayOf (.field (strT 2) "java/lang/String" "value" "[B") .byte ∈ nrw := (List.mem_of_getElem? (l := nrw) (i := 290) (by decide +kernel))
theorem s4_2 : Cond.eq (.length (.field (strT 2) "java/lang/String" "value" "[B")) (.int (Int32.ofNat (strN.getD 2 0))) ∈ nrw := (List.mem_of_getElem? (l := nrw) (i := 291) (by decide +kernel))
theorem s5_2 : ∀ j, j < 13 → Cond.eq (.elem (.field (strT 2) "java/lang/String" "value" "[B") (.int (Int32.ofNat j))) (.int ((strB.getD 2 []).getD j 0)) ∈ nrw := va_run (p := 292) (by decide +kernel)
theorem s1_3 : Cond.exactly (strT 3) "java/lang/String" ∈ nrw := (List.mem_of_getElem? (l := nrw) (i := 307) (by decide +kernel))
theorem s2_3 : Cond.eq (.field (strT 3) "java/lang/String" "coder" "B") (.int 0) ∈ nrw := (List.mem_of_getElem? (l := nrw) (i := 308) (by decide +kernel))
theorem s3_3 : Cond.arrayOf (.field (strT 3) "java/lang/String" "value" "[B") .byte ∈ nrw := (List.mem_of_getElem? (l := nrw) (i := 309) (by decide +kernel))
theorem s4_3 : Cond.eq (.length (.field (strT 3) "java/lang/String" "value" "[B")) (.int (Int32.ofNat (strN.getD 3 0))) ∈ nrw := (List.mem_of_getElem? (l := nrw) (i := 310) (by decide +kernel))
theorem s5_3 : ∀ j, j < 4 → Cond.eq (.elem (.field (strT 3) "java/lang/String" "value" "[B") (.int (Int32.ofNat j))) (.int ((strB.getD 3 []).getD j 0)) ∈ nrw := va_run (p := 311) (by decide +kernel)
theorem s1_4 : Cond.exactly (strT 4) "java/lang/String" ∈ nrw := (List.mem_of_getElem? (l := nrw) (i := 318) (by decide +kernel))
theorem s2_4 : Cond.eq (.field (strT 4) "java/lang/String" "coder" "B") (.int 0) ∈ nrw := (List.mem_of_getElem? (l := nrw) (i := 319) (by decide +kernel))
theorem s3_4 : Cond.arrayOf (.field (strT 4) "java/lang/String" "value" "[B") .byte ∈ nrw := (List.mem_of_getElem? (l := nrw) (i := 320) (by decide +kernel))
theorem s4_4 : Cond.eq (.length (.field (strT 4) "java/lang/String" "value" "[B")) (.int (Int32.ofNat (strN.getD 4 0))) ∈ nrw := (List.mem_of_getElem? (l := nrw) (i := 321) (by decide +kernel))
theorem s5_4 : ∀ j, j < 5 → Cond.eq (.elem (.field (strT 4) "java/lang/String" "value" "[B") (.int (Int32.ofNat j))) (.int ((strB.getD 4 []).getD j 0)) ∈ nrw := va_run (p := 322) (by decide +kernel)
theorem s1_5 : Cond.exactly (strT 5) "java/lang/String" ∈ nrw := (List.mem_of_getElem? (l := nrw) (i := 331) (by decide +kernel))
theorem s2_5 : Cond.eq (.field (strT 5) "java/lang/String" "coder" "B") (.int 0) ∈ nrw := (List.mem_of_getElem? (l := nrw) (i := 332) (by decide +kernel))
theorem s3_5 : Cond.arrayOf (.field (strT 5) "java/lang/String" "value" "[B") .byte ∈ nrw := (List.mem_of_getElem? (l := nrw) (i := 333) (by decide +kernel))
theorem s4_5 : Cond.eq (.length (.field (strT 5) "java/lang/String" "value" "[B")) (.int (Int32.ofNat (strN.getD 5 0))) ∈ nrw := (List.mem_of_getElem? (l := nrw) (i := 334) (by decide +kernel))
theorem s5_5 : ∀ j, j < 5 → Cond.eq (.elem (.field (strT 5) "java/lang/String" "value" "[B") (.int (Int32.ofNat j))) (.int ((strB.getD 5 []).getD j 0)) ∈ nrw := va_run (p := 335) (by decide +kernel)
theorem s1_6 : Cond.exactly (strT 6) "java/lang/String" ∈ nrw := (List.mem_of_getElem? (l := nrw) (i := 345) (by decide +kernel))
theorem s2_6 : Cond.eq (.field (strT 6) "java/lang/String" "coder" "B") (.int 0) ∈ nrw := (List.mem_of_getElem? (l := nrw) (i := 346) (by decide +kernel))
theorem s3_6 : Cond.arrayOf (.field (strT 6) "java/lang/String" "value" "[B") .byte ∈ nrw := (List.mem_of_getElem? (l := nrw) (i := 347) (by decide +kernel))
theorem s4_6 : Cond.eq (.length (.field (strT 6) "java/lang/String" "value" "[B")) (.int (Int32.ofNat (strN.getD 6 0))) ∈ nrw := (List.mem_of_getElem? (l := nrw) (i := 348) (by decide +kernel))
theorem s5_6 : ∀ j, j < 9 → Cond.eq (.elem (.field (strT 6) "java/lang/String" "value" "[B") (.int (Int32.ofNat j))) (.int ((strB.getD 6 []).getD j 0)) ∈ nrw := va_run (p := 349) (by decide +kernel)
theorem s1_7 : Cond.exactly (strT 7) "java/lang/String" ∈ nrw := (List.mem_of_getElem? (l := nrw) (i := 364) (by decide +kernel))
theorem s2_7 : Cond.eq (.field (strT 7) "java/lang/String" "coder" "B") (.int 0) ∈ nrw := (List.mem_of_getElem? (l := nrw) (i := 365) (by decide +kernel))
theorem s3_7 : Cond.arrayOf (.field (strT 7) "java/lang/String" "value" "[B") .byte ∈ nrw := (List.mem_of_getElem? (l := nrw) (i := 366) (by decide +kernel))
theorem s4_7 : Cond.eq (.length (.field (strT 7) "java/lang/String" "value" "[B")) (.int (Int32.ofNat (strN.getD 7 0))) ∈ nrw := (List.mem_of_getElem? (l := nrw) (i := 367) (by decide +kernel))
theorem s5_7 : ∀ j, j < 4 → Cond.eq (.elem (.field (strT 7) "java/lang/String" "value" "[B") (.int (Int32.ofNat j))) (.int ((strB.getD 7 []).getD j 0)) ∈ nrw := va_run (p := 368) (by decide +kernel)
theorem s1_8 : Cond.exactly (strT 8) "java/lang/String" ∈ nrw := (List.mem_of_getElem? (l := nrw) (i := 379) (by decide +kernel))
theorem s2_8 : Cond.eq (.field (strT 8) "java/lang/String" "coder" "B") (.int 0) ∈ nrw := (List.mem_of_getElem? (l := nrw) (i := 380) (by decide +kernel))
theorem s3_8 : Cond.arrayOf (.field (strT 8) "java/lang/String" "value" "[B") .byte ∈ nrw := (List.mem_of_getElem? (l := nrw) (i := 381) (by decide +kernel))
theorem s4_8 : Cond.eq (.length (.field (strT 8) "java/lang/String" "value" "[B")) (.int (Int32.ofNat (strN.getD 8 0))) ∈ nrw := (List.mem_of_getElem? (l := nrw) (i := 382) (by decide +kernel))
theorem s5_8 : ∀ j, j < 10 → Cond.eq (.elem (.field (strT 8) "java/lang/String" "value" "[B") (.int (Int32.ofNat j))) (.int ((strB.getD 8 []).getD j 0)) ∈ nrw := va_run (p := 383) (by decide +kernel)
theorem s1_9 : Cond.exactly (strT 9) "java/lang/String" ∈ nrw := (List.mem_of_getElem? (l := nrw) (i := 401) (by decide +kernel))
theorem s2_9 : Cond.eq (.field (strT 9) "java/lang/String" "coder" "B") (.int 0) ∈ nrw := (List.mem_of_getElem? (l := nrw) (i := 402) (by decide +kernel))
theorem s3_9 : Cond.arrayOf (.field (strT 9) "java/lang/String" "value" "[B") .byte ∈ nrw := (List.mem_of_getElem? (l := nrw) (i := 403) (by decide +kernel))
theorem s4_9 : Cond.eq (.length (.field (strT 9) "java/lang/String" "value" "[B")) (.int (Int32.ofNat (strN.getD 9 0))) ∈ nrw := (List.mem_of_getElem? (l := nrw) (i := 404) (by decide +kernel))
theorem s5_9 : ∀ j, j < 5 → Cond.eq (.elem (.field (strT 9) "java/lang/String" "value" "[B") (.int (Int32.ofNat j))) (.int ((strB.getD 9 []).getD j 0)) ∈ nrw := va_run (p := 405) (by decide +kernel)
theorem s1_10 : Cond.exactly (strT 10) "java/lang/String" ∈ nrw := (List.mem_of_getElem? (l := nrw) (i := 419) (by decide +kernel))
theorem s2_10 : Cond.eq (.field (strT 10) "java/lang/String" "coder" "B") (.int 0) ∈ nrw := (List.mem_of_getElem? (l := nrw) (i := 420) (by decide +kernel))
theorem s3_10 : Cond.arrayOf (.field (strT 10) "java/lang/String" "value" "[B") .byte ∈ nrw := (List.mem_of_getElem? (l := nrw) (i := 421) (by decide +kernel))
theorem s4_10 : Cond.eq (.length (.field (strT 10) "java/lang/String" "value" "[B")) (.int (Int32.ofNat (strN.getD 10 0))) ∈ nrw := (List.mem_of_getElem? (l := nrw) (i := 422) (by decide +kernel))
theorem s5_10 : ∀ j, j < 4 → Cond.eq (.elem (.field (strT 10) "java/lang/String" "value" "[B") (.int (Int32.ofNat j))) (.int ((strB.getD 10 []).getD j 0)) ∈ nrw := va_run (p := 423) (by decide +kernel)
theorem s1_11 : Cond.exactly (strT 11) "java/lang/String" ∈ nrw := (List.mem_of_getElem? (l := nrw) (i := 437) (by decide +kernel))
theorem s2_11 : Cond.eq (.field (strT 11) "java/lang/String" "coder" "B") (.int 0) ∈ nrw := (List.mem_of_getElem? (l := nrw) (i := 438) (by decide +kernel))
theorem s3_11 : Cond.arrayOf (.field (strT 11) "java/lang/String" "value" "[B") .byte ∈ nrw := (List.mem_of_getElem? (l := nrw) (i := 439) (by decide +kernel))
theorem s4_11 : Cond.eq (.length (.field (strT 11) "java/lang/String" "value" "[B")) (.int (Int32.ofNat (strN.getD 11 0))) ∈ nrw := (List.mem_of_getElem? (l := nrw) (i := 440) (by decide +kernel))
theorem s5_11 : ∀ j, j < 5 → Cond.eq (.elem (.field (strT 11) "java/lang/String" "value" "[B") (.int (Int32.ofNat j))) (.int ((strB.getD 11 []).getD j 0)) ∈ nrw := va_run (p := 441) (by decide +kernel)
theorem s1_12 : Cond.exactly (strT 12) "java/lang/String" ∈ nrw := (List.mem_of_getElem? (l := nrw) (i := 457) (by decide +kernel))
theorem s2_12 : Cond.eq (.field (strT 12) "java/lang/String" "coder" "B") (.int 0) ∈ nrw := (List.mem_of_getElem? (l := nrw) (i := 458) (by decide +kernel))
theorem s3_12 : Cond.arrayOf (.field (strT 12) "java/lang/String" "value" "[B") .byte ∈ nrw := (List.mem_of_getElem? (l := nrw) (i := 459) (by decide +kernel))
theorem s4_12 : Cond.eq (.length (.field (strT 12) "java/lang/String" "value" "[B")) (.int (Int32.ofNat (strN.getD 12 0))) ∈ nrw := (List.mem_of_getElem? (l := nrw) (i := 460) (by decide +kernel))
theorem s5_12 : ∀ j, j < 7 → Cond.eq (.elem (.field (strT 12) "java/lang/String" "value" "[B") (.int (Int32.ofNat j))) (.int ((strB.getD 12 []).getD j 0)) ∈ nrw := va_run (p := 461) (by decide +kernel)
theorem s1_13 : Cond.exactly (strT 13) "java/lang/String" ∈ nrw := (List.mem_of_getElem? (l := nrw) (i := 480) (by decide +kernel))
theorem s2_13 : Cond.eq (.field (strT 13) "java/lang/String" "coder" "B") (.int 0) ∈ nrw := (List.mem_of_getElem? (l := nrw) (i := 481) (by decide +kernel))
theorem s3_13 : Cond.arrayOf (.field (strT 13) "java/lang/String" "value" "[B") .byte ∈ nrw := (List.mem_of_getElem? (l := nrw) (i := 482) (by decide +kernel))
theorem s4_13 : Cond.eq (.length (.field (strT 13) "java/lang/String" "value" "[B")) (.int (Int32.ofNat (strN.getD 13 0))) ∈ nrw := (List.mem_of_getElem? (l := nrw) (i := 483) (by decide +kernel))
theorem s5_13 : ∀ j, j < 7 → Cond.eq (.elem (.field (strT 13) "java/lang/String" "value" "[B") (.int (Int32.ofNat j))) (.int ((strB.getD 13 []).getD j 0)) ∈ nrw := va_run (p := 484) (by decide +kernel)
theorem s1_14 : Cond.exactly (strT 14) "java/lang/String" ∈ nrw := (List.mem_of_getElem? (l := nrw) (i := 504) (by decide +kernel))
theorem s2_14 : Cond.eq (.field (strT 14) "java/lang/String" "coder" "B") (.int 0) ∈ nrw := (List.mem_of_getElem? (l := nrw) (i := 505) (by decide +kernel))
theorem s3_14 : Cond.arrayOf (.field (strT 14) "java/lang/String" "value" "[B") .byte ∈ nrw := (List.mem_of_getElem? (l := nrw) (i := 506) (by decide +kernel))
theorem s4_14 : Cond.eq (.length (.field (strT 14) "java/lang/String" "value" "[B")) (.int (Int32.ofNat (strN.getD 14 0))) ∈ nrw := (List.mem_of_getElem? (l := nrw) (i := 507) (by decide +kernel))
theorem s5_14 : ∀ j, j < 5 → Cond.eq (.elem (.field (strT 14) "java/lang/String" "value" "[B") (.int (Int32.ofNat j))) (.int ((strB.getD 14 []).getD j 0)) ∈ nrw := va_run (p := 508) (by decide +kernel)
theorem s1_15 : Cond.exactly (strT 15) "java/lang/String" ∈ nrw := (List.mem_of_getElem? (l := nrw) (i := 527) (by decide +kernel))
theorem s2_15 : Cond.eq (.field (strT 15) "java/lang/String" "coder" "B") (.int 0) ∈ nrw := (List.mem_of_getElem? (l := nrw) (i := 528) (by decide +kernel))
theorem s3_15 : Cond.arrayOf (.field (strT 15) "java/lang/String" "value" "[B") .byte ∈ nrw := (List.mem_of_getElem? (l := nrw) (i := 529) (by decide +kernel))
theorem s4_15 : Cond.eq (.length (.field (strT 15) "java/lang/String" "value" "[B")) (.int (Int32.ofNat (strN.getD 15 0))) ∈ nrw := (List.mem_of_getElem? (l := nrw) (i := 530) (by decide +kernel))
theorem s5_15 : ∀ j, j < 9 → Cond.eq (.elem (.field (strT 15) "java/lang/String" "value" "[B") (.int (Int32.ofNat j))) (.int ((strB.getD 15 []).getD j 0)) ∈ nrw := va_run (p := 531) (by decide +kernel)
theorem s1_16 : Cond.exactly (strT 16) "java/lang/String" ∈ nrw := (List.mem_of_getElem? (l := nrw) (i := 555) (by decide +kernel))
theorem s2_16 : Cond.eq (.field (strT 16) "java/lang/String" "coder" "B") (.int 0) ∈ nrw := (List.mem_of_getElem? (l := nrw) (i := 556) (by decide +kernel))
theorem s3_16 : Cond.arrayOf (.field (strT 16) "java/lang/String" "value" "[B") .byte ∈ nrw := (List.mem_of_getElem? (l := nrw) (i := 557) (by decide +kernel))
theorem s4_16 : Cond.eq (.length (.field (strT 16) "java/lang/String" "value" "[B")) (.int (Int32.ofNat (strN.getD 16 0))) ∈ nrw := (List.mem_of_getElem? (l := nrw) (i := 558) (by decide +kernel))
theorem s5_16 : ∀ j, j < 3 → Cond.eq (.elem (.field (strT 16) "java/lang/String" "value" "[B") (.int (Int32.ofNat j))) (.int ((strB.getD 16 []).getD j 0)) ∈ nrw := va_run (p := 559) (by decide +kernel)
theorem s1_17 : Cond.exactly (strT 17) "java/lang/String" ∈ nrw := (List.mem_of_getElem? (l := nrw) (i := 578) (by decide +kernel))
theorem s2_17 : Cond.eq (.field (strT 17) "java/lang/String" "coder" "B") (.int 0) ∈ nrw := (List.mem_of_getElem? (l := nrw) (i := 579) (by decide +kernel))
theorem s3_17 : Cond.arrayOf (.field (strT 17) "java/lang/String" "value" "[B") .byte ∈ nrw := (List.mem_of_getElem? (l := nrw) (i := 580) (by decide +kernel))
theorem s4_17 : Cond.eq (.length (.field (strT 17) "java/lang/String" "value" "[B")) (.int (Int32.ofNat (strN.getD 17 0))) ∈ nrw := (List.mem_of_getElem? (l := nrw) (i := 581) (by decide +kernel))
theorem s5_17 : ∀ j, j < 6 → Cond.eq (.elem (.field (strT 17) "java/lang/String" "value" "[B") (.int (Int32.ofNat j))) (.int ((strB.getD 17 []).getD j 0)) ∈ nrw := va_run (p := 582) (by decide +kernel)
theorem s1_18 : Cond.exactly (strT 18) "java/lang/String" ∈ nrw := (List.mem_of_getElem? (l := nrw) (i := 605) (by decide +kernel))
theorem s2_18 : Cond.eq (.field (strT 18) "java/lang/String" "coder" "B") (.int 0) ∈ nrw := (List.mem_of_getElem? (l := nrw) (i := 606) (by decide +kernel))
theorem s3_18 : Cond.arrayOf (.field (strT 18) "java/lang/String" "value" "[B") .byte ∈ nrw := (List.mem_of_getElem? (l := nrw) (i := 607) (by decide +kernel))
theorem s4_18 : Cond.eq (.length (.field (strT 18) "java/lang/String" "value" "[B")) (.int (Int32.ofNat (strN.getD 18 0))) ∈ nrw := (List.mem_of_getElem? (l := nrw) (i := 608) (by decide +kernel))
theorem s5_18 : ∀ j, j < 6 → Cond.eq (.elem (.field (strT 18) "java/lang/String" "value" "[B") (.int (Int32.ofNat j))) (.int ((strB.getD 18 []).getD j 0)) ∈ nrw := va_run (p := 609) (by decide +kernel)
theorem s6_0_1 : Cond.not (Cond.eq (strT 0) (strT 1)) ∈ nrw := List.mem_of_getElem? (i := 287) (by decide +kernel)
theorem s6_0_2 : Cond.not (Cond.eq (strT 0) (strT 2)) ∈ nrw := List.mem_of_getElem? (i := 305) (by decide +kernel)
theorem s6_0_3 : Cond.not (Cond.eq (strT 0) (strT 3)) ∈ nrw := List.mem_of_getElem? (i := 315) (by decide +kernel)
theorem s6_0_4 : Cond.not (Cond.eq (strT 0) (strT 4)) ∈ nrw := List.mem_of_getElem? (i := 327) (by decide +kernel)
theorem s6_0_5 : Cond.not (Cond.eq (strT 0) (strT 5)) ∈ nrw := List.mem_of_getElem? (i := 340) (by decide +kernel)
theorem s6_0_6 : Cond.not (Cond.eq (strT 0) (strT 6)) ∈ nrw := List.mem_of_getElem? (i := 358) (by decide +kernel)
theorem s6_0_7 : Cond.not (Cond.eq (strT 0) (strT 7)) ∈ nrw := List.mem_of_getElem? (i := 372) (by decide +kernel)
theorem s6_0_8 : Cond.not (Cond.eq (strT 0) (strT 8)) ∈ nrw := List.mem_of_getElem? (i := 393) (by decide +kernel)
theorem s6_0_9 : Cond.not (Cond.eq (strT 0) (strT 9)) ∈ nrw := List.mem_of_getElem? (i := 410) (by decide +kernel)
theorem s6_0_10 : Cond.not (Cond.eq (strT 0) (strT 10)) ∈ nrw := List.mem_of_getElem? (i := 427) (by decide +kernel)
theorem s6_0_11 : Cond.not (Cond.eq (strT 0) (strT 11)) ∈ nrw := List.mem_of_getElem? (i := 446) (by decide +kernel)
theorem s6_0_12 : Cond.not (Cond.eq (strT 0) (strT 12)) ∈ nrw := List.mem_of_getElem? (i := 468) (by decide +kernel)
theorem s6_0_13 : Cond.not (Cond.eq (strT 0) (strT 13)) ∈ nrw := List.mem_of_getElem? (i := 491) (by decide +kernel)
theorem s6_0_14 : Cond.not (Cond.eq (strT 0) (strT 14)) ∈ nrw := List.mem_of_getElem? (i := 513) (by decide +kernel)
theorem s6_0_15 : Cond.not (Cond.eq (strT 0) (strT 15)) ∈ nrw := List.mem_of_getElem? (i := 540) (by decide +kernel)
theorem s6_0_16 : Cond.not (Cond.eq (strT 0) (strT 16)) ∈ nrw := List.mem_of_getElem? (i := 562) (by decide +kernel)
theorem s6_0_17 : Cond.not (Cond.eq (strT 0) (strT 17)) ∈ nrw := List.mem_of_getElem? (i := 588) (by decide +kernel)
theorem s6_0_18 : Cond.not (Cond.eq (strT 0) (strT 18)) ∈ nrw := List.mem_of_getElem? (i := 615) (by decide +kernel)
theorem s6_1_2 : Cond.not (Cond.eq (strT 1) (strT 2)) ∈ nrw := List.mem_of_getElem? (i := 306) (by decide +kernel)
theorem s6_1_3 : Cond.not (Cond.eq (strT 1) (strT 3)) ∈ nrw := List.mem_of_getElem? (i := 316) (by decide +kernel)
theorem s6_1_4 : Cond.not (Cond.eq (strT 1) (strT 4)) ∈ nrw := List.mem_of_getElem? (i := 328) (by decide +kernel)
theorem s6_1_5 : Cond.not (Cond.eq (strT 1) (strT 5)) ∈ nrw := List.mem_of_getElem? (i := 341) (by decide +kernel)
theorem s6_1_6 : Cond.not (Cond.eq (strT 1) (strT 6)) ∈ nrw := List.mem_of_getElem? (i := 359) (by decide +kernel)
theorem s6_1_7 : Cond.not (Cond.eq (strT 1) (strT 7)) ∈ nrw := List.mem_of_getElem? (i := 373) (by decide +kernel)
theorem s6_1_8 : Cond.not (Cond.eq (strT 1) (strT 8)) ∈ nrw := List.mem_of_getElem? (i := 394) (by decide +kernel)
theorem s6_1_9 : Cond.not (Cond.eq (strT 1) (strT 9)) ∈ nrw := List.mem_of_getElem? (i := 411) (by decide +kernel)
theorem s6_1_10 : Cond.not (Cond.eq (strT 1) (strT 10)) ∈ nrw := List.mem_of_getElem? (i := 428) (by decide +kernel)
theorem s6_1_11 : Cond.not (Cond.eq (strT 1) (strT 11)) ∈ nrw := List.mem_of_getElem? (i := 447) (by decide +kernel)
theorem s6_1_12 : Cond.not (Cond.eq (strT 1) (strT 12)) ∈ nrw := List.mem_of_getElem? (i := 469) (by decide +kernel)
theorem s6_1_13 : Cond.not (Cond.eq (strT 1) (strT 13)) ∈ nrw := List.mem_of_getElem? (i := 492) (by decide +kernel)
theorem s6_1_14 : Cond.not (Cond.eq (strT 1) (strT 14)) ∈ nrw := List.mem_of_getElem? (i := 514) (by decide +kernel)
theorem s6_1_15 : Cond.not (Cond.eq (strT 1) (strT 15)) ∈ nrw := List.mem_of_getElem? (i := 541) (by decide +kernel)
theorem s6_1_16 : Cond.not (Cond.eq (strT 1) (strT 16)) ∈ nrw := List.mem_of_getElem? (i := 563) (by decide +kernel)
theorem s6_1_17 : Cond.not (Cond.eq (strT 1) (strT 17)) ∈ nrw := List.mem_of_getElem? (i := 589) (by decide +kernel)
theorem s6_1_18 : Cond.not (Cond.eq (strT 1) (strT 18)) ∈ nrw := List.mem_of_getElem? (i := 616) (by decide +kernel)
theorem s6_2_3 : Cond.not (Cond.eq (strT 2) (strT 3)) ∈ nrw := List.mem_of_getElem? (i := 317) (by decide +kernel)
theorem s6_2_4 : Cond.not (Cond.eq (strT 2) (strT 4)) ∈ nrw := List.mem_of_getElem? (i := 329) (by decide +kernel)
theorem s6_2_5 : Cond.not (Cond.eq (strT 2) (strT 5)) ∈ nrw := List.mem_of_getElem? (i := 342) (by decide +kernel)
theorem s6_2_6 : Cond.not (Cond.eq (strT 2) (strT 6)) ∈ nrw := List.mem_of_getElem? (i := 360) (by decide +kernel)
theorem s6_2_7 : Cond.not (Cond.eq (strT 2) (strT 7)) ∈ nrw := List.mem_of_getElem? (i := 374) (by decide +kernel)
theorem s6_2_8 : Cond.not (Cond.eq (strT 2) (strT 8)) ∈ nrw := List.mem_of_getElem? (i := 395) (by decide +kernel)
theorem s6_2_9 : Cond.not (Cond.eq (strT 2) (strT 9)) ∈ nrw := List.mem_of_getElem? (i := 412) (by decide +kernel)
theorem s6_2_10 : Cond.not (Cond.eq (strT 2) (strT 10)) ∈ nrw := List.mem_of_getElem? (i := 429) (by decide +kernel)
theorem s6_2_11 : Cond.not (Cond.eq (strT 2) (strT 11)) ∈ nrw := List.mem_of_getElem? (i := 448) (by decide +kernel)
theorem s6_2_12 : Cond.not (Cond.eq (strT 2) (strT 12)) ∈ nrw := List.mem_of_getElem? (i := 470) (by decide +kernel)
theorem s6_2_13 : Cond.not (Cond.eq (strT 2) (strT 13)) ∈ nrw := List.mem_of_getElem? (i := 493) (by decide +kernel)
theorem s6_2_14 : Cond.not (Cond.eq (strT 2) (strT 14)) ∈ nrw := List.mem_of_getElem? (i := 515) (by decide +kernel)
theorem s6_2_15 : Cond.not (Cond.eq (strT 2) (strT 15)) ∈ nrw := List.mem_of_getElem? (i := 542) (by decide +kernel)
theorem s6_2_16 : Cond.not (Cond.eq (strT 2) (strT 16)) ∈ nrw := List.mem_of_getElem? (i := 564) (by decide +kernel)
theorem s6_2_17 : Cond.not (Cond.eq (strT 2) (strT 17)) ∈ nrw := List.mem_of_getElem? (i := 590) (by decide +kernel)
theorem s6_2_18 : Cond.not (Cond.eq (strT 2) (strT 18)) ∈ nrw := List.mem_of_getElem? (i := 617) (by decide +kernel)
theorem s6_3_4 : Cond.not (Cond.eq (strT 3) (strT 4)) ∈ nrw := List.mem_of_getElem? (i := 330) (by decide +kernel)
theorem s6_3_5 : Cond.not (Cond.eq (strT 3) (strT 5)) ∈ nrw := List.mem_of_getElem? (i := 343) (by decide +kernel)
theorem s6_3_6 : Cond.not (Cond.eq (strT 3) (strT 6)) ∈ nrw := List.mem_of_getElem? (i := 361) (by decide +kernel)
theorem s6_3_7 : Cond.not (Cond.eq (strT 3) (strT 7)) ∈ nrw := List.mem_of_getElem? (i := 375) (by decide +kernel)
theorem s6_3_8 : Cond.not (Cond.eq (strT 3) (strT 8)) ∈ nrw := List.mem_of_getElem? (i := 396) (by decide +kernel)
theorem s6_3_9 : Cond.not (Cond.eq (strT 3) (strT 9)) ∈ nrw := List.mem_of_getElem? (i := 413) (by decide +kernel)
theorem s6_3_10 : Cond.not (Cond.eq (strT 3) (strT 10)) ∈ nrw := List.mem_of_getElem? (i := 430) (by decide +kernel)
theorem s6_3_11 : Cond.not (Cond.eq (strT 3) (strT 11)) ∈ nrw := List.mem_of_getElem? (i := 449) (by decide +kernel)
theorem s6_3_12 : Cond.not (Cond.eq (strT 3) (strT 12)) ∈ nrw := List.mem_of_getElem? (i := 471) (by decide +kernel)
theorem s6_3_13 : Cond.not (Cond.eq (strT 3) (strT 13)) ∈ nrw := List.mem_of_getElem? (i := 494) (by decide +kernel)
theorem s6_3_14 : Cond.not (Cond.eq (strT 3) (strT 14)) ∈ nrw := List.mem_of_getElem? (i := 516) (by decide +kernel)
theorem s6_3_15 : Cond.not (Cond.eq (strT 3) (strT 15)) ∈ nrw := List.mem_of_getElem? (i := 543) (by decide +kernel)
theorem s6_3_16 : Cond.not (Cond.eq (strT 3) (strT 16)) ∈ nrw := List.mem_of_getElem? (i := 565) (by decide +kernel)
theorem s6_3_17 : Cond.not (Cond.eq (strT 3) (strT 17)) ∈ nrw := List.mem_of_getElem? (i := 591) (by decide +kernel)
theorem s6_3_18 : Cond.not (Cond.eq (strT 3) (strT 18)) ∈ nrw := List.mem_of_getElem? (i := 618) (by decide +kernel)
theorem s6_4_5 : Cond.not (Cond.eq (strT 4) (strT 5)) ∈ nrw := List.mem_of_getElem? (i := 344) (by decide +kernel)
theorem s6_4_6 : Cond.not (Cond.eq (strT 4) (strT 6)) ∈ nrw := List.mem_of_getElem? (i := 362) (by decide +kernel)
theorem s6_4_7 : Cond.not (Cond.eq (strT 4) (strT 7)) ∈ nrw := List.mem_of_getElem? (i := 376) (by decide +kernel)
theorem s6_4_8 : Cond.not (Cond.eq (strT 4) (strT 8)) ∈ nrw := List.mem_of_getElem? (i := 397) (by decide +kernel)
theorem s6_4_9 : Cond.not (Cond.eq (strT 4) (strT 9)) ∈ nrw := List.mem_of_getElem? (i := 414) (by decide +kernel)
theorem s6_4_10 : Cond.not (Cond.eq (strT 4) (strT 10)) ∈ nrw := List.mem_of_getElem? (i := 431) (by decide +kernel)
theorem s6_4_11 : Cond.not (Cond.eq (strT 4) (strT 11)) ∈ nrw := List.mem_of_getElem? (i := 450) (by decide +kernel)
theorem s6_4_12 : Cond.not (Cond.eq (strT 4) (strT 12)) ∈ nrw := List.mem_of_getElem? (i := 472) (by decide +kernel)
theorem s6_4_13 : Cond.not (Cond.eq (strT 4) (strT 13)) ∈ nrw := List.mem_of_getElem? (i := 495) (by decide +kernel)
theorem s6_4_14 : Cond.not (Cond.eq (strT 4) (strT 14)) ∈ nrw := List.mem_of_getElem? (i := 517) (by decide +kernel)
theorem s6_4_15 : Cond.not (Cond.eq (strT 4) (strT 15)) ∈ nrw := List.mem_of_getElem? (i := 544) (by decide +kernel)
theorem s6_4_16 : Cond.not (Cond.eq (strT 4) (strT 16)) ∈ nrw := List.mem_of_getElem? (i := 566) (by decide +kernel)
theorem s6_4_17 : Cond.not (Cond.eq (strT 4) (strT 17)) ∈ nrw := List.mem_of_getElem? (i := 592) (by decide +kernel)
theorem s6_4_18 : Cond.not (Cond.eq (strT 4) (strT 18)) ∈ nrw := List.mem_of_getElem? (i := 619) (by decide +kernel)
theorem s6_5_6 : Cond.not (Cond.eq (strT 5) (strT 6)) ∈ nrw := List.mem_of_getElem? (i := 363) (by decide +kernel)
theorem s6_5_7 : Cond.not (Cond.eq (strT 5) (strT 7)) ∈ nrw := List.mem_of_getElem? (i := 377) (by decide +kernel)
theorem s6_5_8 : Cond.not (Cond.eq (strT 5) (strT 8)) ∈ nrw := List.mem_of_getElem? (i := 398) (by decide +kernel)
theorem s6_5_9 : Cond.not (Cond.eq (strT 5) (strT 9)) ∈ nrw := List.mem_of_getElem? (i := 415) (by decide +kernel)
theorem s6_5_10 : Cond.not (Cond.eq (strT 5) (strT 10)) ∈ nrw := List.mem_of_getElem? (i := 432) (by decide +kernel)
theorem s6_5_11 : Cond.not (Cond.eq (strT 5) (strT 11)) ∈ nrw := List.mem_of_getElem? (i := 451) (by decide +kernel)
theorem s6_5_12 : Cond.not (Cond.eq (strT 5) (strT 12)) ∈ nrw := List.mem_of_getElem? (i := 473) (by decide +kernel)
theorem s6_5_13 : Cond.not (Cond.eq (strT 5) (strT 13)) ∈ nrw := List.mem_of_getElem? (i := 496) (by decide +kernel)
theorem s6_5_14 : Cond.not (Cond.eq (strT 5) (strT 14)) ∈ nrw := List.mem_of_getElem? (i := 518) (by decide +kernel)
theorem s6_5_15 : Cond.not (Cond.eq (strT 5) (strT 15)) ∈ nrw := List.mem_of_getElem? (i := 545) (by decide +kernel)
theorem s6_5_16 : Cond.not (Cond.eq (strT 5) (strT 16)) ∈ nrw := List.mem_of_getElem? (i := 567) (by decide +kernel)
theorem s6_5_17 : Cond.not (Cond.eq (strT 5) (strT 17)) ∈ nrw := List.mem_of_getElem? (i := 593) (by decide +kernel)
theorem s6_5_18 : Cond.not (Cond.eq (strT 5) (strT 18)) ∈ nrw := List.mem_of_getElem? (i := 620) (by decide +kernel)
theorem s6_6_7 : Cond.not (Cond.eq (strT 6) (strT 7)) ∈ nrw := List.mem_of_getElem? (i := 378) (by decide +kernel)
theorem s6_6_8 : Cond.not (Cond.eq (strT 6) (strT 8)) ∈ nrw := List.mem_of_getElem? (i := 399) (by decide +kernel)
theorem s6_6_9 : Cond.not (Cond.eq (strT 6) (strT 9)) ∈ nrw := List.mem_of_getElem? (i := 416) (by decide +kernel)
theorem s6_6_10 : Cond.not (Cond.eq (strT 6) (strT 10)) ∈ nrw := List.mem_of_getElem? (i := 433) (by decide +kernel)
theorem s6_6_11 : Cond.not (Cond.eq (strT 6) (strT 11)) ∈ nrw := List.mem_of_getElem? (i := 452) (by decide +kernel)
theorem s6_6_12 : Cond.not (Cond.eq (strT 6) (strT 12)) ∈ nrw := List.mem_of_getElem? (i := 474) (by decide +kernel)
theorem s6_6_13 : Cond.not (Cond.eq (strT 6) (strT 13)) ∈ nrw := List.mem_of_getElem? (i := 497) (by decide +kernel)
theorem s6_6_14 : Cond.not (Cond.eq (strT 6) (strT 14)) ∈ nrw := List.mem_of_getElem? (i := 519) (by decide +kernel)
theorem s6_6_15 : Cond.not (Cond.eq (strT 6) (strT 15)) ∈ nrw := List.mem_of_getElem? (i := 546) (by decide +kernel)
theorem s6_6_16 : Cond.not (Cond.eq (strT 6) (strT 16)) ∈ nrw := List.mem_of_getElem? (i := 568) (by decide +kernel)
theorem s6_6_17 : Cond.not (Cond.eq (strT 6) (strT 17)) ∈ nrw := List.mem_of_getElem? (i := 594) (by decide +kernel)
theorem s6_6_18 : Cond.not (Cond.eq (strT 6) (strT 18)) ∈ nrw := List.mem_of_getElem? (i := 621) (by decide +kernel)
theorem s6_7_8 : Cond.not (Cond.eq (strT 7) (strT 8)) ∈ nrw := List.mem_of_getElem? (i := 400) (by decide +kernel)
theorem s6_7_9 : Cond.not (Cond.eq (strT 7) (strT 9)) ∈ nrw := List.mem_of_getElem? (i := 417) (by decide +kernel)
theorem s6_7_10 : Cond.not (Cond.eq (strT 7) (strT 10)) ∈ nrw := List.mem_of_getElem? (i := 434) (by decide +kernel)
theorem s6_7_11 : Cond.not (Cond.eq (strT 7) (strT 11)) ∈ nrw := List.mem_of_getElem? (i := 453) (by decide +kernel)
theorem s6_7_12 : Cond.not (Cond.eq (strT 7) (strT 12)) ∈ nrw := List.mem_of_getElem? (i := 475) (by decide +kernel)
theorem s6_7_13 : Cond.not (Cond.eq (strT 7) (strT 13)) ∈ nrw := List.mem_of_getElem? (i := 498) (by decide +kernel)
theorem s6_7_14 : Cond.not (Cond.eq (strT 7) (strT 14)) ∈ nrw := List.mem_of_getElem? (i := 520) (by decide +kernel)
theorem s6_7_15 : Cond.not (Cond.eq (strT 7) (strT 15)) ∈ nrw := List.mem_of_getElem? (i := 547) (by decide +kernel)
theorem s6_7_16 : Cond.not (Cond.eq (strT 7) (strT 16)) ∈ nrw := List.mem_of_getElem? (i := 569) (by decide +kernel)
theorem s6_7_17 : Cond.not (Cond.eq (strT 7) (strT 17)) ∈ nrw := List.mem_of_getElem? (i := 595) (by decide +kernel)
theorem s6_7_18 : Cond.not (Cond.eq (strT 7) (strT 18)) ∈ nrw := List.mem_of_getElem? (i := 622) (by decide +kernel)
theorem s6_8_9 : Cond.not (Cond.eq (strT 8) (strT 9)) ∈ nrw := List.mem_of_getElem? (i := 418) (by decide +kernel)
theorem s6_8_10 : Cond.not (Cond.eq (strT 8) (strT 10)) ∈ nrw := List.mem_of_getElem? (i := 435) (by decide +kernel)
theorem s6_8_11 : Cond.not (Cond.eq (strT 8) (strT 11)) ∈ nrw := List.mem_of_getElem? (i := 454) (by decide +kernel)
theorem s6_8_12 : Cond.not (Cond.eq (strT 8) (strT 12)) ∈ nrw := List.mem_of_getElem? (i := 476) (by decide +kernel)
theorem s6_8_13 : Cond.not (Cond.eq (strT 8) (strT 13)) ∈ nrw := List.mem_of_getElem? (i := 499) (by decide +kernel)
theorem s6_8_14 : Cond.not (Cond.eq (strT 8) (strT 14)) ∈ nrw := List.mem_of_getElem? (i := 521) (by decide +kernel)
theorem s6_8_15 : Cond.not (Cond.eq (strT 8) (strT 15)) ∈ nrw := List.mem_of_getElem? (i := 548) (by decide +kernel)
theorem s6_8_16 : Cond.not (Cond.eq (strT 8) (strT 16)) ∈ nrw := List.mem_of_getElem? (i := 570) (by decide +kernel)
theorem s6_8_17 : Cond.not (Cond.eq (strT 8) (strT 17)) ∈ nrw := List.mem_of_getElem? (i := 596) (by decide +kernel)
theorem s6_8_18 : Cond.not (Cond.eq (strT 8) (strT 18)) ∈ nrw := List.mem_of_getElem? (i := 623) (by decide +kernel)
theorem s6_9_10 : Cond.not (Cond.eq (strT 9) (strT 10)) ∈ nrw := List.mem_of_getElem? (i := 436) (by decide +kernel)
theorem s6_9_11 : Cond.not (Cond.eq (strT 9) (strT 11)) ∈ nrw := List.mem_of_getElem? (i := 455) (by decide +kernel)
theorem s6_9_12 : Cond.not (Cond.eq (strT 9) (strT 12)) ∈ nrw := List.mem_of_getElem? (i := 477) (by decide +kernel)
theorem s6_9_13 : Cond.not (Cond.eq (strT 9) (strT 13)) ∈ nrw := List.mem_of_getElem? (i := 500) (by decide +kernel)
theorem s6_9_14 : Cond.not (Cond.eq (strT 9) (strT 14)) ∈ nrw := List.mem_of_getElem? (i := 522) (by decide +kernel)
theorem s6_9_15 : Cond.not (Cond.eq (strT 9) (strT 15)) ∈ nrw := List.mem_of_getElem? (i := 549) (by decide +kernel)
theorem s6_9_16 : Cond.not (Cond.eq (strT 9) (strT 16)) ∈ nrw := List.mem_of_getElem? (i := 571) (by decide +kernel)
theorem s6_9_17 : Cond.not (Cond.eq (strT 9) (strT 17)) ∈ nrw := List.mem_of_getElem? (i := 597) (by decide +kernel)
theorem s6_9_18 : Cond.not (Cond.eq (strT 9) (strT 18)) ∈ nrw := List.mem_of_getElem? (i := 624) (by decide +kernel)
theorem s6_10_11 : Cond.not (Cond.eq (strT 10) (strT 11)) ∈ nrw := List.mem_of_getElem? (i := 456) (by decide +kernel)
theorem s6_10_12 : Cond.not (Cond.eq (strT 10) (strT 12)) ∈ nrw := List.mem_of_getElem? (i := 478) (by decide +kernel)
theorem s6_10_13 : Cond.not (Cond.eq (strT 10) (strT 13)) ∈ nrw := List.mem_of_getElem? (i := 501) (by decide +kernel)
theorem s6_10_14 : Cond.not (Cond.eq (strT 10) (strT 14)) ∈ nrw := List.mem_of_getElem? (i := 523) (by decide +kernel)
theorem s6_10_15 : Cond.not (Cond.eq (strT 10) (strT 15)) ∈ nrw := List.mem_of_getElem? (i := 550) (by decide +kernel)
theorem s6_10_16 : Cond.not (Cond.eq (strT 10) (strT 16)) ∈ nrw := List.mem_of_getElem? (i := 572) (by decide +kernel)
theorem s6_10_17 : Cond.not (Cond.eq (strT 10) (strT 17)) ∈ nrw := List.mem_of_getElem? (i := 598) (by decide +kernel)
theorem s6_10_18 : Cond.not (Cond.eq (strT 10) (strT 18)) ∈ nrw := List.mem_of_getElem? (i := 625) (by decide +kernel)
theorem s6_11_12 : Cond.not (Cond.eq (strT 11) (strT 12)) ∈ nrw := List.mem_of_getElem? (i := 479) (by decide +kernel)
theorem s6_11_13 : Cond.not (Cond.eq (strT 11) (strT 13)) ∈ nrw := List.mem_of_getElem? (i := 502) (by decide +kernel)
theorem s6_11_14 : Cond.not (Cond.eq (strT 11) (strT 14)) ∈ nrw := List.mem_of_getElem? (i := 524) (by decide +kernel)
theorem s6_11_15 : Cond.not (Cond.eq (strT 11) (strT 15)) ∈ nrw := List.mem_of_getElem? (i := 551) (by decide +kernel)
theorem s6_11_16 : Cond.not (Cond.eq (strT 11) (strT 16)) ∈ nrw := List.mem_of_getElem? (i := 573) (by decide +kernel)
theorem s6_11_17 : Cond.not (Cond.eq (strT 11) (strT 17)) ∈ nrw := List.mem_of_getElem? (i := 599) (by decide +kernel)
theorem s6_11_18 : Cond.not (Cond.eq (strT 11) (strT 18)) ∈ nrw := List.mem_of_getElem? (i := 626) (by decide +kernel)
theorem s6_12_13 : Cond.not (Cond.eq (strT 12) (strT 13)) ∈ nrw := List.mem_of_getElem? (i := 503) (by decide +kernel)
theorem s6_12_14 : Cond.not (Cond.eq (strT 12) (strT 14)) ∈ nrw := List.mem_of_getElem? (i := 525) (by decide +kernel)
theorem s6_12_15 : Cond.not (Cond.eq (strT 12) (strT 15)) ∈ nrw := List.mem_of_getElem? (i := 552) (by decide +kernel)
theorem s6_12_16 : Cond.not (Cond.eq (strT 12) (strT 16)) ∈ nrw := List.mem_of_getElem? (i := 574) (by decide +kernel)
theorem s6_12_17 : Cond.not (Cond.eq (strT 12) (strT 17)) ∈ nrw := List.mem_of_getElem? (i := 600) (by decide +kernel)
theorem s6_12_18 : Cond.not (Cond.eq (strT 12) (strT 18)) ∈ nrw := List.mem_of_getElem? (i := 627) (by decide +kernel)
theorem s6_13_14 : Cond.not (Cond.eq (strT 13) (strT 14)) ∈ nrw := List.mem_of_getElem? (i := 526) (by decide +kernel)
theorem s6_13_15 : Cond.not (Cond.eq (strT 13) (strT 15)) ∈ nrw := List.mem_of_getElem? (i := 553) (by decide +kernel)
theorem s6_13_16 : Cond.not (Cond.eq (strT 13) (strT 16)) ∈ nrw := List.mem_of_getElem? (i := 575) (by decide +kernel)
theorem s6_13_17 : Cond.not (Cond.eq (strT 13) (strT 17)) ∈ nrw := List.mem_of_getElem? (i := 601) (by decide +kernel)
theorem s6_13_18 : Cond.not (Cond.eq (strT 13) (strT 18)) ∈ nrw := List.mem_of_getElem? (i := 628) (by decide +kernel)
theorem s6_14_15 : Cond.not (Cond.eq (strT 14) (strT 15)) ∈ nrw := List.mem_of_getElem? (i := 554) (by decide +kernel)
theorem s6_14_16 : Cond.not (Cond.eq (strT 14) (strT 16)) ∈ nrw := List.mem_of_getElem? (i := 576) (by decide +kernel)
theorem s6_14_17 : Cond.not (Cond.eq (strT 14) (strT 17)) ∈ nrw := List.mem_of_getElem? (i := 602) (by decide +kernel)
theorem s6_14_18 : Cond.not (Cond.eq (strT 14) (strT 18)) ∈ nrw := List.mem_of_getElem? (i := 629) (by decide +kernel)
theorem s6_15_16 : Cond.not (Cond.eq (strT 15) (strT 16)) ∈ nrw := List.mem_of_getElem? (i := 577) (by decide +kernel)
theorem s6_15_17 : Cond.not (Cond.eq (strT 15) (strT 17)) ∈ nrw := List.mem_of_getElem? (i := 603) (by decide +kernel)
theorem s6_15_18 : Cond.not (Cond.eq (strT 15) (strT 18)) ∈ nrw := List.mem_of_getElem? (i := 630) (by decide +kernel)
theorem s6_16_17 : Cond.not (Cond.eq (strT 16) (strT 17)) ∈ nrw := List.mem_of_getElem? (i := 604) (by decide +kernel)
theorem s6_16_18 : Cond.not (Cond.eq (strT 16) (strT 18)) ∈ nrw := List.mem_of_getElem? (i := 631) (by decide +kernel)
theorem s6_17_18 : Cond.not (Cond.eq (strT 17) (strT 18)) ∈ nrw := List.mem_of_getElem? (i := 632) (by decide +kernel)
theorem s1_all (i : Nat) (hi : i < 19) : Cond.exactly (strT i) "java/lang/String" ∈ nrw := by
  match i, hi with
  | 0, _ => exact s1_0
  | 1, _ => exact s1_1
  | 2, _ => exact s1_2
  | 3, _ => exact s1_3
  | 4, _ => exact s1_4
  | 5, _ => exact s1_5
  | 6, _ => exact s1_6
  | 7, _ => exact s1_7
  | 8, _ => exact s1_8
  | 9, _ => exact s1_9
  | 10, _ => exact s1_10
  | 11, _ => exact s1_11
  | 12, _ => exact s1_12
  | 13, _ => exact s1_13
  | 14, _ => exact s1_14
  | 15, _ => exact s1_15
  | 16, _ => exact s1_16
  | 17, _ => exact s1_17
  | 18, _ => exact s1_18
  | k + 19, h => exact absurd h (by omega)
theorem s2_all (i : Nat) (hi : i < 19) : Cond.eq (.field (strT i) "java/lang/String" "coder" "B") (.int 0) ∈ nrw := by
  match i, hi with
  | 0, _ => exact s2_0
  | 1, _ => exact s2_1
  | 2, _ => exact s2_2
  | 3, _ => exact s2_3
  | 4, _ => exact s2_4
  | 5, _ => exact s2_5
  | 6, _ => exact s2_6
  | 7, _ => exact s2_7
  | 8, _ => exact s2_8
  | 9, _ => exact s2_9
  | 10, _ => exact s2_10
  | 11, _ => exact s2_11
  | 12, _ => exact s2_12
  | 13, _ => exact s2_13
  | 14, _ => exact s2_14
  | 15, _ => exact s2_15
  | 16, _ => exact s2_16
  | 17, _ => exact s2_17
  | 18, _ => exact s2_18
  | k + 19, h => exact absurd h (by omega)
theorem s3_all (i : Nat) (hi : i < 19) : Cond.arrayOf (.field (strT i) "java/lang/String" "value" "[B") .byte ∈ nrw := by
  match i, hi with
  | 0, _ => exact s3_0
  | 1, _ => exact s3_1
  | 2, _ => exact s3_2
  | 3, _ => exact s3_3
  | 4, _ => exact s3_4
  | 5, _ => exact s3_5
  | 6, _ => exact s3_6
  | 7, _ => exact s3_7
  | 8, _ => exact s3_8
  | 9, _ => exact s3_9
  | 10, _ => exact s3_10
  | 11, _ => exact s3_11
  | 12, _ => exact s3_12
  | 13, _ => exact s3_13
  | 14, _ => exact s3_14
  | 15, _ => exact s3_15
  | 16, _ => exact s3_16
  | 17, _ => exact s3_17
  | 18, _ => exact s3_18
  | k + 19, h => exact absurd h (by omega)
theorem s4_all (i : Nat) (hi : i < 19) : Cond.eq (.length (.field (strT i) "java/lang/String" "value" "[B")) (.int (Int32.ofNat (strN.getD i 0))) ∈ nrw := by
  match i, hi with
  | 0, _ => exact s4_0
  | 1, _ => exact s4_1
  | 2, _ => exact s4_2
  | 3, _ => exact s4_3
  | 4, _ => exact s4_4
  | 5, _ => exact s4_5
  | 6, _ => exact s4_6
  | 7, _ => exact s4_7
  | 8, _ => exact s4_8
  | 9, _ => exact s4_9
  | 10, _ => exact s4_10
  | 11, _ => exact s4_11
  | 12, _ => exact s4_12
  | 13, _ => exact s4_13
  | 14, _ => exact s4_14
  | 15, _ => exact s4_15
  | 16, _ => exact s4_16
  | 17, _ => exact s4_17
  | 18, _ => exact s4_18
  | k + 19, h => exact absurd h (by omega)
theorem s5_all (i : Nat) (hi : i < 19) : ∀ j, j < strN.getD i 0 → Cond.eq (.elem (.field (strT i) "java/lang/String" "value" "[B") (.int (Int32.ofNat j))) (.int ((strB.getD i []).getD j 0)) ∈ nrw := by
  match i, hi with
  | 0, _ => exact s5_0
  | 1, _ => exact s5_1
  | 2, _ => exact s5_2
  | 3, _ => exact s5_3
  | 4, _ => exact s5_4
  | 5, _ => exact s5_5
  | 6, _ => exact s5_6
  | 7, _ => exact s5_7
  | 8, _ => exact s5_8
  | 9, _ => exact s5_9
  | 10, _ => exact s5_10
  | 11, _ => exact s5_11
  | 12, _ => exact s5_12
  | 13, _ => exact s5_13
  | 14, _ => exact s5_14
  | 15, _ => exact s5_15
  | 16, _ => exact s5_16
  | 17, _ => exact s5_17
  | 18, _ => exact s5_18
  | k + 19, h => exact absurd h (by omega)
theorem s6_0 (j : Nat) (hi : 0 < j) (hj : j < 19) : Cond.not (Cond.eq (strT 0) (strT j)) ∈ nrw := by
  match j, hi, hj with
  | 0, h, _ => exact absurd h (by omega)
  | 1, _, _ => exact s6_0_1
  | 2, _, _ => exact s6_0_2
  | 3, _, _ => exact s6_0_3
  | 4, _, _ => exact s6_0_4
  | 5, _, _ => exact s6_0_5
  | 6, _, _ => exact s6_0_6
  | 7, _, _ => exact s6_0_7
  | 8, _, _ => exact s6_0_8
  | 9, _, _ => exact s6_0_9
  | 10, _, _ => exact s6_0_10
  | 11, _, _ => exact s6_0_11
  | 12, _, _ => exact s6_0_12
  | 13, _, _ => exact s6_0_13
  | 14, _, _ => exact s6_0_14
  | 15, _, _ => exact s6_0_15
  | 16, _, _ => exact s6_0_16
  | 17, _, _ => exact s6_0_17
  | 18, _, _ => exact s6_0_18
  | k + 19, _, h => exact absurd h (by omega)
theorem s6_1 (j : Nat) (hi : 1 < j) (hj : j < 19) : Cond.not (Cond.eq (strT 1) (strT j)) ∈ nrw := by
  match j, hi, hj with
  | 0, h, _ => exact absurd h (by omega)
  | 1, h, _ => exact absurd h (by omega)
  | 2, _, _ => exact s6_1_2
  | 3, _, _ => exact s6_1_3
  | 4, _, _ => exact s6_1_4
  | 5, _, _ => exact s6_1_5
  | 6, _, _ => exact s6_1_6
  | 7, _, _ => exact s6_1_7
  | 8, _, _ => exact s6_1_8
  | 9, _, _ => exact s6_1_9
  | 10, _, _ => exact s6_1_10
  | 11, _, _ => exact s6_1_11
  | 12, _, _ => exact s6_1_12
  | 13, _, _ => exact s6_1_13
  | 14, _, _ => exact s6_1_14
  | 15, _, _ => exact s6_1_15
  | 16, _, _ => exact s6_1_16
  | 17, _, _ => exact s6_1_17
  | 18, _, _ => exact s6_1_18
  | k + 19, _, h => exact absurd h (by omega)
theorem s6_2 (j : Nat) (hi : 2 < j) (hj : j < 19) : Cond.not (Cond.eq (strT 2) (strT j)) ∈ nrw := by
  match j, hi, hj with
  | 0, h, _ => exact absurd h (by omega)
  | 1, h, _ => exact absurd h (by omega)
  | 2, h, _ => exact absurd h (by omega)
  | 3, _, _ => exact s6_2_3
  | 4, _, _ => exact s6_2_4
  | 5, _, _ => exact s6_2_5
  | 6, _, _ => exact s6_2_6
  | 7, _, _ => exact s6_2_7
  | 8, _, _ => exact s6_2_8
  | 9, _, _ => exact s6_2_9
  | 10, _, _ => exact s6_2_10
  | 11, _, _ => exact s6_2_11
  | 12, _, _ => exact s6_2_12
  | 13, _, _ => exact s6_2_13
  | 14, _, _ => exact s6_2_14
  | 15, _, _ => exact s6_2_15
  | 16, _, _ => exact s6_2_16
  | 17, _, _ => exact s6_2_17
  | 18, _, _ => exact s6_2_18
  | k + 19, _, h => exact absurd h (by omega)
theorem s6_3 (j : Nat) (hi : 3 < j) (hj : j < 19) : Cond.not (Cond.eq (strT 3) (strT j)) ∈ nrw := by
  match j, hi, hj with
  | 0, h, _ => exact absurd h (by omega)
  | 1, h, _ => exact absurd h (by omega)
  | 2, h, _ => exact absurd h (by omega)
  | 3, h, _ => exact absurd h (by omega)
  | 4, _, _ => exact s6_3_4
  | 5, _, _ => exact s6_3_5
  | 6, _, _ => exact s6_3_6
  | 7, _, _ => exact s6_3_7
  | 8, _, _ => exact s6_3_8
  | 9, _, _ => exact s6_3_9
  | 10, _, _ => exact s6_3_10
  | 11, _, _ => exact s6_3_11
  | 12, _, _ => exact s6_3_12
  | 13, _, _ => exact s6_3_13
  | 14, _, _ => exact s6_3_14
  | 15, _, _ => exact s6_3_15
  | 16, _, _ => exact s6_3_16
  | 17, _, _ => exact s6_3_17
  | 18, _, _ => exact s6_3_18
  | k + 19, _, h => exact absurd h (by omega)
theorem s6_4 (j : Nat) (hi : 4 < j) (hj : j < 19) : Cond.not (Cond.eq (strT 4) (strT j)) ∈ nrw := by
  match j, hi, hj with
  | 0, h, _ => exact absurd h (by omega)
  | 1, h, _ => exact absurd h (by omega)
  | 2, h, _ => exact absurd h (by omega)
  | 3, h, _ => exact absurd h (by omega)
  | 4, h, _ => exact absurd h (by omega)
  | 5, _, _ => exact s6_4_5
  | 6, _, _ => exact s6_4_6
  | 7, _, _ => exact s6_4_7
  | 8, _, _ => exact s6_4_8
  | 9, _, _ => exact s6_4_9
  | 10, _, _ => exact s6_4_10
  | 11, _, _ => exact s6_4_11
  | 12, _, _ => exact s6_4_12
  | 13, _, _ => exact s6_4_13
  | 14, _, _ => exact s6_4_14
  | 15, _, _ => exact s6_4_15
  | 16, _, _ => exact s6_4_16
  | 17, _, _ => exact s6_4_17
  | 18, _, _ => exact s6_4_18
  | k + 19, _, h => exact absurd h (by omega)
theorem s6_5 (j : Nat) (hi : 5 < j) (hj : j < 19) : Cond.not (Cond.eq (strT 5) (strT j)) ∈ nrw := by
  match j, hi, hj with
  | 0, h, _ => exact absurd h (by omega)
  | 1, h, _ => exact absurd h (by omega)
  | 2, h, _ => exact absurd h (by omega)
  | 3, h, _ => exact absurd h (by omega)
  | 4, h, _ => exact absurd h (by omega)
  | 5, h, _ => exact absurd h (by omega)
  | 6, _, _ => exact s6_5_6
  | 7, _, _ => exact s6_5_7
  | 8, _, _ => exact s6_5_8
  | 9, _, _ => exact s6_5_9
  | 10, _, _ => exact s6_5_10
  | 11, _, _ => exact s6_5_11
  | 12, _, _ => exact s6_5_12
  | 13, _, _ => exact s6_5_13
  | 14, _, _ => exact s6_5_14
  | 15, _, _ => exact s6_5_15
  | 16, _, _ => exact s6_5_16
  | 17, _, _ => exact s6_5_17
  | 18, _, _ => exact s6_5_18
  | k + 19, _, h => exact absurd h (by omega)
theorem s6_6 (j : Nat) (hi : 6 < j) (hj : j < 19) : Cond.not (Cond.eq (strT 6) (strT j)) ∈ nrw := by
  match j, hi, hj with
  | 0, h, _ => exact absurd h (by omega)
  | 1, h, _ => exact absurd h (by omega)
  | 2, h, _ => exact absurd h (by omega)
  | 3, h, _ => exact absurd h (by omega)
  | 4, h, _ => exact absurd h (by omega)
  | 5, h, _ => exact absurd h (by omega)
  | 6, h, _ => exact absurd h (by omega)
  | 7, _, _ => exact s6_6_7
  | 8, _, _ => exact s6_6_8
  | 9, _, _ => exact s6_6_9
  | 10, _, _ => exact s6_6_10
  | 11, _, _ => exact s6_6_11
  | 12, _, _ => exact s6_6_12
  | 13, _, _ => exact s6_6_13
  | 14, _, _ => exact s6_6_14
  | 15, _, _ => exact s6_6_15
  | 16, _, _ => exact s6_6_16
  | 17, _, _ => exact s6_6_17
  | 18, _, _ => exact s6_6_18
  | k + 19, _, h => exact absurd h (by omega)
theorem s6_7 (j : Nat) (hi : 7 < j) (hj : j < 19) : Cond.not (Cond.eq (strT 7) (strT j)) ∈ nrw := by
  match j, hi, hj with
  | 0, h, _ => exact absurd h (by omega)
  | 1, h, _ => exact absurd h (by omega)
  | 2, h, _ => exact absurd h (by omega)
  | 3, h, _ => exact absurd h (by omega)
  | 4, h, _ => exact absurd h (by omega)
  | 5, h, _ => exact absurd h (by omega)
  | 6, h, _ => exact absurd h (by omega)
  | 7, h, _ => exact absurd h (by omega)
  | 8, _, _ => exact s6_7_8
  | 9, _, _ => exact s6_7_9
  | 10, _, _ => exact s6_7_10
  | 11, _, _ => exact s6_7_11
  | 12, _, _ => exact s6_7_12
  | 13, _, _ => exact s6_7_13
  | 14, _, _ => exact s6_7_14
  | 15, _, _ => exact s6_7_15
  | 16, _, _ => exact s6_7_16
  | 17, _, _ => exact s6_7_17
  | 18, _, _ => exact s6_7_18
  | k + 19, _, h => exact absurd h (by omega)
theorem s6_8 (j : Nat) (hi : 8 < j) (hj : j < 19) : Cond.not (Cond.eq (strT 8) (strT j)) ∈ nrw := by
  match j, hi, hj with
  | 0, h, _ => exact absurd h (by omega)
  | 1, h, _ => exact absurd h (by omega)
  | 2, h, _ => exact absurd h (by omega)
  | 3, h, _ => exact absurd h (by omega)
  | 4, h, _ => exact absurd h (by omega)
  | 5, h, _ => exact absurd h (by omega)
  | 6, h, _ => exact absurd h (by omega)
  | 7, h, _ => exact absurd h (by omega)
  | 8, h, _ => exact absurd h (by omega)
  | 9, _, _ => exact s6_8_9
  | 10, _, _ => exact s6_8_10
  | 11, _, _ => exact s6_8_11
  | 12, _, _ => exact s6_8_12
  | 13, _, _ => exact s6_8_13
  | 14, _, _ => exact s6_8_14
  | 15, _, _ => exact s6_8_15
  | 16, _, _ => exact s6_8_16
  | 17, _, _ => exact s6_8_17
  | 18, _, _ => exact s6_8_18
  | k + 19, _, h => exact absurd h (by omega)
theorem s6_9 (j : Nat) (hi : 9 < j) (hj : j < 19) : Cond.not (Cond.eq (strT 9) (strT j)) ∈ nrw := by
  match j, hi, hj with
  | 0, h, _ => exact absurd h (by omega)
  | 1, h, _ => exact absurd h (by omega)
  | 2, h, _ => exact absurd h (by omega)
  | 3, h, _ => exact absurd h (by omega)
  | 4, h, _ => exact absurd h (by omega)
  | 5, h, _ => exact absurd h (by omega)
  | 6, h, _ => exact absurd h (by omega)
  | 7, h, _ => exact absurd h (by omega)
  | 8, h, _ => exact absurd h (by omega)
  | 9, h, _ => exact absurd h (by omega)
  | 10, _, _ => exact s6_9_10
  | 11, _, _ => exact s6_9_11
  | 12, _, _ => exact s6_9_12
  | 13, _, _ => exact s6_9_13
  | 14, _, _ => exact s6_9_14
  | 15, _, _ => exact s6_9_15
  | 16, _, _ => exact s6_9_16
  | 17, _, _ => exact s6_9_17
  | 18, _, _ => exact s6_9_18
  | k + 19, _, h => exact absurd h (by omega)
theorem s6_10 (j : Nat) (hi : 10 < j) (hj : j < 19) : Cond.not (Cond.eq (strT 10) (strT j)) ∈ nrw := by
  match j, hi, hj with
  | 0, h, _ => exact absurd h (by omega)
  | 1, h, _ => exact absurd h (by omega)
  | 2, h, _ => exact absurd h (by omega)
  | 3, h, _ => exact absurd h (by omega)
  | 4, h, _ => exact absurd h (by omega)
  | 5, h, _ => exact absurd h (by omega)
  | 6, h, _ => exact absurd h (by omega)
  | 7, h, _ => exact absurd h (by omega)
  | 8, h, _ => exact absurd h (by omega)
  | 9, h, _ => exact absurd h (by omega)
  | 10, h, _ => exact absurd h (by omega)
  | 11, _, _ => exact s6_10_11
  | 12, _, _ => exact s6_10_12
  | 13, _, _ => exact s6_10_13
  | 14, _, _ => exact s6_10_14
  | 15, _, _ => exact s6_10_15
  | 16, _, _ => exact s6_10_16
  | 17, _, _ => exact s6_10_17
  | 18, _, _ => exact s6_10_18
  | k + 19, _, h => exact absurd h (by omega)
theorem s6_11 (j : Nat) (hi : 11 < j) (hj : j < 19) : Cond.not (Cond.eq (strT 11) (strT j)) ∈ nrw := by
  match j, hi, hj with
  | 0, h, _ => exact absurd h (by omega)
  | 1, h, _ => exact absurd h (by omega)
  | 2, h, _ => exact absurd h (by omega)
  | 3, h, _ => exact absurd h (by omega)
  | 4, h, _ => exact absurd h (by omega)
  | 5, h, _ => exact absurd h (by omega)
  | 6, h, _ => exact absurd h (by omega)
  | 7, h, _ => exact absurd h (by omega)
  | 8, h, _ => exact absurd h (by omega)
  | 9, h, _ => exact absurd h (by omega)
  | 10, h, _ => exact absurd h (by omega)
  | 11, h, _ => exact absurd h (by omega)
  | 12, _, _ => exact s6_11_12
  | 13, _, _ => exact s6_11_13
  | 14, _, _ => exact s6_11_14
  | 15, _, _ => exact s6_11_15
  | 16, _, _ => exact s6_11_16
  | 17, _, _ => exact s6_11_17
  | 18, _, _ => exact s6_11_18
  | k + 19, _, h => exact absurd h (by omega)
theorem s6_12 (j : Nat) (hi : 12 < j) (hj : j < 19) : Cond.not (Cond.eq (strT 12) (strT j)) ∈ nrw := by
  match j, hi, hj with
  | 0, h, _ => exact absurd h (by omega)
  | 1, h, _ => exact absurd h (by omega)
  | 2, h, _ => exact absurd h (by omega)
  | 3, h, _ => exact absurd h (by omega)
  | 4, h, _ => exact absurd h (by omega)
  | 5, h, _ => exact absurd h (by omega)
  | 6, h, _ => exact absurd h (by omega)
  | 7, h, _ => exact absurd h (by omega)
  | 8, h, _ => exact absurd h (by omega)
  | 9, h, _ => exact absurd h (by omega)
  | 10, h, _ => exact absurd h (by omega)
  | 11, h, _ => exact absurd h (by omega)
  | 12, h, _ => exact absurd h (by omega)
  | 13, _, _ => exact s6_12_13
  | 14, _, _ => exact s6_12_14
  | 15, _, _ => exact s6_12_15
  | 16, _, _ => exact s6_12_16
  | 17, _, _ => exact s6_12_17
  | 18, _, _ => exact s6_12_18
  | k + 19, _, h => exact absurd h (by omega)
theorem s6_13 (j : Nat) (hi : 13 < j) (hj : j < 19) : Cond.not (Cond.eq (strT 13) (strT j)) ∈ nrw := by
  match j, hi, hj with
  | 0, h, _ => exact absurd h (by omega)
  | 1, h, _ => exact absurd h (by omega)
  | 2, h, _ => exact absurd h (by omega)
  | 3, h, _ => exact absurd h (by omega)
  | 4, h, _ => exact absurd h (by omega)
  | 5, h, _ => exact absurd h (by omega)
  | 6, h, _ => exact absurd h (by omega)
  | 7, h, _ => exact absurd h (by omega)
  | 8, h, _ => exact absurd h (by omega)
  | 9, h, _ => exact absurd h (by omega)
  | 10, h, _ => exact absurd h (by omega)
  | 11, h, _ => exact absurd h (by omega)
  | 12, h, _ => exact absurd h (by omega)
  | 13, h, _ => exact absurd h (by omega)
  | 14, _, _ => exact s6_13_14
  | 15, _, _ => exact s6_13_15
  | 16, _, _ => exact s6_13_16
  | 17, _, _ => exact s6_13_17
  | 18, _, _ => exact s6_13_18
  | k + 19, _, h => exact absurd h (by omega)
theorem s6_14 (j : Nat) (hi : 14 < j) (hj : j < 19) : Cond.not (Cond.eq (strT 14) (strT j)) ∈ nrw := by
  match j, hi, hj with
  | 0, h, _ => exact absurd h (by omega)
  | 1, h, _ => exact absurd h (by omega)
  | 2, h, _ => exact absurd h (by omega)
  | 3, h, _ => exact absurd h (by omega)
  | 4, h, _ => exact absurd h (by omega)
  | 5, h, _ => exact absurd h (by omega)
  | 6, h, _ => exact absurd h (by omega)
  | 7, h, _ => exact absurd h (by omega)
  | 8, h, _ => exact absurd h (by omega)
  | 9, h, _ => exact absurd h (by omega)
  | 10, h, _ => exact absurd h (by omega)
  | 11, h, _ => exact absurd h (by omega)
  | 12, h, _ => exact absurd h (by omega)
  | 13, h, _ => exact absurd h (by omega)
  | 14, h, _ => exact absurd h (by omega)
  | 15, _, _ => exact s6_14_15
  | 16, _, _ => exact s6_14_16
  | 17, _, _ => exact s6_14_17
  | 18, _, _ => exact s6_14_18
  | k + 19, _, h => exact absurd h (by omega)
theorem s6_15 (j : Nat) (hi : 15 < j) (hj : j < 19) : Cond.not (Cond.eq (strT 15) (strT j)) ∈ nrw := by
  match j, hi, hj with
  | 0, h, _ => exact absurd h (by omega)
  | 1, h, _ => exact absurd h (by omega)
  | 2, h, _ => exact absurd h (by omega)
  | 3, h, _ => exact absurd h (by omega)
  | 4, h, _ => exact absurd h (by omega)
  | 5, h, _ => exact absurd h (by omega)
  | 6, h, _ => exact absurd h (by omega)
  | 7, h, _ => exact absurd h (by omega)
  | 8, h, _ => exact absurd h (by omega)
  | 9, h, _ => exact absurd h (by omega)
  | 10, h, _ => exact absurd h (by omega)
  | 11, h, _ => exact absurd h (by omega)
  | 12, h, _ => exact absurd h (by omega)
  | 13, h, _ => exact absurd h (by omega)
  | 14, h, _ => exact absurd h (by omega)
  | 15, h, _ => exact absurd h (by omega)
  | 16, _, _ => exact s6_15_16
  | 17, _, _ => exact s6_15_17
  | 18, _, _ => exact s6_15_18
  | k + 19, _, h => exact absurd h (by omega)
theorem s6_16 (j : Nat) (hi : 16 < j) (hj : j < 19) : Cond.not (Cond.eq (strT 16) (strT j)) ∈ nrw := by
  match j, hi, hj with
  | 0, h, _ => exact absurd h (by omega)
  | 1, h, _ => exact absurd h (by omega)
  | 2, h, _ => exact absurd h (by omega)
  | 3, h, _ => exact absurd h (by omega)
  | 4, h, _ => exact absurd h (by omega)
  | 5, h, _ => exact absurd h (by omega)
  | 6, h, _ => exact absurd h (by omega)
  | 7, h, _ => exact absurd h (by omega)
  | 8, h, _ => exact absurd h (by omega)
  | 9, h, _ => exact absurd h (by omega)
  | 10, h, _ => exact absurd h (by omega)
  | 11, h, _ => exact absurd h (by omega)
  | 12, h, _ => exact absurd h (by omega)
  | 13, h, _ => exact absurd h (by omega)
  | 14, h, _ => exact absurd h (by omega)
  | 15, h, _ => exact absurd h (by omega)
  | 16, h, _ => exact absurd h (by omega)
  | 17, _, _ => exact s6_16_17
  | 18, _, _ => exact s6_16_18
  | k + 19, _, h => exact absurd h (by omega)
theorem s6_17 (j : Nat) (hi : 17 < j) (hj : j < 19) : Cond.not (Cond.eq (strT 17) (strT j)) ∈ nrw := by
  match j, hi, hj with
  | 0, h, _ => exact absurd h (by omega)
  | 1, h, _ => exact absurd h (by omega)
  | 2, h, _ => exact absurd h (by omega)
  | 3, h, _ => exact absurd h (by omega)
  | 4, h, _ => exact absurd h (by omega)
  | 5, h, _ => exact absurd h (by omega)
  | 6, h, _ => exact absurd h (by omega)
  | 7, h, _ => exact absurd h (by omega)
  | 8, h, _ => exact absurd h (by omega)
  | 9, h, _ => exact absurd h (by omega)
  | 10, h, _ => exact absurd h (by omega)
  | 11, h, _ => exact absurd h (by omega)
  | 12, h, _ => exact absurd h (by omega)
  | 13, h, _ => exact absurd h (by omega)
  | 14, h, _ => exact absurd h (by omega)
  | 15, h, _ => exact absurd h (by omega)
  | 16, h, _ => exact absurd h (by omega)
  | 17, h, _ => exact absurd h (by omega)
  | 18, _, _ => exact s6_17_18
  | k + 19, _, h => exact absurd h (by omega)
theorem s6_lt (i j : Nat) (hi : i < j) (hj : j < 19) : Cond.not (Cond.eq (strT i) (strT j)) ∈ nrw := by
  match i, hi with
  | 0, h => exact s6_0 j h hj
  | 1, h => exact s6_1 j h hj
  | 2, h => exact s6_2 j h hj
  | 3, h => exact s6_3 j h hj
  | 4, h => exact s6_4 j h hj
  | 5, h => exact s6_5 j h hj
  | 6, h => exact s6_6 j h hj
  | 7, h => exact s6_7 j h hj
  | 8, h => exact s6_8 j h hj
  | 9, h => exact s6_9 j h hj
  | 10, h => exact s6_10 j h hj
  | 11, h => exact s6_11 j h hj
  | 12, h => exact s6_12 j h hj
  | 13, h => exact s6_13 j h hj
  | 14, h => exact s6_14 j h hj
  | 15, h => exact s6_15 j h hj
  | 16, h => exact s6_16 j h hj
  | 17, h => exact s6_17 j h hj
  | i + 18, h => exact absurd h (by omega)
theorem tb_gp : ∀ j, j < 10 → Cond.eq (.elem (.static "ThrowScenario$Classes" "GIVEN_PARENTS" "[I") (.int (Int32.ofNat j))) (.int (gpF j)) ∈ nrw := va_run (p := 7) (by decide +kernel)
theorem tb_dt : ∀ j, j < 100 → Cond.eq (.elem (.static "java/lang/Integer" "DigitTens" "[B") (.int (Int32.ofNat j))) (.int (dtF j)) ∈ nrw := va_run (p := 161) (by decide +kernel)
theorem tb_do : ∀ j, j < 100 → Cond.eq (.elem (.static "java/lang/Integer" "DigitOnes" "[B") (.int (Int32.ofNat j))) (.int (doF j)) ∈ nrw := va_run (p := 58) (by decide +kernel)
theorem ta_gp : Cond.arrayOf (.static "ThrowScenario$Classes" "GIVEN_PARENTS" "[I") .int ∈ nrw := List.mem_of_getElem? (i := 5) (by decide +kernel)
theorem tl_gp : Cond.eq (.length (.static "ThrowScenario$Classes" "GIVEN_PARENTS" "[I")) (.int 10) ∈ nrw := List.mem_of_getElem? (i := 6) (by decide +kernel)
theorem ta_dt : Cond.arrayOf (.static "java/lang/Integer" "DigitTens" "[B") .byte ∈ nrw := List.mem_of_getElem? (i := 159) (by decide +kernel)
theorem tl_dt : Cond.eq (.length (.static "java/lang/Integer" "DigitTens" "[B")) (.int 100) ∈ nrw := List.mem_of_getElem? (i := 160) (by decide +kernel)
theorem ta_do : Cond.arrayOf (.static "java/lang/Integer" "DigitOnes" "[B") .byte ∈ nrw := List.mem_of_getElem? (i := 56) (by decide +kernel)
theorem tl_do : Cond.eq (.length (.static "java/lang/Integer" "DigitOnes" "[B")) (.int 100) ∈ nrw := List.mem_of_getElem? (i := 57) (by decide +kernel)
theorem t_cs : Cond.eq (.static "java/lang/String" "COMPACT_STRINGS" "Z") (.int 1) ∈ nrw := List.mem_of_getElem? (i := 17) (by decide +kernel)
theorem t_fm : Cond.isRef (.static "jdk/internal/util/Preconditions" "SIOOBE_FORMATTER" "Ljava/util/function/BiFunction;") ∈ nrw := List.mem_of_getElem? (i := 51) (by decide +kernel)
theorem w2_0 : Cond.exactly (.static "ThrowScenario$Way" "NORMALLY" "LThrowScenario$Way;") "ThrowScenario$Way" ∈ nrw := List.mem_of_getElem? (i := 21) (by decide +kernel)
theorem w3_0 : Cond.eq (.field (.static "ThrowScenario$Way" "NORMALLY" "LThrowScenario$Way;") "ThrowScenario$Way" "endsRun" "Z") (.int 0) ∈ nrw := List.mem_of_getElem? (i := 23) (by decide +kernel)
theorem w4_0_1 : Cond.not (.eq (.static "ThrowScenario$Way" "NORMALLY" "LThrowScenario$Way;") (.static "ThrowScenario$Way" "BREAK" "LThrowScenario$Way;")) ∈ nrw ∨ Cond.not (.eq (.static "ThrowScenario$Way" "BREAK" "LThrowScenario$Way;") (.static "ThrowScenario$Way" "NORMALLY" "LThrowScenario$Way;")) ∈ nrw := Or.inl (List.mem_of_getElem? (i := 29) (by decide +kernel))
theorem w4_0_2 : Cond.not (.eq (.static "ThrowScenario$Way" "NORMALLY" "LThrowScenario$Way;") (.static "ThrowScenario$Way" "RETURN" "LThrowScenario$Way;")) ∈ nrw ∨ Cond.not (.eq (.static "ThrowScenario$Way" "RETURN" "LThrowScenario$Way;") (.static "ThrowScenario$Way" "NORMALLY" "LThrowScenario$Way;")) ∈ nrw := Or.inl (List.mem_of_getElem? (i := 40) (by decide +kernel))
theorem w4_0_3 : Cond.not (.eq (.static "ThrowScenario$Way" "NORMALLY" "LThrowScenario$Way;") (.static "ThrowScenario$Way" "THROWING" "LThrowScenario$Way;")) ∈ nrw ∨ Cond.not (.eq (.static "ThrowScenario$Way" "THROWING" "LThrowScenario$Way;") (.static "ThrowScenario$Way" "NORMALLY" "LThrowScenario$Way;")) ∈ nrw := Or.inl (List.mem_of_getElem? (i := 34) (by decide +kernel))
theorem w4_0_4 : Cond.not (.eq (.static "ThrowScenario$Way" "NORMALLY" "LThrowScenario$Way;") (.static "ThrowScenario$Way" "EXIT" "LThrowScenario$Way;")) ∈ nrw ∨ Cond.not (.eq (.static "ThrowScenario$Way" "EXIT" "LThrowScenario$Way;") (.static "ThrowScenario$Way" "NORMALLY" "LThrowScenario$Way;")) ∈ nrw := Or.inl (List.mem_of_getElem? (i := 47) (by decide +kernel))
theorem w4_0_5 : Cond.not (.eq (.static "ThrowScenario$Way" "NORMALLY" "LThrowScenario$Way;") (.static "ThrowScenario$Way" "TIRING" "LThrowScenario$Way;")) ∈ nrw ∨ Cond.not (.eq (.static "ThrowScenario$Way" "TIRING" "LThrowScenario$Way;") (.static "ThrowScenario$Way" "NORMALLY" "LThrowScenario$Way;")) ∈ nrw := Or.inr (List.mem_of_getElem? (i := 24) (by decide +kernel))
theorem w2_1 : Cond.exactly (.static "ThrowScenario$Way" "BREAK" "LThrowScenario$Way;") "ThrowScenario$Way" ∈ nrw := List.mem_of_getElem? (i := 25) (by decide +kernel)
theorem w3_1 : Cond.eq (.field (.static "ThrowScenario$Way" "BREAK" "LThrowScenario$Way;") "ThrowScenario$Way" "endsRun" "Z") (.int 0) ∈ nrw := List.mem_of_getElem? (i := 27) (by decide +kernel)
theorem w4_1_2 : Cond.not (.eq (.static "ThrowScenario$Way" "BREAK" "LThrowScenario$Way;") (.static "ThrowScenario$Way" "RETURN" "LThrowScenario$Way;")) ∈ nrw ∨ Cond.not (.eq (.static "ThrowScenario$Way" "RETURN" "LThrowScenario$Way;") (.static "ThrowScenario$Way" "BREAK" "LThrowScenario$Way;")) ∈ nrw := Or.inl (List.mem_of_getElem? (i := 41) (by decide +kernel))
theorem w4_1_3 : Cond.not (.eq (.static "ThrowScenario$Way" "BREAK" "LThrowScenario$Way;") (.static "ThrowScenario$Way" "THROWING" "LThrowScenario$Way;")) ∈ nrw ∨ Cond.not (.eq (.static "ThrowScenario$Way" "THROWING" "LThrowScenario$Way;") (.static "ThrowScenario$Way" "BREAK" "LThrowScenario$Way;")) ∈ nrw := Or.inl (List.mem_of_getElem? (i := 35) (by decide +kernel))
theorem w4_1_4 : Cond.not (.eq (.static "ThrowScenario$Way" "BREAK" "LThrowScenario$Way;") (.static "ThrowScenario$Way" "EXIT" "LThrowScenario$Way;")) ∈ nrw ∨ Cond.not (.eq (.static "ThrowScenario$Way" "EXIT" "LThrowScenario$Way;") (.static "ThrowScenario$Way" "BREAK" "LThrowScenario$Way;")) ∈ nrw := Or.inl (List.mem_of_getElem? (i := 48) (by decide +kernel))
theorem w4_1_5 : Cond.not (.eq (.static "ThrowScenario$Way" "BREAK" "LThrowScenario$Way;") (.static "ThrowScenario$Way" "TIRING" "LThrowScenario$Way;")) ∈ nrw ∨ Cond.not (.eq (.static "ThrowScenario$Way" "TIRING" "LThrowScenario$Way;") (.static "ThrowScenario$Way" "BREAK" "LThrowScenario$Way;")) ∈ nrw := Or.inr (List.mem_of_getElem? (i := 28) (by decide +kernel))
theorem w2_2 : Cond.exactly (.static "ThrowScenario$Way" "RETURN" "LThrowScenario$Way;") "ThrowScenario$Way" ∈ nrw := List.mem_of_getElem? (i := 36) (by decide +kernel)
theorem w3_2 : Cond.eq (.field (.static "ThrowScenario$Way" "RETURN" "LThrowScenario$Way;") "ThrowScenario$Way" "endsRun" "Z") (.int 0) ∈ nrw := List.mem_of_getElem? (i := 38) (by decide +kernel)
theorem w4_2_3 : Cond.not (.eq (.static "ThrowScenario$Way" "RETURN" "LThrowScenario$Way;") (.static "ThrowScenario$Way" "THROWING" "LThrowScenario$Way;")) ∈ nrw ∨ Cond.not (.eq (.static "ThrowScenario$Way" "THROWING" "LThrowScenario$Way;") (.static "ThrowScenario$Way" "RETURN" "LThrowScenario$Way;")) ∈ nrw := Or.inr (List.mem_of_getElem? (i := 42) (by decide +kernel))
theorem w4_2_4 : Cond.not (.eq (.static "ThrowScenario$Way" "RETURN" "LThrowScenario$Way;") (.static "ThrowScenario$Way" "EXIT" "LThrowScenario$Way;")) ∈ nrw ∨ Cond.not (.eq (.static "ThrowScenario$Way" "EXIT" "LThrowScenario$Way;") (.static "ThrowScenario$Way" "RETURN" "LThrowScenario$Way;")) ∈ nrw := Or.inl (List.mem_of_getElem? (i := 50) (by decide +kernel))
theorem w4_2_5 : Cond.not (.eq (.static "ThrowScenario$Way" "RETURN" "LThrowScenario$Way;") (.static "ThrowScenario$Way" "TIRING" "LThrowScenario$Way;")) ∈ nrw ∨ Cond.not (.eq (.static "ThrowScenario$Way" "TIRING" "LThrowScenario$Way;") (.static "ThrowScenario$Way" "RETURN" "LThrowScenario$Way;")) ∈ nrw := Or.inr (List.mem_of_getElem? (i := 39) (by decide +kernel))
theorem w2_3 : Cond.exactly (.static "ThrowScenario$Way" "THROWING" "LThrowScenario$Way;") "ThrowScenario$Way" ∈ nrw := List.mem_of_getElem? (i := 30) (by decide +kernel)
theorem w3_3 : Cond.eq (.field (.static "ThrowScenario$Way" "THROWING" "LThrowScenario$Way;") "ThrowScenario$Way" "endsRun" "Z") (.int 0) ∈ nrw := List.mem_of_getElem? (i := 32) (by decide +kernel)
theorem w4_3_4 : Cond.not (.eq (.static "ThrowScenario$Way" "THROWING" "LThrowScenario$Way;") (.static "ThrowScenario$Way" "EXIT" "LThrowScenario$Way;")) ∈ nrw ∨ Cond.not (.eq (.static "ThrowScenario$Way" "EXIT" "LThrowScenario$Way;") (.static "ThrowScenario$Way" "THROWING" "LThrowScenario$Way;")) ∈ nrw := Or.inl (List.mem_of_getElem? (i := 49) (by decide +kernel))
theorem w4_3_5 : Cond.not (.eq (.static "ThrowScenario$Way" "THROWING" "LThrowScenario$Way;") (.static "ThrowScenario$Way" "TIRING" "LThrowScenario$Way;")) ∈ nrw ∨ Cond.not (.eq (.static "ThrowScenario$Way" "TIRING" "LThrowScenario$Way;") (.static "ThrowScenario$Way" "THROWING" "LThrowScenario$Way;")) ∈ nrw := Or.inr (List.mem_of_getElem? (i := 33) (by decide +kernel))
theorem w2_4 : Cond.exactly (.static "ThrowScenario$Way" "EXIT" "LThrowScenario$Way;") "ThrowScenario$Way" ∈ nrw := List.mem_of_getElem? (i := 43) (by decide +kernel)
theorem w3_4 : Cond.eq (.field (.static "ThrowScenario$Way" "EXIT" "LThrowScenario$Way;") "ThrowScenario$Way" "endsRun" "Z") (.int 1) ∈ nrw := List.mem_of_getElem? (i := 45) (by decide +kernel)
theorem w4_4_5 : Cond.not (.eq (.static "ThrowScenario$Way" "EXIT" "LThrowScenario$Way;") (.static "ThrowScenario$Way" "TIRING" "LThrowScenario$Way;")) ∈ nrw ∨ Cond.not (.eq (.static "ThrowScenario$Way" "TIRING" "LThrowScenario$Way;") (.static "ThrowScenario$Way" "EXIT" "LThrowScenario$Way;")) ∈ nrw := Or.inr (List.mem_of_getElem? (i := 46) (by decide +kernel))
theorem w2_5 : Cond.exactly (.static "ThrowScenario$Way" "TIRING" "LThrowScenario$Way;") "ThrowScenario$Way" ∈ nrw := List.mem_of_getElem? (i := 18) (by decide +kernel)
theorem w3_5 : Cond.eq (.field (.static "ThrowScenario$Way" "TIRING" "LThrowScenario$Way;") "ThrowScenario$Way" "endsRun" "Z") (.int 1) ∈ nrw := List.mem_of_getElem? (i := 20) (by decide +kernel)
theorem gs_way {s : State} {args : Array Value} {A : Nat → Prop} (hts : ∀ w ∈ lw_tbl, w.before args s = true) (hs : ∀ w ∈ nrw, w.before args s = true) (hA : ∀ a : Nat, a < s.heap.size → ¬ A a) : ∃ ad : Nat → Nat, va_En "ThrowScenario$Way" "LThrowScenario$Way;" wayN wayF ad A s s.heap := by
  refine va_Enof (fun i hi => ?_) (hts _ (List.mem_of_getElem? (i := 66) (by decide +kernel))) (fun i hi => ?_) (fun q hq i hi => ?_) (fun i j hi hj hn => ?_) hA
  · match i, hi with
    | 0, _ => exact hts _ (List.mem_of_getElem? (i := 412) (by decide +kernel))
    | 1, _ => exact hts _ (List.mem_of_getElem? (i := 422) (by decide +kernel))
    | 2, _ => exact hts _ (List.mem_of_getElem? (i := 439) (by decide +kernel))
    | 3, _ => exact hts _ (List.mem_of_getElem? (i := 437) (by decide +kernel))
    | 4, _ => exact hts _ (List.mem_of_getElem? (i := 462) (by decide +kernel))
    | 5, _ => exact hts _ (List.mem_of_getElem? (i := 401) (by decide +kernel))
    | k + 6, h => exact absurd h (by simp)
  · match i, hi with
    | 0, _ => exact hs _ w2_0
    | 1, _ => exact hs _ w2_1
    | 2, _ => exact hs _ w2_2
    | 3, _ => exact hs _ w2_3
    | 4, _ => exact hs _ w2_4
    | 5, _ => exact hs _ w2_5
    | k + 6, h => exact absurd h (by simp)
  · obtain rfl := List.mem_singleton.mp hq
    match i, hi with
    | 0, _ => exact hs _ w3_0
    | 1, _ => exact hs _ w3_1
    | 2, _ => exact hs _ w3_2
    | 3, _ => exact hs _ w3_3
    | 4, _ => exact hs _ w3_4
    | 5, _ => exact hs _ w3_5
    | k + 6, h => exact absurd h (by simp)
  · have hi6 : i < 6 := hi
    have hj6 : j < 6 := hj
    have key : ∀ a b : Nat, a < b → b < 6 → (Cond.not (.eq (.static "ThrowScenario$Way" (wayN.getD a "") "LThrowScenario$Way;") (.static "ThrowScenario$Way" (wayN.getD b "") "LThrowScenario$Way;")) : Cond).before args s = true ∨ (Cond.not (.eq (.static "ThrowScenario$Way" (wayN.getD b "") "LThrowScenario$Way;") (.static "ThrowScenario$Way" (wayN.getD a "") "LThrowScenario$Way;")) : Cond).before args s = true := by
      intro a b hab hb
      match a, b, hab, hb with
      | 0, 0, h, _ => exact absurd h (by omega)
      | 0, 1, _, _ => exact w4_0_1.imp (hs _) (hs _)
      | 0, 2, _, _ => exact w4_0_2.imp (hs _) (hs _)
      | 0, 3, _, _ => exact w4_0_3.imp (hs _) (hs _)
      | 0, 4, _, _ => exact w4_0_4.imp (hs _) (hs _)
      | 0, 5, _, _ => exact w4_0_5.imp (hs _) (hs _)
      | 1, 0, h, _ => exact absurd h (by omega)
      | 1, 1, h, _ => exact absurd h (by omega)
      | 1, 2, _, _ => exact w4_1_2.imp (hs _) (hs _)
      | 1, 3, _, _ => exact w4_1_3.imp (hs _) (hs _)
      | 1, 4, _, _ => exact w4_1_4.imp (hs _) (hs _)
      | 1, 5, _, _ => exact w4_1_5.imp (hs _) (hs _)
      | 2, 0, h, _ => exact absurd h (by omega)
      | 2, 1, h, _ => exact absurd h (by omega)
      | 2, 2, h, _ => exact absurd h (by omega)
      | 2, 3, _, _ => exact w4_2_3.imp (hs _) (hs _)
      | 2, 4, _, _ => exact w4_2_4.imp (hs _) (hs _)
      | 2, 5, _, _ => exact w4_2_5.imp (hs _) (hs _)
      | 3, 0, h, _ => exact absurd h (by omega)
      | 3, 1, h, _ => exact absurd h (by omega)
      | 3, 2, h, _ => exact absurd h (by omega)
      | 3, 3, h, _ => exact absurd h (by omega)
      | 3, 4, _, _ => exact w4_3_4.imp (hs _) (hs _)
      | 3, 5, _, _ => exact w4_3_5.imp (hs _) (hs _)
      | 4, 0, h, _ => exact absurd h (by omega)
      | 4, 1, h, _ => exact absurd h (by omega)
      | 4, 2, h, _ => exact absurd h (by omega)
      | 4, 3, h, _ => exact absurd h (by omega)
      | 4, 4, h, _ => exact absurd h (by omega)
      | 4, 5, _, _ => exact w4_4_5.imp (hs _) (hs _)
      | a + 5, b, hab, hb => exact absurd hb (by omega)
      | a, b + 6, hab, hb => exact absurd hb (by omega)
    rcases Nat.lt_or_ge i j with h | h
    · exact key i j h hj6
    · exact (key j i (by omega) hi6).symm
theorem gs_str {s : State} {args : Array Value} {A : Nat → Prop} (hs : ∀ w ∈ nrw, w.before args s = true) (hA : ∀ a : Nat, a < s.heap.size → ¬ A a) : ∃ adK adV : Nat → Nat, vk_S 19 strN strB adK adV A s s.heap ∧ ∀ i : Nat, i < 19 → (strT i).eval args s none [] s = some (.ref (adK i)) := by
  refine vk_Sof (fun i hi => Nat.lt_of_le_of_lt (str_len i hi) (by decide)) (fun i hi => hs _ (s1_all i hi)) (fun i hi => hs _ (s2_all i hi)) (fun i hi => hs _ (s3_all i hi)) (fun i hi => hs _ (s4_all i hi)) (fun i hi j hj => hs _ (s5_all i hi j hj)) (fun i j hi hj hn => ?_) hA
  rcases Nat.lt_or_ge i j with h | h
  · exact Or.inl (hs _ (s6_lt i j h hj))
  · exact Or.inr (hs _ (s6_lt j i (by omega) hi))
theorem gs_tab {s : State} {args : Array Value} {A : Nat → Prop} (hs : ∀ w ∈ nrw, w.before args s = true) (hA : ∀ a : Nat, a < s.heap.size → ¬ A a) : (∃ t, (Term.static "ThrowScenario$Classes" "GIVEN_PARENTS" "[I").eval args s none [] s = some (.ref t) ∧ va_T .int t 10 (fun j => .int (gpF j)) A s s.heap) ∧ (∃ t, (Term.static "java/lang/Integer" "DigitTens" "[B").eval args s none [] s = some (.ref t) ∧ va_T .byte t 100 (fun j => .int (dtF j)) A s s.heap) ∧ (∃ t, (Term.static "java/lang/Integer" "DigitOnes" "[B").eval args s none [] s = some (.ref t) ∧ va_T .byte t 100 (fun j => .int (doF j)) A s s.heap) :=
  ⟨va_Tof (by decide) (hs _ ta_gp) (va_eqt (hs _ tl_gp)) (fun j hj => va_eqt (hs _ (tb_gp j hj))) hA, va_Tof (by decide) (hs _ ta_dt) (va_eqt (hs _ tl_dt)) (fun j hj => va_eqt (hs _ (tb_dt j hj))) hA, va_Tof (by decide) (hs _ ta_do) (va_eqt (hs _ tl_do)) (fun j hj => va_eqt (hs _ (tb_do j hj))) hA⟩
