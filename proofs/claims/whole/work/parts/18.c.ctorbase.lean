/-! rows for constructors -/
theorem app_at {A C : va_W} {i : Nat} {c : Nat × va_E} (h : C[i]? = some c) : (A ++ C)[A.length + i]? = some c := by
  rw [List.getElem?_append_right (Nat.le_add_right _ _), Nat.add_sub_cancel_left]; exact h
theorem app_set {A C : va_W} {i : Nat} {c : Nat × va_E} : (A ++ C).set (A.length + i) c = A ++ C.set i c := by
  rw [List.set_append_right _ _ (Nat.le_add_right _ _), Nat.add_sub_cancel_left]
theorem HS_new {Γ : Gm} {s : State} {A C : va_W} {d : Nat × va_E} {H : Heap} {locs : List Loc} (hP : va_P Γ.1 vwCl ((A ++ C) ++ [d]) H) (hD : va_D (AA Γ) ((A ++ C) ++ [d])) (hS : va_S (AA Γ) s.heap H locs) : HS Γ s (A ++ (C ++ [d])) H locs := by
  rw [List.append_assoc] at hP hD; exact ⟨hP, hD, hS⟩
theorem HS_as {Γ : Gm} {s : State} {A B C : va_W} {H : Heap} {locs : List Loc} (h : HS Γ s (A ++ (B ++ C)) H locs) : HS Γ s ((A ++ B) ++ C) H locs := by
  rw [List.append_assoc]; exact h
theorem HS_sa {Γ : Gm} {s : State} {A B C : va_W} {H : Heap} {locs : List Loc} (h : HS Γ s ((A ++ B) ++ C) H locs) : HS Γ s (A ++ (B ++ C)) H locs := by
  rw [← List.append_assoc]; exact h
theorem cls_int {Γ : Gm} {s : State} {cA : ClassId} (h : va_K Γ.1 vwCl (tyG Γ ++ [(cA, .int)]) s) : cA = Γ.2.2.1 0 := by
  have h1 : s.vm.findClass ("[" ++ FieldType.int.toString) = some cA := (h.2 5 (cA, .int) rfl).2
  have h2 : s.vm.findClass ("[" ++ FieldType.int.toString) = some (Γ.2.2.1 0) := (h.2 0 (Γ.2.2.1 0, .int) rfl).2
  exact Option.some.inj (h1.symm.trans h2)
theorem cls_byte {Γ : Gm} {s : State} {cA : ClassId} (h : va_K Γ.1 vwCl (tyG Γ ++ [(cA, .byte)]) s) : cA = Γ.2.2.1 3 := byte_cls h
theorem cls_long {Γ : Gm} {s : State} {cA : ClassId} (h : va_K Γ.1 vwCl (tyG Γ ++ [(cA, .long)]) s) : cA = Γ.2.2.1 4 := by
  have h1 : s.vm.findClass ("[" ++ FieldType.long.toString) = some cA := (h.2 5 (cA, .long) rfl).2
  have h2 : s.vm.findClass ("[" ++ FieldType.long.toString) = some (Γ.2.2.1 4) := (h.2 4 (Γ.2.2.1 4, .long) rfl).2
  exact Option.some.inj (h1.symm.trans h2)
theorem cls_xN {Γ : Gm} {s : State} {cA : ClassId} (h : va_K Γ.1 vwCl (tyG Γ ++ [(cA, .object RxN)]) s) : cA = Γ.2.2.1 1 := by
  obtain ⟨-, -, -, -, -, h1⟩ := (h.2 5 (cA, .object RxN) rfl).2
  obtain ⟨-, -, -, -, -, h2⟩ := (h.2 1 (Γ.2.2.1 1, .object "ThrowScenario$Node") rfl).2
  exact Option.some.inj (h1.symm.trans h2)
theorem cls_xH {Γ : Gm} {s : State} {cA : ClassId} (h : va_K Γ.1 vwCl (tyG Γ ++ [(cA, .object RxH)]) s) : cA = Γ.2.2.1 2 := by
  obtain ⟨-, -, -, -, -, h1⟩ := (h.2 5 (cA, .object RxH) rfl).2
  obtain ⟨-, -, -, -, -, h2⟩ := (h.2 2 (Γ.2.2.1 2, .object "ThrowScenario$Thrown") rfl).2
  exact Option.some.inj (h1.symm.trans h2)
section CB
variable {p : Program} {l : Launch} {e : Env} {R : Room} {s : State} {m : MethodId} {args : Array Value} {below : List Frame} {meth : Method} {c : Code} {H : Heap} {locs : List Loc} {cells slots : Nat} {Q : State → Prop}
variable {cc : ByteArray} {nL : Nat} {own : String} {pc : Nat} {ls : Array Slot} {rest : List Value} {Γ : Gm} {W0 : va_W} {a : Nat}
/-- invokespecial of a nest mate's private constructor -/
theorem z_callIN {y : MethodName} {host : String} {bytes : ByteArray} {maxL n index fr lo mc ms : Nat} {As : List Value} {K : Option Value → va_W → Prop}
    (X : CallFix p m c cc nL s args big own) (hG : GX Γ s s.heap) (h : HS Γ s W0 H locs) (hls : ls.size = nL)
    (hM : MM l y bytes maxL none fr lo Γ (.ref a :: As) W0 K mc ms)
    (hw : Cond.instanceMethod y ∈ big ∧ Cond.initialized y.cls ∈ big) (hnw : va_Nw (.methodLinkNest own index y host) s) (hcode : Cond.code y bytes maxL none ∈ big) (hy : y.name = "<init>")
    (hd : y.cls ≠ "java/lang/invoke/MethodHandle" ∧ y.cls ≠ "java/lang/invoke/VarHandle" ∧ (parseMethodDescriptor y.desc).map (fun d => d.parameters.length) = some n)
    (hR : fr + 1 ≤ R.frames ∧ 8 + (maxL + 11) + lo ≤ R.locals) (hn : As.length = n)
    (hW : (rest.map fun v => v.category).sum ≤ 8) (hdg : decode cc pc = .ok (.invokespecial index, 3)) (hf : cells + mc ≤ R.cells ∧ slots + ms ≤ R.slots)
    (kk : ∀ (v : Option Value) (W1 : va_W), K v W1 → ∀ (H1 : Heap) (locs1 : List Loc), HS Γ s W1 H1 locs1 → W p l e R s m args below meth c H1 locs1 (cells + mc) (slots + ms) Q (F0 m (pc + 3) ls (v.toList ++ rest))) :
    W p l e R s m args below meth c H locs cells slots Q (F0 m pc ls (As.reverse ++ .ref a :: rest)) :=
  z_back h (va_runIN (g := F0 m pc ls (As.reverse ++ .ref a :: rest)) (As := As) (b := a) X hM ⟨va_cnB n X.2.2.2.2 (big_GoodIn (wz_in hcode)) rfl rfl rfl hnw (X.2.2.2.2 _ hw.2) hd hR, hy, X.2.2.2.2 _ hw.1⟩ ⟨PM_blind, fun U hU hWm => HS_pre hG h hU hWm⟩ rfl hn hls rfl (lv_room hW) hdg hf) kk
/-- the given parents are copied into a row of ints -/
theorem tb_copy (X : CallFix p m c cc nL s args big own) (hml : c.maxLocals = ls.size) (hG : GX Γ s s.heap) (h : HS Γ s W0 H locs) {index q1 n1 : Nat} {g : Nat → Int32}
    (hw : Cond.methodLink own index arraycopyName ∈ big ∧ Cond.native arraycopyName ∈ big ∧ Cond.static arraycopyName ∈ big ∧ Cond.initialized "java/lang/System" ∈ big)
    (ha : W0[q1]? = some (a, .inl (Γ.2.2.1 0, n1, .inl g))) (hn1 : 10 ≤ n1) (hfr : 1 ≤ R.frames) (hlo : 8 + 40 ≤ R.locals) (hW : (rest.map fun v => v.category).sum ≤ 8) (hdg : decode cc pc = .ok (.invokestatic index, 3))
    (kk : ∀ (H1 : Heap) (locs1 : List Loc), HS Γ s (W0.set q1 (a, .inl (Γ.2.2.1 0, n1, .inl (va_cpy gpF g 0 0 10)))) H1 locs1 → W p l e R s m args below meth c H1 locs1 cells slots Q (F0 m (pc + 3) ls rest)) :
    W p l e R s m args below meth c H locs cells slots Q (F0 m pc ls (.int 10 :: .int 0 :: .ref a :: .int 0 :: .ref (Γ.2.2.2.2.2 100) :: rest)) := by
  intro T hT Y
  have hk : nativeFrameWords "java/lang/System" "arraycopy" 5 + 11 ≤ 40 := by decide +kernel
  obtain ⟨src, s1, ⟨s2, k0, s3, m0, s4⟩, s5, s6, -, s7, s8⟩ := (GX_P hG).2
  have hsrc : H[Γ.2.2.2.2.2 100]? = some src := by rw [h.2.2.2.1 _ (Array.getElem?_eq_some_iff.mp s1).1 s8]; exact s1
  have hdst : H[a]? = some (vp_cell (Γ.2.2.1 0) (n1, .inl g)) := h.1 q1 _ ha
  have hlt : a < H.size := (Array.getElem?_eq_some_iff.mp hdst).1
  obtain ⟨-, k1, d3, m1, d4⟩ := ((GX_K hG).2 0 (Γ.2.2.1 0, .int) rfl).1 n1 (fun j => .int (g j))
  have t0 : (0 : Int32).toInt = 0 := by decide
  have t10 : (10 : Int32).toInt = 10 := by decide
  obtain ⟨vm', Y', go⟩ := Y.arraycopy X.1 X.2.2.2.1 (X.2.2.2.2 _ hw.1) (X.2.2.2.2 _ hw.2.1) (X.2.2.2.2 _ hw.2.2.1) (X.2.2.2.2 _ hw.2.2.2) (src := Γ.2.2.2.2.2 100) (dst := a) (cs := src) (cd := vp_cell (Γ.2.2.1 0) (n1, .inl g)) (srcPos := 0) (destPos := 0) (n := 10)
    (by rw [hT]; exact hsrc) (by rw [hT]; exact hdst) s2 (fun _ z => by cases z) s5 (fun z => by cases z) s3 d3 s4 d4 (by simp [refKind]) (by decide) (by decide) (by decide)
    (by rw [t0, t10]; omega)
    (by rw [t0, t10]; show ¬ _ > ((arrV (Γ.2.2.1 0) n1 (fun j => .int (g j))).slots.size : Int); rw [arrV_size]; omega)
    (fun _ _ i hi => by
      have e : src.slots.getD ((0 : Int32).toNatClampNeg + i) .null = .int (gpF ((0 : Int32).toNatClampNeg + i)) := by
        have hi' : i < 10 := hi
        have e0 : (0 : Int32).toNatClampNeg + i = i := by rw [show (0 : Int32).toNatClampNeg = 0 from rfl]; omega
        rw [e0, Array.getD_eq_getD_getElem?, s7 i hi']
        rfl
      rw [e]
      exact ⟨rfl, trivial⟩)
    (g := F0 m pc ls (.int 10 :: .int 0 :: .ref a :: .int 0 :: .ref (Γ.2.2.2.2.2 100) :: rest)) rfl (by rw [hml]) (rest := rest) rfl (by rw [X.2.1]; exact hdg) hfr (by show 2 * 0 + _ + _ ≤ _; omega)
  have e1 : copied src (vp_cell (Γ.2.2.1 0) (n1, .inl g)) 0 0 10 = vp_cell (Γ.2.2.1 0) (n1, .inl (va_cpy gpF g 0 0 10)) := va_copiedX (fun z => .int z) src (Γ.2.2.1 0) gpF g s7 (by decide)
  rw [e1] at Y' go
  have oq : ∀ q : Nat, q ≠ a → (H.setIfInBounds a (vp_cell (Γ.2.2.1 0) (n1, .inl (va_cpy gpF g 0 0 10))))[q]? = H[q]? := fun q hq => by simp [Array.getElem?_setIfInBounds, Ne.symm hq]
  have hAa : AA Γ a := h.2.1.2 q1 _ ha
  obtain ⟨t, a1, b1⟩ := kk (H.setIfInBounds a (vp_cell (Γ.2.2.1 0) (n1, .inl (va_cpy gpF g 0 0 10)))) _ ⟨h.1.set h.2.1 ha (show (H.setIfInBounds a _)[a]? = some _ by simp [Array.getElem?_setIfInBounds, hlt]) oq, h.2.1.set ha, by simp; exact h.2.2.1, fun q g1 g2 => by
      rw [oq q (fun z => g2 (by rw [z]; exact hAa))]
      exact h.2.2.2.1 q g1 g2, fun q hq => by
      rcases List.mem_append.mp hq with z | z
      · exact h.2.2.2.2 q z
      · obtain ⟨w, -, hz⟩ := List.mem_map.mp z
        rw [← hz]
        exact hAa⟩ _ (by rw [← hT]; rfl) Y'
  exact ⟨t, go t a1, b1⟩
end CB
