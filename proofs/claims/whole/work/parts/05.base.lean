/-- the globals: classes' numbers and slots; where the law's own cells begin; array classes; the enum's constants; texts and their bytes -/
abbrev Gm : Type := va_G × Nat × (Nat → ClassId) × (Nat → Nat) × (Nat → Nat) × (Nat → Nat)
def AA (Γ : Gm) : Nat → Prop := fun q => Γ.2.1 ≤ q
def tyG (Γ : Gm) : List (ClassId × FieldType) := [(Γ.2.2.1 0, .int), (Γ.2.2.1 1, .object "ThrowScenario$Node"), (Γ.2.2.1 2, .object "ThrowScenario$Thrown"), (Γ.2.2.1 3, .byte), (Γ.2.2.1 4, .long)]
abbrev wayN : List String := ["NORMALLY", "BREAK", "RETURN", "THROWING", "EXIT", "TIRING"]
abbrev wayF : List (String × String × String × List Int32) := [("ThrowScenario$Way", "endsRun", "Z", [0, 0, 0, 0, 1, 1])]
abbrev strL : List (String × Nat × String) := [("ThrowScenario$Report", 55, "uncaught"), ("ThrowScenario$Report", 57, "dispatched"), ("ThrowScenario$Report", 59, "handler threw"), ("ThrowScenario$Report", 61, "exit"), ("ThrowScenario$Report", 63, "tired"), ("ThrowScenario$Report", 65, "ended"), ("ThrowScenario$Classes", 30, "Throwable"), ("ThrowScenario$Classes", 32, "Null"), ("ThrowScenario$Classes", 34, "Arithmetic"), ("ThrowScenario$Classes", 36, "Index"), ("ThrowScenario$Classes", 38, "Cast"), ("ThrowScenario$Classes", 40, "Depth"), ("ThrowScenario$Classes", 42, "Monitor"), ("ThrowScenario$Classes", 44, "Runtime"), ("ThrowScenario$Classes", 46, "Error"), ("ThrowScenario$Classes", 48, "Exception"), ("ThrowScenario$Classes", 50, "Own"), ("ThrowScenario$Report", 73, " from "), ("ThrowScenario$Report", 50, " then ")]
abbrev strN : List Nat := [8, 10, 13, 4, 5, 5, 9, 4, 10, 5, 4, 5, 7, 7, 5, 9, 3, 6, 6]
abbrev strB : List (List Int32) := [[117, 110, 99, 97, 117, 103, 104, 116], [100, 105, 115, 112, 97, 116, 99, 104, 101, 100], [104, 97, 110, 100, 108, 101, 114, 32, 116, 104, 114, 101, 119], [101, 120, 105, 116], [116, 105, 114, 101, 100], [101, 110, 100, 101, 100], [84, 104, 114, 111, 119, 97, 98, 108, 101], [78, 117, 108, 108], [65, 114, 105, 116, 104, 109, 101, 116, 105, 99], [73, 110, 100, 101, 120], [67, 97, 115, 116], [68, 101, 112, 116, 104], [77, 111, 110, 105, 116, 111, 114], [82, 117, 110, 116, 105, 109, 101], [69, 114, 114, 111, 114], [69, 120, 99, 101, 112, 116, 105, 111, 110], [79, 119, 110], [32, 102, 114, 111, 109, 32], [32, 116, 104, 101, 110, 32]]
def gpF (j : Nat) : Int32 := ([-1, 7, 7, 7, 7, 8, 7, 9, 0, 0] : List Int32).getD j 0
def dtF (j : Nat) : Int32 := nI (48 + j / 10)
def doF (j : Nat) : Int32 := nI (48 + j % 10)
abbrev nwR : Cond := .methodLinkNest "ThrowScenario" 27 ⟨"ThrowScenario$Report", "<init>", "()V"⟩ "ThrowScenario"
abbrev nwT : Cond := .methodLinkNest "ThrowScenario$Machine" 62 ⟨"ThrowScenario$Thrown", "<init>", "()V"⟩ "ThrowScenario"
/-- a static array of numbers that is never written -/
def sTab (Γ : Gm) (C n d : String) (ty : FieldType) (i N : Nat) (f : Nat → Int32) (U : State) (H : Heap) : Prop := va_Z C n d (.ref (Γ.2.2.2.2.2 i)) (AA Γ) U H ∧ va_T ty (Γ.2.2.2.2.2 i) N (fun j => .int (f j)) (AA Γ) U H
def GY (Γ : Gm) (U : State) (H : Heap) : Prop := vk_S 19 strN strB Γ.2.2.2.2.1 Γ.2.2.2.2.2 (AA Γ) U H ∧ (∀ (i : Nat) (q : String × Nat × String), strL[i]? = some q → vk_R q.1 q.2.1 q.2.2 (Γ.2.2.2.2.1 i) U) ∧ va_Z "java/lang/String" "COMPACT_STRINGS" "Z" (.int 1) (AA Γ) U H
  ∧ sTab Γ "ThrowScenario$Classes" "GIVEN_PARENTS" "[I" .int 100 10 gpF U H ∧ sTab Γ "java/lang/Integer" "DigitTens" "[B" .byte 101 100 dtF U H ∧ sTab Γ "java/lang/Integer" "DigitOnes" "[B" .byte 102 100 doF U H ∧ va_Nw nwR U ∧ va_Nw nwT U ∧ va_Zq "jdk/internal/util/Preconditions" "SIOOBE_FORMATTER" "Ljava/util/function/BiFunction;" (AA Γ) U H ∧ va_AO "ThrowScenario$Node" U ∧ va_AO "ThrowScenario$Thrown" U
theorem GY_same {Γ : Gm} {u U : State} {H : Heap} (hv : U.vm = u.vm) (h : GY Γ u H) : GY Γ U H := by
  have ha : u.vm.Alike U.vm := by rw [hv]; exact Vm.Alike.refl _
  obtain ⟨h1, h2, h3, h4, h5, h6, h7, h8, h9, hN, hT⟩ := h
  exact ⟨h1.moved ha, fun i q hq => (h2 i q hq).same hv, h3.moved ha, ⟨h4.1.moved ha, h4.2.moved ha⟩, ⟨h5.1.moved ha, h5.2.moved ha⟩, ⟨h6.1.moved ha, h6.2.moved ha⟩, va_Nw.same rfl hv.symm h7, va_Nw.same rfl hv.symm h8, h9.moved ha, hN.moved ha, hT.moved ha⟩
theorem GY_warm {Γ : Gm} {s U : State} {H : Heap} (hW : s.WarmedH U.vm) (h : GY Γ s H) : GY Γ U H := by
  have ha := hW.alike
  obtain ⟨h1, h2, h3, h4, h5, h6, h7, h8, h9, hN, hT⟩ := h
  exact ⟨h1.moved ha, fun i q hq => (h2 i q hq).warm hW, h3.moved ha, ⟨h4.1.moved ha, h4.2.moved ha⟩, ⟨h5.1.moved ha, h5.2.moved ha⟩, ⟨h6.1.moved ha, h6.2.moved ha⟩, va_Nw.warmM hW h7, va_Nw.warmM hW h8, h9.moved ha, hN.moved ha, hT.moved ha⟩
theorem GY_kept {Γ : Gm} {s : State} {H0 H : Heap} (hS : ∀ q : Nat, q < H0.size → ¬ AA Γ q → H[q]? = H0[q]?) (h : GY Γ s H0) : GY Γ s H := by
  obtain ⟨h1, h2, h3, h4, h5, h6, h7, h8, h9, hN, hT⟩ := h
  exact ⟨h1.kept hS, h2, h3.kept hS, ⟨h4.1.kept hS, h4.2.kept hS⟩, ⟨h5.1.kept hS, h5.2.kept hS⟩, ⟨h6.1.kept hS, h6.2.kept hS⟩, h7, h8, h9.kept hS, hN, hT⟩
def GX (Γ : Gm) (U : State) (H : Heap) : Prop := Γ.2.1 ≤ H.size ∧ va_K Γ.1 vwCl (tyG Γ) U ∧ va_En "ThrowScenario$Way" "LThrowScenario$Way;" wayN wayF Γ.2.2.2.1 (AA Γ) U H ∧ GY Γ U H
theorem GX_K {Γ : Gm} {U : State} {H : Heap} (h : GX Γ U H) : va_K Γ.1 vwCl (tyG Γ) U := h.2.1
theorem GX_E {Γ : Gm} {U : State} {H : Heap} (h : GX Γ U H) : va_En "ThrowScenario$Way" "LThrowScenario$Way;" wayN wayF Γ.2.2.2.1 (AA Γ) U H := h.2.2.1
theorem GX_same {Γ : Gm} {u U : State} {H : Heap} (hv : U.vm = u.vm) (h : GX Γ u H) : GX Γ U H := by
  have ha : u.vm.Alike U.vm := by rw [hv]; exact Vm.Alike.refl _
  exact ⟨h.1, va_K.moved ha h.2.1, va_En.moved ha h.2.2.1, GY_same hv h.2.2.2⟩
theorem GX_warm {Γ : Gm} {s U : State} {H : Heap} (hW : s.WarmedH U.vm) (h : GX Γ s H) : GX Γ U H :=
  ⟨h.1, va_K.moved hW.alike h.2.1, va_En.moved hW.alike h.2.2.1, GY_warm hW h.2.2.2⟩
theorem GX_kept {Γ : Gm} {s : State} {H : Heap} {locs : List Loc} (h : GX Γ s s.heap) (hS : va_S (AA Γ) s.heap H locs) : GX Γ s H :=
  ⟨Nat.le_trans h.1 hS.1, h.2.1, va_En.kept h.2.2.1 hS.2.1, GY_kept hS.2.1 h.2.2.2⟩
theorem GX_A {Γ : Gm} {s : State} (h : GX Γ s s.heap) : ∀ q, s.heap.size ≤ q → AA Γ q := fun q hq => Nat.le_trans h.1 hq
theorem GX_S {Γ : Gm} {U : State} {H : Heap} (h : GX Γ U H) : vk_S 19 strN strB Γ.2.2.2.2.1 Γ.2.2.2.2.2 (AA Γ) U H := h.2.2.2.1
theorem GX_R {Γ : Gm} {U : State} {H : Heap} (h : GX Γ U H) {i : Nat} {q : String × Nat × String} (hq : strL[i]? = some q) : vk_R q.1 q.2.1 q.2.2 (Γ.2.2.2.2.1 i) U := h.2.2.2.2.1 i q hq
theorem GX_C {Γ : Gm} {U : State} {H : Heap} (h : GX Γ U H) : va_Z "java/lang/String" "COMPACT_STRINGS" "Z" (.int 1) (AA Γ) U H := h.2.2.2.2.2.1
theorem GX_P {Γ : Gm} {U : State} {H : Heap} (h : GX Γ U H) : sTab Γ "ThrowScenario$Classes" "GIVEN_PARENTS" "[I" .int 100 10 gpF U H := h.2.2.2.2.2.2.1
theorem GX_T {Γ : Gm} {U : State} {H : Heap} (h : GX Γ U H) : sTab Γ "java/lang/Integer" "DigitTens" "[B" .byte 101 100 dtF U H := h.2.2.2.2.2.2.2.1
theorem GX_O {Γ : Gm} {U : State} {H : Heap} (h : GX Γ U H) : sTab Γ "java/lang/Integer" "DigitOnes" "[B" .byte 102 100 doF U H := h.2.2.2.2.2.2.2.2.1
theorem GX_NR {Γ : Gm} {U : State} {H : Heap} (h : GX Γ U H) : va_Nw nwR U := h.2.2.2.2.2.2.2.2.2.1
theorem GX_NT {Γ : Gm} {U : State} {H : Heap} (h : GX Γ U H) : va_Nw nwT U := h.2.2.2.2.2.2.2.2.2.2.1
theorem GX_F {Γ : Gm} {U : State} {H : Heap} (h : GX Γ U H) : va_Zq "jdk/internal/util/Preconditions" "SIOOBE_FORMATTER" "Ljava/util/function/BiFunction;" (AA Γ) U H := h.2.2.2.2.2.2.2.2.2.2.2.1
theorem GX_ON {Γ : Gm} {U : State} {H : Heap} (h : GX Γ U H) : va_AO RxN U := h.2.2.2.2.2.2.2.2.2.2.2.2.1
theorem GX_OH {Γ : Gm} {U : State} {H : Heap} (h : GX Γ U H) : va_AO RxH U := h.2.2.2.2.2.2.2.2.2.2.2.2.2
/-! pools: n cells in a row of the world, told by their place -/
def uu (R : Nat → Nat → Int32) (a i : Nat) (v : Int32) : Nat → Nat → Int32 := fun b => if b = a then upd (R a) i v else R b
def pz (n : Nat) (f : Nat → Nat × va_E) : va_W := (List.range n).map f
theorem pz_len {n : Nat} {f : Nat → Nat × va_E} : (pz n f).length = n := by simp [pz]
theorem pz_at {n i : Nat} {f : Nat → Nat × va_E} (h : i < n) : (pz n f)[i]? = some (f i) := by simp [pz, h]
theorem pz_congr {n : Nat} {f g : Nat → Nat × va_E} (h : ∀ i, i < n → f i = g i) : pz n f = pz n g := List.map_congr_left (fun i hi => h i (List.mem_range.mp hi))
theorem pz_get {X Y : va_W} {n i k : Nat} {f : Nat → Nat × va_E} (hk : X.length = k) (h : i < n) : (X ++ (pz n f ++ Y))[k + i]? = some (f i) := by
  subst hk
  rw [List.getElem?_append_right (Nat.le_add_right _ _), Nat.add_sub_cancel_left, List.getElem?_append_left (by rw [pz_len]; exact h)]
  exact pz_at h
theorem pz_setp {n i : Nat} {f : Nat → Nat × va_E} {v : Nat × va_E} : (pz n f).set i v = pz n (fun j => if j = i then v else f j) := by
  apply List.ext_getElem?
  intro j
  rw [List.getElem?_set]
  by_cases hj : j < n
  · rw [pz_at hj, pz_at hj]
    by_cases e : i = j
    · subst e
      simp [pz_len, hj]
    · rw [if_neg e, if_neg (fun z => e z.symm)]
  · have h1 : (pz n f)[j]? = none := List.getElem?_eq_none (by rw [pz_len]; omega)
    have h2 : (pz n (fun j => if j = i then v else f j))[j]? = none := List.getElem?_eq_none (by rw [pz_len]; omega)
    rw [h1, h2]
    by_cases e : i = j
    · subst e
      simp [pz_len, hj]
    · rw [if_neg e]
theorem pz_set {X Y : va_W} {n i k : Nat} {f g : Nat → Nat × va_E} {v : Nat × va_E} (hk : X.length = k) (h : i < n) (hg : ∀ j, j < n → g j = if j = i then v else f j) : (X ++ (pz n f ++ Y)).set (k + i) v = X ++ (pz n g ++ Y) := by
  subst hk
  rw [List.set_append_right _ _ (Nat.le_add_right _ _), Nat.add_sub_cancel_left, List.set_append_left _ _ (by rw [pz_len]; exact h), pz_setp]
  rw [pz_congr (fun j hj => (hg j hj).symm)]
theorem uu_same {R : Nat → Nat → Int32} {a i : Nat} {v : Int32} : uu R a i v a i = v := by simp [uu, upd]
theorem uu_row {R : Nat → Nat → Int32} {a b i : Nat} {v : Int32} (h : b ≠ a) : uu R a i v b = R b := by simp [uu, h]
theorem uu_other {R : Nat → Nat → Int32} {a i j : Nat} {v : Int32} (h : j ≠ i) : uu R a i v a j = R a j := by simp [uu, upd, h]
theorem va_rf_cat {r : Option Nat} : (va_rf r).category = 1 := by cases r <;> rfl
/-! base rows: globals, worlds with a frame, one form of contract for all methods -/
def HS (Γ : Gm) (s : State) (W0 : va_W) (H : Heap) (locs : List Loc) : Prop := va_P Γ.1 vwCl W0 H ∧ va_D (AA Γ) W0 ∧ va_S (AA Γ) s.heap H locs
def PM (Γ : Gm) (as : List Value) (W0 : va_W) : Array Value → State → Prop := fun a U => a = as.toArray ∧ GX Γ U U.heap ∧ va_P Γ.1 vwCl W0 U.heap ∧ va_D (AA Γ) W0
def QM (Γ : Gm) (K : Option Value → va_W → Prop) : Array Value → State → Outcome → State → Prop := fun _ st oc t => ∃ (v : Option Value) (W1 : va_W), K v W1 ∧ oc = .returned v ∧ va_P Γ.1 vwCl W1 t.heap ∧ va_D (AA Γ) W1 ∧ va_F (AA Γ) st t
/-- one answer, one world -/
abbrev KD (v : Option Value) (W1 : va_W) : Option Value → va_W → Prop := fun v' W' => v' = v ∧ W' = W1
abbrev MM (l : Launch) (y : MethodName) (cc : ByteArray) (n : Nat) (ret : Option FieldType) (fr lo : Nat) (Γ : Gm) (as : List Value) (W0 : va_W) (K : Option Value → va_W → Prop) (mc ms : Nat) : Prop :=
  Met l y (wz y cc n ret) { frames := fr, cells := mc, slots := ms, locals := lo } (PM Γ as W0) (QM Γ K) mc ms (AA Γ)
theorem PM_blind {Γ : Gm} {as : List Value} {W0 : va_W} : FrameBlind (PM Γ as W0) := fun a U g mk h =>
  ⟨h.1, GX_same (u := U) (U := U.calling g mk a) rfl h.2.1, h.2.2.1, h.2.2.2⟩
section ZB
variable {p : Program} {l : Launch} {e : Env} {R : Room} {s : State} {m : MethodId} {args : Array Value} {below : List Frame} {meth : Method} {c : Code} {H : Heap} {locs : List Loc} {cells slots : Nat} {Q : State → Prop}
variable {cc : ByteArray} {nL : Nat} {own : String} {pc : Nat} {ls : Array Slot} {rest : List Value} {Γ : Gm} {W0 : va_W} {a : Nat}
theorem HS_pre {U : State} {as : List Value} (hG : GX Γ s s.heap) (h : HS Γ s W0 H locs) (hU : U.heap = H) (hW : s.WarmedH U.vm) : PM Γ as W0 as.toArray U := by
  refine ⟨rfl, ?_, by rw [hU]; exact h.1, h.2.1⟩
  rw [hU]
  exact GX_warm hW (GX_kept hG h.2.2)
/-- a method's contract out of the walk of its body -/
theorem MM_of {y : MethodName} {n : Nat} {ret : Option FieldType} {fr lo mc ms : Nat} {as : List Value} {K : Option Value → va_W → Prop} (hy : plainName y.cls = true) (hsl : (lg_sl as).length ≤ n)
    (body : ∀ (p : Program) (e : Env) (s : State) (m : MethodId) (below : List Frame) (meth : Method) (c : Code), CallFix p m c cc n s as.toArray big y.cls → meth.sig.returnType = ret → meth.locks = false → meth.name = y.name → GX Γ s s.heap → HS Γ s W0 s.heap [] → ∀ ls : Array Slot, lv_has ls n (lv_args 0 as) →
      W p l e { frames := fr, cells := mc, slots := ms, locals := lo } s m as.toArray below meth c s.heap [] 0 0 (MQ below (QM Γ K) as.toArray s mc ms (AA Γ)) (F0 m 0 ls [])) :
    MM l y cc n ret fr lo Γ as W0 K mc ms := by
  refine Met.ofW (cc := cc) (maxL := n) (ret := ret) hy rfl ?_
  intro p e s m args below meth c s₁ B hml hv
  obtain ⟨rfl, hG, hP, hD⟩ := hv
  have hts := atoms_spec (ws := wz y cc n ret) B.pre
  have hown : s.vm.findClass y.cls = some m.cls := findClass_of_methodNamed B.named
  have hl := lv_entry as (n := n) hsl
  rw [lg_entry_eq]
  exact body p e s m below meth c ⟨B.exec, B.bytes, hml, hown, fun w hw => hts w (List.mem_cons_of_mem _ hw)⟩ B.returns B.notSynchronized (name_of_methodNamed B.named B.method).1 hG ⟨hP, hD, va_S.rf⟩ _ hl
theorem z_iret {K : Option Value → va_W → Prop} {v : Int32} (X : CallFix p m c cc nL s args big own) (hr : meth.sig.returnType = some .int) (hlk : meth.locks = false) (h : HS Γ s W0 H locs) (hK : K (some (.int v)) W0) (hdg : decode cc pc = .ok (.ireturn, 1)) :
    W p l e R s m args below meth c H locs cells slots (MQ below (QM Γ K) args s cells slots (AA Γ)) (F0 m pc ls [.int v]) :=
  W.iret X.1 X.2.1 hr (fun t ht _ => ⟨_, _, hK, rfl, by rw [ht]; exact h.1, h.2.1, h.2.2.F ht⟩) h.2.2.2.2 hdg hlk
theorem z_zret {K : Option Value → va_W → Prop} {v : Int32} (X : CallFix p m c cc nL s args big own) (hr : meth.sig.returnType = some .boolean) (hlk : meth.locks = false) (h : HS Γ s W0 H locs) (hn : narrow .boolean (.int v) = .int v) (hK : K (some (.int v)) W0) (hdg : decode cc pc = .ok (.ireturn, 1)) :
    W p l e R s m args below meth c H locs cells slots (MQ below (QM Γ K) args s cells slots (AA Γ)) (F0 m pc ls [.int v]) :=
  W.zret X.1 X.2.1 hr hn (fun t ht _ => ⟨_, _, hK, rfl, by rw [ht]; exact h.1, h.2.1, h.2.2.F ht⟩) h.2.2.2.2 hdg hlk
theorem z_lret {K : Option Value → va_W → Prop} {v : Int64} (X : CallFix p m c cc nL s args big own) (hr : meth.sig.returnType = some .long) (hlk : meth.locks = false) (h : HS Γ s W0 H locs) (hK : K (some (.long v)) W0) (hdg : decode cc pc = .ok (.lreturn, 1)) :
    W p l e R s m args below meth c H locs cells slots (MQ below (QM Γ K) args s cells slots (AA Γ)) (F0 m pc ls [.long v]) :=
  W.lret X.1 X.2.1 hr (fun t ht _ => ⟨_, _, hK, rfl, by rw [ht]; exact h.1, h.2.1, h.2.2.F ht⟩) h.2.2.2.2 hdg hlk
theorem z_vret {K : Option Value → va_W → Prop} (X : CallFix p m c cc nL s args big own) (hr : meth.sig.returnType = none) (hlk : meth.locks = false) (h : HS Γ s W0 H locs) (hK : K none W0) (hdg : decode cc pc = .ok (.return_, 1)) :
    W p l e R s m args below meth c H locs cells slots (MQ below (QM Γ K) args s cells slots (AA Γ)) (F0 m pc ls []) :=
  W.vret X.1 X.2.1 hr (fun t ht _ => ⟨_, _, hK, rfl, by rw [ht]; exact h.1, h.2.1, h.2.2.F ht⟩) h.2.2.2.2 hdg hlk
theorem z_aret {K : Option Value → va_W → Prop} {v : Value} {n : String} (X : CallFix p m c cc nL s args big own) (hr : meth.sig.returnType = some (.object n)) (hlk : meth.locks = false) (h : HS Γ s W0 H locs) (hv : v = .null ∨ ∃ a, v = .ref a) (hK : K (some v) W0) (hdg : decode cc pc = .ok (.areturn, 1)) :
    W p l e R s m args below meth c H locs cells slots (MQ below (QM Γ K) args s cells slots (AA Γ)) (F0 m pc ls [v]) :=
  W.aret X.1 X.2.1 hr (Or.inl ⟨_, rfl⟩) hv (fun t ht _ => ⟨_, _, hK, rfl, by rw [ht]; exact h.1, h.2.1, h.2.2.F ht⟩) h.2.2.2.2 hdg hlk
/-- what a call leaves -/
theorem z_back {K : Option Value → va_W → Prop} {mc ms : Nat} {st0 : List Value} {av : Array Value} (h : HS Γ s W0 H locs) (hr : va_Run p l e R s m args below meth c H locs cells slots mc ms (F0 m pc ls st0) rest (QM Γ K av) (AA Γ))
    (kk : ∀ (v : Option Value) (W1 : va_W), K v W1 → ∀ (H1 : Heap) (locs1 : List Loc), HS Γ s W1 H1 locs1 → W p l e R s m args below meth c H1 locs1 (cells + mc) (slots + ms) Q (F0 m (pc + 3) ls (v.toList ++ rest))) :
    W p l e R s m args below meth c H locs cells slots Q (F0 m pc ls st0) := by
  intro T hT X
  obtain ⟨v, st₀, t, T', L, h0, X', hL, e1, e2, ⟨v1, W1, hK, hv, hP, hD, hz, hk⟩, st⟩ := hr T hT X
  cases hv
  rw [h0] at hz hk
  have hS := h.2.2
  obtain ⟨t2, a1, b1⟩ := kk v W1 hK T'.heap (locs ++ L) ⟨by rw [e1]; exact hP, hD, Nat.le_trans hS.1 (by rw [e1]; exact hz), fun q h1 h2 => by rw [e1, hk q (Nat.lt_of_lt_of_le h1 hS.1) h2]; exact hS.2.1 q h1 h2, fun q hq => by
      rcases List.mem_append.mp hq with h | h
      · exact hS.2.2 q h
      · exact hL q h⟩ T' rfl X'
  exact ⟨t2, st t2 a1, b1⟩
/-- invokevirtual of a method with a contract; the receiver stands at place q0 of the world -/
theorem z_callV {y : MethodName} {bytes : ByteArray} {maxL n index fr lo mc ms ci q0 : Nat} {ret : Option FieldType} {q : vw_C} {fs As : List Value} {K : Option Value → va_W → Prop}
    (X : CallFix p m c cc nL s args big own) (hG : GX Γ s s.heap) (h : HS Γ s W0 H locs) (hls : ls.size = nL)
    (hM : MM l y bytes maxL ret fr lo Γ (.ref a :: As) W0 K mc ms)
    (hw : ∀ w ∈ ([.methodLink own index y, .instanceMethod y, .selects y.cls y y, .initialized y.cls] : List Cond), w ∈ big) (hcode : Cond.code y bytes maxL ret ∈ big)
    (hd : y.cls ≠ "java/lang/invoke/MethodHandle" ∧ y.cls ≠ "java/lang/invoke/VarHandle" ∧ (parseMethodDescriptor y.desc).map (fun d => d.parameters.length) = some n)
    (hR : fr + 1 ≤ R.frames ∧ 8 + (maxL + 11) + lo ≤ R.locals) (hc : vwCl[ci]? = some q) (hq : q.1 = y.cls) (he : W0[q0]? = some (a, .inr (ci, fs))) (hn : As.length = n)
    (hW : (rest.map fun v => v.category).sum ≤ 8) (hdg : decode cc pc = .ok (.invokevirtual index, 3)) (hf : cells + mc ≤ R.cells ∧ slots + ms ≤ R.slots)
    (kk : ∀ (v : Option Value) (W1 : va_W), K v W1 → ∀ (H1 : Heap) (locs1 : List Loc), HS Γ s W1 H1 locs1 → W p l e R s m args below meth c H1 locs1 (cells + mc) (slots + ms) Q (F0 m (pc + 3) ls (v.toList ++ rest))) :
    W p l e R s m args below meth c H locs cells slots Q (F0 m pc ls (As.reverse ++ .ref a :: rest)) := by
  have hrc : ∃ cell : Cell, H[a]? = some cell ∧ cell.vm.isStatics = false ∧ s.vm.findClass y.cls = some cell.cls := by
    rw [← hq]; exact va_recv (GX_K hG) h.1 hc he
  refine z_back h (va_runV (g := F0 m pc ls (As.reverse ++ .ref a :: rest)) (As := As) (b := a) (C := y.cls) X hM (cwV n X.2.2.2.2 (big_GoodIn ?_) rfl rfl rfl ⟨rfl, hd⟩ hR) ⟨PM_blind, hrc, fun U hU hWm => HS_pre hG h hU hWm⟩ rfl hn hls rfl (lv_room hW) hdg hf) kk
  intro w hw1
  rcases List.mem_append.mp hw1 with h1 | h1
  · exact hw w h1
  · exact wz_in hcode w h1
/-- invokevirtual of a nest mate's private method -/
theorem z_callVN {y : MethodName} {bytes : ByteArray} {maxL n index fr lo mc ms ci q0 : Nat} {ret : Option FieldType} {host : String} {q : vw_C} {fs As : List Value} {K : Option Value → va_W → Prop}
    (X : CallFix p m c cc nL s args big own) (hG : GX Γ s s.heap) (h : HS Γ s W0 H locs) (hls : ls.size = nL)
    (hM : MM l y bytes maxL ret fr lo Γ (.ref a :: As) W0 K mc ms)
    (hw : ∀ w ∈ ([.instanceMethod y, .selects y.cls y y, .initialized y.cls] : List Cond), w ∈ big) (hnw : va_Nw (.methodLinkNest own index y host) s) (hcode : Cond.code y bytes maxL ret ∈ big)
    (hd : y.cls ≠ "java/lang/invoke/MethodHandle" ∧ y.cls ≠ "java/lang/invoke/VarHandle" ∧ (parseMethodDescriptor y.desc).map (fun d => d.parameters.length) = some n)
    (hR : fr + 1 ≤ R.frames ∧ 8 + (maxL + 11) + lo ≤ R.locals) (hc : vwCl[ci]? = some q) (hq : q.1 = y.cls) (he : W0[q0]? = some (a, .inr (ci, fs))) (hn : As.length = n)
    (hW : (rest.map fun v => v.category).sum ≤ 8) (hdg : decode cc pc = .ok (.invokevirtual index, 3)) (hf : cells + mc ≤ R.cells ∧ slots + ms ≤ R.slots)
    (kk : ∀ (v : Option Value) (W1 : va_W), K v W1 → ∀ (H1 : Heap) (locs1 : List Loc), HS Γ s W1 H1 locs1 → W p l e R s m args below meth c H1 locs1 (cells + mc) (slots + ms) Q (F0 m (pc + 3) ls (v.toList ++ rest))) :
    W p l e R s m args below meth c H locs cells slots Q (F0 m pc ls (As.reverse ++ .ref a :: rest)) := by
  have hrc : ∃ cell : Cell, H[a]? = some cell ∧ cell.vm.isStatics = false ∧ s.vm.findClass y.cls = some cell.cls := by
    rw [← hq]; exact va_recv (GX_K hG) h.1 hc he
  have ok := fun w hw1 => X.2.2.2.2 w (hw w hw1)
  exact z_back h (va_runVN (g := F0 m pc ls (As.reverse ++ .ref a :: rest)) (As := As) (b := a) (C := y.cls) X hM ⟨va_cnB n X.2.2.2.2 (big_GoodIn (wz_in hcode)) rfl rfl rfl hnw (ok _ (by simp)) hd hR, ok _ (by simp), ok _ (by simp)⟩ ⟨PM_blind, hrc, fun U hU hWm => HS_pre hG h hU hWm⟩ rfl hn hls rfl (lv_room hW) hdg hf) kk
/-- invokestatic of a method of any class -/
theorem z_callS {y : MethodName} {bytes : ByteArray} {maxL n index fr lo mc ms : Nat} {ret : Option FieldType} {As : List Value} {K : Option Value → va_W → Prop}
    (X : CallFix p m c cc nL s args big own) (hG : GX Γ s s.heap) (h : HS Γ s W0 H locs) (hls : ls.size = nL)
    (hM : MM l y bytes maxL ret fr lo Γ As W0 K mc ms)
    (hw : ∀ w ∈ ([.methodLink own index y, .static y, .initialized y.cls] : List Cond), w ∈ big) (hcode : Cond.code y bytes maxL ret ∈ big)
    (hd : y.cls ≠ "java/lang/invoke/MethodHandle" ∧ y.cls ≠ "java/lang/invoke/VarHandle" ∧ (parseMethodDescriptor y.desc).map (fun d => d.parameters.length) = some n)
    (hR : fr + 1 ≤ R.frames ∧ 8 + (maxL + 11) + lo ≤ R.locals) (hn : As.length = n)
    (hW : (rest.map fun v => v.category).sum ≤ 8) (hdg : decode cc pc = .ok (.invokestatic index, 3)) (hf : cells + mc ≤ R.cells ∧ slots + ms ≤ R.slots)
    (kk : ∀ (v : Option Value) (W1 : va_W), K v W1 → ∀ (H1 : Heap) (locs1 : List Loc), HS Γ s W1 H1 locs1 → W p l e R s m args below meth c H1 locs1 (cells + mc) (slots + ms) Q (F0 m (pc + 3) ls (v.toList ++ rest))) :
    W p l e R s m args below meth c H locs cells slots Q (F0 m pc ls (As.reverse ++ rest)) := by
  have ok := fun w hw1 => X.2.2.2.2 w (hw w hw1)
  exact z_back h (va_runS (g := F0 m pc ls (As.reverse ++ rest)) (As := As) X hM ⟨callB_of n X.2.2.2.2 (big_GoodIn (wz_in hcode)) rfl rfl rfl (ok _ (by simp)) (ok _ (by simp)) hd hR, ok _ (by simp)⟩ ⟨PM_blind, fun U hU hWm => HS_pre hG h hU hWm⟩ rfl hn hls rfl (lv_room hW) hdg hf) kk
/-- invokespecial of a constructor -/
theorem z_callI {y : MethodName} {bytes : ByteArray} {maxL n index fr lo mc ms : Nat} {As : List Value} {K : Option Value → va_W → Prop}
    (X : CallFix p m c cc nL s args big own) (hG : GX Γ s s.heap) (h : HS Γ s W0 H locs) (hls : ls.size = nL)
    (hM : MM l y bytes maxL none fr lo Γ (.ref a :: As) W0 K mc ms)
    (hw : ∀ w ∈ ([.methodLink own index y, .instanceMethod y, .initialized y.cls] : List Cond), w ∈ big) (hcode : Cond.code y bytes maxL none ∈ big) (hy : y.name = "<init>")
    (hd : y.cls ≠ "java/lang/invoke/MethodHandle" ∧ y.cls ≠ "java/lang/invoke/VarHandle" ∧ (parseMethodDescriptor y.desc).map (fun d => d.parameters.length) = some n)
    (hR : fr + 1 ≤ R.frames ∧ 8 + (maxL + 11) + lo ≤ R.locals) (hn : As.length = n)
    (hW : (rest.map fun v => v.category).sum ≤ 8) (hdg : decode cc pc = .ok (.invokespecial index, 3)) (hf : cells + mc ≤ R.cells ∧ slots + ms ≤ R.slots)
    (kk : ∀ (v : Option Value) (W1 : va_W), K v W1 → ∀ (H1 : Heap) (locs1 : List Loc), HS Γ s W1 H1 locs1 → W p l e R s m args below meth c H1 locs1 (cells + mc) (slots + ms) Q (F0 m (pc + 3) ls (v.toList ++ rest))) :
    W p l e R s m args below meth c H locs cells slots Q (F0 m pc ls (As.reverse ++ .ref a :: rest)) := by
  have ok := fun w hw1 => X.2.2.2.2 w (hw w hw1)
  exact z_back h (va_runI (g := F0 m pc ls (As.reverse ++ .ref a :: rest)) (As := As) (b := a) X hM (cwI n X.2.2.2.2 (big_GoodIn (wz_in hcode)) rfl rfl rfl (ok _ (by simp)) (ok _ (by simp)) (ok _ (by simp)) hy hd hR) ⟨PM_blind, fun U hU hWm => HS_pre hG h hU hWm⟩ rfl hn hls rfl (lv_room hW) hdg hf) kk
/-- getfield -/
theorem z_get (X : CallFix p m c cc nL s args big own) (hG : GX Γ s s.heap) (h : HS Γ s W0 H locs) {ref C : String} {T : u_T} {N ci index : Nat} (hin : ∀ w ∈ u_ws C T N, w ∈ big) (q0 : Nat) {fs : List Value} (he : W0[q0]? = some (a, .inr (ci, fs))) (hc : vwCl[ci]? = some (C, T, N)) (k : Nat) (hk : k < N) (hT : (T k).1 = ref) (hlink : Cond.fieldLink own index ref (T k).2.1 (T k).2.2.1 ∈ big) {v : Value} (hv : fs[k]? = some v) (hdg : decode cc pc = .ok (.getfield index, 3))
    (kk : W p l e R s m args below meth c H locs cells slots Q (F0 m (pc + 3) ls (v :: rest))) : W p l e R s m args below meth c H locs cells slots Q (F0 m pc ls (.ref a :: rest)) :=
  va_get X.1 X.2.1 X.2.2.2.2 hin X.2.2.2.1 (GX_K hG) h.1 q0 he hc k hk (X.2.2.2.2 _ hlink) (fun x h9 => by rw [hT] at h9; exact h9) hv hdg kk
/-- putfield of a field that is not final -/
theorem z_put (X : CallFix p m c cc nL s args big own) (hG : GX Γ s s.heap) (h : HS Γ s W0 H locs) {ref C : String} {T : u_T} {N ci index : Nat} (hin : ∀ w ∈ u_ws C T N, w ∈ big) (ty0 : Nat → FieldType) (hty : ∀ k, k < N → parseFieldDescriptor (T k).2.2.1 = some (ty0 k)) (hnm : ∀ a, a < N → ∀ b, b < N → a ≠ b → (T a).2.1 ≠ (T b).2.1) (q0 : Nat) {fs : List Value} (he : W0[q0]? = some (a, .inr (ci, fs))) (hc : vwCl[ci]? = some (C, T, N)) (k : Nat) (hk : k < N) (hT : (T k).1 = ref) (hlink : Cond.fieldLink own index ref (T k).2.1 (T k).2.2.1 ∈ big) (hfin : (T k).2.2.2 = false) {v : Value} (hn : narrow (ty0 k) v = v) (hfit : fits (ty0 k) v = true) (hl : k < fs.length) (hdg : decode cc pc = .ok (.putfield index, 3))
    (kk : ∀ (H1 : Heap) (locs1 : List Loc), HS Γ s (W0.set q0 (a, .inr (ci, fs.set k v))) H1 locs1 → W p l e R s m args below meth c H1 locs1 cells slots Q (F0 m (pc + 3) ls rest)) : W p l e R s m args below meth c H locs cells slots Q (F0 m pc ls (v :: .ref a :: rest)) :=
  va_put X.1 X.2.1 X.2.2.2.2 hin ty0 hty hnm X.2.2.2.1 (GX_K hG) h.1 h.2.1 h.2.2 q0 he hc k hk (X.2.2.2.2 _ hlink) (fun x h9 => by rw [hT] at h9; exact h9) hfin (hty k hk) hn hfit hl hdg (fun H1 locs1 a1 a2 a3 => kk H1 locs1 ⟨a1, a2, a3⟩)
theorem z_putF (X : CallFix p m c cc nL s args big own) (hG : GX Γ s s.heap) (h : HS Γ s W0 H locs) {C : String} {T : u_T} {N ci index : Nat} (hin : ∀ w ∈ u_ws C T N, w ∈ big) (ty0 : Nat → FieldType) (hty : ∀ k, k < N → parseFieldDescriptor (T k).2.2.1 = some (ty0 k)) (hnm : ∀ a, a < N → ∀ b, b < N → a ≠ b → (T a).2.1 ≠ (T b).2.1) (q0 : Nat) {fs : List Value} (he : W0[q0]? = some (a, .inr (ci, fs))) (hc : vwCl[ci]? = some (C, T, N)) (k : Nat) (hk : k < N) (hT : (T k).1 = own) (hlink : Cond.fieldLink own index own (T k).2.1 (T k).2.2.1 ∈ big) (hfin : (T k).2.2.2 = true) (hin2 : meth.name = "<init>") {v : Value} (hn : narrow (ty0 k) v = v) (hfit : fits (ty0 k) v = true) (hl : k < fs.length) (hdg : decode cc pc = .ok (.putfield index, 3))
    (kk : ∀ (H1 : Heap) (locs1 : List Loc), HS Γ s (W0.set q0 (a, .inr (ci, fs.set k v))) H1 locs1 → W p l e R s m args below meth c H1 locs1 cells slots Q (F0 m (pc + 3) ls rest)) : W p l e R s m args below meth c H locs cells slots Q (F0 m pc ls (v :: .ref a :: rest)) :=
  va_putF X.1 X.2.1 X.2.2.2.2 hin ty0 hty hnm X.2.2.2.1 (GX_K hG) h.1 h.2.1 h.2.2 q0 he hc k hk (X.2.2.2.2 _ hlink) (fun x h9 => by rw [hT] at h9; exact h9) hfin hin2 hT (hty k hk) hn hfit hl hdg (fun H1 locs1 a1 a2 a3 => kk H1 locs1 ⟨a1, a2, a3⟩)
/-- int arrays of the world -/
theorem z_iald (X : CallFix p m c cc nL s args big own) (hG : GX Γ s s.heap) (h : HS Γ s W0 H locs) (q0 t0 : Nat) {cA : ClassId} {n : Nat} {f : Nat → Int32} (ha : W0[q0]? = some (a, .inl (cA, n, .inl f))) (ht : (tyG Γ)[t0]? = some (cA, .int)) {i : Int32} (hin : vp_in i n) (hdg : decode cc pc = .ok (.iaload, 1))
    (kk : W p l e R s m args below meth c H locs cells slots Q (F0 m (pc + 1) ls (.int (f i.toNatClampNeg) :: rest))) : W p l e R s m args below meth c H locs cells slots Q (F0 m pc ls (.int i :: .ref a :: rest)) :=
  va_iald X.1 X.2.1 (GX_K hG) h.1 q0 t0 ha ht hin hdg kk
theorem z_iast (X : CallFix p m c cc nL s args big own) (hG : GX Γ s s.heap) (h : HS Γ s W0 H locs) (q0 t0 : Nat) {cA : ClassId} {n : Nat} {f : Nat → Int32} (ha : W0[q0]? = some (a, .inl (cA, n, .inl f))) (ht : (tyG Γ)[t0]? = some (cA, .int)) {i x : Int32} (hin : vp_in i n) (hdg : decode cc pc = .ok (.iastore, 1))
    (kk : ∀ (H1 : Heap) (locs1 : List Loc), HS Γ s (W0.set q0 (a, .inl (cA, n, .inl (upd f i.toNatClampNeg x)))) H1 locs1 → W p l e R s m args below meth c H1 locs1 cells slots Q (F0 m (pc + 1) ls rest)) : W p l e R s m args below meth c H locs cells slots Q (F0 m pc ls (.int x :: .int i :: .ref a :: rest)) :=
  va_iast X.1 X.2.1 (GX_K hG) h.1 h.2.1 h.2.2 q0 t0 ha ht hin hdg (fun H1 locs1 a1 a2 a3 => kk H1 locs1 ⟨a1, a2, a3⟩)
theorem z_aald (X : CallFix p m c cc nL s args big own) (hG : GX Γ s s.heap) (h : HS Γ s W0 H locs) (q0 t0 : Nat) {cA : ClassId} {C : String} {n : Nat} {f : Nat → Option Nat} (ha : W0[q0]? = some (a, .inl (cA, n, .inr (.inr (.inr (.inr f)))))) (ht : (tyG Γ)[t0]? = some (cA, .object C)) {i : Int32} (hin : vp_in i n) (hdg : decode cc pc = .ok (.aaload, 1))
    (kk : W p l e R s m args below meth c H locs cells slots Q (F0 m (pc + 1) ls (va_rf (f i.toNatClampNeg) :: rest))) : W p l e R s m args below meth c H locs cells slots Q (F0 m pc ls (.int i :: .ref a :: rest)) :=
  va_aldq X.1 X.2.1 (GX_K hG) h.1 q0 t0 ha ht hin hdg kk
/-- locals that hold a reference or null -/
theorem z_aload_nQ {k : Fin 4} {i : Nat} {r : Option Nat} (X : CallFix p m c cc nL s args big own) (hdg : decode cc pc = .ok (.aload_n k, 1)) (hi : (k : Nat) = i) (hl : ls[i]? = some (.val (va_rf r))) (kk : W p l e R s m args below meth c H locs cells slots Q (F0 m (pc + 1) ls (va_rf r :: rest))) : W p l e R s m args below meth c H locs cells slots Q (F0 m pc ls rest) := by
  cases r with
  | none => exact lv_aload_nN X.1 X.2.1 hdg hi hl kk
  | some x => exact lv_aload_n X.1 X.2.1 hdg hi hl kk
theorem z_aloadQ {i : Nat} {r : Option Nat} (X : CallFix p m c cc nL s args big own) (hdg : decode cc pc = .ok (.aload i, 2)) (hl : ls[i]? = some (.val (va_rf r))) (kk : W p l e R s m args below meth c H locs cells slots Q (F0 m (pc + 2) ls (va_rf r :: rest))) : W p l e R s m args below meth c H locs cells slots Q (F0 m pc ls rest) := by
  cases r with
  | none => exact lv_aloadN X.1 X.2.1 hdg hl kk
  | some x => exact lv_aload X.1 X.2.1 hdg hl kk
theorem z_ifnullQ {r : Option Nat} {off : Int} {tgt : Nat} (X : CallFix p m c cc nL s args big own) (hdg : decode cc pc = .ok (.ifnull off, 3)) (ht : (pc : Int) + off = (tgt : Int)) (kt : r = none → W p l e R s m args below meth c H locs cells slots Q (F0 m tgt ls rest)) (kf : ∀ x, r = some x → W p l e R s m args below meth c H locs cells slots Q (F0 m (pc + 3) ls rest)) : W p l e R s m args below meth c H locs cells slots Q (F0 m pc ls (va_rf r :: rest)) := by
  cases r with
  | none => exact lv_ifnullN X.1 X.2.1 hdg ht (kt rfl)
  | some x => exact lv_ifnull X.1 X.2.1 hdg (kf x rfl)
theorem z_ifnonnullQ {r : Option Nat} {off : Int} {tgt : Nat} (X : CallFix p m c cc nL s args big own) (hdg : decode cc pc = .ok (.ifnonnull off, 3)) (ht : (pc : Int) + off = (tgt : Int)) (kt : ∀ x, r = some x → W p l e R s m args below meth c H locs cells slots Q (F0 m tgt ls rest)) (kf : r = none → W p l e R s m args below meth c H locs cells slots Q (F0 m (pc + 3) ls rest)) : W p l e R s m args below meth c H locs cells slots Q (F0 m pc ls (va_rf r :: rest)) := by
  cases r with
  | none => exact lv_ifnonnullN X.1 X.2.1 hdg (kf rfl)
  | some x => exact lv_ifnonnull X.1 X.2.1 hdg ht (kt x rfl)
theorem MM_ofF {y : MethodName} {n : Nat} {ret : Option FieldType} {fr lo mc ms : Nat} {as : List Value} {K : Option Value → va_W → Prop} (hy : plainFor y = true) (hsl : (lg_sl as).length ≤ n)
    (body : ∀ (p : Program) (e : Env) (s : State) (m : MethodId) (below : List Frame) (meth : Method) (c : Code), CallFix p m c cc n s as.toArray big y.cls → meth.sig.returnType = ret → meth.locks = false → meth.name = y.name → GX Γ s s.heap → HS Γ s W0 s.heap [] → ∀ ls : Array Slot, lv_has ls n (lv_args 0 as) →
      W p l e { frames := fr, cells := mc, slots := ms, locals := lo } s m as.toArray below meth c s.heap [] 0 0 (MQ below (QM Γ K) as.toArray s mc ms (AA Γ)) (F0 m 0 ls [])) :
    MM l y cc n ret fr lo Γ as W0 K mc ms := by
  refine va_MetF (cc := cc) (maxL := n) (ret := ret) hy rfl ?_
  intro p e s m args below meth c s₁ B hml hv
  obtain ⟨rfl, hG, hP, hD⟩ := hv
  have hts := atoms_spec (ws := wz y cc n ret) B.pre
  have hown : s.vm.findClass y.cls = some m.cls := findClass_of_methodNamed B.named
  have hl := lv_entry as (n := n) hsl
  rw [lg_entry_eq]
  exact body p e s m below meth c ⟨B.exec, B.bytes, hml, hown, fun w hw => hts w (List.mem_cons_of_mem _ hw)⟩ B.returns B.notSynchronized (name_of_methodNamed B.named B.method).1 hG ⟨hP, hD, va_S.rf⟩ _ hl
theorem z_nret {K : Option Value → va_W → Prop} {v : Int32} {ty : FieldType} (X : CallFix p m c cc nL s args big own) (hr : meth.sig.returnType = some ty) (hlk : meth.locks = false) (h : HS Γ s W0 H locs) (hn : narrow ty (.int v) = .int v) (hK : K (some (.int v)) W0) (hdg : decode cc pc = .ok (.ireturn, 1)) :
    W p l e R s m args below meth c H locs cells slots (MQ below (QM Γ K) args s cells slots (AA Γ)) (F0 m pc ls [.int v]) :=
  W.zret X.1 X.2.1 hr hn (fun t ht _ => ⟨_, _, hK, rfl, by rw [ht]; exact h.1, h.2.1, h.2.2.F ht⟩) h.2.2.2.2 hdg hlk
/-- invokevirtual; the receiver's cell is told -/
theorem z_callR {y : MethodName} {bytes : ByteArray} {maxL n index fr lo mc ms : Nat} {ret : Option FieldType} {As : List Value} {K : Option Value → va_W → Prop}
    (X : CallFix p m c cc nL s args big own) (hG : GX Γ s s.heap) (h : HS Γ s W0 H locs) (hls : ls.size = nL)
    (hM : MM l y bytes maxL ret fr lo Γ (.ref a :: As) W0 K mc ms)
    (hw : ∀ w ∈ ([.methodLink own index y, .instanceMethod y, .selects y.cls y y, .initialized y.cls] : List Cond), w ∈ big) (hcode : Cond.code y bytes maxL ret ∈ big)
    (hd : y.cls ≠ "java/lang/invoke/MethodHandle" ∧ y.cls ≠ "java/lang/invoke/VarHandle" ∧ (parseMethodDescriptor y.desc).map (fun d => d.parameters.length) = some n)
    (hR : fr + 1 ≤ R.frames ∧ 8 + (maxL + 11) + lo ≤ R.locals) (hrc : ∃ cell : Cell, H[a]? = some cell ∧ cell.vm.isStatics = false ∧ s.vm.findClass y.cls = some cell.cls) (hn : As.length = n)
    (hW : (rest.map fun v => v.category).sum ≤ 8) (hdg : decode cc pc = .ok (.invokevirtual index, 3)) (hf : cells + mc ≤ R.cells ∧ slots + ms ≤ R.slots)
    (kk : ∀ (v : Option Value) (W1 : va_W), K v W1 → ∀ (H1 : Heap) (locs1 : List Loc), HS Γ s W1 H1 locs1 → W p l e R s m args below meth c H1 locs1 (cells + mc) (slots + ms) Q (F0 m (pc + 3) ls (v.toList ++ rest))) :
    W p l e R s m args below meth c H locs cells slots Q (F0 m pc ls (As.reverse ++ .ref a :: rest)) := by
  refine z_back h (va_runV (g := F0 m pc ls (As.reverse ++ .ref a :: rest)) (As := As) (b := a) (C := y.cls) X hM (cwV n X.2.2.2.2 (big_GoodIn ?_) rfl rfl rfl ⟨rfl, hd⟩ hR) ⟨PM_blind, hrc, fun U hU hWm => HS_pre hG h hU hWm⟩ rfl hn hls rfl (lv_room hW) hdg hf) kk
  intro w hw1
  rcases List.mem_append.mp hw1 with h1 | h1
  · exact hw w h1
  · exact wz_in hcode w h1
/-- a private method of the class above, selected for an object of the class below -/
theorem sel2 {C : String} {x0 y0 y : MethodName} (h0 : (Cond.selects C x0 y0).before args s = true) (hc : y0.cls = y.cls) (hy : y.cls ≠ "java/lang/invoke/MethodHandle" ∧ y.cls ≠ "java/lang/invoke/VarHandle") (hpriv : (Cond.privateMethod y).before args s = true) (hinst : (Cond.instanceMethod y).before args s = true) : (Cond.selects C y y).before args s = true := by
  obtain ⟨c2, r2, m2, q1, -, q3, -, mk2, q5, q6⟩ := Cond.selects_spec h0
  obtain ⟨mk, methM, hnamed, hmethM, -, -⟩ := Cond.instanceMethod_spec hinst
  have hfound : s.methodFound? y.cls y.name y.desc = some mk := State.methodFound?_of_named hnamed hy
  have hcl : mk.cls = m2.cls := Option.some.inj ((findClass_of_methodNamed hnamed).symm.trans (by rw [← hc]; exact findClass_of_methodNamed q3))
  have hsel : selectMethod {} s.vm c2 mk = .method mk := selectMethod_private hmethM (Cond.privateMethod_at hpriv mk methM hnamed hmethM)
  simp only [Cond.before, Cond.holds, Cond.value, q1, hfound, hnamed, hsel, hcl, q5]
  simp; exact q6
/-- invokevirtual of a method of the class above the receiver's -/
theorem z_callU {y : MethodName} {C : String} {bytes : ByteArray} {maxL n index fr lo mc ms ci q0 : Nat} {ret : Option FieldType} {q : vw_C} {fs As : List Value} {K : Option Value → va_W → Prop}
    (X : CallFix p m c cc nL s args big own) (hG : GX Γ s s.heap) (h : HS Γ s W0 H locs) (hls : ls.size = nL)
    (hM : MM l y bytes maxL ret fr lo Γ (.ref a :: As) W0 K mc ms)
    (hw : ∀ w ∈ ([.methodLink own index y, .sameMethod y.cls y.cls y.name y.desc, .instanceMethod y, .initialized y.cls] : List Cond), w ∈ big) (hsel : (Cond.selects C y y).before args s = true) (hcode : Cond.code y bytes maxL ret ∈ big)
    (hd : y.cls ≠ "java/lang/invoke/MethodHandle" ∧ y.cls ≠ "java/lang/invoke/VarHandle" ∧ (parseMethodDescriptor y.desc).map (fun d => d.parameters.length) = some n)
    (hR : fr + 1 ≤ R.frames ∧ 8 + (maxL + 11) + lo ≤ R.locals) (hc : vwCl[ci]? = some q) (hq : q.1 = C) (he : W0[q0]? = some (a, .inr (ci, fs))) (hn : As.length = n)
    (hW : (rest.map fun v => v.category).sum ≤ 8) (hdg : decode cc pc = .ok (.invokevirtual index, 3)) (hf : cells + mc ≤ R.cells ∧ slots + ms ≤ R.slots)
    (kk : ∀ (v : Option Value) (W1 : va_W), K v W1 → ∀ (H1 : Heap) (locs1 : List Loc), HS Γ s W1 H1 locs1 → W p l e R s m args below meth c H1 locs1 (cells + mc) (slots + ms) Q (F0 m (pc + 3) ls (v.toList ++ rest))) :
    W p l e R s m args below meth c H locs cells slots Q (F0 m pc ls (As.reverse ++ .ref a :: rest)) := by
  have hrc : ∃ cell : Cell, H[a]? = some cell ∧ cell.vm.isStatics = false ∧ s.vm.findClass C = some cell.cls := by
    rw [← hq]; exact va_recv (GX_K hG) h.1 hc he
  have ok := fun w hw1 => X.2.2.2.2 w (hw w hw1)
  refine z_back h (va_runU (x := y) (y := y) (owner := y.cls) (g := F0 m pc ls (As.reverse ++ .ref a :: rest)) (As := As) (b := a) (C := C) X hM ⟨⟨rfl, rfl, hR.1, hR.2, pay_in X.2.2.2.2 (big_GoodIn (wz_in hcode)), List.mem_cons_self⟩, X.2.2.2.2 _ hcode, ok _ (by simp), ⟨hd.1, hd.2.1⟩, fun sig h => ?_, ok _ (by simp), ok _ (by simp), va_Decl.of (ok _ (by simp)) (X.2.2.2.2 _ hcode), hsel, ok _ (by simp)⟩ ⟨PM_blind, hrc, fun U hU hWm => HS_pre hG h hU hWm⟩ rfl hn hls rfl (lv_room hW) hdg hf) kk
  have h2 := hd.2.2
  rw [h] at h2
  exact (Option.some.inj h2).symm
/-- invokespecial of the method above -/
theorem z_callSU {y : MethodName} {C : String} {bytes : ByteArray} {maxL n index fr lo mc ms ci q0 : Nat} {ret : Option FieldType} {q : vw_C} {fs As : List Value} {K : Option Value → va_W → Prop}
    (X : CallFix p m c cc nL s args big own) (hG : GX Γ s s.heap) (h : HS Γ s W0 H locs) (hls : ls.size = nL)
    (hM : MM l y bytes maxL ret fr lo Γ (.ref a :: As) W0 K mc ms)
    (hw : ∀ w ∈ ([.methodLink own index y, .sameMethod y.cls y.cls y.name y.desc, .superclass own y.cls, .instanceMethod y, .initialized y.cls] : List Cond), w ∈ big) (hcode : Cond.code y bytes maxL ret ∈ big)
    (hd : y.name ≠ "<init>" ∧ (parseMethodDescriptor y.desc).map (fun d => d.parameters.length) = some n)
    (hR : fr + 1 ≤ R.frames ∧ 8 + (maxL + 11) + lo ≤ R.locals) (hc : vwCl[ci]? = some q) (hq : q.1 = C) (he : W0[q0]? = some (a, .inr (ci, fs))) (hn : As.length = n)
    (hW : (rest.map fun v => v.category).sum ≤ 8) (hdg : decode cc pc = .ok (.invokespecial index, 3)) (hf : cells + mc ≤ R.cells ∧ slots + ms ≤ R.slots)
    (kk : ∀ (v : Option Value) (W1 : va_W), K v W1 → ∀ (H1 : Heap) (locs1 : List Loc), HS Γ s W1 H1 locs1 → W p l e R s m args below meth c H1 locs1 (cells + mc) (slots + ms) Q (F0 m (pc + 3) ls (v.toList ++ rest))) :
    W p l e R s m args below meth c H locs cells slots Q (F0 m pc ls (As.reverse ++ .ref a :: rest)) := by
  have hrc : ∃ cell : Cell, H[a]? = some cell ∧ cell.vm.isStatics = false ∧ s.vm.findClass C = some cell.cls := by
    rw [← hq]; exact va_recv (GX_K hG) h.1 hc he
  have hat : ClassAt s C (Γ.1.1 ci) := by rw [← hq]; exact ((GX_K hG).1 ci q hc).2
  refine z_back h (va_runSU (g := F0 m pc ls (As.reverse ++ .ref a :: rest)) (As := As) (b := a) (C := C) hat X hM (va_cwSU n X.2.2.2.2 (big_GoodIn ?_) rfl rfl rfl hd hR) ⟨PM_blind, hrc, fun U hU hWm => HS_pre hG h hU hWm⟩ rfl hn hls rfl (lv_room hW) hdg hf) kk
  intro w hw1
  rcases List.mem_append.mp hw1 with h1 | h1
  · exact hw w h1
  · exact wz_in hcode w h1
theorem z_bald (X : CallFix p m c cc nL s args big own) (hG : GX Γ s s.heap) (h : HS Γ s W0 H locs) (q0 t0 : Nat) {cA : ClassId} {n : Nat} {f : Nat → Int32} (ha : W0[q0]? = some (a, .inl (cA, n, .inl f))) (ht : (tyG Γ)[t0]? = some (cA, .byte)) {i : Int32} (hin : vp_in i n) (hdg : decode cc pc = .ok (.baload, 1))
    (kk : W p l e R s m args below meth c H locs cells slots Q (F0 m (pc + 1) ls (.int (f i.toNatClampNeg) :: rest))) : W p l e R s m args below meth c H locs cells slots Q (F0 m pc ls (.int i :: .ref a :: rest)) :=
  va_bald X.1 X.2.1 (GX_K hG) h.1 q0 t0 ha ht hin hdg kk
theorem z_bast (X : CallFix p m c cc nL s args big own) (hG : GX Γ s s.heap) (h : HS Γ s W0 H locs) (q0 t0 : Nat) {cA : ClassId} {n : Nat} {f : Nat → Int32} (ha : W0[q0]? = some (a, .inl (cA, n, .inl f))) (ht : (tyG Γ)[t0]? = some (cA, .byte)) {i x : Int32} (hin : vp_in i n) (hdg : decode cc pc = .ok (.bastore, 1))
    (kk : ∀ (H1 : Heap) (locs1 : List Loc), HS Γ s (W0.set q0 (a, .inl (cA, n, .inl (upd f i.toNatClampNeg (vp_nar .byte x))))) H1 locs1 → W p l e R s m args below meth c H1 locs1 cells slots Q (F0 m (pc + 1) ls rest)) : W p l e R s m args below meth c H locs cells slots Q (F0 m pc ls (.int x :: .int i :: .ref a :: rest)) :=
  va_bast X.1 X.2.1 (GX_K hG) h.1 h.2.1 h.2.2 q0 t0 ha ht hin hdg (fun H1 locs1 a1 a2 a3 => kk H1 locs1 ⟨a1, a2, a3⟩)
end ZB
section ZQ
variable {p : Program} {l : Launch} {e : Env} {R : Room} {s : State} {m : MethodId} {args : Array Value} {below : List Frame} {meth : Method} {c : Code} {H : Heap} {locs : List Loc} {cells slots : Nat} {Q : State → Prop}
variable {cc : ByteArray} {nL : Nat} {own : String} {pc : Nat} {ls : Array Slot} {rest : List Value}
theorem z_astore_nQ {k : Fin 4} {i n : Nat} {r : Option Nat} {lv lv' : List (Nat × Value)} (X : CallFix p m c cc nL s args big own) (hdg : decode cc pc = .ok (.astore_n k, 1)) (hi : (k : Nat) = i) (h : lv_has ls n lv) (hn : i < n) (hl : (i, va_rf r) :: lv.filter (fun q => !(q.1 == i) && !(q.1 + 1 == i && q.2.category == 2)) = lv') (kk : ∀ ls' : Array Slot, lv_has ls' n lv' → W p l e R s m args below meth c H locs cells slots Q (F0 m (pc + 1) ls' rest)) : W p l e R s m args below meth c H locs cells slots Q (F0 m pc ls (va_rf r :: rest)) := by
  cases r with
  | none => exact lv_astore_nN X.1 X.2.1 hdg hi h hn hl kk
  | some x => exact lv_astore_n X.1 X.2.1 hdg hi h hn hl kk
theorem z_astoreQ {i n : Nat} {r : Option Nat} {lv lv' : List (Nat × Value)} (X : CallFix p m c cc nL s args big own) (hdg : decode cc pc = .ok (.astore i, 2)) (h : lv_has ls n lv) (hn : i < n) (hl : (i, va_rf r) :: lv.filter (fun q => !(q.1 == i) && !(q.1 + 1 == i && q.2.category == 2)) = lv') (kk : ∀ ls' : Array Slot, lv_has ls' n lv' → W p l e R s m args below meth c H locs cells slots Q (F0 m (pc + 2) ls' rest)) : W p l e R s m args below meth c H locs cells slots Q (F0 m pc ls (va_rf r :: rest)) := by
  cases r with
  | none => exact lv_astoreN X.1 X.2.1 hdg h hn hl kk
  | some x => exact lv_astore X.1 X.2.1 hdg h hn hl kk
end ZQ
