/-! by hand: Arrays.copyOf and AbstractStringBuilder.ensureCapacityInternal, which make a new row of bytes -/
theorem HS_by {Γ : Gm} {s : State} {W0 W1 : va_W} {H : Heap} {locs : List Loc} (h : HS Γ s W0 H locs) (g : Nat → Nat) (hg : ∀ (k : Nat) (q : Nat × va_E), W1[k]? = some q → W0[g k]? = some q) (hi : ∀ i j : Nat, i < W1.length → j < W1.length → g i = g j → i = j) : HS Γ s W1 H locs :=
  ⟨h.1.by g hg, h.2.1.by g hg hi, h.2.2⟩
/-- the last cell comes to the place of the cell b, which is let go -/
theorem HS_drop {Γ : Gm} {s : State} {A C : va_W} {b d : Nat × va_E} {H : Heap} {locs : List Loc} (h : HS Γ s ((A ++ (b :: C)) ++ [d]) H locs) : HS Γ s (A ++ (d :: C)) H locs := by
  refine HS_by h (fun k => if k = A.length then A.length + 1 + C.length else k) (fun k q hk => ?_) (fun i j hi hj e => ?_)
  · by_cases e : k = A.length
    · subst e
      rw [if_pos rfl]
      rw [List.getElem?_append_right (Nat.le_refl _), Nat.sub_self] at hk
      rw [List.getElem?_append_right (by simp; omega)]
      simp only [List.length_append, List.length_cons]
      rw [show A.length + 1 + C.length - (A.length + (C.length + 1)) = 0 by omega]
      exact hk
    · rw [if_neg e]
      have hlt : k < A.length + 1 + C.length := by
        have := (List.getElem?_eq_some_iff.mp hk).1
        simp at this
        omega
      rw [List.getElem?_append_left (by simp; omega)]
      by_cases h1 : k < A.length
      · rw [List.getElem?_append_left h1] at hk ⊢
        exact hk
      · rw [List.getElem?_append_right (by omega)] at hk ⊢
        obtain ⟨j, hj⟩ : ∃ j, k - A.length = j + 1 := ⟨k - A.length - 1, by omega⟩
        rw [hj] at hk ⊢
        exact hk
  · simp only [List.length_append, List.length_cons] at hi hj
    by_cases e1 : i = A.length <;> by_cases e2 : j = A.length
    · omega
    · rw [if_pos e1, if_neg e2] at e; omega
    · rw [if_neg e1, if_pos e2] at e; omega
    · rw [if_neg e1, if_neg e2] at e; exact e
/-- a new cell's class of bytes is the one that is known -/
theorem byte_cls {Γ : Gm} {s : State} {cA : ClassId} (h : va_K Γ.1 vwCl (tyG Γ ++ [(cA, .byte)]) s) : cA = Γ.2.2.1 3 := by
  have h1 : s.vm.findClass ("[" ++ FieldType.byte.toString) = some cA := (h.2 5 (cA, .byte) rfl).2
  have h2 : s.vm.findClass ("[" ++ FieldType.byte.toString) = some (Γ.2.2.1 3) := (h.2 3 (Γ.2.2.1 3, .byte) rfl).2
  exact Option.some.inj (h1.symm.trans h2)
section JH
variable {p : Program} {l : Launch} {e : Env} {R : Room} {s : State} {m : MethodId} {args : Array Value} {below : List Frame} {meth : Method} {c : Code} {H : Heap} {locs : List Loc} {cells slots : Nat} {Q : State → Prop}
variable {cc : ByteArray} {nL : Nat} {own : String} {pc : Nat} {ls : Array Slot} {rest : List Value} {Γ : Gm} {W0 : va_W} {a : Nat}
theorem z_aretA {K : Option Value → va_W → Prop} {v : Value} {t : FieldType} (X : CallFix p m c cc nL s args big own) (hr : meth.sig.returnType = some (.array t)) (hlk : meth.locks = false) (h : HS Γ s W0 H locs) (hv : v = .null ∨ ∃ a, v = .ref a) (hK : K (some v) W0) (hdg : decode cc pc = .ok (.areturn, 1)) :
    W p l e R s m args below meth c H locs cells slots (MQ below (QM Γ K) args s cells slots (AA Γ)) (F0 m pc ls [v]) :=
  W.aret X.1 X.2.1 hr (Or.inr ⟨_, rfl⟩) hv (fun t ht _ => ⟨_, _, hK, rfl, by rw [ht]; exact h.1, h.2.1, h.2.2.F ht⟩) h.2.2.2.2 hdg hlk
end JH
theorem k_bytes : Cond.arrayClass FieldType.byte ∈ big := big_at 157 (by decide +kernel) rfl
abbrev cpB (ρ : Rh) : Nat → Int32 := va_cpy ρ.2.2.2.2.2.1 (fun _ => 0) 0 0 ρ.2.2.2.2.2.2.1
set_option maxHeartbeats 4000000 in
set_option maxRecDepth 100000 in
theorem mxY_copyOf (l : Launch) (Γ : Gm) (θ : Th) (ρ : Rh) (S : Sg) (Z : va_W) (x : Int32) (n : Nat) (hx0 : x = nI n) (hn : ρ.2.2.2.2.2.2.1 < n) (hn2 : n ≤ 65536) (hfit : ∀ i, i < ρ.2.2.2.2.2.2.1 → fits .byte (.int (ρ.2.2.2.2.2.1 i)) = true) :
    MM l yxY_copyOf cxY_copyOf 3 (some (.array .byte)) 1 60 Γ [.ref ρ.2.2.2.2.1, .int x] (WX Γ θ ρ S Z) (fun v W1 => ∃ q : Nat, v = some (.ref q) ∧ W1 = WX Γ θ ρ S Z ++ [(q, .inl (Γ.2.2.1 3, n, .inl (cpB ρ)))]) 1 n := by
  refine MM_ofF (by decide +kernel) (Nat.le_of_ble_eq_true rfl) ?_
  intro p e s m below meth c X hr hlk hnm hG h ls hl
  have hx := X.1
  have hb := X.2.1
  have hl : lv_has ls 3 [(0, .ref ρ.2.2.2.2.1), (1, .int x)] := hl
  have hne : ¬ x = Int32.ofNat ρ.2.2.2.2.2.2.1 := fun z => by
    have := (nI_eq (a := n) (b := ρ.2.2.2.2.2.2.1) (by omega) (by omega)).mp (hx0.symm.trans z)
    omega
  refine lv_iload_n hx hb dxY_copyOf_0 rfl (lv_at hl 1 rfl) ?_
  refine lv_aload_n hx hb dxY_copyOf_1 rfl (lv_at hl 0 rfl) ?_
  refine bl_len X hG h dxY_copyOf_2 ?_
  refine lv_icmp_ne (tgt := 14) hx hb dxY_copyOf_3 (by decide) (fun c1 => ?_) (fun c1 => absurd c1 hne)
  refine lv_iload_n hx hb dxY_copyOf_14 rfl (lv_at hl 1 rfl) ?_
  refine va_newa (atype := .byte) (ty := .byte) (N' := n) (a0 := (n, .inl (fun _ => 0))) hx hb (X.2.2.2.2 _ k_bytes) rfl (GX_K hG) h.1 h.2.1 h.2.2 (GX_A hG) (fun _ => rfl) (by rw [hx0]; exact nI_pos (by omega)) (by rw [hx0]; exact nI_clamp (by omega)) (by simp [componentBytes]; omega) (by simp) (by simp) dxY_copyOf_15 (fun q cA H hK hP hD hS => ?_)
  have hcA := byte_cls hK
  subst hcA
  have h : HS Γ s (WX Γ θ ρ S Z ++ [(q, .inl (Γ.2.2.1 3, n, .inl (fun _ => 0)))]) H [] := ⟨hP, hD, hS⟩
  refine lv_astore_n (lv' := [(2, .ref q), (0, .ref ρ.2.2.2.2.1), (1, .int x)]) hx hb dxY_copyOf_17 rfl hl (by decide) rfl (fun ls hl => ?_)
  refine lv_aload_n hx hb dxY_copyOf_18 rfl (lv_at hl 1 rfl) ?_
  refine lv_iconst (v := 0) hx hb dxY_copyOf_19 (by decide) ?_
  refine lv_aload_n hx hb dxY_copyOf_20 rfl (lv_at hl 0 rfl) ?_
  refine lv_iconst (v := 0) hx hb dxY_copyOf_21 (by decide) ?_
  refine lv_aload_n hx hb dxY_copyOf_22 rfl (lv_at hl 1 rfl) ?_
  refine va_alen (x := (ρ.2.2.2.2.2.2.1, .inl ρ.2.2.2.2.2.1)) (v := nI ρ.2.2.2.2.2.2.1) hx hb (GX_K hG) h.1 13 3 rfl rfl rfl dxY_copyOf_23 ?_
  refine lv_iload_n hx hb dxY_copyOf_24 rfl (lv_at hl 2 rfl) ?_
  refine va_mmin hx hb (by rw [hl.1]; exact X.2.2.1) X.2.2.2.1 (X.2.2.2.2 _ kM_xY_304.1) (X.2.2.2.2 _ kM_xY_304.2.1) (X.2.2.2.2 _ kM_xY_304.2.2.1) (X.2.2.2.2 _ kM_xY_304.2.2.2) (Nat.le_refl 1) (Nat.le_of_ble_eq_true rfl) (by simp) (by simp) dxY_copyOf_25 ?_
  have emin : (if x < nI ρ.2.2.2.2.2.2.1 then x else nI ρ.2.2.2.2.2.2.1) = nI ρ.2.2.2.2.2.2.1 := if_neg (by rw [hx0]; exact nI_nlt (by omega) (by omega))
  rw [emin]
  have ec : (nI ρ.2.2.2.2.2.2.1).toNatClampNeg = ρ.2.2.2.2.2.2.1 := nI_clamp (by omega)
  have e0 : (0 : Int32).toNatClampNeg = 0 := rfl
  have hlast : (WX Γ θ ρ S Z ++ [((q, .inl (Γ.2.2.1 3, n, .inl (fun _ => 0))) : Nat × va_E)])[(WX Γ θ ρ S Z).length]? = some (q, .inl (Γ.2.2.1 3, n, .inl (fun _ => 0))) := by
    rw [List.getElem?_append_right (Nat.le_refl _), Nat.sub_self]; rfl
  have hk : nativeFrameWords "java/lang/System" "arraycopy" 5 + 11 ≤ 40 := by decide +kernel
  refine va_copyi (ty := .byte) hx hb (by rw [hl.1]; exact X.2.2.1) X.2.2.2.1 (X.2.2.2.2 _ kY_xY_150.1) (X.2.2.2.2 _ kY_xY_150.2.1) (X.2.2.2.2 _ kY_xY_150.2.2.1) (X.2.2.2.2 _ kY_xY_150.2.2.2) (GX_K hG) h.1 h.2.1 h.2.2 13 (WX Γ θ ρ S Z).length 3 3 rfl hlast rfl rfl rfl (by decide) (by decide) (nI_pos (by omega)) (by rw [ec, e0]; omega) (by rw [ec, e0]; omega) (fun i hi => by rw [ec] at hi; rw [e0, Nat.zero_add]; exact hfit i hi) (Nat.le_refl 1) (Nat.le_trans (Nat.add_le_add_left hk _) (Nat.le_of_ble_eq_true rfl)) dxY_copyOf_28 (fun H locs a1 a2 a3 => ?_)
  rw [ec, e0] at a1 a2
  have es : (WX Γ θ ρ S Z ++ [((q, .inl (Γ.2.2.1 3, n, .inl (fun _ => 0))) : Nat × va_E)]).set (WX Γ θ ρ S Z).length (q, .inl (Γ.2.2.1 3, n, .inl (va_cpy ρ.2.2.2.2.2.1 (fun _ => 0) 0 0 ρ.2.2.2.2.2.2.1))) = WX Γ θ ρ S Z ++ [(q, .inl (Γ.2.2.1 3, n, .inl (cpB ρ)))] := by
    rw [List.set_append_right _ _ (Nat.le_refl _), Nat.sub_self]; rfl
  rw [es] at a1 a2
  refine lv_aload_n hx hb dxY_copyOf_31 rfl (lv_at hl 0 rfl) ?_
  refine W.widen (k := 1) (n := n) (by omega) (by omega) ?_
  exact z_aretA X hr hlk ⟨a1, a2, a3⟩ (Or.inr ⟨_, rfl⟩) ⟨q, rfl, rfl⟩ dxY_copyOf_32
def wxA_ensureCapacityInternal (post : Unit → Rh → Sg → Prop) (ρ : Rh) (S : Sg) (x : Int32) (mc ms : Nat) : Prop :=
  ((x - (Int32.ofNat ρ.2.2.2.2.2.2.1 >>> ((0 : Int32) &&& 31))) ≤ (0 : Int32) → post () ρ S) ∧
  (¬ ((x - (Int32.ofNat ρ.2.2.2.2.2.2.1 >>> ((0 : Int32) &&& 31))) ≤ (0 : Int32)) → wxA_newCapacity (fun r S1 => ∃ n : Nat, r <<< ((0 : Int32) &&& 31) = nI n ∧ ρ.2.2.2.2.2.2.1 < n ∧ n ≤ 65536 ∧ (∀ i, i < ρ.2.2.2.2.2.2.1 → fits .byte (.int (ρ.2.2.2.2.2.1 i)) = true) ∧ (1 ≤ mc ∧ n ≤ ms) ∧ ∀ q : Nat, post () (rV ρ q (cpB ρ) n) S1) ρ S x)
set_option maxHeartbeats 4000000 in
set_option maxRecDepth 100000 in
theorem mxA_ensureCapacityInternal (l : Launch) (Γ : Gm) (θ : Th) (ρ : Rh) (S : Sg) (Z : va_W) (x : Int32) (mc ms : Nat) (post : Unit → Rh → Sg → Prop) (hw : wxA_ensureCapacityInternal post ρ S x mc ms) :
    MM l yxA_ensureCapacityInternal cxA_ensureCapacityInternal 3 none 3 100 Γ [.ref (θ.1 12), .int x] (WX Γ θ ρ S Z) (KK (fun _ : Unit => none) (fun q : Rh × Sg => WX Γ θ q.1 q.2 Z) (fun r q => post r q.1 q.2)) mc ms := by
  refine MM_ofF (by decide +kernel) (Nat.le_of_ble_eq_true rfl) ?_
  intro p e s m below meth c X hr hlk hnm hG h ls hl
  have hx := X.1
  have hb := X.2.1
  have hl : lv_has ls 3 [(0, .ref (θ.1 12)), (1, .int x)] := hl
  unfold wxA_ensureCapacityInternal at hw
  refine lv_aload_n hx hb dxA_ensureCapacityInternal_0 rfl (lv_at hl 0 rfl) ?_
  refine gx_xA_15 X hG h dxA_ensureCapacityInternal_1 ?_
  refine bl_len X hG h dxA_ensureCapacityInternal_4 ?_
  refine lv_aload_n hx hb dxA_ensureCapacityInternal_5 rfl (lv_at hl 0 rfl) ?_
  refine gx_xA_22 X hG h dxA_ensureCapacityInternal_6 ?_
  refine lv_ishr hx hb dxA_ensureCapacityInternal_9 ?_
  refine lv_istore_n (lv' := [(2, .int (Int32.ofNat ρ.2.2.2.2.2.2.1 >>> ((0 : Int32) &&& 31))), (0, .ref (θ.1 12)), (1, .int x)]) hx hb dxA_ensureCapacityInternal_10 rfl hl (by decide) rfl (fun ls hl => ?_)
  refine lv_iload_n hx hb dxA_ensureCapacityInternal_11 rfl (lv_at hl 2 rfl) ?_
  refine lv_iload_n hx hb dxA_ensureCapacityInternal_12 rfl (lv_at hl 0 rfl) ?_
  refine lv_isub hx hb dxA_ensureCapacityInternal_13 ?_
  refine lv_if_le (tgt := 38) hx hb dxA_ensureCapacityInternal_14 (by decide) (fun c1 => ?_) (fun c1 => ?_)
  · have hw := hw.1 c1
    refine W.widen (k := mc) (n := ms) (Nat.zero_le _) (Nat.zero_le _) ?_
    exact z_vret X hr hlk h ⟨_, (ρ, S), rfl, rfl, hw⟩ dxA_ensureCapacityInternal_38
  · have hw := hw.2 c1
    refine lv_aload_n hx hb dxA_ensureCapacityInternal_17 rfl (lv_at hl 1 rfl) ?_
    refine lv_aload_n hx hb dxA_ensureCapacityInternal_18 rfl (lv_at hl 1 rfl) ?_
    refine gx_xA_15 X hG h dxA_ensureCapacityInternal_19 ?_
    refine lv_aload_n hx hb dxA_ensureCapacityInternal_22 rfl (lv_at hl 1 rfl) ?_
    refine lv_iload_n hx hb dxA_ensureCapacityInternal_23 rfl (lv_at hl 2 rfl) ?_
    refine cx_xA_104 (As := [.int x]) (rest := [.ref ρ.2.2.2.2.1, .ref (θ.1 12)]) X hG h hl.1 (mxA_newCapacity l Γ θ ρ S Z x _ hw) ⟨show 2 + 1 ≤ 3 from by omega, show 8 + (6 + 11) + 44 ≤ 100 from by omega⟩ (q0 := 12) rfl rfl (Nat.le_of_ble_eq_true rfl) dxA_ensureCapacityInternal_24 ⟨Nat.zero_le _, Nat.zero_le _⟩ (fun v W1 hK H locs h => ?_)
    obtain ⟨r, S1, rfl, rfl, n, hn, hlt, hle, hfit, hbud, hw⟩ := hK
    refine W.eq (g2 := F0 m 27 ls [.int r, .ref ρ.2.2.2.2.1, .ref (θ.1 12)]) rfl ?_
    refine lv_aload_n hx hb dxA_ensureCapacityInternal_27 rfl (lv_at hl 1 rfl) ?_
    refine gx_xA_22 X hG h dxA_ensureCapacityInternal_28 ?_
    refine lv_ishl hx hb dxA_ensureCapacityInternal_31 ?_
    refine cx_xA_108 (As := [.ref ρ.2.2.2.2.1, .int (r <<< ((0 : Int32) &&& 31))]) (rest := [.ref (θ.1 12)]) X hG h hl.1 (mxY_copyOf l Γ θ ρ S1 Z _ n hn hlt hle hfit) ⟨show 1 + 1 ≤ 3 from by omega, show 8 + (3 + 11) + 60 ≤ 100 from by omega⟩ rfl (Nat.le_of_ble_eq_true rfl) dxA_ensureCapacityInternal_32 ⟨by simpa using hbud.1, by simpa using hbud.2⟩ (fun v W1 hK H locs h => ?_)
    obtain ⟨q, rfl, rfl⟩ := hK
    refine W.eq (g2 := F0 m 35 ls [.ref q, .ref (θ.1 12)]) rfl ?_
    refine z_put X hG h in_xB txB oxB nxB 12 rfl rfl 0 (by decide) rfl kF_xA_15 rfl rfl rfl (Nat.le_of_ble_eq_true rfl) dxA_ensureCapacityInternal_35 (fun H locs h => ?_)
    have h : HS Γ s (WX Γ θ (rV ρ q (cpB ρ) n) S1 Z) H locs := HS_drop (A := (fxX Γ θ (rV ρ q (cpB ρ) n) S1).take 13) (b := (ρ.2.2.2.2.1, .inl (Γ.2.2.1 3, ρ.2.2.2.2.2.2.1, .inl ρ.2.2.2.2.2.1))) (d := (q, .inl (Γ.2.2.1 3, n, .inl (cpB ρ)))) (C := pz 300 (thX θ S1) ++ (pz ρ.2.1 (noX ρ) ++ Z)) h
    refine W.widen (k := mc) (n := ms) (by omega) (by omega) ?_
    exact z_vret X hr hlk h ⟨_, (rV ρ q (cpB ρ) n, S1), rfl, rfl, hw q⟩ dxA_ensureCapacityInternal_38
