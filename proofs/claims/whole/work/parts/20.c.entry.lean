/-! the law's entry -/
theorem HS_part {Γ : Gm} {s : State} {X cx pl : va_W} {H : Heap} {locs : List Loc} (h : HS Γ s (X ++ pl) H locs) (is : List Nat) (hn : va_nd is = true) (hs : is.map (fun i => X[i]?) = cx.map some) : HS Γ s (cx ++ pl) H locs := ⟨h.1.part is hs, h.2.1.part is hn hs, h.2.2⟩
theorem HS_none {Γ : Gm} {s : State} : HS Γ s [] s.heap [] := ⟨fun k q hk => by simp at hk, ⟨fun i j p q hi => by simp at hi, fun k q hk => by simp at hk⟩, va_S.rf⟩
theorem k_cl_xL_7 : Cond.classLink RxL 7 RxT ∈ big := big_at 72 (by decide +kernel) rfl
theorem k_cl_xL_18 : Cond.classLink RxL 18 RxQ ∈ big := big_at 822 (by decide +kernel) rfl
def PX (Γ : Gm) (b L : Nat) (xs : Nat → Int32) (W0 : va_W) : Array Value → State → Prop := fun a U => PM Γ [.ref b, .int 0] W0 a U ∧ va_X b L xs U U.heap ∧ b < U.heap.size ∧ ¬ AA Γ b
theorem PX_blind {Γ : Gm} {b L : Nat} {xs : Nat → Int32} {W0 : va_W} : FrameBlind (PX Γ b L xs W0) := fun a U g mk h => ⟨PM_blind a U g mk h.1, h.2.1, h.2.2⟩
abbrev sc0 (L : Nat) (xs : Nat → Int32) : Int32 := if L = 0 then 0 else xs 0
theorem cell_met (l : Launch) (Γ : Gm) (b L : Nat) (xs : Nat → Int32) (W0 : va_W) (hL : L ≤ 2561) : Met l yxL_cell (wz yxL_cell cxL_cell 2 (some .int)) { frames := 0, cells := 0, slots := 0, locals := 20 } (PX Γ b L xs W0) (QM Γ (KD (some (.int (sc0 L xs))) W0)) 0 0 (AA Γ) := by
  refine Met.ofW (cc := cxL_cell) (maxL := 2) (ret := some .int) (by decide) rfl ?_
  intro p e s m args below meth c s₁ B hml hv
  obtain ⟨⟨rfl, hG, hP, hD⟩, hX, hbl, hbA⟩ := hv
  have hts := atoms_spec (ws := wz yxL_cell cxL_cell 2 (some .int)) B.pre
  have hown : s.vm.findClass yxL_cell.cls = some m.cls := findClass_of_methodNamed B.named
  have hl := lv_entry [.ref b, .int 0] (n := 2) (Nat.le_of_ble_eq_true rfl)
  rw [lg_entry_eq]
  have X : CallFix p m c cxL_cell 2 s ([.ref b, .int 0] : List Value).toArray big RxL := ⟨B.exec, B.bytes, hml, hown, fun w hw => hts w (List.mem_cons_of_mem _ hw)⟩
  have hr := B.returns
  have hlk := B.notSynchronized
  have h : HS Γ s W0 s.heap [] := ⟨hP, hD, va_S.rf⟩
  have hx := X.1
  have hb := X.2.1
  generalize ((lg_sl [.ref b, .int 0] ++ List.replicate (2 - (lg_sl [.ref b, .int 0]).length) Slot.unset).toArray) = ls at hl ⊢
  have hl : lv_has ls 2 [(0, .ref b), (1, .int 0)] := hl
  refine lv_iload_n hx hb dxL_cell_0 rfl (lv_at hl 1 rfl) ?_
  refine lv_aload_n hx hb dxL_cell_1 rfl (lv_at hl 0 rfl) ?_
  refine va_slen hx hb hX hbl hbA h.2.2 dxL_cell_2 ?_
  have eL : (Int32.ofNat L).toInt = (L : Int) := nI_toInt (by omega)
  refine lv_icmp_ge (tgt := 12) hx hb dxL_cell_3 (by decide) (fun c1 => ?_) (fun c1 => ?_)
  · have hz : L = 0 := by
      rw [Int32.le_iff_toInt_le, eL] at c1
      have e0 : (0 : Int32).toInt = 0 := by decide
      omega
    refine lv_iconst (v := 0) hx hb dxL_cell_12 (by decide) ?_
    exact z_iret X hr hlk h ⟨by rw [show sc0 L xs = 0 from if_pos hz], rfl⟩ dxL_cell_13
  · have hz : 0 < L := by
      rw [Int32.le_iff_toInt_le, eL] at c1
      have e0 : (0 : Int32).toInt = 0 := by decide
      omega
    refine lv_aload_n hx hb dxL_cell_6 rfl (lv_at hl 0 rfl) ?_
    refine lv_iload_n hx hb dxL_cell_7 rfl (lv_at hl 1 rfl) ?_
    refine va_sld hx hb hX hbl hbA h.2.2 (vp_in_nI (n := 0) hz (by omega)) dxL_cell_8 ?_
    refine lv_goto (tgt := 13) hx hb dxL_cell_9 (by decide) ?_
    exact z_iret X hr hlk h ⟨by rw [show sc0 L xs = xs 0 from if_neg (by omega)]; rfl, rfl⟩ dxL_cell_13
/-- the law's call of its own cell -/
theorem z_callX {p : Program} {l : Launch} {e : Env} {R : Room} {s : State} {m : MethodId} {args : Array Value} {below : List Frame} {meth : Method} {c : Code} {H : Heap} {locs : List Loc} {cells slots : Nat} {Q : State → Prop} {cc : ByteArray} {nL : Nat} {pc : Nat} {ls : Array Slot} {rest : List Value} {Γ : Gm} {W0 : va_W} {b L : Nat} {xs : Nat → Int32}
    (X : CallFix p m c cc nL s args big RxL) (hG : GX Γ s s.heap) (h : HS Γ s W0 H locs) (hls : ls.size = nL) (hL : L ≤ 2561) (hX : va_X b L xs s s.heap) (hbl : b < s.heap.size) (hbA : ¬ AA Γ b)
    (hw : ∀ w ∈ ([.methodLink RxL 9 yxL_cell, .static yxL_cell, .initialized yxL_cell.cls] : List Cond), w ∈ big) (hR : 1 ≤ R.frames) (hR2 : 8 + (2 + 11) + 20 ≤ R.locals)
    (hW : (rest.map fun v => v.category).sum ≤ 8) (hf1 : cells + 0 ≤ R.cells) (hf2 : slots + 0 ≤ R.slots) (hdg : decode cc pc = .ok (.invokestatic 9, 3))
    (kk : ∀ (H1 : Heap) (locs1 : List Loc), HS Γ s W0 H1 locs1 → W p l e R s m args below meth c H1 locs1 (cells + 0) (slots + 0) Q (F0 m (pc + 3) ls (.int (sc0 L xs) :: rest))) :
    W p l e R s m args below meth c H locs cells slots Q (F0 m pc ls (.int 0 :: .ref b :: rest)) := by
  have ok := fun w hw1 => X.2.2.2.2 w (hw w hw1)
  exact z_back h (va_runS (g := F0 m pc ls (.int 0 :: .ref b :: rest)) (As := [.ref b, .int 0]) X (cell_met l Γ b L xs W0 hL) ⟨callB_of 2 X.2.2.2.2 (big_GoodIn (wz_in kc_xL_cell)) rfl rfl rfl (ok _ (by simp)) (ok _ (by simp)) (by decide +kernel) ⟨hR, hR2⟩, ok _ (by simp)⟩ ⟨PX_blind, fun U hU hWm => ⟨HS_pre hG h hU hWm, va_X.moved hWm.alike (by rw [hU]; exact hX.kept (h.2.2.2.1 b hbl hbA)), by rw [hU]; exact Nat.lt_of_lt_of_le hbl h.2.2.1, hbA⟩⟩ rfl rfl hls rfl (lv_room hW) hdg ⟨hf1, hf2⟩) (fun v W1 hK H1 locs1 h1 => by obtain ⟨rfl, rfl⟩ := hK; exact kk H1 locs1 h1)
/-- the machine at the start -/
def P0 (q6 : Nat → Int32) (lim : Int32) : Nat → Nat → Int32 := fun a i => if a = 5 then q6 i else if a = 6 then va_cpy gpF (fun _ => 0) 0 0 10 i else if a = 7 then (if i = 0 then 10 else if i = 2 then -1 else if i = 3 then lim else 0) else 0
def rho0 (q6 : Nat → Int32) (lim : Int32) (qb : Nat) : Rh := (fun _ => 0, 0, P0 q6 lim, 1000000000000, qb, fun _ => 0, 16, fun _ => 0)
def S0 : Sg := (fun _ _ => 0, fun _ => none)
def par0 : Nat → Int32 := upd (upd (upd (upd (upd (upd (upd (upd (upd (upd (upd (upd (upd (upd (upd (upd (fun _ => 0) 0 (-1 : Int32)) 1 (7 : Int32)) 2 (7 : Int32)) 3 (7 : Int32)) 4 (7 : Int32)) 5 (8 : Int32)) 6 (7 : Int32)) 7 (9 : Int32)) 8 (0 : Int32)) 9 (0 : Int32)) 10 (0 : Int32)) 11 (0 : Int32)) 12 (0 : Int32)) 13 (0 : Int32)) 14 (0 : Int32)) 15 (0 : Int32)
def rou0 : Nat → Int32 := upd (upd (upd (upd (upd (upd (fun _ => 0) 0 (-1 : Int32)) 1 (-1 : Int32)) 2 (-1 : Int32)) 3 (-1 : Int32)) 4 (-1 : Int32)) 5 (-1 : Int32)
def M0 (lim : Int32) : Rg := fun a i => if a = 15 then rou0 i else if a = 16 then par0 i else if a = 17 then (if i = 0 then 10 else if i = 2 then -1 else if i = 3 then lim else 0) else if a = 27 then (if i = 9 then -1 else if i = 10 then -1 else 0) else 0
abbrev limX (x : Int32) : Int32 := if (1 : Int32) < (if x < 12 then x else 12) then (if x < 12 then x else 12) else 1
abbrev limM (x : Int32) : Int32 := if (1 : Int32) ≤ x then (if x ≤ 12 then x else 12) else 1
theorem lim_eq (x : Int32) : limX x = limM x := by
  unfold limX limM
  have e1 : (1 : Int32).toInt = 1 := by decide
  have e2 : (12 : Int32).toInt = 12 := by decide
  have i32 : ∀ a b : Int32, a.toInt = b.toInt → a = b := fun a b h => Int32.toInt_inj.mp h
  by_cases h1 : x < 12
  · rw [if_pos h1]
    have h1' := h1
    rw [Int32.lt_iff_toInt_lt, e2] at h1'
    have h2 : x ≤ 12 := by rw [Int32.le_iff_toInt_le, e2]; omega
    rw [if_pos h2]
    by_cases h3 : (1 : Int32) < x
    · have h3' := h3
      rw [Int32.lt_iff_toInt_lt, e1] at h3'
      rw [if_pos h3, if_pos (by rw [Int32.le_iff_toInt_le, e1]; omega)]
    · have h3' := h3
      rw [Int32.lt_iff_toInt_lt, e1] at h3'
      rw [if_neg h3]
      by_cases h4 : (1 : Int32) ≤ x
      · have h4' := h4
        rw [Int32.le_iff_toInt_le, e1] at h4'
        rw [if_pos h4]
        exact i32 _ _ (by rw [e1]; omega)
      · rw [if_neg h4]
  · rw [if_neg h1]
    have h1' := h1
    rw [Int32.lt_iff_toInt_lt, e2] at h1'
    rw [if_pos (show (1 : Int32) < 12 by decide), if_pos (show (1 : Int32) ≤ x by rw [Int32.le_iff_toInt_le, e1]; omega)]
    by_cases h2 : x ≤ 12
    · have h2' := h2
      rw [Int32.le_iff_toInt_le, e2] at h2'
      rw [if_pos h2]
      exact i32 _ _ (by rw [e2]; omega)
    · rw [if_neg h2]
theorem wds_eq : (vp_updL (vp_updL (vp_updL (vp_updL (vp_updL (vp_updL (vp_updL (vp_updL (vp_updL (vp_updL (fun _ => 0) 0 22284965284229) 1 480652) 2 55306576122147) 3 9900216) 4 99956) 5 4375176) 6 14476956146) 7 20047340965) 8 5851634) 9 6325598299630 : Nat → Int64) = wds := by
  funext i
  match i with
  | 0 => rfl
  | 1 => rfl
  | 2 => rfl
  | 3 => rfl
  | 4 => rfl
  | 5 => rfl
  | 6 => rfl
  | 7 => rfl
  | 8 => rfl
  | 9 => rfl
  | k + 10 => simp [vp_updL, wds]
set_option maxHeartbeats 4000000 in
set_option maxRecDepth 100000 in
theorem whole_start_of (Inv : Rh → Sg → Rg → Prop) (hI : okAll Inv) (hI0 : ∀ (q6 : Nat → Int32) (x : Int32) (qb : Nat), (∀ j, j < 6 → q6 j = -1) → Inv (rho0 q6 (limX x) qb) S0 (M0 (limX x))) {p : Program} {e : Env} {s : State} {m : MethodId} {below : List Frame} {meth : Method} {c : Code} (l : Launch) {b L : Nat} {xs : Nat → Int32} (hL : L ≤ 2561) (C0 : lw_At p s m meth c b L xs) : W p l e room_1 s m #[Value.ref b] below meth c s.heap [] 0 0 (lw_Z below #[Value.ref b] s) (entryFrame m ([Value.ref b] : List Value).toArray 4) := by
  obtain ⟨hx, hb, hr, hml, hown, hts, hX, hbl, hlk, hgv⟩ := C0
  obtain ⟨Γ, hB, hG⟩ := gx_start hts (flat_of_before _ hgv)
  have hbA : ¬ AA Γ b := Nat.not_le.mpr (by rw [hB]; exact hbl)
  have X : CallFix p m c code 4 s #[Value.ref b] big RxL := ⟨hx, hb, hml, hown, hts_big hts⟩
  have hl := lv_entry [.ref b] (n := 4) (Nat.le_of_ble_eq_true rfl)
  rw [lg_entry_eq]
  generalize ((lg_sl [.ref b] ++ List.replicate (4 - (lg_sl [.ref b]).length) Slot.unset).toArray) = ls at hl ⊢
  have hl : lv_has ls 4 [(0, .ref b)] := hl
  have h : HS Γ s [] s.heap [] := HS_none
  refine va_new (ci := 0) (fs := [.null, .null, .null, .null, .int 0, .long 0, .null, .null]) (C := RxT) (T := TxT) (N := 8) hx hb X.2.2.2.2 in_xT txT oxT X.2.2.2.1 (X.2.2.2.2 _ k_cl_xL_7) (X.2.2.2.2 _ k_is_xT) (X.2.2.2.2 _ k_in_xT) (GX_K hG) h.1 h.2.1 h.2.2 (GX_A hG) rfl (fun j hj => by rcases (show j = 0 ∨ j = 1 ∨ j = 2 ∨ j = 3 ∨ j = 4 ∨ j = 5 ∨ j = 6 ∨ j = 7 by omega) with rfl | rfl | rfl | rfl | rfl | rfl | rfl | rfl <;> rfl) (Nat.le_of_ble_eq_true rfl) (Nat.le_of_ble_eq_true rfl) dxL_law_0 (fun h0 H hP hD hS => ?_)
  have h : HS Γ s ([] ++ [(h0, .inr (0, [.null, .null, .null, .null, .int 0, .long 0, .null, .null]))]) H _ := ⟨hP, hD, hS⟩
  refine lv_dup hx hb dxL_law_3 rfl ?_
  refine lv_aload_n hx hb dxL_law_4 rfl (lv_at hl 0 rfl) ?_
  refine lv_iconst (v := 0) hx hb dxL_law_5 (by decide) ?_
  refine z_callX (rest := [.ref h0, .ref h0]) X hG h hl.1 hL hX hbl hbA kw_xL_9 (Nat.le_of_ble_eq_true rfl) (Nat.le_of_ble_eq_true rfl) (Nat.le_of_ble_eq_true rfl) (Nat.le_of_ble_eq_true rfl) (Nat.le_of_ble_eq_true rfl) dxL_law_6 (fun H locs h => ?_)
  refine z_callI (n := 1) (As := [.int (sc0 L xs)]) (rest := [.ref h0]) X hG h hl.1 (mxT_init l Γ [] h0 (sc0 L xs)) kw_xL_15 kc_xT_init rfl (by decide +kernel) ⟨Nat.le_of_ble_eq_true rfl, Nat.le_of_ble_eq_true rfl⟩ rfl (Nat.le_of_ble_eq_true rfl) dxL_law_9 ⟨Nat.le_of_ble_eq_true rfl, Nat.le_of_ble_eq_true rfl⟩ (fun v W1 hK H locs h => ?_)
  obtain ⟨rfl, q1, q2, q3, q4, q5, q8, q9, q10, q11, v1, v2, v3, v4, q6, T, f7, rfl⟩ := hK
  refine W.eq (g2 := F0 m 12 ls [.ref h0]) rfl ?_
  have h := HS_part (cx := fxX Γ (fun i => [h0, q1, q2, q3, q4, q5, q11, v1, v2, v3, v4, q8, q9].getD i 0, T) (rho0 q6 (limX (sc0 L xs)) q10) S0) h [0, 1, 2, 3, 4, 5, 9, 10, 11, 12, 13, 6, 7, 8] rfl rfl
  have h : HS Γ s (WX Γ (fun i => [h0, q1, q2, q3, q4, q5, q11, v1, v2, v3, v4, q8, q9].getD i 0, T) (rho0 q6 (limX (sc0 L xs)) q10) S0 []) H locs := h
  generalize hθ : ((fun i => [h0, q1, q2, q3, q4, q5, q11, v1, v2, v3, v4, q8, q9].getD i 0, T) : Th) = θ at h
  have hθ0 : h0 = θ.1 0 := by rw [← hθ]; rfl
  rw [hθ0]
  refine lv_astore_n hx hb dxL_law_12 rfl hl (lv' := [(1, .ref (θ.1 0)), (0, .ref b)]) (by decide) rfl (fun ls hl => ?_)
  refine va_new (ci := 8) (fs := [.null, .int 0, .null, .int 0, .null, .null, .null, .null, .null, .int 0, .null, .int 0, .null, .null, .null, .null, .int 0, .null, .null, .null, .int 0, .int 0, .int 0, .int 0, .int 0, .int 0, .int 0, .int 0, .int 0, .int 0, .int 0, .null, .null, .null, .null, .null, .null, .int 0, .int 0, .int 0, .int 0, .int 0, .int 0, .null, .int 0]) (C := RxQ) (T := TxQ) (N := 45) hx hb X.2.2.2.2 in_xQ txQ oxQ X.2.2.2.1 (X.2.2.2.2 _ k_cl_xL_18) (X.2.2.2.2 _ k_is_xQ) (X.2.2.2.2 _ k_in_xQ) (GX_K hG) h.1 h.2.1 h.2.2 (GX_A hG) rfl (fun j hj => by rcases (show j = 0 ∨ j = 1 ∨ j = 2 ∨ j = 3 ∨ j = 4 ∨ j = 5 ∨ j = 6 ∨ j = 7 ∨ j = 8 ∨ j = 9 ∨ j = 10 ∨ j = 11 ∨ j = 12 ∨ j = 13 ∨ j = 14 ∨ j = 15 ∨ j = 16 ∨ j = 17 ∨ j = 18 ∨ j = 19 ∨ j = 20 ∨ j = 21 ∨ j = 22 ∨ j = 23 ∨ j = 24 ∨ j = 25 ∨ j = 26 ∨ j = 27 ∨ j = 28 ∨ j = 29 ∨ j = 30 ∨ j = 31 ∨ j = 32 ∨ j = 33 ∨ j = 34 ∨ j = 35 ∨ j = 36 ∨ j = 37 ∨ j = 38 ∨ j = 39 ∨ j = 40 ∨ j = 41 ∨ j = 42 ∨ j = 43 ∨ j = 44 by omega) with rfl | rfl | rfl | rfl | rfl | rfl | rfl | rfl | rfl | rfl | rfl | rfl | rfl | rfl | rfl | rfl | rfl | rfl | rfl | rfl | rfl | rfl | rfl | rfl | rfl | rfl | rfl | rfl | rfl | rfl | rfl | rfl | rfl | rfl | rfl | rfl | rfl | rfl | rfl | rfl | rfl | rfl | rfl | rfl | rfl <;> rfl) (Nat.le_of_ble_eq_true rfl) (Nat.le_of_ble_eq_true rfl) dxL_law_13 (fun g0 H hP hD hS => ?_)
  have h : HS Γ s (WX Γ θ (rho0 q6 (limX (sc0 L xs)) q10) S0 [] ++ [(g0, .inr (8, [.null, .int 0, .null, .int 0, .null, .null, .null, .null, .null, .int 0, .null, .int 0, .null, .null, .null, .null, .int 0, .null, .null, .null, .int 0, .int 0, .int 0, .int 0, .int 0, .int 0, .int 0, .int 0, .int 0, .int 0, .int 0, .null, .null, .null, .null, .null, .null, .int 0, .int 0, .int 0, .int 0, .int 0, .int 0, .null, .int 0]))]) H _ := ⟨hP, hD, hS⟩
  refine lv_dup hx hb dxL_law_16 rfl ?_
  refine lv_aload_n hx hb dxL_law_17 rfl (lv_at hl 1 rfl) ?_
  refine lv_iconst (v := 0) hx hb dxL_law_18 (by decide) ?_
  refine z_callX (rest := [.ref g0, .ref g0]) X hG h hl.1 hL hX hbl hbA kw_xL_9 (Nat.le_of_ble_eq_true rfl) (Nat.le_of_ble_eq_true rfl) (Nat.le_of_ble_eq_true rfl) (Nat.le_of_ble_eq_true rfl) (Nat.le_of_ble_eq_true rfl) dxL_law_19 (fun H locs h => ?_)
  refine z_callI (n := 1) (As := [.int (sc0 L xs)]) (rest := [.ref g0]) X hG h hl.1 (mxQ_init l Γ (WX Γ θ (rho0 q6 (limX (sc0 L xs)) q10) S0 []) g0 (sc0 L xs)) kw_xL_20 kc_xQ_init rfl (by decide +kernel) ⟨Nat.le_of_ble_eq_true rfl, Nat.le_of_ble_eq_true rfl⟩ rfl (Nat.le_of_ble_eq_true rfl) dxL_law_22 ⟨Nat.le_of_ble_eq_true rfl, Nat.le_of_ble_eq_true rfl⟩ (fun v W1 hK H locs h => ?_)
  obtain ⟨rfl, lim, elim, g1, g2, g3, g4, g5, g6, g7, g8, g9, g10, g11, g12, g13, g14, g15, g16, g17, g18, g19, g20, g21, g22, rfl⟩ := hK
  refine W.eq (g2 := F0 m 25 ls [.ref g0]) rfl ?_
  have elim : lim = limX (sc0 L xs) := by rw [lim_eq]; exact elim
  subst elim
  rw [wds_eq] at h
  have h : HS Γ s (WX Γ θ (rho0 q6 (limX (sc0 L xs)) q10) S0 [] ++ WM Γ (fun i => [g0, g1, g2, g3, g4, g5, g6, g7, g8, g9, g10, g11, g12, g13, g14, g15, g16, g17, g18, g19, g20, g21, g22].getD i 0) (M0 (limX (sc0 L xs))) []) H locs := h
  generalize hθm : (fun i => [g0, g1, g2, g3, g4, g5, g6, g7, g8, g9, g10, g11, g12, g13, g14, g15, g16, g17, g18, g19, g20, g21, g22].getD i 0 : Nat → Nat) = θm at h
  have hm0 : g0 = θm 0 := by rw [← hθm]; rfl
  rw [hm0]
  have e1 : WX Γ θ (rho0 q6 (limX (sc0 L xs)) q10) S0 [] ++ WM Γ θm (M0 (limX (sc0 L xs))) [] = WX Γ θ (rho0 q6 (limX (sc0 L xs)) q10) S0 (WM Γ θm (M0 (limX (sc0 L xs))) []) := by rw [WX_cat]; rfl
  rw [e1] at h
  refine lv_astore_n hx hb dxL_law_25 rfl hl (lv' := [(2, .ref (θm 0)), (1, .ref (θ.1 0)), (0, .ref b)]) (by decide) rfl (fun ls hl => ?_)
  refine lv_iconst (v := 1) hx hb dxL_law_26 (by decide) ?_
  refine lv_istore_n hx hb dxL_law_27 rfl hl (lv' := [(3, .int 1), (2, .ref (θm 0)), (1, .ref (θ.1 0)), (0, .ref b)]) (by decide) rfl (fun ls hl => ?_)
  refine W.widen (k := 400) (n := 10000) (Nat.le_of_ble_eq_true rfl) (Nat.le_of_ble_eq_true rfl) ?_
  exact law_loop Γ θ θm Inv hI hL X hr hlk hG hB hX hbl 513 0 1 _ S0 _ (by omega) rfl (by omega) (hI0 q6 (sc0 L xs) q10 f7) H locs h ls hl
