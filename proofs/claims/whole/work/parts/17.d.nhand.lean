/-! by hand: Node's constructor and Program.add, which makes a node -/
theorem last_at {W1 : va_W} {c : Nat × va_E} : (W1 ++ [c])[W1.length]? = some c := by
  rw [List.getElem?_append_right (Nat.le_refl _), Nat.sub_self]; rfl
theorem last_set {W1 : va_W} {c d : Nat × va_E} : (W1 ++ [c]).set W1.length d = W1 ++ [d] := by
  rw [List.set_append_right _ _ (Nat.le_refl _), Nat.sub_self]; rfl
/-- the last cell comes ahead of C -/
theorem HS_ins {Γ : Gm} {s : State} {A C : va_W} {d : Nat × va_E} {H : Heap} {locs : List Loc} (h : HS Γ s ((A ++ C) ++ [d]) H locs) : HS Γ s (A ++ (d :: C)) H locs := by
  refine HS_by h (fun k => if k < A.length then k else if k = A.length then A.length + C.length else k - 1) (fun k q hk => ?_) (fun i j hi hj e => ?_)
  · have hlt : k < A.length + (C.length + 1) := by
      have := (List.getElem?_eq_some_iff.mp hk).1
      simpa using this
    by_cases h1 : k < A.length
    · rw [if_pos h1]
      rw [List.getElem?_append_left h1] at hk
      rw [List.getElem?_append_left (by simp; omega), List.getElem?_append_left h1]
      exact hk
    · rw [if_neg h1]
      rw [List.getElem?_append_right (by omega)] at hk
      by_cases h2 : k = A.length
      · rw [if_pos h2]
        rw [h2, Nat.sub_self] at hk
        rw [List.getElem?_append_right (by simp)]
        simp only [List.length_append, Nat.sub_self]
        exact hk
      · rw [if_neg h2]
        obtain ⟨j, hj⟩ : ∃ j, k - A.length = j + 1 := ⟨k - A.length - 1, by omega⟩
        rw [hj] at hk
        rw [List.getElem?_append_left (by simp; omega), List.getElem?_append_right (by omega)]
        rw [show k - 1 - A.length = j by omega]
        exact hk
  · simp only [List.length_append, List.length_cons] at hi hj
    split at e <;> split at e <;> (try split at e) <;> (try split at e) <;> omega
theorem k_oiN : Cond.methodLink RxN 1 Lib.objectInit ∈ big := big_at 336 (by decide +kernel) rfl
theorem k_oiI : Cond.instanceMethod Lib.objectInit ∈ big := big_at 78 (by decide +kernel) rfl
theorem k_oiC : Cond.code Lib.objectInit ⟨#[0xb1]⟩ 1 none ∈ big := big_at 79 (by decide +kernel) rfl
abbrev ndE (k a b c v : Int32) : va_E := .inr (6, [.int k, .int a, .int b, .int c, .int v])
set_option maxHeartbeats 4000000 in
set_option maxRecDepth 100000 in
theorem mxN_init (l : Launch) (Γ : Gm) (W1 : va_W) (q : Nat) (k a b d v : Int32) : MM l yxN_init cxN_init 6 none 1 30 Γ [.ref q, .int k, .int a, .int b, .int d, .int v] (W1 ++ [(q, ndE 0 0 0 0 0)]) (KD none (W1 ++ [(q, ndE k a b d v)])) 0 0 := by
  refine MM_of (by decide) (Nat.le_of_ble_eq_true rfl) ?_
  intro p e s m below meth c X hr hlk hnm hG h ls hl
  have hx := X.1
  have hb := X.2.1
  have hl : lv_has ls 6 [(0, .ref q), (1, .int k), (2, .int a), (3, .int b), (4, .int d), (5, .int v)] := hl
  have hin : meth.name = "<init>" := hnm
  refine lv_aload_n hx hb dxN_init_0 rfl (lv_at hl 0 rfl) ?_
  refine W.objInit hx hb X.2.2.2.1 (X.2.2.2.2 _ k_oiN) (X.2.2.2.2 _ k_oiI) (X.2.2.2.2 _ k_oiC) rfl (by rw [X.2.2.1]; exact hl.1) rfl dxN_init_1 (Nat.le_refl 1) (Nat.le_of_ble_eq_true rfl) ?_
  refine W.eq (g2 := F0 m 4 ls []) rfl ?_
  refine lv_aload_n hx hb dxN_init_4 rfl (lv_at hl 0 rfl) ?_
  refine lv_iload_n hx hb dxN_init_5 rfl (lv_at hl 1 rfl) ?_
  refine z_putF X hG h in_xN txN oxN nxN W1.length last_at rfl 0 (by decide) rfl kF_xN_7 rfl hin rfl rfl (Nat.le_of_ble_eq_true rfl) dxN_init_6 (fun H locs h => ?_)
  rw [last_set] at h
  refine lv_aload_n hx hb dxN_init_9 rfl (lv_at hl 0 rfl) ?_
  refine lv_iload_n hx hb dxN_init_10 rfl (lv_at hl 2 rfl) ?_
  refine z_putF X hG h in_xN txN oxN nxN W1.length last_at rfl 1 (by decide) rfl kF_xN_13 rfl hin rfl rfl (Nat.le_of_ble_eq_true rfl) dxN_init_11 (fun H locs h => ?_)
  rw [last_set] at h
  refine lv_aload_n hx hb dxN_init_14 rfl (lv_at hl 0 rfl) ?_
  refine lv_iload_n hx hb dxN_init_15 rfl (lv_at hl 3 rfl) ?_
  refine z_putF X hG h in_xN txN oxN nxN W1.length last_at rfl 2 (by decide) rfl kF_xN_16 rfl hin rfl rfl (Nat.le_of_ble_eq_true rfl) dxN_init_16 (fun H locs h => ?_)
  rw [last_set] at h
  refine lv_aload_n hx hb dxN_init_19 rfl (lv_at hl 0 rfl) ?_
  refine lv_iload hx hb dxN_init_20 (lv_at hl 4 rfl) ?_
  refine z_putF X hG h in_xN txN oxN nxN W1.length last_at rfl 3 (by decide) rfl kF_xN_19 rfl hin rfl rfl (Nat.le_of_ble_eq_true rfl) dxN_init_22 (fun H locs h => ?_)
  rw [last_set] at h
  refine lv_aload_n hx hb dxN_init_25 rfl (lv_at hl 0 rfl) ?_
  refine lv_iload hx hb dxN_init_26 (lv_at hl 5 rfl) ?_
  refine z_putF X hG h in_xN txN oxN nxN W1.length last_at rfl 4 (by decide) rfl kF_xN_22 rfl hin rfl rfl (Nat.le_of_ble_eq_true rfl) dxN_init_28 (fun H locs h => ?_)
  rw [last_set] at h
  exact z_vret X hr hlk h ⟨rfl, rfl⟩ dxN_init_31
/-- one node more -/
def rN (ρ : Rh) (q : Nat) (k a b c v : Int32) : Rh := (va_up ρ.1 ρ.2.1 q, ρ.2.1 + 1, uu (uu (uu (uu (uu (uu ρ.2.2.1 0 ρ.2.1 k) 1 ρ.2.1 a) 2 ρ.2.1 b) 3 ρ.2.1 c) 4 ρ.2.1 v) 7 1 (ρ.2.2.1 7 1 + 1), ρ.2.2.2)
def wxP_add (post : Int32 → Rh → Sg → Prop) (ρ : Rh) (S : Sg) (x a b q : Int32) (mc ms : Nat) : Prop := (vp_in (ρ.2.2.1 7 1) 64 ∧ (ρ.2.2.1 7 1).toNatClampNeg = ρ.2.1 ∧ 1 ≤ mc ∧ 5 ≤ ms) ∧ wxP_levelOf (fun r S1 => ∀ adr : Nat, post ((ρ.2.2.1 7 1 + 1) - 1) (rN ρ adr x a b q r) S1) ρ S x a b q
theorem noX_old {ρ : Rh} {q k : Nat} {x a b c v : Int32} (h : k < ρ.2.1) : noX (rN ρ q x a b c v) k = noX ρ k := by
  have hk : k ≠ ρ.2.1 := by omega
  simp [noX, rN, uu, upd, va_up, hk]
theorem noX_new {ρ : Rh} {q : Nat} {x a b c v : Int32} : noX (rN ρ q x a b c v) ρ.2.1 = (q, ndE x a b c v) := by
  simp [noX, rN, uu, upd, va_up, ndE]
theorem pz_succ {n : Nat} {f : Nat → Nat × va_E} : pz (n + 1) f = pz n f ++ [f n] := by simp [pz, List.range_succ]
theorem nod_fun {ρ : Rh} {q : Nat} : va_up (fun j => if j < ρ.2.1 then some (ρ.1 j) else none) ρ.2.1 (some q) = fun j => if j < ρ.2.1 + 1 then some (va_up ρ.1 ρ.2.1 q j) else none := by
  funext j
  simp only [va_up]
  by_cases h : j = ρ.2.1
  · rw [if_pos h, if_pos h, if_pos (by omega)]
  · rw [if_neg h, if_neg h]
    by_cases h2 : j < ρ.2.1
    · rw [if_pos h2, if_pos (by omega)]
    · rw [if_neg h2, if_neg (by omega)]
theorem WX_cat {Γ : Gm} {θ : Th} {ρ : Rh} {S : Sg} {Z Y : va_W} : WX Γ θ ρ S Z ++ Y = WX Γ θ ρ S (Z ++ Y) := by simp [WX, List.append_assoc]
/-- the program's cells with one node more -/
theorem WX_add {Γ : Gm} {θ : Th} {ρ : Rh} {S : Sg} {Z : va_W} {q : Nat} {x a b c v : Int32} {s : State} {H : Heap} {locs : List Loc}
    (h : HS Γ s ((fxX Γ θ (rN ρ q x a b c v) S ++ (pz 300 (thX θ S) ++ (pz ρ.2.1 (noX ρ) ++ Z))) ++ [(q, ndE x a b c v)]) H locs) : HS Γ s (WX Γ θ (rN ρ q x a b c v) S Z) H locs := by
  have e1 : WX Γ θ (rN ρ q x a b c v) S Z = (fxX Γ θ (rN ρ q x a b c v) S ++ (pz 300 (thX θ S) ++ pz ρ.2.1 (noX ρ))) ++ ((q, ndE x a b c v) :: Z) := by
    unfold WX
    rw [show (rN ρ q x a b c v).2.1 = ρ.2.1 + 1 from rfl, pz_succ (n := ρ.2.1), noX_new, pz_congr (n := ρ.2.1) (f := noX (rN ρ q x a b c v)) (fun i hi => noX_old (ρ := ρ) hi)]
    simp [List.append_assoc]
  rw [e1]
  apply HS_ins
  have e2 : (fxX Γ θ (rN ρ q x a b c v) S ++ (pz 300 (thX θ S) ++ pz ρ.2.1 (noX ρ))) ++ Z = fxX Γ θ (rN ρ q x a b c v) S ++ (pz 300 (thX θ S) ++ (pz ρ.2.1 (noX ρ) ++ Z)) := by simp [List.append_assoc]
  rw [e2]
  exact h
set_option maxHeartbeats 4000000 in
set_option maxRecDepth 100000 in
theorem mxP_add (l : Launch) (Γ : Gm) (θ : Th) (ρ : Rh) (S : Sg) (Z : va_W) (x a b q : Int32) (mc ms : Nat) (post : Int32 → Rh → Sg → Prop) (hw : wxP_add post ρ S x a b q mc ms) :
    MM l yxP_add cxP_add 5 (some .int) 3 80 Γ [.ref (θ.1 3), .int x, .int a, .int b, .int q] (WX Γ θ ρ S Z) (KK (fun r : Int32 => some (.int r)) (fun q : Rh × Sg => WX Γ θ q.1 q.2 Z) (fun r q => post r q.1 q.2)) mc ms := by
  refine MM_of (by decide) (Nat.le_of_ble_eq_true rfl) ?_
  intro p e s m below meth c X hr hlk hnm hG h ls hl
  have hx := X.1
  have hb := X.2.1
  have hl : lv_has ls 5 [(0, .ref (θ.1 3)), (1, .int x), (2, .int a), (3, .int b), (4, .int q)] := hl
  obtain ⟨⟨hi, hn, hmc, hms⟩, hw⟩ := hw
  refine lv_aload_n hx hb dxP_add_0 rfl (lv_at hl 0 rfl) ?_
  refine gx_xP_11 X hG h dxP_add_1 ?_
  refine lv_aload_n hx hb dxP_add_4 rfl (lv_at hl 0 rfl) ?_
  refine gx_xP_19 X hG h (x := ρ.2.2.1 7 1) rfl dxP_add_5 ?_
  refine va_new (ci := 6) (fs := [.int 0, .int 0, .int 0, .int 0, .int 0]) (C := RxN) (T := TxN) (N := 5) hx hb X.2.2.2.2 in_xN txN oxN X.2.2.2.1 (X.2.2.2.2 _ k_clN) (X.2.2.2.2 _ k_insN) (X.2.2.2.2 _ k_iniN) (GX_K hG) h.1 h.2.1 h.2.2 (GX_A hG) rfl (fun j hj => by rcases (show j = 0 ∨ j = 1 ∨ j = 2 ∨ j = 3 ∨ j = 4 by omega) with rfl | rfl | rfl | rfl | rfl <;> rfl) (by simpa using hmc) (by simpa using hms) dxP_add_8 (fun adr H hP hD hS => ?_)
  have h : HS Γ s (WX Γ θ ρ S (Z ++ [(adr, ndE 0 0 0 0 0)])) H [] := by rw [← WX_cat]; exact ⟨hP, hD, hS⟩
  refine lv_dup hx hb dxP_add_11 rfl ?_
  refine lv_iload_n hx hb dxP_add_12 rfl (lv_at hl 1 rfl) ?_
  refine lv_iload_n hx hb dxP_add_13 rfl (lv_at hl 2 rfl) ?_
  refine lv_iload_n hx hb dxP_add_14 rfl (lv_at hl 3 rfl) ?_
  refine lv_iload hx hb dxP_add_15 (lv_at hl 4 rfl) ?_
  refine lv_aload_n hx hb dxP_add_17 rfl (lv_at hl 0 rfl) ?_
  refine lv_iload_n hx hb dxP_add_18 rfl (lv_at hl 1 rfl) ?_
  refine lv_iload_n hx hb dxP_add_19 rfl (lv_at hl 2 rfl) ?_
  refine lv_iload_n hx hb dxP_add_20 rfl (lv_at hl 3 rfl) ?_
  refine lv_iload hx hb dxP_add_21 (lv_at hl 4 rfl) ?_
  refine cx_xP_27 (As := [.int x, .int a, .int b, .int q]) (rest := [.int q, .int b, .int a, .int x, .ref adr, .ref adr, .int (ρ.2.2.1 7 1), .ref (θ.1 4)]) X hG h hl.1 (mxP_levelOf l Γ θ ρ S (Z ++ [(adr, ndE 0 0 0 0 0)]) x a b q _ hw) ⟨show 2 + 1 ≤ 3 from by omega, show 8 + (5 + 11) + 42 ≤ 80 from by omega⟩ (q0 := 3) rfl rfl (Nat.le_of_ble_eq_true rfl) dxP_add_23 ⟨by simpa using hmc, by simpa using hms⟩ (fun v W1 hK H locs h => ?_)
  obtain ⟨r, S1, rfl, rfl, hw⟩ := hK
  have hw := hw adr
  refine W.eq (g2 := F0 m 26 ls [.int r, .int q, .int b, .int a, .int x, .ref adr, .ref adr, .int (ρ.2.2.1 7 1), .ref (θ.1 4)]) rfl ?_
  have h : HS Γ s (WX Γ θ ρ S1 (Z ++ [(adr, ndE 0 0 0 0 0)])) H locs := h
  rw [← WX_cat] at h
  refine z_callI (n := 5) (As := [.int x, .int a, .int b, .int q, .int r]) (rest := [.ref adr, .int (ρ.2.2.1 7 1), .ref (θ.1 4)]) X hG h hl.1 (mxN_init l Γ (WX Γ θ ρ S1 Z) adr x a b q r) kw_xP_31 kc_xN_init rfl (by decide +kernel) ⟨show 1 + 1 ≤ 3 from by omega, show 8 + (6 + 11) + 30 ≤ 80 from by omega⟩ rfl (Nat.le_of_ble_eq_true rfl) dxP_add_26 ⟨by simpa using hmc, by simpa using hms⟩ (fun v W1 hK H locs h => ?_)
  obtain ⟨rfl, rfl⟩ := hK
  refine W.eq (g2 := F0 m 29 ls [.ref adr, .int (ρ.2.2.1 7 1), .ref (θ.1 4)]) rfl ?_
  refine va_astq (r := (RxN, TxN, 5)) hx hb (GX_K hG) h.1 h.2.1 h.2.2 4 1 (WX Γ θ ρ S1 Z).length 6 rfl rfl last_at rfl hi dxP_add_29 (fun H locs a1 a2 a3 => ?_)
  rw [hn, nod_fun] at a1 a2
  have h : HS Γ s _ H locs := ⟨a1, a2, a3⟩
  refine lv_aload_n hx hb dxP_add_30 rfl (lv_at hl 0 rfl) ?_
  refine lv_dup hx hb dxP_add_31 rfl ?_
  refine z_get X hG h in_xP 3 rfl rfl 3 (by decide) rfl kF_xP_19 rfl dxP_add_32 ?_
  refine lv_iconst (v := 1) hx hb dxP_add_35 (by decide) ?_
  refine lv_iadd hx hb dxP_add_36 ?_
  refine z_put X hG h in_xP txP oxP nxP 3 rfl rfl 3 (by decide) rfl kF_xP_19 rfl rfl rfl (Nat.le_of_ble_eq_true rfl) dxP_add_37 (fun H locs h => ?_)
  have h : HS Γ s (WX Γ θ (rN ρ adr x a b q r) S1 Z) H locs := WX_add h
  refine lv_aload_n hx hb dxP_add_40 rfl (lv_at hl 0 rfl) ?_
  refine gx_xP_19 X hG h (x := ρ.2.2.1 7 1 + 1) rfl dxP_add_41 ?_
  refine lv_iconst (v := 1) hx hb dxP_add_44 (by decide) ?_
  refine lv_isub hx hb dxP_add_45 ?_
  refine W.widen (k := mc) (n := ms) (by omega) (by omega) ?_
  exact z_iret X hr hlk h ⟨_, (rN ρ adr x a b q r, S1), rfl, rfl, hw⟩ dxP_add_46
