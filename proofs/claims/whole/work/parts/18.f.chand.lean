/-! by hand: Program's and Machine's constructors (loops), and the whole object's -/
theorem arrV_cong {cA : ClassId} {n : Nat} {f g : Nat → Value} (h : ∀ j, j < n → f j = g j) : arrV cA n f = arrV cA n g := by
  have e : (fun j : Fin n => f j.val) = (fun j : Fin n => g j.val) := funext (fun j => h j.val j.isLt)
  unfold arrV
  rw [e]
theorem mid_at {A B : va_W} {c : Nat × va_E} : (A ++ (c :: B))[A.length]? = some c := by
  rw [List.getElem?_append_right (Nat.le_refl _), Nat.sub_self]; rfl
/-- a row of references told otherwise behind its end -/
theorem HS_refs {Γ : Gm} {s : State} {A B : va_W} {a n : Nat} {cA : ClassId} {f g : Nat → Option Nat} {H : Heap} {locs : List Loc} (hfg : ∀ j, j < n → f j = g j) (h : HS Γ s (A ++ ((a, .inl (cA, n, .inr (.inr (.inr (.inr f))))) :: B)) H locs) : HS Γ s (A ++ ((a, .inl (cA, n, .inr (.inr (.inr (.inr g))))) :: B)) H locs := by
  have ec : vp_cell cA (n, .inr (.inr (.inr (.inr f)))) = vp_cell cA (n, .inr (.inr (.inr (.inr g)))) := by
    show arrV cA n (fun j => va_rf (f j)) = arrV cA n (fun j => va_rf (g j))
    exact arrV_cong (fun j hj => by rw [hfg j hj])
  refine ⟨fun k q hq => ?_, ⟨fun i j p q hp hq e => ?_, fun k q hq => ?_⟩, h.2.2⟩
  · by_cases hk : k = A.length
    · subst hk
      rw [List.getElem?_append_right (Nat.le_refl _), Nat.sub_self] at hq
      cases hq
      have h1 : H[a]? = some (vp_cell cA (n, .inr (.inr (.inr (.inr f))))) := h.1 A.length _ mid_at
      show H[a]? = some _
      rw [← ec]; exact h1
    · refine h.1 k q ?_
      by_cases h1 : k < A.length
      · rw [List.getElem?_append_left h1] at hq ⊢; exact hq
      · rw [List.getElem?_append_right (by omega)] at hq ⊢
        obtain ⟨z, hz⟩ : ∃ z, k - A.length = z + 1 := ⟨k - A.length - 1, by omega⟩
        rw [hz] at hq ⊢; exact hq
  · have key : ∀ (k : Nat) (q : Nat × va_E), (A ++ ((a, .inl (cA, n, .inr (.inr (.inr (.inr g))))) :: B))[k]? = some q → ∃ q', (A ++ ((a, .inl (cA, n, .inr (.inr (.inr (.inr f))))) :: B))[k]? = some q' ∧ q'.1 = q.1 := by
      intro k q hq
      by_cases hk : k = A.length
      · subst hk
        rw [List.getElem?_append_right (Nat.le_refl _), Nat.sub_self] at hq
        cases hq
        exact ⟨_, mid_at, rfl⟩
      · refine ⟨q, ?_, rfl⟩
        by_cases h1 : k < A.length
        · rw [List.getElem?_append_left h1] at hq ⊢; exact hq
        · rw [List.getElem?_append_right (by omega)] at hq ⊢
          obtain ⟨z, hz⟩ : ∃ z, k - A.length = z + 1 := ⟨k - A.length - 1, by omega⟩
          rw [hz] at hq ⊢; exact hq
    obtain ⟨p', hp', ep⟩ := key i p hp
    obtain ⟨q', hq', eq⟩ := key j q hq
    exact h.2.1.1 i j p' q' hp' hq' (by rw [ep, eq]; exact e)
  · by_cases hk : k = A.length
    · subst hk
      rw [List.getElem?_append_right (Nat.le_refl _), Nat.sub_self] at hq
      cases hq
      exact h.2.1.2 A.length (a, .inl (cA, n, .inr (.inr (.inr (.inr f))))) mid_at
    · refine h.2.1.2 k q ?_
      by_cases h1 : k < A.length
      · rw [List.getElem?_append_left h1] at hq ⊢; exact hq
      · rw [List.getElem?_append_right (by omega)] at hq ⊢
        obtain ⟨z, hz⟩ : ∃ z, k - A.length = z + 1 := ⟨k - A.length - 1, by omega⟩
        rw [hz] at hq ⊢; exact hq
theorem app_at2 {A C Y : va_W} {i : Nat} {c : Nat × va_E} (h : C[i]? = some c) : ((A ++ C) ++ Y)[A.length + i]? = some c := by
  have hi : i < C.length := (List.getElem?_eq_some_iff.mp h).1
  rw [List.getElem?_append_left (by simp; omega)]
  exact app_at h
theorem app_set2 {A C Y : va_W} {i : Nat} {c d : Nat × va_E} (h : C[i]? = some d) : ((A ++ C) ++ Y).set (A.length + i) c = (A ++ C.set i c) ++ Y := by
  have hi : i < C.length := (List.getElem?_eq_some_iff.mp h).1
  rw [List.set_append_left _ _ (by simp; omega), app_set]
theorem HS_nil {Γ : Gm} {s : State} {A : va_W} {f : Nat → Nat × va_E} {H : Heap} {locs : List Loc} (h : HS Γ s A H locs) : HS Γ s (A ++ pz 0 f) H locs := by
  have e : A ++ pz 0 f = A := by simp [pz]
  rw [e]; exact h
abbrev prC (Γ : Gm) (h0 cR q1 q2 : Nat) (f : Nat → Int32) : va_W := [(h0, .inr (2, [.ref cR, .ref q1, .ref q2, .int 0])), (q1, .inl (Γ.2.2.1 1, 64, .inr (.inr (.inr (.inr (fun _ => none)))))), (q2, .inl (Γ.2.2.1 0, 6, .inl f))]
abbrev KP (Γ : Gm) (A : va_W) (h0 cR : Nat) : Option Value → va_W → Prop := fun v W1 => v = none ∧ ∃ (q1 q2 : Nat) (f : Nat → Int32), (∀ j, j < 6 → f j = -1) ∧ W1 = A ++ prC Γ h0 cR q1 q2 f
set_option maxHeartbeats 4000000 in
set_option maxRecDepth 100000 in
theorem xP_loop {p : Program} {l : Launch} {e : Env} {s : State} {m : MethodId} {below : List Frame} {meth : Method} {c : Code} (Γ : Gm) (A : va_W) (h0 cR q1 q2 : Nat) (X : CallFix p m c cxP_init 3 s ([.ref h0, .ref cR] : List Value).toArray big RxP) (hr : meth.sig.returnType = none) (hlk : meth.locks = false) (hG : GX Γ s s.heap) :
    ∀ (n i : Nat) (f : Nat → Int32), i + n = 6 → (∀ j, j < i → f j = -1) → ∀ (H : Heap) (locs : List Loc), HS Γ s (A ++ prC Γ h0 cR q1 q2 f) H locs → ∀ ls : Array Slot, lv_has ls 3 [(2, .int (nI i)), (0, .ref h0), (1, .ref cR)] →
      W p l e { frames := 1, cells := 2, slots := 70, locals := 30 } s m ([.ref h0, .ref cR] : List Value).toArray below meth c H locs 2 70 (MQ below (QM Γ (KP Γ A h0 cR)) ([.ref h0, .ref cR] : List Value).toArray s 2 70 (AA Γ)) (F0 m 33 ls []) := by
  have hx := X.1
  have hb := X.2.1
  intro n
  induction n with
  | zero =>
    intro i f hi hf H locs h ls hl
    refine lv_iload_n hx hb dxP_init_33 rfl (lv_at hl 0 rfl) ?_
    refine lv_bipush (v := 6) hx hb dxP_init_34 (by decide) ?_
    refine lv_icmp_ge (tgt := 52) hx hb dxP_init_36 (by decide) (fun c1 => ?_) (fun c1 => absurd (show nI 6 ≤ nI i from nI_le (by omega) (by omega)) c1)
    exact z_vret X hr hlk h ⟨rfl, q1, q2, f, fun j hj => hf j (by omega), rfl⟩ dxP_init_52
  | succ n ih =>
    intro i f hi hf H locs h ls hl
    refine lv_iload_n hx hb dxP_init_33 rfl (lv_at hl 0 rfl) ?_
    refine lv_bipush (v := 6) hx hb dxP_init_34 (by decide) ?_
    refine lv_icmp_ge (tgt := 52) hx hb dxP_init_36 (by decide) (fun c1 => absurd c1 (show ¬ nI 6 ≤ nI i from nI_ge (by omega) (by decide))) (fun c1 => ?_)
    refine lv_aload_n hx hb dxP_init_39 rfl (lv_at hl 1 rfl) ?_
    refine z_get (v := .ref q2) X hG h in_xP (A.length + 0) (app_at rfl) rfl 2 (by decide) rfl kF_xP_15 rfl dxP_init_40 ?_
    refine lv_iload_n hx hb dxP_init_43 rfl (lv_at hl 0 rfl) ?_
    refine lv_iconst (v := -1) hx hb dxP_init_44 (by decide) ?_
    refine z_iast X hG h (A.length + 2) 0 (app_at rfl) rfl (vp_in_nI (by omega) (by omega)) dxP_init_45 (fun H locs h => ?_)
    rw [app_set, nI_clamp (by omega)] at h
    refine lv_iinc (v := nI (i + 1)) (lv' := [(2, .int (nI (i + 1))), (0, .ref h0), (1, .ref cR)]) hx hb dxP_init_46 hl (k := 0) rfl (nI_1 i) (by decide) rfl (fun ls hl => ?_)
    refine lv_goto (tgt := 33) hx hb dxP_init_49 (by decide) ?_
    refine ih (i + 1) (upd f i (-1)) (by omega) (fun j hj => ?_) H locs h ls hl
    by_cases e : j = i
    · subst e; exact pk_us
    · rw [pk_un e]; exact hf j (by omega)
abbrev th0 : va_E := .inr (5, [.int 0, .int 0, .null, .int 0])
abbrev maC (Γ : Gm) (h0 pR cR : Nat) (lim : Int32) (q1 q2 q3 q4 : Nat) (f : Nat → Option Nat) : va_W := [(h0, .inr (3, [.ref pR, .ref cR, .int lim, .ref q1, .ref q2, .ref q3, .ref q4, .int 0, .int 0, .int 0, .int 0, .int 0, .int 0, .int 0, .null])), (q1, .inl (Γ.2.2.1 0, 4, .inl (fun _ => 0))), (q2, .inl (Γ.2.2.1 0, 2, .inl (fun _ => 0))), (q3, .inl (Γ.2.2.1 0, 300, .inl (fun _ => 0))), (q4, .inl (Γ.2.2.1 2, 300, .inr (.inr (.inr (.inr f)))))]
abbrev KMa (Γ : Gm) (A : va_W) (h0 pR cR : Nat) (lim : Int32) : Option Value → va_W → Prop := fun v W1 => v = none ∧ ∃ (q1 q2 q3 q4 : Nat) (T : Nat → Nat), W1 = (A ++ maC Γ h0 pR cR lim q1 q2 q3 q4 (fun j => some (T j))) ++ pz 300 (fun j => (T j, th0))
set_option maxHeartbeats 4000000 in
set_option maxRecDepth 100000 in
theorem xM_loop {p : Program} {l : Launch} {e : Env} {s : State} {m : MethodId} {below : List Frame} {meth : Method} {c : Code} (Γ : Gm) (A : va_W) (h0 pR cR : Nat) (lim : Int32) (q1 q2 q3 q4 : Nat) (X : CallFix p m c cxM_init 5 s ([.ref h0, .ref pR, .ref cR, .int lim] : List Value).toArray big RxM) (hr : meth.sig.returnType = none) (hlk : meth.locks = false) (hG : GX Γ s s.heap) :
    ∀ (n i : Nat) (f : Nat → Option Nat) (T : Nat → Nat), i + n = 300 → (∀ j, j < i → f j = some (T j)) → ∀ (H : Heap) (locs : List Loc), HS Γ s ((A ++ maC Γ h0 pR cR lim q1 q2 q3 q4 f) ++ pz i (fun j => (T j, th0))) H locs → ∀ ls : Array Slot, lv_has ls 5 [(4, .int (nI i)), (0, .ref h0), (1, .ref pR), (2, .ref cR), (3, .int lim)] →
      W p l e { frames := 2, cells := 304, slots := 1806, locals := 60 } s m ([.ref h0, .ref pR, .ref cR, .int lim] : List Value).toArray below meth c H locs (4 + i) (606 + 4 * i) (MQ below (QM Γ (KMa Γ A h0 pR cR lim)) ([.ref h0, .ref pR, .ref cR, .int lim] : List Value).toArray s 304 1806 (AA Γ)) (F0 m 90 ls []) := by
  have hx := X.1
  have hb := X.2.1
  intro n
  induction n with
  | zero =>
    intro i f T hi hf H locs h ls hl
    obtain rfl : i = 300 := by omega
    refine lv_iload hx hb dxM_init_90 (lv_at hl 0 rfl) ?_
    refine lv_sipush (v := 300) hx hb dxM_init_92 (by decide) ?_
    refine lv_icmp_ge (tgt := 118) hx hb dxM_init_95 (by decide) (fun c1 => ?_) (fun c1 => absurd (show nI 300 ≤ nI 300 from nI_le (by omega) (by omega)) c1)
    have h : HS Γ s ((A ++ maC Γ h0 pR cR lim q1 q2 q3 q4 (fun j => some (T j))) ++ pz 300 (fun j => (T j, th0))) H locs := by
      have e1 : ∀ g : Nat → Option Nat, (A ++ maC Γ h0 pR cR lim q1 q2 q3 q4 g) ++ pz 300 (fun j => (T j, th0)) = (A ++ (maC Γ h0 pR cR lim q1 q2 q3 q4 g).take 4) ++ ((q4, .inl (Γ.2.2.1 2, 300, .inr (.inr (.inr (.inr g))))) :: pz 300 (fun j => (T j, th0))) := fun g => by simp [maC, List.append_assoc]
      rw [e1] at h ⊢
      exact HS_refs (fun j hj => hf j hj) h
    refine W.widen (k := 304) (n := 1806) (by omega) (by omega) ?_
    exact z_vret X hr hlk h ⟨rfl, q1, q2, q3, q4, T, rfl⟩ dxM_init_118
  | succ n ih =>
    intro i f T hi hf H locs h ls hl
    refine lv_iload hx hb dxM_init_90 (lv_at hl 0 rfl) ?_
    refine lv_sipush (v := 300) hx hb dxM_init_92 (by decide) ?_
    refine lv_icmp_ge (tgt := 118) hx hb dxM_init_95 (by decide) (fun c1 => absurd c1 (show ¬ nI 300 ≤ nI i from nI_ge (by omega) (by decide))) (fun c1 => ?_)
    refine lv_aload_n hx hb dxM_init_98 rfl (lv_at hl 1 rfl) ?_
    refine z_get (v := .ref q4) X hG h in_xM (A.length + 0) (app_at2 rfl) rfl 6 (by decide) rfl kF_xM_25 rfl dxM_init_99 ?_
    refine lv_iload hx hb dxM_init_102 (lv_at hl 0 rfl) ?_
    refine va_new (ci := 5) (fs := [.int 0, .int 0, .null, .int 0]) (C := RxH) (T := TxH) (N := 4) hx hb X.2.2.2.2 in_xH txH oxH X.2.2.2.1 (X.2.2.2.2 _ k_cl_xM_23) (X.2.2.2.2 _ k_is_xH) (X.2.2.2.2 _ k_in_xH) (GX_K hG) h.1 h.2.1 h.2.2 (GX_A hG) rfl (fun j hj => by rcases (show j = 0 ∨ j = 1 ∨ j = 2 ∨ j = 3 by omega) with rfl | rfl | rfl | rfl <;> rfl) (show 4 + i + 1 ≤ 304 by omega) (show 606 + 4 * i + 4 ≤ 1806 by omega) dxM_init_104 (fun q H hP hD hS => ?_)
    have h : HS Γ s (((A ++ maC Γ h0 pR cR lim q1 q2 q3 q4 f) ++ pz i (fun j => (T j, th0))) ++ [(q, th0)]) H locs := ⟨hP, hD, hS⟩
    refine lv_dup hx hb dxM_init_107 rfl ?_
    refine z_callIN (n := 0) (As := []) (rest := [.ref q, .int (nI i), .ref q4]) X hG h hl.1 (mxH_init l Γ ((A ++ maC Γ h0 pR cR lim q1 q2 q3 q4 f) ++ pz i (fun j => (T j, th0))) q) kz_xM_62 (GX_NT hG) kc_xH_init rfl (by decide +kernel) ⟨show 1 + 1 ≤ 2 from by omega, show 8 + (1 + 11) + 30 ≤ 60 from by omega⟩ rfl (Nat.le_of_ble_eq_true rfl) dxM_init_108 ⟨show 4 + i + 1 + 0 ≤ 304 by omega, show 606 + 4 * i + 4 + 0 ≤ 1806 by omega⟩ (fun v W1 hK H locs h => ?_)
    obtain ⟨rfl, rfl⟩ := hK
    refine W.eq (g2 := F0 m 111 ls [.ref q, .int (nI i), .ref q4]) rfl ?_
    refine va_astq (r := (RxH, TxH, 4)) hx hb (GX_K hG) h.1 h.2.1 h.2.2 (A.length + 4) 2 ((A ++ maC Γ h0 pR cR lim q1 q2 q3 q4 f) ++ pz i (fun j => (T j, th0))).length 5 (by rw [List.append_assoc]; exact app_at2 rfl) rfl last_at rfl (vp_in_nI (by omega) (by omega)) dxM_init_111 (fun H locs a1 a2 a3 => ?_)
    have e2 : ((((A ++ maC Γ h0 pR cR lim q1 q2 q3 q4 f) ++ pz i (fun j => (T j, th0))) ++ [(q, th0)]).set (A.length + 4) (q4, .inl (Γ.2.2.1 2, 300, .inr (.inr (.inr (.inr (va_up f (nI i).toNatClampNeg (some q)))))))) = (A ++ maC Γ h0 pR cR lim q1 q2 q3 q4 (va_up f i (some q))) ++ pz (i + 1) (fun j => (va_up T i q j, th0)) := by
      rw [List.append_assoc, app_set2 (i := 4) (C := maC Γ h0 pR cR lim q1 q2 q3 q4 f) rfl, nI_clamp (by omega), pz_succ]
      have e3 : pz i (fun j => (va_up T i q j, th0)) = pz i (fun j => (T j, th0)) := pz_congr (fun j hj => by simp [va_up, show j ≠ i by omega])
      rw [e3]
      simp [va_up]
    rw [e2] at a1 a2
    refine lv_iinc (v := nI (i + 1)) (lv' := [(4, .int (nI (i + 1))), (0, .ref h0), (1, .ref pR), (2, .ref cR), (3, .int lim)]) hx hb dxM_init_112 hl (k := 0) rfl (nI_1 i) (by decide) rfl (fun ls hl => ?_)
    refine lv_goto (tgt := 90) hx hb dxM_init_115 (by decide) ?_
    refine W.cs (show 4 + i + 1 + 0 = 4 + (i + 1) by omega) (show 606 + 4 * i + 4 + 0 = 606 + 4 * (i + 1) by omega) ?_
    refine ih (i + 1) (va_up f i (some q)) (va_up T i q) (by omega) (fun j hj => ?_) H locs ⟨a1, a2, a3⟩ ls hl
    by_cases e : j = i
    · subst e; simp [va_up]
    · simp [va_up, e]; exact hf j (by omega)
set_option maxHeartbeats 4000000 in
set_option maxRecDepth 100000 in
theorem mxP_init (l : Launch) (Γ : Gm) (A : va_W) (h0 : Nat) (cR : Nat) : MM l yxP_init cxP_init 3 none 1 30 Γ [.ref h0, .ref cR] (A ++ [(h0, .inr (2, [.null, .null, .null, .int 0]))]) (KP Γ A h0 cR) 2 70 := by
  refine MM_of (by decide) (Nat.le_of_ble_eq_true rfl) ?_
  intro p e s m below meth c X hr hlk hnm hG h ls hl
  have hx := X.1
  have hb := X.2.1
  have hl : lv_has ls 3 [(0, .ref h0), (1, .ref cR)] := hl
  refine lv_aload_n hx hb dxP_init_0 rfl (lv_at hl 0 rfl) ?_
  refine W.objInit hx hb X.2.2.2.1 (X.2.2.2.2 _ k_oi_xP) (X.2.2.2.2 _ k_oiI) (X.2.2.2.2 _ k_oiC) rfl (by rw [X.2.2.1]; exact hl.1) rfl dxP_init_1 (Nat.le_of_ble_eq_true rfl) (Nat.le_of_ble_eq_true rfl) ?_
  refine W.eq (g2 := F0 m 4 ls []) rfl ?_
  refine lv_aload_n hx hb dxP_init_4 rfl (lv_at hl 0 rfl) ?_
  refine lv_bipush (v := 64) hx hb dxP_init_5 (by decide) ?_
  refine va_newq (C := RxN) (N' := 64) hx hb X.2.2.2.1 (X.2.2.2.2 _ k_cl_xP_9) (GX_ON hG) (GX_K hG) h.1 h.2.1 h.2.2 (GX_A hG) (by decide) (by decide) (by decide) (Nat.le_of_ble_eq_true rfl) (Nat.le_of_ble_eq_true rfl) dxP_init_7 (fun q1 cA H hK hP hD hS => ?_)
  have hcA := cls_xN hK
  subst hcA
  have h := HS_new hP hD hS
  have h : HS Γ s (A ++ [(h0, .inr (2, [.null, .null, .null, .int 0])), (q1, .inl (Γ.2.2.1 1, 64, .inr (.inr (.inr (.inr (fun _ => none))))))]) _ _ := h
  refine z_putF X hG h in_xP txP oxP nxP (A.length + 0) (app_at rfl) rfl 1 (by decide) rfl kF_xP_11 rfl hnm rfl rfl (Nat.le_of_ble_eq_true rfl) dxP_init_10 (fun H locs h => ?_)
  rw [app_set] at h
  have h : HS Γ s (A ++ [(h0, .inr (2, [.null, .ref q1, .null, .int 0])), (q1, .inl (Γ.2.2.1 1, 64, .inr (.inr (.inr (.inr (fun _ => none))))))]) _ _ := h
  refine lv_aload_n hx hb dxP_init_13 rfl (lv_at hl 0 rfl) ?_
  refine lv_bipush (v := 6) hx hb dxP_init_14 (by decide) ?_
  refine va_newa (atype := .int) (ty := .int) (N' := 6) (a0 := (6, .inl (fun _ => 0))) hx hb (X.2.2.2.2 _ k_ac_int) rfl (GX_K hG) h.1 h.2.1 h.2.2 (GX_A hG) (fun _ => rfl) (by decide) (by decide) (by decide) (Nat.le_of_ble_eq_true rfl) (Nat.le_of_ble_eq_true rfl) dxP_init_16 (fun q2 cA H hK hP hD hS => ?_)
  have hcA := cls_int hK
  subst hcA
  have h := HS_new hP hD hS
  have h : HS Γ s (A ++ [(h0, .inr (2, [.null, .ref q1, .null, .int 0])), (q1, .inl (Γ.2.2.1 1, 64, .inr (.inr (.inr (.inr (fun _ => none)))))), (q2, .inl (Γ.2.2.1 0, 6, .inl (fun _ => 0)))]) _ _ := h
  refine z_putF X hG h in_xP txP oxP nxP (A.length + 0) (app_at rfl) rfl 2 (by decide) rfl kF_xP_15 rfl hnm rfl rfl (Nat.le_of_ble_eq_true rfl) dxP_init_18 (fun H locs h => ?_)
  rw [app_set] at h
  have h : HS Γ s (A ++ [(h0, .inr (2, [.null, .ref q1, .ref q2, .int 0])), (q1, .inl (Γ.2.2.1 1, 64, .inr (.inr (.inr (.inr (fun _ => none)))))), (q2, .inl (Γ.2.2.1 0, 6, .inl (fun _ => 0)))]) _ _ := h
  refine lv_aload_n hx hb dxP_init_21 rfl (lv_at hl 0 rfl) ?_
  refine lv_iconst (v := 0) hx hb dxP_init_22 (by decide) ?_
  refine z_put X hG h in_xP txP oxP nxP (A.length + 0) (app_at rfl) rfl 3 (by decide) rfl kF_xP_19 rfl rfl rfl (Nat.le_of_ble_eq_true rfl) dxP_init_23 (fun H locs h => ?_)
  rw [app_set] at h
  have h : HS Γ s (A ++ [(h0, .inr (2, [.null, .ref q1, .ref q2, .int 0])), (q1, .inl (Γ.2.2.1 1, 64, .inr (.inr (.inr (.inr (fun _ => none)))))), (q2, .inl (Γ.2.2.1 0, 6, .inl (fun _ => 0)))]) _ _ := h
  refine lv_aload_n hx hb dxP_init_26 rfl (lv_at hl 0 rfl) ?_
  refine lv_aload_n hx hb dxP_init_27 rfl (lv_at hl 1 rfl) ?_
  refine z_putF X hG h in_xP txP oxP nxP (A.length + 0) (app_at rfl) rfl 0 (by decide) rfl kF_xP_23 rfl hnm rfl rfl (Nat.le_of_ble_eq_true rfl) dxP_init_28 (fun H locs h => ?_)
  rw [app_set] at h
  have h : HS Γ s (A ++ [(h0, .inr (2, [.ref cR, .ref q1, .ref q2, .int 0])), (q1, .inl (Γ.2.2.1 1, 64, .inr (.inr (.inr (.inr (fun _ => none)))))), (q2, .inl (Γ.2.2.1 0, 6, .inl (fun _ => 0)))]) _ _ := h
  refine lv_iconst (v := 0) hx hb dxP_init_31 (by decide) ?_
  refine lv_istore_n (lv' := [(2, .int 0), (0, .ref h0), (1, .ref cR)]) hx hb dxP_init_32 rfl hl (by decide) rfl (fun ls hl => ?_)
  exact xP_loop Γ A h0 cR q1 q2 X hr hlk hG 6 0 _ rfl (fun j hj => absurd hj (Nat.not_lt_zero j)) _ _ h ls hl
set_option maxHeartbeats 4000000 in
set_option maxRecDepth 100000 in
theorem mxM_init (l : Launch) (Γ : Gm) (A : va_W) (h0 : Nat) (pR cR : Nat) (lim : Int32) : MM l yxM_init cxM_init 5 none 2 60 Γ [.ref h0, .ref pR, .ref cR, .int lim] (A ++ [(h0, .inr (3, [.null, .null, .int 0, .null, .null, .null, .null, .int 0, .int 0, .int 0, .int 0, .int 0, .int 0, .int 0, .null]))]) (KMa Γ A h0 pR cR lim) 304 1806 := by
  refine MM_of (by decide) (Nat.le_of_ble_eq_true rfl) ?_
  intro p e s m below meth c X hr hlk hnm hG h ls hl
  have hx := X.1
  have hb := X.2.1
  have hl : lv_has ls 5 [(0, .ref h0), (1, .ref pR), (2, .ref cR), (3, .int lim)] := hl
  refine lv_aload_n hx hb dxM_init_0 rfl (lv_at hl 0 rfl) ?_
  refine W.objInit hx hb X.2.2.2.1 (X.2.2.2.2 _ k_oi_xM) (X.2.2.2.2 _ k_oiI) (X.2.2.2.2 _ k_oiC) rfl (by rw [X.2.2.1]; exact hl.1) rfl dxM_init_1 (Nat.le_of_ble_eq_true rfl) (Nat.le_of_ble_eq_true rfl) ?_
  refine W.eq (g2 := F0 m 4 ls []) rfl ?_
  refine lv_aload_n hx hb dxM_init_4 rfl (lv_at hl 0 rfl) ?_
  refine lv_iconst (v := 4) hx hb dxM_init_5 (by decide) ?_
  refine va_newa (atype := .int) (ty := .int) (N' := 4) (a0 := (4, .inl (fun _ => 0))) hx hb (X.2.2.2.2 _ k_ac_int) rfl (GX_K hG) h.1 h.2.1 h.2.2 (GX_A hG) (fun _ => rfl) (by decide) (by decide) (by decide) (Nat.le_of_ble_eq_true rfl) (Nat.le_of_ble_eq_true rfl) dxM_init_6 (fun q1 cA H hK hP hD hS => ?_)
  have hcA := cls_int hK
  subst hcA
  have h := HS_new hP hD hS
  have h : HS Γ s (A ++ [(h0, .inr (3, [.null, .null, .int 0, .null, .null, .null, .null, .int 0, .int 0, .int 0, .int 0, .int 0, .int 0, .int 0, .null])), (q1, .inl (Γ.2.2.1 0, 4, .inl (fun _ => 0)))]) _ _ := h
  refine z_putF X hG h in_xM txM oxM nxM (A.length + 0) (app_at rfl) rfl 3 (by decide) rfl kF_xM_11 rfl hnm rfl rfl (Nat.le_of_ble_eq_true rfl) dxM_init_8 (fun H locs h => ?_)
  rw [app_set] at h
  have h : HS Γ s (A ++ [(h0, .inr (3, [.null, .null, .int 0, .ref q1, .null, .null, .null, .int 0, .int 0, .int 0, .int 0, .int 0, .int 0, .int 0, .null])), (q1, .inl (Γ.2.2.1 0, 4, .inl (fun _ => 0)))]) _ _ := h
  refine lv_aload_n hx hb dxM_init_11 rfl (lv_at hl 0 rfl) ?_
  refine lv_iconst (v := 2) hx hb dxM_init_12 (by decide) ?_
  refine va_newa (atype := .int) (ty := .int) (N' := 2) (a0 := (2, .inl (fun _ => 0))) hx hb (X.2.2.2.2 _ k_ac_int) rfl (GX_K hG) h.1 h.2.1 h.2.2 (GX_A hG) (fun _ => rfl) (by decide) (by decide) (by decide) (Nat.le_of_ble_eq_true rfl) (Nat.le_of_ble_eq_true rfl) dxM_init_13 (fun q2 cA H hK hP hD hS => ?_)
  have hcA := cls_int hK
  subst hcA
  have h := HS_new hP hD hS
  have h : HS Γ s (A ++ [(h0, .inr (3, [.null, .null, .int 0, .ref q1, .null, .null, .null, .int 0, .int 0, .int 0, .int 0, .int 0, .int 0, .int 0, .null])), (q1, .inl (Γ.2.2.1 0, 4, .inl (fun _ => 0))), (q2, .inl (Γ.2.2.1 0, 2, .inl (fun _ => 0)))]) _ _ := h
  refine z_putF X hG h in_xM txM oxM nxM (A.length + 0) (app_at rfl) rfl 4 (by decide) rfl kF_xM_17 rfl hnm rfl rfl (Nat.le_of_ble_eq_true rfl) dxM_init_15 (fun H locs h => ?_)
  rw [app_set] at h
  have h : HS Γ s (A ++ [(h0, .inr (3, [.null, .null, .int 0, .ref q1, .ref q2, .null, .null, .int 0, .int 0, .int 0, .int 0, .int 0, .int 0, .int 0, .null])), (q1, .inl (Γ.2.2.1 0, 4, .inl (fun _ => 0))), (q2, .inl (Γ.2.2.1 0, 2, .inl (fun _ => 0)))]) _ _ := h
  refine lv_aload_n hx hb dxM_init_18 rfl (lv_at hl 0 rfl) ?_
  refine lv_sipush (v := 300) hx hb dxM_init_19 (by decide) ?_
  refine va_newa (atype := .int) (ty := .int) (N' := 300) (a0 := (300, .inl (fun _ => 0))) hx hb (X.2.2.2.2 _ k_ac_int) rfl (GX_K hG) h.1 h.2.1 h.2.2 (GX_A hG) (fun _ => rfl) (by decide) (by decide) (by decide) (Nat.le_of_ble_eq_true rfl) (Nat.le_of_ble_eq_true rfl) dxM_init_22 (fun q3 cA H hK hP hD hS => ?_)
  have hcA := cls_int hK
  subst hcA
  have h := HS_new hP hD hS
  have h : HS Γ s (A ++ [(h0, .inr (3, [.null, .null, .int 0, .ref q1, .ref q2, .null, .null, .int 0, .int 0, .int 0, .int 0, .int 0, .int 0, .int 0, .null])), (q1, .inl (Γ.2.2.1 0, 4, .inl (fun _ => 0))), (q2, .inl (Γ.2.2.1 0, 2, .inl (fun _ => 0))), (q3, .inl (Γ.2.2.1 0, 300, .inl (fun _ => 0)))]) _ _ := h
  refine z_putF X hG h in_xM txM oxM nxM (A.length + 0) (app_at rfl) rfl 5 (by decide) rfl kF_xM_20 rfl hnm rfl rfl (Nat.le_of_ble_eq_true rfl) dxM_init_24 (fun H locs h => ?_)
  rw [app_set] at h
  have h : HS Γ s (A ++ [(h0, .inr (3, [.null, .null, .int 0, .ref q1, .ref q2, .ref q3, .null, .int 0, .int 0, .int 0, .int 0, .int 0, .int 0, .int 0, .null])), (q1, .inl (Γ.2.2.1 0, 4, .inl (fun _ => 0))), (q2, .inl (Γ.2.2.1 0, 2, .inl (fun _ => 0))), (q3, .inl (Γ.2.2.1 0, 300, .inl (fun _ => 0)))]) _ _ := h
  refine lv_aload_n hx hb dxM_init_27 rfl (lv_at hl 0 rfl) ?_
  refine lv_sipush (v := 300) hx hb dxM_init_28 (by decide) ?_
  refine va_newq (C := RxH) (N' := 300) hx hb X.2.2.2.1 (X.2.2.2.2 _ k_cl_xM_23) (GX_OH hG) (GX_K hG) h.1 h.2.1 h.2.2 (GX_A hG) (by decide) (by decide) (by decide) (Nat.le_of_ble_eq_true rfl) (Nat.le_of_ble_eq_true rfl) dxM_init_31 (fun q4 cA H hK hP hD hS => ?_)
  have hcA := cls_xH hK
  subst hcA
  have h := HS_new hP hD hS
  have h : HS Γ s (A ++ [(h0, .inr (3, [.null, .null, .int 0, .ref q1, .ref q2, .ref q3, .null, .int 0, .int 0, .int 0, .int 0, .int 0, .int 0, .int 0, .null])), (q1, .inl (Γ.2.2.1 0, 4, .inl (fun _ => 0))), (q2, .inl (Γ.2.2.1 0, 2, .inl (fun _ => 0))), (q3, .inl (Γ.2.2.1 0, 300, .inl (fun _ => 0))), (q4, .inl (Γ.2.2.1 2, 300, .inr (.inr (.inr (.inr (fun _ => none))))))]) _ _ := h
  refine z_putF X hG h in_xM txM oxM nxM (A.length + 0) (app_at rfl) rfl 6 (by decide) rfl kF_xM_25 rfl hnm rfl rfl (Nat.le_of_ble_eq_true rfl) dxM_init_34 (fun H locs h => ?_)
  rw [app_set] at h
  have h : HS Γ s (A ++ [(h0, .inr (3, [.null, .null, .int 0, .ref q1, .ref q2, .ref q3, .ref q4, .int 0, .int 0, .int 0, .int 0, .int 0, .int 0, .int 0, .null])), (q1, .inl (Γ.2.2.1 0, 4, .inl (fun _ => 0))), (q2, .inl (Γ.2.2.1 0, 2, .inl (fun _ => 0))), (q3, .inl (Γ.2.2.1 0, 300, .inl (fun _ => 0))), (q4, .inl (Γ.2.2.1 2, 300, .inr (.inr (.inr (.inr (fun _ => none))))))]) _ _ := h
  refine lv_aload_n hx hb dxM_init_37 rfl (lv_at hl 0 rfl) ?_
  refine lv_iconst (v := 0) hx hb dxM_init_38 (by decide) ?_
  refine z_put X hG h in_xM txM oxM nxM (A.length + 0) (app_at rfl) rfl 7 (by decide) rfl kF_xM_29 rfl rfl rfl (Nat.le_of_ble_eq_true rfl) dxM_init_39 (fun H locs h => ?_)
  rw [app_set] at h
  have h : HS Γ s (A ++ [(h0, .inr (3, [.null, .null, .int 0, .ref q1, .ref q2, .ref q3, .ref q4, .int 0, .int 0, .int 0, .int 0, .int 0, .int 0, .int 0, .null])), (q1, .inl (Γ.2.2.1 0, 4, .inl (fun _ => 0))), (q2, .inl (Γ.2.2.1 0, 2, .inl (fun _ => 0))), (q3, .inl (Γ.2.2.1 0, 300, .inl (fun _ => 0))), (q4, .inl (Γ.2.2.1 2, 300, .inr (.inr (.inr (.inr (fun _ => none))))))]) _ _ := h
  refine lv_aload_n hx hb dxM_init_42 rfl (lv_at hl 0 rfl) ?_
  refine lv_iconst (v := 0) hx hb dxM_init_43 (by decide) ?_
  refine z_put X hG h in_xM txM oxM nxM (A.length + 0) (app_at rfl) rfl 8 (by decide) rfl kF_xM_33 rfl rfl rfl (Nat.le_of_ble_eq_true rfl) dxM_init_44 (fun H locs h => ?_)
  rw [app_set] at h
  have h : HS Γ s (A ++ [(h0, .inr (3, [.null, .null, .int 0, .ref q1, .ref q2, .ref q3, .ref q4, .int 0, .int 0, .int 0, .int 0, .int 0, .int 0, .int 0, .null])), (q1, .inl (Γ.2.2.1 0, 4, .inl (fun _ => 0))), (q2, .inl (Γ.2.2.1 0, 2, .inl (fun _ => 0))), (q3, .inl (Γ.2.2.1 0, 300, .inl (fun _ => 0))), (q4, .inl (Γ.2.2.1 2, 300, .inr (.inr (.inr (.inr (fun _ => none))))))]) _ _ := h
  refine lv_aload_n hx hb dxM_init_47 rfl (lv_at hl 0 rfl) ?_
  refine lv_iconst (v := 0) hx hb dxM_init_48 (by decide) ?_
  refine z_put X hG h in_xM txM oxM nxM (A.length + 0) (app_at rfl) rfl 9 (by decide) rfl kF_xM_36 rfl rfl rfl (Nat.le_of_ble_eq_true rfl) dxM_init_49 (fun H locs h => ?_)
  rw [app_set] at h
  have h : HS Γ s (A ++ [(h0, .inr (3, [.null, .null, .int 0, .ref q1, .ref q2, .ref q3, .ref q4, .int 0, .int 0, .int 0, .int 0, .int 0, .int 0, .int 0, .null])), (q1, .inl (Γ.2.2.1 0, 4, .inl (fun _ => 0))), (q2, .inl (Γ.2.2.1 0, 2, .inl (fun _ => 0))), (q3, .inl (Γ.2.2.1 0, 300, .inl (fun _ => 0))), (q4, .inl (Γ.2.2.1 2, 300, .inr (.inr (.inr (.inr (fun _ => none))))))]) _ _ := h
  refine lv_aload_n hx hb dxM_init_52 rfl (lv_at hl 0 rfl) ?_
  refine lv_iconst (v := 0) hx hb dxM_init_53 (by decide) ?_
  refine z_put X hG h in_xM txM oxM nxM (A.length + 0) (app_at rfl) rfl 10 (by decide) rfl kF_xM_39 rfl rfl rfl (Nat.le_of_ble_eq_true rfl) dxM_init_54 (fun H locs h => ?_)
  rw [app_set] at h
  have h : HS Γ s (A ++ [(h0, .inr (3, [.null, .null, .int 0, .ref q1, .ref q2, .ref q3, .ref q4, .int 0, .int 0, .int 0, .int 0, .int 0, .int 0, .int 0, .null])), (q1, .inl (Γ.2.2.1 0, 4, .inl (fun _ => 0))), (q2, .inl (Γ.2.2.1 0, 2, .inl (fun _ => 0))), (q3, .inl (Γ.2.2.1 0, 300, .inl (fun _ => 0))), (q4, .inl (Γ.2.2.1 2, 300, .inr (.inr (.inr (.inr (fun _ => none))))))]) _ _ := h
  refine lv_aload_n hx hb dxM_init_57 rfl (lv_at hl 0 rfl) ?_
  refine lv_iconst (v := 0) hx hb dxM_init_58 (by decide) ?_
  refine z_put X hG h in_xM txM oxM nxM (A.length + 0) (app_at rfl) rfl 11 (by decide) rfl kF_xM_42 rfl rfl rfl (Nat.le_of_ble_eq_true rfl) dxM_init_59 (fun H locs h => ?_)
  rw [app_set] at h
  have h : HS Γ s (A ++ [(h0, .inr (3, [.null, .null, .int 0, .ref q1, .ref q2, .ref q3, .ref q4, .int 0, .int 0, .int 0, .int 0, .int 0, .int 0, .int 0, .null])), (q1, .inl (Γ.2.2.1 0, 4, .inl (fun _ => 0))), (q2, .inl (Γ.2.2.1 0, 2, .inl (fun _ => 0))), (q3, .inl (Γ.2.2.1 0, 300, .inl (fun _ => 0))), (q4, .inl (Γ.2.2.1 2, 300, .inr (.inr (.inr (.inr (fun _ => none))))))]) _ _ := h
  refine lv_aload_n hx hb dxM_init_62 rfl (lv_at hl 0 rfl) ?_
  refine lv_iconst (v := 0) hx hb dxM_init_63 (by decide) ?_
  refine z_put X hG h in_xM txM oxM nxM (A.length + 0) (app_at rfl) rfl 12 (by decide) rfl kF_xM_45 rfl rfl rfl (Nat.le_of_ble_eq_true rfl) dxM_init_64 (fun H locs h => ?_)
  rw [app_set] at h
  have h : HS Γ s (A ++ [(h0, .inr (3, [.null, .null, .int 0, .ref q1, .ref q2, .ref q3, .ref q4, .int 0, .int 0, .int 0, .int 0, .int 0, .int 0, .int 0, .null])), (q1, .inl (Γ.2.2.1 0, 4, .inl (fun _ => 0))), (q2, .inl (Γ.2.2.1 0, 2, .inl (fun _ => 0))), (q3, .inl (Γ.2.2.1 0, 300, .inl (fun _ => 0))), (q4, .inl (Γ.2.2.1 2, 300, .inr (.inr (.inr (.inr (fun _ => none))))))]) _ _ := h
  refine lv_aload_n hx hb dxM_init_67 rfl (lv_at hl 0 rfl) ?_
  refine lv_iconst (v := 0) hx hb dxM_init_68 (by decide) ?_
  refine z_put X hG h in_xM txM oxM nxM (A.length + 0) (app_at rfl) rfl 13 (by decide) rfl kF_xM_48 rfl rfl rfl (Nat.le_of_ble_eq_true rfl) dxM_init_69 (fun H locs h => ?_)
  rw [app_set] at h
  have h : HS Γ s (A ++ [(h0, .inr (3, [.null, .null, .int 0, .ref q1, .ref q2, .ref q3, .ref q4, .int 0, .int 0, .int 0, .int 0, .int 0, .int 0, .int 0, .null])), (q1, .inl (Γ.2.2.1 0, 4, .inl (fun _ => 0))), (q2, .inl (Γ.2.2.1 0, 2, .inl (fun _ => 0))), (q3, .inl (Γ.2.2.1 0, 300, .inl (fun _ => 0))), (q4, .inl (Γ.2.2.1 2, 300, .inr (.inr (.inr (.inr (fun _ => none))))))]) _ _ := h
  refine lv_aload_n hx hb dxM_init_72 rfl (lv_at hl 0 rfl) ?_
  refine lv_aload_n hx hb dxM_init_73 rfl (lv_at hl 1 rfl) ?_
  refine z_putF X hG h in_xM txM oxM nxM (A.length + 0) (app_at rfl) rfl 0 (by decide) rfl kF_xM_51 rfl hnm rfl rfl (Nat.le_of_ble_eq_true rfl) dxM_init_74 (fun H locs h => ?_)
  rw [app_set] at h
  have h : HS Γ s (A ++ [(h0, .inr (3, [.ref pR, .null, .int 0, .ref q1, .ref q2, .ref q3, .ref q4, .int 0, .int 0, .int 0, .int 0, .int 0, .int 0, .int 0, .null])), (q1, .inl (Γ.2.2.1 0, 4, .inl (fun _ => 0))), (q2, .inl (Γ.2.2.1 0, 2, .inl (fun _ => 0))), (q3, .inl (Γ.2.2.1 0, 300, .inl (fun _ => 0))), (q4, .inl (Γ.2.2.1 2, 300, .inr (.inr (.inr (.inr (fun _ => none))))))]) _ _ := h
  refine lv_aload_n hx hb dxM_init_77 rfl (lv_at hl 0 rfl) ?_
  refine lv_aload_n hx hb dxM_init_78 rfl (lv_at hl 2 rfl) ?_
  refine z_putF X hG h in_xM txM oxM nxM (A.length + 0) (app_at rfl) rfl 1 (by decide) rfl kF_xM_55 rfl hnm rfl rfl (Nat.le_of_ble_eq_true rfl) dxM_init_79 (fun H locs h => ?_)
  rw [app_set] at h
  have h : HS Γ s (A ++ [(h0, .inr (3, [.ref pR, .ref cR, .int 0, .ref q1, .ref q2, .ref q3, .ref q4, .int 0, .int 0, .int 0, .int 0, .int 0, .int 0, .int 0, .null])), (q1, .inl (Γ.2.2.1 0, 4, .inl (fun _ => 0))), (q2, .inl (Γ.2.2.1 0, 2, .inl (fun _ => 0))), (q3, .inl (Γ.2.2.1 0, 300, .inl (fun _ => 0))), (q4, .inl (Γ.2.2.1 2, 300, .inr (.inr (.inr (.inr (fun _ => none))))))]) _ _ := h
  refine lv_aload_n hx hb dxM_init_82 rfl (lv_at hl 0 rfl) ?_
  refine lv_iload_n hx hb dxM_init_83 rfl (lv_at hl 3 rfl) ?_
  refine z_putF X hG h in_xM txM oxM nxM (A.length + 0) (app_at rfl) rfl 2 (by decide) rfl kF_xM_59 rfl hnm rfl rfl (Nat.le_of_ble_eq_true rfl) dxM_init_84 (fun H locs h => ?_)
  rw [app_set] at h
  have h : HS Γ s (A ++ [(h0, .inr (3, [.ref pR, .ref cR, .int lim, .ref q1, .ref q2, .ref q3, .ref q4, .int 0, .int 0, .int 0, .int 0, .int 0, .int 0, .int 0, .null])), (q1, .inl (Γ.2.2.1 0, 4, .inl (fun _ => 0))), (q2, .inl (Γ.2.2.1 0, 2, .inl (fun _ => 0))), (q3, .inl (Γ.2.2.1 0, 300, .inl (fun _ => 0))), (q4, .inl (Γ.2.2.1 2, 300, .inr (.inr (.inr (.inr (fun _ => none))))))]) _ _ := h
  refine lv_iconst (v := 0) hx hb dxM_init_87 (by decide) ?_
  refine lv_istore (lv' := [(4, .int 0), (0, .ref h0), (1, .ref pR), (2, .ref cR), (3, .int lim)]) hx hb dxM_init_88 hl (by decide) rfl (fun ls hl => ?_)
  have h : HS Γ s ((A ++ maC Γ h0 pR cR lim q1 q2 q3 q4 (fun _ => none)) ++ pz 0 (fun j => (j, th0))) _ _ := HS_nil h
  exact xM_loop Γ A h0 pR cR lim q1 q2 q3 q4 X hr hlk hG 300 0 _ (fun j => j) rfl (fun j hj => absurd hj (Nat.not_lt_zero j)) _ _ h ls hl
