set_option maxHeartbeats 4000000 in
set_option maxRecDepth 100000 in
theorem mxH_init (l : Launch) (Γ : Gm) (A : va_W) (h0 : Nat)  : MM l yxH_init cxH_init 1 none 1 30 Γ [.ref h0] (A ++ [(h0, .inr (5, [.int 0, .int 0, .null, .int 0]))]) (fun v W1 => v = none ∧ W1 = A ++ [(h0, .inr (5, [.int 0, .int 0, .null, .int 0]))]) 0 0 := by
  refine MM_of (by decide) (Nat.le_of_ble_eq_true rfl) ?_
  intro p e s m below meth c X hr hlk hnm hG h ls hl
  have hx := X.1
  have hb := X.2.1
  have hl : lv_has ls 1 [(0, .ref h0)] := hl
  refine lv_aload_n hx hb dxH_init_0 rfl (lv_at hl 0 rfl) ?_
  refine W.objInit hx hb X.2.2.2.1 (X.2.2.2.2 _ k_oi_xH) (X.2.2.2.2 _ k_oiI) (X.2.2.2.2 _ k_oiC) rfl (by rw [X.2.2.1]; exact hl.1) rfl dxH_init_1 (Nat.le_of_ble_eq_true rfl) (Nat.le_of_ble_eq_true rfl) ?_
  refine W.eq (g2 := F0 m 4 ls []) rfl ?_
  refine W.widen (k := 0) (n := 0) (Nat.le_of_ble_eq_true rfl) (Nat.le_of_ble_eq_true rfl) ?_
  exact z_vret X hr hlk h ⟨rfl, rfl⟩ dxH_init_4
set_option maxHeartbeats 4000000 in
set_option maxRecDepth 100000 in
theorem mxC_init (l : Launch) (Γ : Gm) (A : va_W) (h0 : Nat)  : MM l yxC_init cxC_init 1 none 1 60 Γ [.ref h0] (A ++ [(h0, .inr (1, [.null, .int 0]))]) (fun v W1 => v = none ∧ ∃ q1 : Nat, W1 = A ++ [(h0, .inr (1, [.ref q1, .int 10])), (q1, .inl (Γ.2.2.1 0, 16, .inl (va_cpy gpF (fun _ => 0) 0 0 10)))]) 1 16 := by
  refine MM_of (by decide) (Nat.le_of_ble_eq_true rfl) ?_
  intro p e s m below meth c X hr hlk hnm hG h ls hl
  have hx := X.1
  have hb := X.2.1
  have hl : lv_has ls 1 [(0, .ref h0)] := hl
  refine lv_aload_n hx hb dxC_init_0 rfl (lv_at hl 0 rfl) ?_
  refine W.objInit hx hb X.2.2.2.1 (X.2.2.2.2 _ k_oi_xC) (X.2.2.2.2 _ k_oiI) (X.2.2.2.2 _ k_oiC) rfl (by rw [X.2.2.1]; exact hl.1) rfl dxC_init_1 (Nat.le_of_ble_eq_true rfl) (Nat.le_of_ble_eq_true rfl) ?_
  refine W.eq (g2 := F0 m 4 ls []) rfl ?_
  refine lv_aload_n hx hb dxC_init_4 rfl (lv_at hl 0 rfl) ?_
  refine lv_bipush (v := 16) hx hb dxC_init_5 (by decide) ?_
  refine va_newa (atype := .int) (ty := .int) (N' := 16) (a0 := (16, .inl (fun _ => 0))) hx hb (X.2.2.2.2 _ k_ac_int) rfl (GX_K hG) h.1 h.2.1 h.2.2 (GX_A hG) (fun _ => rfl) (by decide) (by decide) (by decide) (Nat.le_of_ble_eq_true rfl) (Nat.le_of_ble_eq_true rfl) dxC_init_7 (fun q1 cA H hK hP hD hS => ?_)
  have hcA := cls_int hK
  subst hcA
  have h := HS_new hP hD hS
  have h : HS Γ s (A ++ [(h0, .inr (1, [.null, .int 0])), (q1, .inl (Γ.2.2.1 0, 16, .inl (fun _ => 0)))]) _ _ := h
  refine z_putF X hG h in_xC txC oxC nxC (A.length + 0) (app_at rfl) rfl 0 (by decide) rfl kF_xC_9 rfl hnm rfl rfl (Nat.le_of_ble_eq_true rfl) dxC_init_9 (fun H locs h => ?_)
  rw [app_set] at h
  have h : HS Γ s (A ++ [(h0, .inr (1, [.ref q1, .int 0])), (q1, .inl (Γ.2.2.1 0, 16, .inl (fun _ => 0)))]) _ _ := h
  refine lv_aload_n hx hb dxC_init_12 rfl (lv_at hl 0 rfl) ?_
  refine lv_bipush (v := 10) hx hb dxC_init_13 (by decide) ?_
  refine z_put X hG h in_xC txC oxC nxC (A.length + 0) (app_at rfl) rfl 1 (by decide) rfl kF_xC_13 rfl rfl rfl (Nat.le_of_ble_eq_true rfl) dxC_init_15 (fun H locs h => ?_)
  rw [app_set] at h
  have h : HS Γ s (A ++ [(h0, .inr (1, [.ref q1, .int 10])), (q1, .inl (Γ.2.2.1 0, 16, .inl (fun _ => 0)))]) _ _ := h
  refine va_gets hx hb (GX_P hG).1 h.2.2 X.2.2.2.1 (X.2.2.2.2 _ kF_xC_17) (fun _ h9 => h9) dxC_init_18 ?_
  refine lv_iconst (v := 0) hx hb dxC_init_21 (by decide) ?_
  refine lv_aload_n hx hb dxC_init_22 rfl (lv_at hl 0 rfl) ?_
  refine z_get (v := .ref q1) X hG h in_xC (A.length + 0) (app_at rfl) rfl 0 (by decide) rfl kF_xC_9 rfl dxC_init_23 ?_
  refine lv_iconst (v := 0) hx hb dxC_init_26 (by decide) ?_
  refine lv_bipush (v := 10) hx hb dxC_init_27 (by decide) ?_
  refine tb_copy (q1 := A.length + 1) X (by rw [hl.1]; exact X.2.2.1) hG h kY_xC_20 (app_at rfl) (by decide) (Nat.le_refl 1) (Nat.le_of_ble_eq_true rfl) (Nat.le_of_ble_eq_true rfl) dxC_init_29 (fun H locs h => ?_)
  rw [app_set] at h
  have h : HS Γ s (A ++ [(h0, .inr (1, [.ref q1, .int 10])), (q1, .inl (Γ.2.2.1 0, 16, .inl (va_cpy gpF (fun _ => 0) 0 0 10)))]) _ _ := h
  refine W.widen (k := 1) (n := 16) (Nat.le_of_ble_eq_true rfl) (Nat.le_of_ble_eq_true rfl) ?_
  exact z_vret X hr hlk h ⟨rfl, q1, rfl⟩ dxC_init_32
set_option maxHeartbeats 4000000 in
set_option maxRecDepth 100000 in
theorem mxA_init (l : Launch) (Γ : Gm) (A : va_W) (h0 : Nat)  : MM l yxA_init cxA_init 2 none 1 30 Γ [.ref h0, .int 16] (A ++ [(h0, .inr (7, [.null, .int 0, .int 0, .int 0]))]) (fun v W1 => v = none ∧ ∃ q1 : Nat, W1 = A ++ [(h0, .inr (7, [.ref q1, .int 0, .int 0, .int 0])), (q1, .inl (Γ.2.2.1 3, 16, .inl (fun _ => 0)))]) 1 16 := by
  refine MM_ofF (by decide +kernel) (Nat.le_of_ble_eq_true rfl) ?_
  intro p e s m below meth c X hr hlk hnm hG h ls hl
  have hx := X.1
  have hb := X.2.1
  have hl : lv_has ls 2 [(0, .ref h0), (1, .int 16)] := hl
  refine lv_aload_n hx hb dxA_init_0 rfl (lv_at hl 0 rfl) ?_
  refine W.objInit hx hb X.2.2.2.1 (X.2.2.2.2 _ k_oi_xA) (X.2.2.2.2 _ k_oiI) (X.2.2.2.2 _ k_oiC) rfl (by rw [X.2.2.1]; exact hl.1) rfl dxA_init_1 (Nat.le_of_ble_eq_true rfl) (Nat.le_of_ble_eq_true rfl) ?_
  refine W.eq (g2 := F0 m 4 ls []) rfl ?_
  refine va_gets hx hb (GX_C hG) h.2.2 X.2.2.2.1 (X.2.2.2.2 _ kF_xA_18) (fun _ h9 => h9) dxA_init_4 ?_
  refine lv_if_eq (tgt := 25) hx hb dxA_init_7 (by decide) (fun c0 => absurd c0 (by decide)) (fun c0 => ?_)
  refine lv_aload_n hx hb dxA_init_10 rfl (lv_at hl 0 rfl) ?_
  refine lv_iload_n hx hb dxA_init_11 rfl (lv_at hl 1 rfl) ?_
  refine va_newa (atype := .byte) (ty := .byte) (N' := 16) (a0 := (16, .inl (fun _ => 0))) hx hb (X.2.2.2.2 _ k_ac_byte) rfl (GX_K hG) h.1 h.2.1 h.2.2 (GX_A hG) (fun _ => rfl) (by decide) (by decide) (by decide) (Nat.le_of_ble_eq_true rfl) (Nat.le_of_ble_eq_true rfl) dxA_init_12 (fun q1 cA H hK hP hD hS => ?_)
  have hcA := cls_byte hK
  subst hcA
  have h := HS_new hP hD hS
  have h : HS Γ s (A ++ [(h0, .inr (7, [.null, .int 0, .int 0, .int 0])), (q1, .inl (Γ.2.2.1 3, 16, .inl (fun _ => 0)))]) _ _ := h
  refine z_put X hG h in_xB txB oxB nxB (A.length + 0) (app_at rfl) rfl 0 (by decide) rfl kF_xA_15 rfl rfl rfl (Nat.le_of_ble_eq_true rfl) dxA_init_14 (fun H locs h => ?_)
  rw [app_set] at h
  have h : HS Γ s (A ++ [(h0, .inr (7, [.ref q1, .int 0, .int 0, .int 0])), (q1, .inl (Γ.2.2.1 3, 16, .inl (fun _ => 0)))]) _ _ := h
  refine lv_aload_n hx hb dxA_init_17 rfl (lv_at hl 0 rfl) ?_
  refine lv_iconst (v := 0) hx hb dxA_init_18 (by decide) ?_
  refine z_put X hG h in_xB txB oxB nxB (A.length + 0) (app_at rfl) rfl 1 (by decide) rfl kF_xA_22 rfl rfl rfl (Nat.le_of_ble_eq_true rfl) dxA_init_19 (fun H locs h => ?_)
  rw [app_set] at h
  have h : HS Γ s (A ++ [(h0, .inr (7, [.ref q1, .int 0, .int 0, .int 0])), (q1, .inl (Γ.2.2.1 3, 16, .inl (fun _ => 0)))]) _ _ := h
  refine lv_goto (tgt := 38) hx hb dxA_init_22 (by decide) ?_
  refine W.widen (k := 1) (n := 16) (Nat.le_of_ble_eq_true rfl) (Nat.le_of_ble_eq_true rfl) ?_
  exact z_vret X hr hlk h ⟨rfl, q1, rfl⟩ dxA_init_38
set_option maxHeartbeats 4000000 in
set_option maxRecDepth 100000 in
theorem mxB_init (l : Launch) (Γ : Gm) (A : va_W) (h0 : Nat)  : MM l yxB_init cxB_init 1 none 2 60 Γ [.ref h0] (A ++ [(h0, .inr (7, [.null, .int 0, .int 0, .int 0]))]) (fun v W1 => v = none ∧ ∃ q1 : Nat, W1 = A ++ [(h0, .inr (7, [.ref q1, .int 0, .int 0, .int 0])), (q1, .inl (Γ.2.2.1 3, 16, .inl (fun _ => 0)))]) 1 16 := by
  refine MM_ofF (by decide +kernel) (Nat.le_of_ble_eq_true rfl) ?_
  intro p e s m below meth c X hr hlk hnm hG h ls hl
  have hx := X.1
  have hb := X.2.1
  have hl : lv_has ls 1 [(0, .ref h0)] := hl
  refine lv_aload_n hx hb dxB_init_0 rfl (lv_at hl 0 rfl) ?_
  refine lv_bipush (v := 16) hx hb dxB_init_1 (by decide) ?_
  have h := HS_as (A := A) (B := []) (C := [(h0, .inr (7, [.null, .int 0, .int 0, .int 0]))]) h
  refine z_callI (n := 1) (As := [.int 16]) (rest := []) X hG h hl.1 (mxA_init l Γ (A ++ []) h0 ) kw_xB_1 kc_xA_init rfl (by decide +kernel) ⟨show 1 + 1 ≤ 2 from by omega, show 8 + (2 + 11) + 30 ≤ 60 from by omega⟩ rfl (Nat.le_of_ble_eq_true rfl) dxB_init_3 ⟨Nat.le_of_ble_eq_true rfl, Nat.le_of_ble_eq_true rfl⟩ (fun v W1 hK H locs h => ?_)
  obtain ⟨rfl, q1, rfl⟩ := hK
  have h := HS_sa h
  have h : HS Γ s (A ++ [(h0, .inr (7, [.ref q1, .int 0, .int 0, .int 0])), (q1, .inl (Γ.2.2.1 3, 16, .inl (fun _ => 0)))]) _ _ := h
  refine W.eq (g2 := F0 m 6 ls []) rfl ?_
  refine W.widen (k := 1) (n := 16) (Nat.le_of_ble_eq_true rfl) (Nat.le_of_ble_eq_true rfl) ?_
  exact z_vret X hr hlk h ⟨rfl, q1, rfl⟩ dxB_init_6
set_option maxHeartbeats 4000000 in
set_option maxRecDepth 100000 in
theorem mxR_init (l : Launch) (Γ : Gm) (A : va_W) (h0 : Nat)  : MM l yxR_init cxR_init 1 none 3 90 Γ [.ref h0] (A ++ [(h0, .inr (4, [.null]))]) (fun v W1 => v = none ∧ ∃ q1 q2 : Nat, W1 = A ++ [(h0, .inr (4, [.ref q1])), (q1, .inr (7, [.ref q2, .int 0, .int 0, .int 0])), (q2, .inl (Γ.2.2.1 3, 16, .inl (fun _ => 0)))]) 2 20 := by
  refine MM_of (by decide) (Nat.le_of_ble_eq_true rfl) ?_
  intro p e s m below meth c X hr hlk hnm hG h ls hl
  have hx := X.1
  have hb := X.2.1
  have hl : lv_has ls 1 [(0, .ref h0)] := hl
  refine lv_aload_n hx hb dxR_init_0 rfl (lv_at hl 0 rfl) ?_
  refine W.objInit hx hb X.2.2.2.1 (X.2.2.2.2 _ k_oi_xR) (X.2.2.2.2 _ k_oiI) (X.2.2.2.2 _ k_oiC) rfl (by rw [X.2.2.1]; exact hl.1) rfl dxR_init_1 (Nat.le_of_ble_eq_true rfl) (Nat.le_of_ble_eq_true rfl) ?_
  refine W.eq (g2 := F0 m 4 ls []) rfl ?_
  refine lv_aload_n hx hb dxR_init_4 rfl (lv_at hl 0 rfl) ?_
  refine va_new (ci := 7) (fs := [.null, .int 0, .int 0, .int 0]) (C := RxB) (T := TxB) (N := 4) hx hb X.2.2.2.2 in_xB txB oxB X.2.2.2.1 (X.2.2.2.2 _ k_cl_xR_9) (X.2.2.2.2 _ k_is_xB) (X.2.2.2.2 _ k_in_xB) (GX_K hG) h.1 h.2.1 h.2.2 (GX_A hG) rfl (fun j hj => by rcases (show j = 0 ∨ j = 1 ∨ j = 2 ∨ j = 3 by omega) with rfl | rfl | rfl | rfl <;> rfl) (Nat.le_of_ble_eq_true rfl) (Nat.le_of_ble_eq_true rfl) dxR_init_5 (fun q1 H hP hD hS => ?_)
  have h := HS_new hP hD hS
  have h : HS Γ s (A ++ [(h0, .inr (4, [.null])), (q1, .inr (7, [.null, .int 0, .int 0, .int 0]))]) _ _ := h
  refine lv_dup hx hb dxR_init_8 rfl ?_
  have h := HS_as (A := A) (B := [(h0, .inr (4, [.null]))]) (C := [(q1, .inr (7, [.null, .int 0, .int 0, .int 0]))]) h
  refine z_callI (n := 0) (As := []) (rest := [.ref q1, .ref h0]) X hG h hl.1 (mxB_init l Γ (A ++ [(h0, .inr (4, [.null]))]) q1 ) kw_xR_11 kc_xB_init rfl (by decide +kernel) ⟨show 2 + 1 ≤ 3 from by omega, show 8 + (1 + 11) + 60 ≤ 90 from by omega⟩ rfl (Nat.le_of_ble_eq_true rfl) dxR_init_9 ⟨Nat.le_of_ble_eq_true rfl, Nat.le_of_ble_eq_true rfl⟩ (fun v W1 hK H locs h => ?_)
  obtain ⟨rfl, q2, rfl⟩ := hK
  have h := HS_sa h
  have h : HS Γ s (A ++ [(h0, .inr (4, [.null])), (q1, .inr (7, [.ref q2, .int 0, .int 0, .int 0])), (q2, .inl (Γ.2.2.1 3, 16, .inl (fun _ => 0)))]) _ _ := h
  refine W.eq (g2 := F0 m 12 ls [.ref q1, .ref h0]) rfl ?_
  refine z_putF X hG h in_xR txR oxR nxR (A.length + 0) (app_at rfl) rfl 0 (by decide) rfl kF_xR_12 rfl hnm rfl rfl (Nat.le_of_ble_eq_true rfl) dxR_init_12 (fun H locs h => ?_)
  rw [app_set] at h
  have h : HS Γ s (A ++ [(h0, .inr (4, [.ref q1])), (q1, .inr (7, [.ref q2, .int 0, .int 0, .int 0])), (q2, .inl (Γ.2.2.1 3, 16, .inl (fun _ => 0)))]) _ _ := h
  refine W.widen (k := 2) (n := 20) (Nat.le_of_ble_eq_true rfl) (Nat.le_of_ble_eq_true rfl) ?_
  exact z_vret X hr hlk h ⟨rfl, q1, q2, rfl⟩ dxR_init_15
