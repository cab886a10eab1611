theorem HS_sa2 {Γ : Gm} {s : State} {A C D Y : va_W} {H : Heap} {locs : List Loc} (h : HS Γ s (((A ++ C) ++ D) ++ Y) H locs) : HS Γ s ((A ++ (C ++ D)) ++ Y) H locs := by
  rw [← List.append_assoc A C D]; exact h
theorem HS_set2 {Γ : Gm} {s : State} {A C Y : va_W} {i : Nat} {c d : Nat × va_E} {H : Heap} {locs : List Loc} (h : HS Γ s (((A ++ C) ++ Y).set (A.length + i) c) H locs) (hc : C[i]? = some d) : HS Γ s ((A ++ C.set i c) ++ Y) H locs := by
  rw [app_set2 hc] at h; exact h
set_option maxHeartbeats 4000000 in
set_option maxRecDepth 100000 in
theorem mxT_init (l : Launch) (Γ : Gm) (A : va_W) (h0 : Nat) (x : Int32) : MM l yxT_init cxT_init 2 none 4 120 Γ [.ref h0, .int x] (A ++ [(h0, .inr (0, [.null, .null, .null, .null, .int 0, .long 0, .null, .null]))]) (fun v W1 => v = none ∧ ∃ (q1 q2 q3 q4 q5 q8 q9 q10 q11 v1 v2 v3 v4 : Nat) (q6 : Nat → Int32) (T : Nat → Nat), (∀ j, j < 6 → q6 j = -1) ∧ W1 = (A ++ ([(h0, .inr (0, [.ref q1, .ref q3, .ref q8, .ref q11, .int (-1), .long 1000000000000, .null, .null])), (q1, .inr (1, [.ref q2, .int 10])), (q2, .inl (Γ.2.2.1 0, 16, .inl (va_cpy gpF (fun _ => 0) 0 0 10))), (q3, .inr (2, [.ref q1, .ref q4, .ref q5, .int 0])), (q4, .inl (Γ.2.2.1 1, 64, .inr (.inr (.inr (.inr (fun _ => none)))))), (q5, .inl (Γ.2.2.1 0, 6, .inl q6)), (q8, .inr (4, [.ref q9])), (q9, .inr (7, [.ref q10, .int 0, .int 0, .int 0])), (q10, .inl (Γ.2.2.1 3, 16, .inl (fun _ => 0)))] ++ maC Γ q11 q3 q1 (if (1 : Int32) < (if x < 12 then x else 12) then (if x < 12 then x else 12) else 1) v1 v2 v3 v4 (fun j => some (T j)))) ++ pz 300 (fun j => (T j, th0))) 313 1934 := by
  refine MM_of (by decide) (Nat.le_of_ble_eq_true rfl) ?_
  intro p e s m below meth c X hr hlk hnm hG h ls hl
  have hx := X.1
  have hb := X.2.1
  have hl : lv_has ls 2 [(0, .ref h0), (1, .int x)] := hl
  refine lv_aload_n hx hb dxT_init_0 rfl (lv_at hl 0 rfl) ?_
  refine W.objInit hx hb X.2.2.2.1 (X.2.2.2.2 _ k_oi_xT) (X.2.2.2.2 _ k_oiI) (X.2.2.2.2 _ k_oiC) rfl (by rw [X.2.2.1]; exact hl.1) rfl dxT_init_1 (Nat.le_of_ble_eq_true rfl) (Nat.le_of_ble_eq_true rfl) ?_
  refine W.eq (g2 := F0 m 4 ls []) rfl ?_
  refine lv_aload_n hx hb dxT_init_4 rfl (lv_at hl 0 rfl) ?_
  refine va_new (ci := 1) (fs := [.null, .int 0]) (C := RxC) (T := TxC) (N := 2) hx hb X.2.2.2.2 in_xC txC oxC X.2.2.2.1 (X.2.2.2.2 _ k_cl_xT_7) (X.2.2.2.2 _ k_is_xC) (X.2.2.2.2 _ k_in_xC) (GX_K hG) h.1 h.2.1 h.2.2 (GX_A hG) rfl (fun j hj => by rcases (show j = 0 ∨ j = 1 by omega) with rfl | rfl <;> rfl) (Nat.le_of_ble_eq_true rfl) (Nat.le_of_ble_eq_true rfl) dxT_init_5 (fun q1 H hP hD hS => ?_)
  have h := HS_new hP hD hS
  have h : HS Γ s (A ++ [(h0, .inr (0, [.null, .null, .null, .null, .int 0, .long 0, .null, .null])), (q1, .inr (1, [.null, .int 0]))]) _ _ := h
  refine lv_dup hx hb dxT_init_8 rfl ?_
  have h := HS_as (A := A) (B := [(h0, .inr (0, [.null, .null, .null, .null, .int 0, .long 0, .null, .null]))]) (C := [(q1, .inr (1, [.null, .int 0]))]) h
  refine z_callI (n := 0) (As := []) (rest := [.ref q1, .ref h0]) X hG h hl.1 (mxC_init l Γ (A ++ [(h0, .inr (0, [.null, .null, .null, .null, .int 0, .long 0, .null, .null]))]) q1 ) kw_xT_9 kc_xC_init rfl (by decide +kernel) ⟨show 1 + 1 ≤ 4 from by omega, show 8 + (1 + 11) + 60 ≤ 120 from by omega⟩ rfl (Nat.le_of_ble_eq_true rfl) dxT_init_9 ⟨Nat.le_of_ble_eq_true rfl, Nat.le_of_ble_eq_true rfl⟩ (fun v W1 hK H locs h => ?_)
  obtain ⟨rfl, q2, rfl⟩ := hK
  have h := HS_sa h
  have h : HS Γ s (A ++ [(h0, .inr (0, [.null, .null, .null, .null, .int 0, .long 0, .null, .null])), (q1, .inr (1, [.ref q2, .int 10])), (q2, .inl (Γ.2.2.1 0, 16, .inl (va_cpy gpF (fun _ => 0) 0 0 10)))]) _ _ := h
  refine W.eq (g2 := F0 m 12 ls [.ref q1, .ref h0]) rfl ?_
  refine z_putF X hG h in_xT txT oxT nxT (A.length + 0) (app_at rfl) rfl 0 (by decide) rfl kF_xT_10 rfl hnm rfl rfl (Nat.le_of_ble_eq_true rfl) dxT_init_12 (fun H locs h => ?_)
  rw [app_set] at h
  have h : HS Γ s (A ++ [(h0, .inr (0, [.ref q1, .null, .null, .null, .int 0, .long 0, .null, .null])), (q1, .inr (1, [.ref q2, .int 10])), (q2, .inl (Γ.2.2.1 0, 16, .inl (va_cpy gpF (fun _ => 0) 0 0 10)))]) _ _ := h
  refine lv_aload_n hx hb dxT_init_15 rfl (lv_at hl 0 rfl) ?_
  refine va_new (ci := 2) (fs := [.null, .null, .null, .int 0]) (C := RxP) (T := TxP) (N := 4) hx hb X.2.2.2.2 in_xP txP oxP X.2.2.2.1 (X.2.2.2.2 _ k_cl_xT_16) (X.2.2.2.2 _ k_is_xP) (X.2.2.2.2 _ k_in_xP) (GX_K hG) h.1 h.2.1 h.2.2 (GX_A hG) rfl (fun j hj => by rcases (show j = 0 ∨ j = 1 ∨ j = 2 ∨ j = 3 by omega) with rfl | rfl | rfl | rfl <;> rfl) (Nat.le_of_ble_eq_true rfl) (Nat.le_of_ble_eq_true rfl) dxT_init_16 (fun q3 H hP hD hS => ?_)
  have h := HS_new hP hD hS
  have h : HS Γ s (A ++ [(h0, .inr (0, [.ref q1, .null, .null, .null, .int 0, .long 0, .null, .null])), (q1, .inr (1, [.ref q2, .int 10])), (q2, .inl (Γ.2.2.1 0, 16, .inl (va_cpy gpF (fun _ => 0) 0 0 10))), (q3, .inr (2, [.null, .null, .null, .int 0]))]) _ _ := h
  refine lv_dup hx hb dxT_init_19 rfl ?_
  refine lv_aload_n hx hb dxT_init_20 rfl (lv_at hl 0 rfl) ?_
  refine z_get (v := .ref q1) X hG h in_xT (A.length + 0) (app_at rfl) rfl 0 (by decide) rfl kF_xT_10 rfl dxT_init_21 ?_
  have h := HS_as (A := A) (B := [(h0, .inr (0, [.ref q1, .null, .null, .null, .int 0, .long 0, .null, .null])), (q1, .inr (1, [.ref q2, .int 10])), (q2, .inl (Γ.2.2.1 0, 16, .inl (va_cpy gpF (fun _ => 0) 0 0 10)))]) (C := [(q3, .inr (2, [.null, .null, .null, .int 0]))]) h
  refine z_callI (n := 1) (As := [.ref q1]) (rest := [.ref q3, .ref h0]) X hG h hl.1 (mxP_init l Γ (A ++ [(h0, .inr (0, [.ref q1, .null, .null, .null, .int 0, .long 0, .null, .null])), (q1, .inr (1, [.ref q2, .int 10])), (q2, .inl (Γ.2.2.1 0, 16, .inl (va_cpy gpF (fun _ => 0) 0 0 10)))]) q3 q1) kw_xT_18 kc_xP_init rfl (by decide +kernel) ⟨show 1 + 1 ≤ 4 from by omega, show 8 + (3 + 11) + 30 ≤ 120 from by omega⟩ rfl (Nat.le_of_ble_eq_true rfl) dxT_init_24 ⟨Nat.le_of_ble_eq_true rfl, Nat.le_of_ble_eq_true rfl⟩ (fun v W1 hK H locs h => ?_)
  obtain ⟨rfl, q4, q5, q6, f7, rfl⟩ := hK
  have h := HS_sa h
  have h : HS Γ s (A ++ [(h0, .inr (0, [.ref q1, .null, .null, .null, .int 0, .long 0, .null, .null])), (q1, .inr (1, [.ref q2, .int 10])), (q2, .inl (Γ.2.2.1 0, 16, .inl (va_cpy gpF (fun _ => 0) 0 0 10))), (q3, .inr (2, [.ref q1, .ref q4, .ref q5, .int 0])), (q4, .inl (Γ.2.2.1 1, 64, .inr (.inr (.inr (.inr (fun _ => none)))))), (q5, .inl (Γ.2.2.1 0, 6, .inl q6))]) _ _ := h
  refine W.eq (g2 := F0 m 27 ls [.ref q3, .ref h0]) rfl ?_
  refine z_putF X hG h in_xT txT oxT nxT (A.length + 0) (app_at rfl) rfl 1 (by decide) rfl kF_xT_21 rfl hnm rfl rfl (Nat.le_of_ble_eq_true rfl) dxT_init_27 (fun H locs h => ?_)
  rw [app_set] at h
  have h : HS Γ s (A ++ [(h0, .inr (0, [.ref q1, .ref q3, .null, .null, .int 0, .long 0, .null, .null])), (q1, .inr (1, [.ref q2, .int 10])), (q2, .inl (Γ.2.2.1 0, 16, .inl (va_cpy gpF (fun _ => 0) 0 0 10))), (q3, .inr (2, [.ref q1, .ref q4, .ref q5, .int 0])), (q4, .inl (Γ.2.2.1 1, 64, .inr (.inr (.inr (.inr (fun _ => none)))))), (q5, .inl (Γ.2.2.1 0, 6, .inl q6))]) _ _ := h
  refine lv_aload_n hx hb dxT_init_30 rfl (lv_at hl 0 rfl) ?_
  refine va_new (ci := 4) (fs := [.null]) (C := RxR) (T := TxR) (N := 1) hx hb X.2.2.2.2 in_xR txR oxR X.2.2.2.1 (X.2.2.2.2 _ k_cl_xT_25) (X.2.2.2.2 _ k_is_xR) (X.2.2.2.2 _ k_in_xR) (GX_K hG) h.1 h.2.1 h.2.2 (GX_A hG) rfl (fun j hj => by rcases (show j = 0 by omega) with rfl <;> rfl) (Nat.le_of_ble_eq_true rfl) (Nat.le_of_ble_eq_true rfl) dxT_init_31 (fun q8 H hP hD hS => ?_)
  have h := HS_new hP hD hS
  have h : HS Γ s (A ++ [(h0, .inr (0, [.ref q1, .ref q3, .null, .null, .int 0, .long 0, .null, .null])), (q1, .inr (1, [.ref q2, .int 10])), (q2, .inl (Γ.2.2.1 0, 16, .inl (va_cpy gpF (fun _ => 0) 0 0 10))), (q3, .inr (2, [.ref q1, .ref q4, .ref q5, .int 0])), (q4, .inl (Γ.2.2.1 1, 64, .inr (.inr (.inr (.inr (fun _ => none)))))), (q5, .inl (Γ.2.2.1 0, 6, .inl q6)), (q8, .inr (4, [.null]))]) _ _ := h
  refine lv_dup hx hb dxT_init_34 rfl ?_
  have h := HS_as (A := A) (B := [(h0, .inr (0, [.ref q1, .ref q3, .null, .null, .int 0, .long 0, .null, .null])), (q1, .inr (1, [.ref q2, .int 10])), (q2, .inl (Γ.2.2.1 0, 16, .inl (va_cpy gpF (fun _ => 0) 0 0 10))), (q3, .inr (2, [.ref q1, .ref q4, .ref q5, .int 0])), (q4, .inl (Γ.2.2.1 1, 64, .inr (.inr (.inr (.inr (fun _ => none)))))), (q5, .inl (Γ.2.2.1 0, 6, .inl q6))]) (C := [(q8, .inr (4, [.null]))]) h
  refine z_callIN (n := 0) (As := []) (rest := [.ref q8, .ref h0]) X hG h hl.1 (mxR_init l Γ (A ++ [(h0, .inr (0, [.ref q1, .ref q3, .null, .null, .int 0, .long 0, .null, .null])), (q1, .inr (1, [.ref q2, .int 10])), (q2, .inl (Γ.2.2.1 0, 16, .inl (va_cpy gpF (fun _ => 0) 0 0 10))), (q3, .inr (2, [.ref q1, .ref q4, .ref q5, .int 0])), (q4, .inl (Γ.2.2.1 1, 64, .inr (.inr (.inr (.inr (fun _ => none)))))), (q5, .inl (Γ.2.2.1 0, 6, .inl q6))]) q8 ) kz_xT_27 (GX_NR hG) kc_xR_init rfl (by decide +kernel) ⟨show 3 + 1 ≤ 4 from by omega, show 8 + (1 + 11) + 90 ≤ 120 from by omega⟩ rfl (Nat.le_of_ble_eq_true rfl) dxT_init_35 ⟨Nat.le_of_ble_eq_true rfl, Nat.le_of_ble_eq_true rfl⟩ (fun v W1 hK H locs h => ?_)
  obtain ⟨rfl, q9, q10, rfl⟩ := hK
  have h := HS_sa h
  have h : HS Γ s (A ++ [(h0, .inr (0, [.ref q1, .ref q3, .null, .null, .int 0, .long 0, .null, .null])), (q1, .inr (1, [.ref q2, .int 10])), (q2, .inl (Γ.2.2.1 0, 16, .inl (va_cpy gpF (fun _ => 0) 0 0 10))), (q3, .inr (2, [.ref q1, .ref q4, .ref q5, .int 0])), (q4, .inl (Γ.2.2.1 1, 64, .inr (.inr (.inr (.inr (fun _ => none)))))), (q5, .inl (Γ.2.2.1 0, 6, .inl q6)), (q8, .inr (4, [.ref q9])), (q9, .inr (7, [.ref q10, .int 0, .int 0, .int 0])), (q10, .inl (Γ.2.2.1 3, 16, .inl (fun _ => 0)))]) _ _ := h
  refine W.eq (g2 := F0 m 38 ls [.ref q8, .ref h0]) rfl ?_
  refine z_putF X hG h in_xT txT oxT nxT (A.length + 0) (app_at rfl) rfl 2 (by decide) rfl kF_xT_28 rfl hnm rfl rfl (Nat.le_of_ble_eq_true rfl) dxT_init_38 (fun H locs h => ?_)
  rw [app_set] at h
  have h : HS Γ s (A ++ [(h0, .inr (0, [.ref q1, .ref q3, .ref q8, .null, .int 0, .long 0, .null, .null])), (q1, .inr (1, [.ref q2, .int 10])), (q2, .inl (Γ.2.2.1 0, 16, .inl (va_cpy gpF (fun _ => 0) 0 0 10))), (q3, .inr (2, [.ref q1, .ref q4, .ref q5, .int 0])), (q4, .inl (Γ.2.2.1 1, 64, .inr (.inr (.inr (.inr (fun _ => none)))))), (q5, .inl (Γ.2.2.1 0, 6, .inl q6)), (q8, .inr (4, [.ref q9])), (q9, .inr (7, [.ref q10, .int 0, .int 0, .int 0])), (q10, .inl (Γ.2.2.1 3, 16, .inl (fun _ => 0)))]) _ _ := h
  refine lv_aload_n hx hb dxT_init_41 rfl (lv_at hl 0 rfl) ?_
  refine lv_iconst (v := -1) hx hb dxT_init_42 (by decide) ?_
  refine z_put X hG h in_xT txT oxT nxT (A.length + 0) (app_at rfl) rfl 4 (by decide) rfl kF_xT_32 rfl rfl rfl (Nat.le_of_ble_eq_true rfl) dxT_init_43 (fun H locs h => ?_)
  rw [app_set] at h
  have h : HS Γ s (A ++ [(h0, .inr (0, [.ref q1, .ref q3, .ref q8, .null, .int (-1), .long 0, .null, .null])), (q1, .inr (1, [.ref q2, .int 10])), (q2, .inl (Γ.2.2.1 0, 16, .inl (va_cpy gpF (fun _ => 0) 0 0 10))), (q3, .inr (2, [.ref q1, .ref q4, .ref q5, .int 0])), (q4, .inl (Γ.2.2.1 1, 64, .inr (.inr (.inr (.inr (fun _ => none)))))), (q5, .inl (Γ.2.2.1 0, 6, .inl q6)), (q8, .inr (4, [.ref q9])), (q9, .inr (7, [.ref q10, .int 0, .int 0, .int 0])), (q10, .inl (Γ.2.2.1 3, 16, .inl (fun _ => 0)))]) _ _ := h
  refine lv_aload_n hx hb dxT_init_46 rfl (lv_at hl 0 rfl) ?_
  refine lv_ldc2 (v := 1000000000000) hx hb X.2.2.2.1 (X.2.2.2.2 _ kL_xT_36) dxT_init_47 ?_
  refine z_put X hG h in_xT txT oxT nxT (A.length + 0) (app_at rfl) rfl 5 (by decide) rfl kF_xT_38 rfl rfl rfl (Nat.le_of_ble_eq_true rfl) dxT_init_50 (fun H locs h => ?_)
  rw [app_set] at h
  have h : HS Γ s (A ++ [(h0, .inr (0, [.ref q1, .ref q3, .ref q8, .null, .int (-1), .long 1000000000000, .null, .null])), (q1, .inr (1, [.ref q2, .int 10])), (q2, .inl (Γ.2.2.1 0, 16, .inl (va_cpy gpF (fun _ => 0) 0 0 10))), (q3, .inr (2, [.ref q1, .ref q4, .ref q5, .int 0])), (q4, .inl (Γ.2.2.1 1, 64, .inr (.inr (.inr (.inr (fun _ => none)))))), (q5, .inl (Γ.2.2.1 0, 6, .inl q6)), (q8, .inr (4, [.ref q9])), (q9, .inr (7, [.ref q10, .int 0, .int 0, .int 0])), (q10, .inl (Γ.2.2.1 3, 16, .inl (fun _ => 0)))]) _ _ := h
  refine lv_aload_n hx hb dxT_init_53 rfl (lv_at hl 0 rfl) ?_
  refine va_new (ci := 3) (fs := [.null, .null, .int 0, .null, .null, .null, .null, .int 0, .int 0, .int 0, .int 0, .int 0, .int 0, .int 0, .null]) (C := RxM) (T := TxM) (N := 15) hx hb X.2.2.2.2 in_xM txM oxM X.2.2.2.1 (X.2.2.2.2 _ k_cl_xT_42) (X.2.2.2.2 _ k_is_xM) (X.2.2.2.2 _ k_in_xM) (GX_K hG) h.1 h.2.1 h.2.2 (GX_A hG) rfl (fun j hj => by rcases (show j = 0 ∨ j = 1 ∨ j = 2 ∨ j = 3 ∨ j = 4 ∨ j = 5 ∨ j = 6 ∨ j = 7 ∨ j = 8 ∨ j = 9 ∨ j = 10 ∨ j = 11 ∨ j = 12 ∨ j = 13 ∨ j = 14 by omega) with rfl | rfl | rfl | rfl | rfl | rfl | rfl | rfl | rfl | rfl | rfl | rfl | rfl | rfl | rfl <;> rfl) (Nat.le_of_ble_eq_true rfl) (Nat.le_of_ble_eq_true rfl) dxT_init_54 (fun q11 H hP hD hS => ?_)
  have h := HS_new hP hD hS
  have h : HS Γ s (A ++ [(h0, .inr (0, [.ref q1, .ref q3, .ref q8, .null, .int (-1), .long 1000000000000, .null, .null])), (q1, .inr (1, [.ref q2, .int 10])), (q2, .inl (Γ.2.2.1 0, 16, .inl (va_cpy gpF (fun _ => 0) 0 0 10))), (q3, .inr (2, [.ref q1, .ref q4, .ref q5, .int 0])), (q4, .inl (Γ.2.2.1 1, 64, .inr (.inr (.inr (.inr (fun _ => none)))))), (q5, .inl (Γ.2.2.1 0, 6, .inl q6)), (q8, .inr (4, [.ref q9])), (q9, .inr (7, [.ref q10, .int 0, .int 0, .int 0])), (q10, .inl (Γ.2.2.1 3, 16, .inl (fun _ => 0))), (q11, .inr (3, [.null, .null, .int 0, .null, .null, .null, .null, .int 0, .int 0, .int 0, .int 0, .int 0, .int 0, .int 0, .null]))]) _ _ := h
  refine lv_dup hx hb dxT_init_57 rfl ?_
  refine lv_aload_n hx hb dxT_init_58 rfl (lv_at hl 0 rfl) ?_
  refine z_get (v := .ref q3) X hG h in_xT (A.length + 0) (app_at rfl) rfl 1 (by decide) rfl kF_xT_21 rfl dxT_init_59 ?_
  refine lv_aload_n hx hb dxT_init_62 rfl (lv_at hl 0 rfl) ?_
  refine z_get (v := .ref q1) X hG h in_xT (A.length + 0) (app_at rfl) rfl 0 (by decide) rfl kF_xT_10 rfl dxT_init_63 ?_
  refine lv_iconst (v := 1) hx hb dxT_init_66 (by decide) ?_
  refine lv_bipush (v := 12) hx hb dxT_init_67 (by decide) ?_
  refine lv_iload_n hx hb dxT_init_69 rfl (lv_at hl 1 rfl) ?_
  refine va_mmin hx hb (by rw [hl.1]; exact X.2.2.1) X.2.2.2.1 (X.2.2.2.2 _ kM_xT_44.1) (X.2.2.2.2 _ kM_xT_44.2.1) (X.2.2.2.2 _ kM_xT_44.2.2.1) (X.2.2.2.2 _ kM_xT_44.2.2.2) (Nat.le_of_ble_eq_true rfl) (Nat.le_of_ble_eq_true rfl) (Nat.le_of_ble_eq_true rfl) (Nat.le_of_ble_eq_true rfl) dxT_init_70 ?_
  refine va_mmax hx hb (by rw [hl.1]; exact X.2.2.1) X.2.2.2.1 (X.2.2.2.2 _ kM_xT_50.1) (X.2.2.2.2 _ kM_xT_50.2.1) (X.2.2.2.2 _ kM_xT_50.2.2.1) (X.2.2.2.2 _ kM_xT_50.2.2.2) (Nat.le_of_ble_eq_true rfl) (Nat.le_of_ble_eq_true rfl) (Nat.le_of_ble_eq_true rfl) (Nat.le_of_ble_eq_true rfl) dxT_init_73 ?_
  have h := HS_as (A := A) (B := [(h0, .inr (0, [.ref q1, .ref q3, .ref q8, .null, .int (-1), .long 1000000000000, .null, .null])), (q1, .inr (1, [.ref q2, .int 10])), (q2, .inl (Γ.2.2.1 0, 16, .inl (va_cpy gpF (fun _ => 0) 0 0 10))), (q3, .inr (2, [.ref q1, .ref q4, .ref q5, .int 0])), (q4, .inl (Γ.2.2.1 1, 64, .inr (.inr (.inr (.inr (fun _ => none)))))), (q5, .inl (Γ.2.2.1 0, 6, .inl q6)), (q8, .inr (4, [.ref q9])), (q9, .inr (7, [.ref q10, .int 0, .int 0, .int 0])), (q10, .inl (Γ.2.2.1 3, 16, .inl (fun _ => 0)))]) (C := [(q11, .inr (3, [.null, .null, .int 0, .null, .null, .null, .null, .int 0, .int 0, .int 0, .int 0, .int 0, .int 0, .int 0, .null]))]) h
  refine z_callI (n := 3) (As := [.ref q3, .ref q1, .int (if (1 : Int32) < (if x < 12 then x else 12) then (if x < 12 then x else 12) else 1)]) (rest := [.ref q11, .ref h0]) X hG h hl.1 (mxM_init l Γ (A ++ [(h0, .inr (0, [.ref q1, .ref q3, .ref q8, .null, .int (-1), .long 1000000000000, .null, .null])), (q1, .inr (1, [.ref q2, .int 10])), (q2, .inl (Γ.2.2.1 0, 16, .inl (va_cpy gpF (fun _ => 0) 0 0 10))), (q3, .inr (2, [.ref q1, .ref q4, .ref q5, .int 0])), (q4, .inl (Γ.2.2.1 1, 64, .inr (.inr (.inr (.inr (fun _ => none)))))), (q5, .inl (Γ.2.2.1 0, 6, .inl q6)), (q8, .inr (4, [.ref q9])), (q9, .inr (7, [.ref q10, .int 0, .int 0, .int 0])), (q10, .inl (Γ.2.2.1 3, 16, .inl (fun _ => 0)))]) q11 q3 q1 (if (1 : Int32) < (if x < 12 then x else 12) then (if x < 12 then x else 12) else 1)) kw_xT_53 kc_xM_init rfl (by decide +kernel) ⟨show 2 + 1 ≤ 4 from by omega, show 8 + (5 + 11) + 60 ≤ 120 from by omega⟩ rfl (Nat.le_of_ble_eq_true rfl) dxT_init_76 ⟨Nat.le_of_ble_eq_true rfl, Nat.le_of_ble_eq_true rfl⟩ (fun v W1 hK H locs h => ?_)
  obtain ⟨rfl, v1, v2, v3, v4, T, rfl⟩ := hK
  have h := HS_sa2 h
  refine W.eq (g2 := F0 m 79 ls [.ref q11, .ref h0]) rfl ?_
  refine z_putF X hG h in_xT txT oxT nxT (A.length + 0) (app_at2 rfl) rfl 3 (by decide) rfl kF_xT_56 rfl hnm rfl rfl (Nat.le_of_ble_eq_true rfl) dxT_init_79 (fun H locs h => ?_)
  have h := HS_set2 (i := 0) (d := _) h rfl
  have h : HS Γ s ((A ++ ([(h0, .inr (0, [.ref q1, .ref q3, .ref q8, .ref q11, .int (-1), .long 1000000000000, .null, .null])), (q1, .inr (1, [.ref q2, .int 10])), (q2, .inl (Γ.2.2.1 0, 16, .inl (va_cpy gpF (fun _ => 0) 0 0 10))), (q3, .inr (2, [.ref q1, .ref q4, .ref q5, .int 0])), (q4, .inl (Γ.2.2.1 1, 64, .inr (.inr (.inr (.inr (fun _ => none)))))), (q5, .inl (Γ.2.2.1 0, 6, .inl q6)), (q8, .inr (4, [.ref q9])), (q9, .inr (7, [.ref q10, .int 0, .int 0, .int 0])), (q10, .inl (Γ.2.2.1 3, 16, .inl (fun _ => 0)))] ++ maC Γ q11 q3 q1 (if (1 : Int32) < (if x < 12 then x else 12) then (if x < 12 then x else 12) else 1) v1 v2 v3 v4 (fun j => some (T j)))) ++ pz 300 (fun j => (T j, th0))) _ _ := h
  refine W.widen (k := 313) (n := 1934) (Nat.le_of_ble_eq_true rfl) (Nat.le_of_ble_eq_true rfl) ?_
  exact z_vret X hr hlk h ⟨rfl, q1, q2, q3, q4, q5, q8, q9, q10, q11, v1, v2, v3, v4, q6, T, f7, rfl⟩ dxT_init_82
