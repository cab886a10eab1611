def wxT_node  (post : Int32 → Rh → Sg → Prop) (ρ : Rh) (S : Sg) (x : Int32) (a : Int32) (b : Int32) (q : Int32) (mc ms : Nat) : Prop := wxP_fits (fun r1 S2 => ((r1 = (0 : Int32)) → post (-1 : Int32) ρ S2) ∧ ((¬ (r1 = (0 : Int32))) → wxP_levelOf (fun r4 S5 => ((r4 ≤ (8 : Int32)) → wxP_isFull (fun r7 S8 => ((r7 = (0 : Int32)) → ∃ m12 s13 : Nat, (0 + m12 ≤ mc ∧ 0 + s13 ≤ ms) ∧ wxP_add (fun r10 ρ14 S11 => post r10 ρ14 S11) ρ S8 x a b q m12 s13) ∧ ((¬ (r7 = (0 : Int32))) → post (-2 : Int32) ρ S8)) ρ S5 ) ∧ ((¬ (r4 ≤ (8 : Int32))) → post (-1 : Int32) ρ S5)) ρ S2 x a b q)) ρ S x a b q
set_option maxHeartbeats 4000000 in
set_option maxRecDepth 100000 in
theorem mxT_node (l : Launch) (Γ : Gm) (θ : Th) (ρ : Rh) (S : Sg) (Z : va_W) (x : Int32) (a : Int32) (b : Int32) (q : Int32) (mc ms : Nat) (post : Int32 → Rh → Sg → Prop) (hw : wxT_node post ρ S x a b q mc ms) : MM l yxT_node cxT_node 5 (some .int) 4 104 Γ [.ref (θ.1 0), .int x, .int a, .int b, .int q] (WX Γ θ ρ S Z) (KK (fun r : Int32 => some (.int r)) (fun q : Rh × Sg => WX Γ θ q.1 q.2 Z) (fun r q => post r q.1 q.2)) mc ms := by
  refine MM_of (by decide) (Nat.le_of_ble_eq_true rfl) ?_
  intro p e s m below meth c X hr hlk hnm hG h ls hl
  have hx := X.1
  have hb := X.2.1
  have hc : 0 ≤ mc ∧ 0 ≤ ms := ⟨Nat.zero_le _, Nat.zero_le _⟩
  have hl : lv_has ls 5 [(0, .ref (θ.1 0)), (1, .int x), (2, .int a), (3, .int b), (4, .int q)] := hl
  unfold wxT_node at hw
  refine lv_aload_n hx hb dxT_node_0 rfl (lv_at hl 0 rfl) ?_
  refine gx_xT_21 X hG h dxT_node_1 ?_
  refine lv_iload_n hx hb dxT_node_4 rfl (lv_at hl 1 rfl) ?_
  refine lv_iload_n hx hb dxT_node_5 rfl (lv_at hl 2 rfl) ?_
  refine lv_iload_n hx hb dxT_node_6 rfl (lv_at hl 3 rfl) ?_
  refine lv_iload hx hb dxT_node_7 (lv_at hl 4 rfl) ?_
  refine cx_xT_72 (As := [.int x, .int a, .int b, .int q]) (rest := []) X hG h hl.1 (mxP_fits l Γ θ ρ S Z x a b q _ hw) ⟨show 1 + 1 ≤ 4 from by omega, show 8 + (5 + 11) + 21 ≤ 104 from by omega⟩ (q0 := 3) rfl rfl (Nat.le_of_ble_eq_true rfl) dxT_node_9 hc (fun v W1 hK H locs h => ?_)
  obtain ⟨r1, S2, rfl, rfl, hw⟩ := hK
  refine W.eq (g2 := F0 m 12 ls [.int r1]) rfl ?_
  refine lv_if_eq (tgt := 32) hx hb dxT_node_12 (by decide) (fun c3 => ?_) (fun c3 => ?_)
  · have hw := hw.1 c3
    refine lv_iconst (v := -1) hx hb dxT_node_32 (by decide) ?_
    refine W.widen (k := mc) (n := ms) hc.1 hc.2 ?_
    exact z_iret X hr hlk h ⟨_, (ρ, S2), rfl, rfl, hw⟩ dxT_node_33
  · have hw := hw.2 c3
    refine lv_aload_n hx hb dxT_node_15 rfl (lv_at hl 0 rfl) ?_
    refine gx_xT_21 X hG h dxT_node_16 ?_
    refine lv_iload_n hx hb dxT_node_19 rfl (lv_at hl 1 rfl) ?_
    refine lv_iload_n hx hb dxT_node_20 rfl (lv_at hl 2 rfl) ?_
    refine lv_iload_n hx hb dxT_node_21 rfl (lv_at hl 3 rfl) ?_
    refine lv_iload hx hb dxT_node_22 (lv_at hl 4 rfl) ?_
    refine cx_xT_76 (As := [.int x, .int a, .int b, .int q]) (rest := []) X hG h hl.1 (mxP_levelOf l Γ θ ρ S2 Z x a b q _ hw) ⟨show 2 + 1 ≤ 4 from by omega, show 8 + (5 + 11) + 42 ≤ 104 from by omega⟩ (q0 := 3) rfl rfl (Nat.le_of_ble_eq_true rfl) dxT_node_24 hc (fun v W1 hK H locs h => ?_)
    obtain ⟨r4, S5, rfl, rfl, hw⟩ := hK
    refine W.eq (g2 := F0 m 27 ls [.int r4]) rfl ?_
    refine lv_bipush (v := 8) hx hb dxT_node_27 (by decide) ?_
    refine lv_icmp_le (tgt := 34) hx hb dxT_node_29 (by decide) (fun c6 => ?_) (fun c6 => ?_)
    · have hw := hw.1 c6
      refine lv_aload_n hx hb dxT_node_34 rfl (lv_at hl 0 rfl) ?_
      refine gx_xT_21 X hG h dxT_node_35 ?_
      refine cx_xT_80 (As := []) (rest := []) X hG h hl.1 (mxP_isFull l Γ θ ρ S5 Z  _ hw) ⟨show 0 + 1 ≤ 4 from by omega, show 8 + (1 + 11) + 0 ≤ 104 from by omega⟩ (q0 := 3) rfl rfl (Nat.le_of_ble_eq_true rfl) dxT_node_38 hc (fun v W1 hK H locs h => ?_)
      obtain ⟨r7, S8, rfl, rfl, hw⟩ := hK
      refine W.eq (g2 := F0 m 41 ls [.int r7]) rfl ?_
      refine lv_if_eq (tgt := 49) hx hb dxT_node_41 (by decide) (fun c9 => ?_) (fun c9 => ?_)
      · have hw := hw.1 c9
        refine lv_aload_n hx hb dxT_node_49 rfl (lv_at hl 0 rfl) ?_
        refine gx_xT_21 X hG h dxT_node_50 ?_
        refine lv_iload_n hx hb dxT_node_53 rfl (lv_at hl 1 rfl) ?_
        refine lv_iload_n hx hb dxT_node_54 rfl (lv_at hl 2 rfl) ?_
        refine lv_iload_n hx hb dxT_node_55 rfl (lv_at hl 3 rfl) ?_
        refine lv_iload hx hb dxT_node_56 (lv_at hl 4 rfl) ?_
        obtain ⟨m12, s13, hc, hw⟩ := hw
        refine cx_xT_81 (As := [.int x, .int a, .int b, .int q]) (rest := []) X hG h hl.1 (mxP_add l Γ θ ρ S8 Z x a b q m12 s13 _ hw) ⟨show 3 + 1 ≤ 4 from by omega, show 8 + (5 + 11) + 80 ≤ 104 from by omega⟩ (q0 := 3) rfl rfl (Nat.le_of_ble_eq_true rfl) dxT_node_58 hc (fun v W1 hK H locs h => ?_)
        obtain ⟨r10, ⟨ρ14, S11⟩, rfl, rfl, hw⟩ := hK
        refine W.eq (g2 := F0 m 61 ls [.int r10]) rfl ?_
        refine W.widen (k := mc) (n := ms) hc.1 hc.2 ?_
        exact z_iret X hr hlk h ⟨_, (ρ14, S11), rfl, rfl, hw⟩ dxT_node_61
      · have hw := hw.2 c9
        refine lv_bipush (v := -2) hx hb dxT_node_44 (by decide) ?_
        refine lv_goto (tgt := 61) hx hb dxT_node_46 (by decide) ?_
        refine W.widen (k := mc) (n := ms) hc.1 hc.2 ?_
        exact z_iret X hr hlk h ⟨_, (ρ, S8), rfl, rfl, hw⟩ dxT_node_61
    · have hw := hw.2 c6
      refine lv_iconst (v := -1) hx hb dxT_node_32 (by decide) ?_
      refine W.widen (k := mc) (n := ms) hc.1 hc.2 ?_
      exact z_iret X hr hlk h ⟨_, (ρ, S5), rfl, rfl, hw⟩ dxT_node_33
