def wxA_setLength  (post : Unit → Rh → Sg → Prop) (ρ : Rh) (S : Sg) (x : Int32) (mc ms : Nat) : Prop := (((0 : Int32) ≤ x) → ∃ m4 s5 : Nat, (0 + m4 ≤ mc ∧ 0 + s5 ≤ ms) ∧ wxA_ensureCapacityInternal (fun (_ : Unit) ρ6 S3 => ((x ≤ (ρ6.2.2.2.2.2.2.2 0)) → (((ρ6.2.2.2.2.2.2.2 0) ≤ x) → post () (rT ρ6 0 x) S3) ∧ ((¬ ((ρ6.2.2.2.2.2.2.2 0) ≤ x)) → post () (rT (rT ρ6 1 1) 0 x) S3)) ∧ ((¬ (x ≤ (ρ6.2.2.2.2.2.2.2 0))) → wxA_isLatin1 (fun r9 S10 => ((r9 = (0 : Int32)) → False) ∧ ((¬ (r9 = (0 : Int32))) → False)) ρ6 S3 )) ρ S x m4 s5) ∧ ((¬ ((0 : Int32) ≤ x)) → False)
set_option maxHeartbeats 4000000 in
set_option maxRecDepth 100000 in
theorem mxA_setLength (l : Launch) (Γ : Gm) (θ : Th) (ρ : Rh) (S : Sg) (Z : va_W) (x : Int32) (mc ms : Nat) (post : Unit → Rh → Sg → Prop) (hw : wxA_setLength post ρ S x mc ms) : MM l yxA_setLength cxA_setLength 2 none 4 122 Γ [.ref (θ.1 12), .int x] (WX Γ θ ρ S Z) (KK (fun _ : Unit => none) (fun q : Rh × Sg => WX Γ θ q.1 q.2 Z) (fun r q => post r q.1 q.2)) mc ms := by
  refine MM_ofF (by decide +kernel) (Nat.le_of_ble_eq_true rfl) ?_
  intro p e s m below meth c X hr hlk hnm hG h ls hl
  have hx := X.1
  have hb := X.2.1
  have hc : 0 ≤ mc ∧ 0 ≤ ms := ⟨Nat.zero_le _, Nat.zero_le _⟩
  have hl : lv_has ls 2 [(0, .ref (θ.1 12)), (1, .int x)] := hl
  unfold wxA_setLength at hw
  refine lv_iload_n hx hb dxA_setLength_0 rfl (lv_at hl 1 rfl) ?_
  refine lv_if_ge (tgt := 13) hx hb dxA_setLength_1 (by decide) (fun c1 => ?_) (fun c1 => ?_)
  · have hw := hw.1 c1
    refine lv_aload_n hx hb dxA_setLength_13 rfl (lv_at hl 0 rfl) ?_
    refine lv_iload_n hx hb dxA_setLength_14 rfl (lv_at hl 1 rfl) ?_
    obtain ⟨m4, s5, hc, hw⟩ := hw
    refine cx_xA_100 (As := [.int x]) (rest := []) X hG h hl.1 (mxA_ensureCapacityInternal l Γ θ ρ S Z x m4 s5 _ hw) ⟨show 3 + 1 ≤ 4 from by omega, show 8 + (3 + 11) + 100 ≤ 122 from by omega⟩ (q0 := 12) rfl rfl (Nat.le_of_ble_eq_true rfl) dxA_setLength_15 hc (fun v W1 hK H locs h => ?_)
    obtain ⟨r2, ⟨ρ6, S3⟩, rfl, rfl, hw⟩ := hK
    refine W.eq (g2 := F0 m 18 ls []) rfl ?_
    refine lv_aload_n hx hb dxA_setLength_18 rfl (lv_at hl 0 rfl) ?_
    refine gx_xA_79 X hG h (x := ρ6.2.2.2.2.2.2.2 0) rfl dxA_setLength_19 ?_
    refine lv_iload_n hx hb dxA_setLength_22 rfl (lv_at hl 1 rfl) ?_
    refine lv_icmp_ge (tgt := 63) hx hb dxA_setLength_23 (by decide) (fun c7 => ?_) (fun c7 => ?_)
    · have hw := hw.1 c7
      refine lv_aload_n hx hb dxA_setLength_63 rfl (lv_at hl 0 rfl) ?_
      refine gx_xA_79 X hG h (x := ρ6.2.2.2.2.2.2.2 0) rfl dxA_setLength_64 ?_
      refine lv_iload_n hx hb dxA_setLength_67 rfl (lv_at hl 1 rfl) ?_
      refine lv_icmp_le (tgt := 76) hx hb dxA_setLength_68 (by decide) (fun c8 => ?_) (fun c8 => ?_)
      · have hw := hw.1 c8
        refine lv_aload_n hx hb dxA_setLength_76 rfl (lv_at hl 0 rfl) ?_
        refine lv_iload_n hx hb dxA_setLength_77 rfl (lv_at hl 1 rfl) ?_
        refine px_xA_79 X hG h dxA_setLength_78 (fun H locs h => ?_)
        refine W.widen (k := mc) (n := ms) hc.1 hc.2 ?_
        exact z_vret X hr hlk h ⟨_, ((rT ρ6 0 x), S3), rfl, rfl, hw⟩ dxA_setLength_81
      · have hw := hw.2 c8
        refine lv_aload_n hx hb dxA_setLength_71 rfl (lv_at hl 0 rfl) ?_
        refine lv_iconst (v := 1) hx hb dxA_setLength_72 (by decide) ?_
        refine px_xA_73 X hG h rfl rfl dxA_setLength_73 (fun H locs h => ?_)
        refine lv_aload_n hx hb dxA_setLength_76 rfl (lv_at hl 0 rfl) ?_
        refine lv_iload_n hx hb dxA_setLength_77 rfl (lv_at hl 1 rfl) ?_
        refine px_xA_79 X hG h dxA_setLength_78 (fun H locs h => ?_)
        refine W.widen (k := mc) (n := ms) hc.1 hc.2 ?_
        exact z_vret X hr hlk h ⟨_, ((rT (rT ρ6 1 1) 0 x), S3), rfl, rfl, hw⟩ dxA_setLength_81
    · have hw := hw.2 c7
      refine lv_aload_n hx hb dxA_setLength_26 rfl (lv_at hl 0 rfl) ?_
      refine cx_xA_83 (As := []) (rest := []) X hG h hl.1 (mxA_isLatin1 l Γ θ ρ6 S3 Z  _ hw) ⟨show 0 + 1 ≤ 4 from by omega, show 8 + (1 + 11) + 0 ≤ 122 from by omega⟩ (q0 := 12) rfl rfl (Nat.le_of_ble_eq_true rfl) dxA_setLength_27 hc (fun v W1 hK H locs h => ?_)
      obtain ⟨r9, S10, rfl, rfl, hw⟩ := hK
      refine W.eq (g2 := F0 m 30 ls [.int r9]) rfl ?_
      refine lv_if_eq (tgt := 48) hx hb dxA_setLength_30 (by decide) (fun c11 => ?_) (fun c11 => ?_)
      · have hw := hw.1 c11
        refine lv_aload_n hx hb dxA_setLength_48 rfl (lv_at hl 0 rfl) ?_
        refine gx_xA_15 X hG h dxA_setLength_49 ?_
        refine lv_aload_n hx hb dxA_setLength_52 rfl (lv_at hl 0 rfl) ?_
        refine gx_xA_79 X hG h (x := ρ6.2.2.2.2.2.2.2 0) rfl dxA_setLength_53 ?_
        refine lv_iload_n hx hb dxA_setLength_56 rfl (lv_at hl 1 rfl) ?_
        exact hw.elim
      · have hw := hw.2 c11
        refine lv_aload_n hx hb dxA_setLength_33 rfl (lv_at hl 0 rfl) ?_
        refine gx_xA_15 X hG h dxA_setLength_34 ?_
        refine lv_aload_n hx hb dxA_setLength_37 rfl (lv_at hl 0 rfl) ?_
        refine gx_xA_79 X hG h (x := ρ6.2.2.2.2.2.2.2 0) rfl dxA_setLength_38 ?_
        refine lv_iload_n hx hb dxA_setLength_41 rfl (lv_at hl 1 rfl) ?_
        exact hw.elim
  · have hw := hw.2 c1
    exact hw.elim
def wxB_setLength  (post : Unit → Rh → Sg → Prop) (ρ : Rh) (S : Sg) (x : Int32) (mc ms : Nat) : Prop := ∃ m3 s4 : Nat, (0 + m3 ≤ mc ∧ 0 + s4 ≤ ms) ∧ wxA_setLength (fun (_ : Unit) ρ5 S2 => post () ρ5 S2) ρ S x m3 s4
set_option maxHeartbeats 4000000 in
set_option maxRecDepth 100000 in
theorem mxB_setLength (l : Launch) (Γ : Gm) (θ : Th) (ρ : Rh) (S : Sg) (Z : va_W) (x : Int32) (mc ms : Nat) (post : Unit → Rh → Sg → Prop) (hw : wxB_setLength post ρ S x mc ms) : MM l yxB_setLength cxB_setLength 2 none 5 143 Γ [.ref (θ.1 12), .int x] (WX Γ θ ρ S Z) (KK (fun _ : Unit => none) (fun q : Rh × Sg => WX Γ θ q.1 q.2 Z) (fun r q => post r q.1 q.2)) mc ms := by
  refine MM_ofF (by decide +kernel) (Nat.le_of_ble_eq_true rfl) ?_
  intro p e s m below meth c X hr hlk hnm hG h ls hl
  have hx := X.1
  have hb := X.2.1
  have hc : 0 ≤ mc ∧ 0 ≤ ms := ⟨Nat.zero_le _, Nat.zero_le _⟩
  have hl : lv_has ls 2 [(0, .ref (θ.1 12)), (1, .int x)] := hl
  unfold wxB_setLength at hw
  refine lv_aload_n hx hb dxB_setLength_0 rfl (lv_at hl 0 rfl) ?_
  refine lv_iload_n hx hb dxB_setLength_1 rfl (lv_at hl 1 rfl) ?_
  obtain ⟨m3, s4, hc, hw⟩ := hw
  refine cx_xB_333 (As := [.int x]) (rest := []) X hG h hl.1 (mxA_setLength l Γ θ ρ S Z x m3 s4 _ hw) ⟨show 4 + 1 ≤ 5 from by omega, show 8 + (2 + 11) + 122 ≤ 143 from by omega⟩ (q0 := 12) rfl rfl (Nat.le_of_ble_eq_true rfl) dxB_setLength_2 hc (fun v W1 hK H locs h => ?_)
  obtain ⟨r1, ⟨ρ5, S2⟩, rfl, rfl, hw⟩ := hK
  refine W.eq (g2 := F0 m 5 ls []) rfl ?_
  refine W.widen (k := mc) (n := ms) hc.1 hc.2 ?_
  exact z_vret X hr hlk h ⟨_, (ρ5, S2), rfl, rfl, hw⟩ dxB_setLength_5
def wxA_append  (post : Unit → Rh → Sg → Prop) (ρ : Rh) (S : Sg) (i : Nat) (mc ms : Nat) : Prop := (i < 19) ∧ wxS_length (fun r2 S3 => ∃ m6 s7 : Nat, (0 + m6 ≤ mc ∧ 0 + s7 ≤ ms) ∧ wxA_ensureCapacityInternal (fun (_ : Unit) ρ8 S5 => wxA_putStringAt (fun (_ : Unit) ρ11 S10 => post () (rT ρ11 0 ((ρ11.2.2.2.2.2.2.2 0) + r2)) S10) ρ8 S5 (ρ8.2.2.2.2.2.2.2 0) i) ρ S3 ((ρ.2.2.2.2.2.2.2 0) + r2) m6 s7) ρ S i
set_option maxHeartbeats 4000000 in
set_option maxRecDepth 100000 in
theorem mxA_append (l : Launch) (Γ : Gm) (θ : Th) (ρ : Rh) (S : Sg) (Z : va_W) (i : Nat) (mc ms : Nat) (post : Unit → Rh → Sg → Prop) (hw : wxA_append post ρ S i mc ms) : MM l yxA_append cxA_append 3 (some (.object "java/lang/AbstractStringBuilder")) 4 122 Γ [.ref (θ.1 12), .ref (Γ.2.2.2.2.1 i)] (WX Γ θ ρ S Z) (KK (fun _ : Unit => some (.ref (θ.1 12))) (fun q : Rh × Sg => WX Γ θ q.1 q.2 Z) (fun r q => post r q.1 q.2)) mc ms := by
  refine MM_ofF (by decide +kernel) (Nat.le_of_ble_eq_true rfl) ?_
  intro p e s m below meth c X hr hlk hnm hG h ls hl
  have hx := X.1
  have hb := X.2.1
  have hc : 0 ≤ mc ∧ 0 ≤ ms := ⟨Nat.zero_le _, Nat.zero_le _⟩
  have hl : lv_has ls 3 [(0, .ref (θ.1 12)), (1, .ref (Γ.2.2.2.2.1 i))] := hl
  unfold wxA_append at hw
  refine lv_aload_n hx hb dxA_append_0 rfl (lv_at hl 1 rfl) ?_
  refine lv_ifnonnull (tgt := 9) hx hb dxA_append_1 (by decide) ?_
  refine lv_aload_n hx hb dxA_append_9 rfl (lv_at hl 1 rfl) ?_
  obtain ⟨o1, hw⟩ := hw
  refine cx_xA_32 (As := []) (rest := []) X hG h hl.1 (mxS_length l Γ θ ρ S Z i _ hw) ⟨show 1 + 1 ≤ 4 from by omega, show 8 + (1 + 11) + 20 ≤ 122 from by omega⟩ (vk_recv (GX_S hG) o1 h.2.2) rfl (Nat.le_of_ble_eq_true rfl) dxA_append_10 hc (fun v W1 hK H locs h => ?_)
  obtain ⟨r2, S3, rfl, rfl, hw⟩ := hK
  refine W.eq (g2 := F0 m 13 ls [.int r2]) rfl ?_
  refine lv_istore_n (lv' := [(2, .int r2), (0, .ref (θ.1 12)), (1, .ref (Γ.2.2.2.2.1 i))]) hx hb dxA_append_13 rfl hl (by decide) rfl (fun ls hl => ?_)
  refine lv_aload_n hx hb dxA_append_14 rfl (lv_at hl 1 rfl) ?_
  refine lv_aload_n hx hb dxA_append_15 rfl (lv_at hl 1 rfl) ?_
  refine gx_xA_79 X hG h (x := ρ.2.2.2.2.2.2.2 0) rfl dxA_append_16 ?_
  refine lv_iload_n hx hb dxA_append_19 rfl (lv_at hl 0 rfl) ?_
  refine lv_iadd hx hb dxA_append_20 ?_
  obtain ⟨m6, s7, hc, hw⟩ := hw
  refine cx_xA_100 (As := [.int ((ρ.2.2.2.2.2.2.2 0) + r2)]) (rest := []) X hG h hl.1 (mxA_ensureCapacityInternal l Γ θ ρ S3 Z ((ρ.2.2.2.2.2.2.2 0) + r2) m6 s7 _ hw) ⟨show 3 + 1 ≤ 4 from by omega, show 8 + (3 + 11) + 100 ≤ 122 from by omega⟩ (q0 := 12) rfl rfl (Nat.le_of_ble_eq_true rfl) dxA_append_21 hc (fun v W1 hK H locs h => ?_)
  obtain ⟨r4, ⟨ρ8, S5⟩, rfl, rfl, hw⟩ := hK
  refine W.eq (g2 := F0 m 24 ls []) rfl ?_
  refine lv_aload_n hx hb dxA_append_24 rfl (lv_at hl 1 rfl) ?_
  refine lv_aload_n hx hb dxA_append_25 rfl (lv_at hl 1 rfl) ?_
  refine gx_xA_79 X hG h (x := ρ8.2.2.2.2.2.2.2 0) rfl dxA_append_26 ?_
  refine lv_aload_n hx hb dxA_append_29 rfl (lv_at hl 2 rfl) ?_
  refine cx_xA_208 (As := [.int (ρ8.2.2.2.2.2.2.2 0), .ref (Γ.2.2.2.2.1 i)]) (rest := []) X hG h hl.1 (mxA_putStringAt l Γ θ ρ8 S5 Z (ρ8.2.2.2.2.2.2.2 0) i _ hw) ⟨show 2 + 1 ≤ 4 from by omega, show 8 + (3 + 11) + 83 ≤ 122 from by omega⟩ (q0 := 12) rfl rfl (Nat.le_of_ble_eq_true rfl) dxA_append_30 hc (fun v W1 hK H locs h => ?_)
  obtain ⟨r9, ⟨ρ11, S10⟩, rfl, rfl, hw⟩ := hK
  refine W.eq (g2 := F0 m 33 ls []) rfl ?_
  refine lv_aload_n hx hb dxA_append_33 rfl (lv_at hl 1 rfl) ?_
  refine lv_dup hx hb dxA_append_34 rfl ?_
  refine gx_xA_79 X hG h (x := ρ11.2.2.2.2.2.2.2 0) rfl dxA_append_35 ?_
  refine lv_iload_n hx hb dxA_append_38 rfl (lv_at hl 0 rfl) ?_
  refine lv_iadd hx hb dxA_append_39 ?_
  refine px_xA_79 X hG h dxA_append_40 (fun H locs h => ?_)
  refine lv_aload_n hx hb dxA_append_43 rfl (lv_at hl 1 rfl) ?_
  refine W.widen (k := mc) (n := ms) hc.1 hc.2 ?_
  exact z_aret X hr hlk h (Or.inr ⟨_, rfl⟩) ⟨_, ((rT ρ11 0 ((ρ11.2.2.2.2.2.2.2 0) + r2)), S10), rfl, rfl, hw⟩ dxA_append_44
def wxB_append  (post : Unit → Rh → Sg → Prop) (ρ : Rh) (S : Sg) (i : Nat) (mc ms : Nat) : Prop := ∃ m3 s4 : Nat, (0 + m3 ≤ mc ∧ 0 + s4 ≤ ms) ∧ wxA_append (fun r1 ρ5 S2 => post () ρ5 S2) ρ S i m3 s4
set_option maxHeartbeats 4000000 in
set_option maxRecDepth 100000 in
theorem mxB_append (l : Launch) (Γ : Gm) (θ : Th) (ρ : Rh) (S : Sg) (Z : va_W) (i : Nat) (mc ms : Nat) (post : Unit → Rh → Sg → Prop) (hw : wxB_append post ρ S i mc ms) : MM l yxB_append cxB_append 2 (some (.object "java/lang/StringBuilder")) 5 144 Γ [.ref (θ.1 12), .ref (Γ.2.2.2.2.1 i)] (WX Γ θ ρ S Z) (KK (fun _ : Unit => some (.ref (θ.1 12))) (fun q : Rh × Sg => WX Γ θ q.1 q.2 Z) (fun r q => post r q.1 q.2)) mc ms := by
  refine MM_ofF (by decide +kernel) (Nat.le_of_ble_eq_true rfl) ?_
  intro p e s m below meth c X hr hlk hnm hG h ls hl
  have hx := X.1
  have hb := X.2.1
  have hc : 0 ≤ mc ∧ 0 ≤ ms := ⟨Nat.zero_le _, Nat.zero_le _⟩
  have hl : lv_has ls 2 [(0, .ref (θ.1 12)), (1, .ref (Γ.2.2.2.2.1 i))] := hl
  unfold wxB_append at hw
  refine lv_aload_n hx hb dxB_append_0 rfl (lv_at hl 0 rfl) ?_
  refine lv_aload_n hx hb dxB_append_1 rfl (lv_at hl 1 rfl) ?_
  obtain ⟨m3, s4, hc, hw⟩ := hw
  refine cx_xB_29 (As := [.ref (Γ.2.2.2.2.1 i)]) (rest := []) X hG h hl.1 (mxA_append l Γ θ ρ S Z i m3 s4 _ hw) ⟨show 4 + 1 ≤ 5 from by omega, show 8 + (3 + 11) + 122 ≤ 144 from by omega⟩ (q0 := 12) rfl rfl (Nat.le_of_ble_eq_true rfl) dxB_append_2 hc (fun v W1 hK H locs h => ?_)
  obtain ⟨r1, ⟨ρ5, S2⟩, rfl, rfl, hw⟩ := hK
  refine W.eq (g2 := F0 m 5 ls [.ref (θ.1 12)]) rfl ?_
  refine lv_pop hx hb dxB_append_5 rfl ?_
  refine lv_aload_n hx hb dxB_append_6 rfl (lv_at hl 0 rfl) ?_
  refine W.widen (k := mc) (n := ms) hc.1 hc.2 ?_
  exact z_aret X hr hlk h (Or.inr ⟨_, rfl⟩) ⟨_, (ρ5, S2), rfl, rfl, hw⟩ dxB_append_7
def wxA_append2  (post : Unit → Rh → Sg → Prop) (ρ : Rh) (S : Sg) (x : Int32) (mc ms : Nat) : Prop := ∃ m3 s4 : Nat, (0 + m3 ≤ mc ∧ 0 + s4 ≤ ms) ∧ wxA_ensureCapacityInternal (fun (_ : Unit) ρ5 S2 => wxA_isLatin1 (fun r6 S7 => ((r6 = (0 : Int32)) → wxA_isLatin1 (fun r9 S10 => ((r9 = (0 : Int32)) → False) ∧ ((¬ (r9 = (0 : Int32))) → False)) ρ5 S7 ) ∧ ((¬ (r6 = (0 : Int32))) → wxU_canEncode (fun r12 S13 => ((r12 = (0 : Int32)) → wxA_isLatin1 (fun r15 S16 => ((r15 = (0 : Int32)) → False) ∧ ((¬ (r15 = (0 : Int32))) → False)) ρ5 S13 ) ∧ ((¬ (r12 = (0 : Int32))) → (vp_in (ρ5.2.2.2.2.2.2.2 0) (rT ρ5 0 ((ρ5.2.2.2.2.2.2.2 0) + 1)).2.2.2.2.2.2.1) ∧ post () (rB (rT ρ5 0 ((ρ5.2.2.2.2.2.2.2 0) + 1)) ((ρ5.2.2.2.2.2.2.2 0).toNatClampNeg) (vp_nar .byte x.toInt8.toInt32)) S13)) ρ5 S7 x)) ρ5 S2 ) ρ S ((ρ.2.2.2.2.2.2.2 0) + 1) m3 s4
set_option maxHeartbeats 4000000 in
set_option maxRecDepth 100000 in
theorem mxA_append2 (l : Launch) (Γ : Gm) (θ : Th) (ρ : Rh) (S : Sg) (Z : va_W) (x : Int32) (mc ms : Nat) (post : Unit → Rh → Sg → Prop) (hw : wxA_append2 post ρ S x mc ms) : MM l yxA_append2 cxA_append2 2 (some (.object "java/lang/AbstractStringBuilder")) 4 122 Γ [.ref (θ.1 12), .int x] (WX Γ θ ρ S Z) (KK (fun _ : Unit => some (.ref (θ.1 12))) (fun q : Rh × Sg => WX Γ θ q.1 q.2 Z) (fun r q => post r q.1 q.2)) mc ms := by
  refine MM_ofF (by decide +kernel) (Nat.le_of_ble_eq_true rfl) ?_
  intro p e s m below meth c X hr hlk hnm hG h ls hl
  have hx := X.1
  have hb := X.2.1
  have hc : 0 ≤ mc ∧ 0 ≤ ms := ⟨Nat.zero_le _, Nat.zero_le _⟩
  have hl : lv_has ls 2 [(0, .ref (θ.1 12)), (1, .int x)] := hl
  unfold wxA_append2 at hw
  refine lv_aload_n hx hb dxA_append2_0 rfl (lv_at hl 0 rfl) ?_
  refine lv_aload_n hx hb dxA_append2_1 rfl (lv_at hl 0 rfl) ?_
  refine gx_xA_79 X hG h (x := ρ.2.2.2.2.2.2.2 0) rfl dxA_append2_2 ?_
  refine lv_iconst (v := 1) hx hb dxA_append2_5 (by decide) ?_
  refine lv_iadd hx hb dxA_append2_6 ?_
  obtain ⟨m3, s4, hc, hw⟩ := hw
  refine cx_xA_100 (As := [.int ((ρ.2.2.2.2.2.2.2 0) + 1)]) (rest := []) X hG h hl.1 (mxA_ensureCapacityInternal l Γ θ ρ S Z ((ρ.2.2.2.2.2.2.2 0) + 1) m3 s4 _ hw) ⟨show 3 + 1 ≤ 4 from by omega, show 8 + (3 + 11) + 100 ≤ 122 from by omega⟩ (q0 := 12) rfl rfl (Nat.le_of_ble_eq_true rfl) dxA_append2_7 hc (fun v W1 hK H locs h => ?_)
  obtain ⟨r1, ⟨ρ5, S2⟩, rfl, rfl, hw⟩ := hK
  refine W.eq (g2 := F0 m 10 ls []) rfl ?_
  refine lv_aload_n hx hb dxA_append2_10 rfl (lv_at hl 0 rfl) ?_
  refine cx_xA_83 (As := []) (rest := []) X hG h hl.1 (mxA_isLatin1 l Γ θ ρ5 S2 Z  _ hw) ⟨show 0 + 1 ≤ 4 from by omega, show 8 + (1 + 11) + 0 ≤ 122 from by omega⟩ (q0 := 12) rfl rfl (Nat.le_of_ble_eq_true rfl) dxA_append2_11 hc (fun v W1 hK H locs h => ?_)
  obtain ⟨r6, S7, rfl, rfl, hw⟩ := hK
  refine W.eq (g2 := F0 m 14 ls [.int r6]) rfl ?_
  refine lv_if_eq (tgt := 45) hx hb dxA_append2_14 (by decide) (fun c8 => ?_) (fun c8 => ?_)
  · have hw := hw.1 c8
    refine lv_aload_n hx hb dxA_append2_45 rfl (lv_at hl 0 rfl) ?_
    refine cx_xA_83 (As := []) (rest := []) X hG h hl.1 (mxA_isLatin1 l Γ θ ρ5 S7 Z  _ hw) ⟨show 0 + 1 ≤ 4 from by omega, show 8 + (1 + 11) + 0 ≤ 122 from by omega⟩ (q0 := 12) rfl rfl (Nat.le_of_ble_eq_true rfl) dxA_append2_46 hc (fun v W1 hK H locs h => ?_)
    obtain ⟨r9, S10, rfl, rfl, hw⟩ := hK
    refine W.eq (g2 := F0 m 49 ls [.int r9]) rfl ?_
    refine lv_if_eq (tgt := 56) hx hb dxA_append2_49 (by decide) (fun c11 => ?_) (fun c11 => ?_)
    · have hw := hw.1 c11
      refine lv_aload_n hx hb dxA_append2_56 rfl (lv_at hl 0 rfl) ?_
      refine gx_xA_15 X hG h dxA_append2_57 ?_
      refine lv_aload_n hx hb dxA_append2_60 rfl (lv_at hl 0 rfl) ?_
      refine lv_dup hx hb dxA_append2_61 rfl ?_
      refine gx_xA_79 X hG h (x := ρ5.2.2.2.2.2.2.2 0) rfl dxA_append2_62 ?_
      refine lv_dup_x1 hx hb dxA_append2_65 rfl rfl ?_
      refine lv_iconst (v := 1) hx hb dxA_append2_66 (by decide) ?_
      refine lv_iadd hx hb dxA_append2_67 ?_
      refine px_xA_79 X hG h dxA_append2_68 (fun H locs h => ?_)
      refine lv_iload_n hx hb dxA_append2_71 rfl (lv_at hl 1 rfl) ?_
      exact hw.elim
    · have hw := hw.2 c11
      refine lv_aload_n hx hb dxA_append2_52 rfl (lv_at hl 0 rfl) ?_
      exact hw.elim
  · have hw := hw.2 c8
    refine lv_iload_n hx hb dxA_append2_17 rfl (lv_at hl 1 rfl) ?_
    refine cx_xA_191 (As := [.int x]) (rest := []) X hG h hl.1 (mxU_canEncode l Γ θ ρ5 S7 Z x _ hw) ⟨show 0 + 1 ≤ 4 from by omega, show 8 + (1 + 11) + 0 ≤ 122 from by omega⟩ rfl (Nat.le_of_ble_eq_true rfl) dxA_append2_18 hc (fun v W1 hK H locs h => ?_)
    obtain ⟨r12, S13, rfl, rfl, hw⟩ := hK
    refine W.eq (g2 := F0 m 21 ls [.int r12]) rfl ?_
    refine lv_if_eq (tgt := 45) hx hb dxA_append2_21 (by decide) (fun c14 => ?_) (fun c14 => ?_)
    · have hw := hw.1 c14
      refine lv_aload_n hx hb dxA_append2_45 rfl (lv_at hl 0 rfl) ?_
      refine cx_xA_83 (As := []) (rest := []) X hG h hl.1 (mxA_isLatin1 l Γ θ ρ5 S13 Z  _ hw) ⟨show 0 + 1 ≤ 4 from by omega, show 8 + (1 + 11) + 0 ≤ 122 from by omega⟩ (q0 := 12) rfl rfl (Nat.le_of_ble_eq_true rfl) dxA_append2_46 hc (fun v W1 hK H locs h => ?_)
      obtain ⟨r15, S16, rfl, rfl, hw⟩ := hK
      refine W.eq (g2 := F0 m 49 ls [.int r15]) rfl ?_
      refine lv_if_eq (tgt := 56) hx hb dxA_append2_49 (by decide) (fun c17 => ?_) (fun c17 => ?_)
      · have hw := hw.1 c17
        refine lv_aload_n hx hb dxA_append2_56 rfl (lv_at hl 0 rfl) ?_
        refine gx_xA_15 X hG h dxA_append2_57 ?_
        refine lv_aload_n hx hb dxA_append2_60 rfl (lv_at hl 0 rfl) ?_
        refine lv_dup hx hb dxA_append2_61 rfl ?_
        refine gx_xA_79 X hG h (x := ρ5.2.2.2.2.2.2.2 0) rfl dxA_append2_62 ?_
        refine lv_dup_x1 hx hb dxA_append2_65 rfl rfl ?_
        refine lv_iconst (v := 1) hx hb dxA_append2_66 (by decide) ?_
        refine lv_iadd hx hb dxA_append2_67 ?_
        refine px_xA_79 X hG h dxA_append2_68 (fun H locs h => ?_)
        refine lv_iload_n hx hb dxA_append2_71 rfl (lv_at hl 1 rfl) ?_
        exact hw.elim
      · have hw := hw.2 c17
        refine lv_aload_n hx hb dxA_append2_52 rfl (lv_at hl 0 rfl) ?_
        exact hw.elim
    · have hw := hw.2 c14
      refine lv_aload_n hx hb dxA_append2_24 rfl (lv_at hl 0 rfl) ?_
      refine gx_xA_15 X hG h dxA_append2_25 ?_
      refine lv_aload_n hx hb dxA_append2_28 rfl (lv_at hl 0 rfl) ?_
      refine lv_dup hx hb dxA_append2_29 rfl ?_
      refine gx_xA_79 X hG h (x := ρ5.2.2.2.2.2.2.2 0) rfl dxA_append2_30 ?_
      refine lv_dup_x1 hx hb dxA_append2_33 rfl rfl ?_
      refine lv_iconst (v := 1) hx hb dxA_append2_34 (by decide) ?_
      refine lv_iadd hx hb dxA_append2_35 ?_
      refine px_xA_79 X hG h dxA_append2_36 (fun H locs h => ?_)
      refine lv_iload_n hx hb dxA_append2_39 rfl (lv_at hl 1 rfl) ?_
      refine lv_i2b (v := x.toInt8.toInt32) hx hb dxA_append2_40 rfl ?_
      obtain ⟨o18, hw⟩ := hw
      refine bl_st X hG h o18 dxA_append2_41 (fun H locs h => ?_)
      refine lv_goto (tgt := 75) hx hb dxA_append2_42 (by decide) ?_
      refine lv_aload_n hx hb dxA_append2_75 rfl (lv_at hl 0 rfl) ?_
      refine W.widen (k := mc) (n := ms) hc.1 hc.2 ?_
      exact z_aret X hr hlk h (Or.inr ⟨_, rfl⟩) ⟨_, ((rB (rT ρ5 0 ((ρ5.2.2.2.2.2.2.2 0) + 1)) ((ρ5.2.2.2.2.2.2.2 0).toNatClampNeg) (vp_nar .byte x.toInt8.toInt32)), S13), rfl, rfl, hw⟩ dxA_append2_76
def wxB_append2  (post : Unit → Rh → Sg → Prop) (ρ : Rh) (S : Sg) (x : Int32) (mc ms : Nat) : Prop := ∃ m3 s4 : Nat, (0 + m3 ≤ mc ∧ 0 + s4 ≤ ms) ∧ wxA_append2 (fun r1 ρ5 S2 => post () ρ5 S2) ρ S x m3 s4
set_option maxHeartbeats 4000000 in
set_option maxRecDepth 100000 in
theorem mxB_append2 (l : Launch) (Γ : Gm) (θ : Th) (ρ : Rh) (S : Sg) (Z : va_W) (x : Int32) (mc ms : Nat) (post : Unit → Rh → Sg → Prop) (hw : wxB_append2 post ρ S x mc ms) : MM l yxB_append2 cxB_append2 2 (some (.object "java/lang/StringBuilder")) 5 143 Γ [.ref (θ.1 12), .int x] (WX Γ θ ρ S Z) (KK (fun _ : Unit => some (.ref (θ.1 12))) (fun q : Rh × Sg => WX Γ θ q.1 q.2 Z) (fun r q => post r q.1 q.2)) mc ms := by
  refine MM_ofF (by decide +kernel) (Nat.le_of_ble_eq_true rfl) ?_
  intro p e s m below meth c X hr hlk hnm hG h ls hl
  have hx := X.1
  have hb := X.2.1
  have hc : 0 ≤ mc ∧ 0 ≤ ms := ⟨Nat.zero_le _, Nat.zero_le _⟩
  have hl : lv_has ls 2 [(0, .ref (θ.1 12)), (1, .int x)] := hl
  unfold wxB_append2 at hw
  refine lv_aload_n hx hb dxB_append2_0 rfl (lv_at hl 0 rfl) ?_
  refine lv_iload_n hx hb dxB_append2_1 rfl (lv_at hl 1 rfl) ?_
  obtain ⟨m3, s4, hc, hw⟩ := hw
  refine cx_xB_50 (As := [.int x]) (rest := []) X hG h hl.1 (mxA_append2 l Γ θ ρ S Z x m3 s4 _ hw) ⟨show 4 + 1 ≤ 5 from by omega, show 8 + (2 + 11) + 122 ≤ 143 from by omega⟩ (q0 := 12) rfl rfl (Nat.le_of_ble_eq_true rfl) dxB_append2_2 hc (fun v W1 hK H locs h => ?_)
  obtain ⟨r1, ⟨ρ5, S2⟩, rfl, rfl, hw⟩ := hK
  refine W.eq (g2 := F0 m 5 ls [.ref (θ.1 12)]) rfl ?_
  refine lv_pop hx hb dxB_append2_5 rfl ?_
  refine lv_aload_n hx hb dxB_append2_6 rfl (lv_at hl 0 rfl) ?_
  refine W.widen (k := mc) (n := ms) hc.1 hc.2 ?_
  exact z_aret X hr hlk h (Or.inr ⟨_, rfl⟩) ⟨_, (ρ5, S2), rfl, rfl, hw⟩ dxB_append2_7
def wxA_append3  (post : Unit → Rh → Sg → Prop) (ρ : Rh) (S : Sg) (x : Int32) (mc ms : Nat) : Prop := wxI_stringSize (fun r1 S2 => ∃ m5 s6 : Nat, (0 + m5 ≤ mc ∧ 0 + s6 ≤ ms) ∧ wxA_ensureCapacityInternal (fun (_ : Unit) ρ7 S4 => wxA_isLatin1 (fun r8 S9 => ((r8 = (0 : Int32)) → False) ∧ ((¬ (r8 = (0 : Int32))) → wxI_getChars (fun r11 ρ13 S12 => post () (rT ρ13 0 ((ρ.2.2.2.2.2.2.2 0) + r1)) S12) ρ7 S9 x ((ρ.2.2.2.2.2.2.2 0) + r1))) ρ7 S4 ) ρ S2 ((ρ.2.2.2.2.2.2.2 0) + r1) m5 s6) ρ S x
set_option maxHeartbeats 4000000 in
set_option maxRecDepth 100000 in
theorem mxA_append3 (l : Launch) (Γ : Gm) (θ : Th) (ρ : Rh) (S : Sg) (Z : va_W) (x : Int32) (mc ms : Nat) (post : Unit → Rh → Sg → Prop) (hw : wxA_append3 post ρ S x mc ms) : MM l yxA_append3 cxA_append3 4 (some (.object "java/lang/AbstractStringBuilder")) 4 122 Γ [.ref (θ.1 12), .int x] (WX Γ θ ρ S Z) (KK (fun _ : Unit => some (.ref (θ.1 12))) (fun q : Rh × Sg => WX Γ θ q.1 q.2 Z) (fun r q => post r q.1 q.2)) mc ms := by
  refine MM_ofF (by decide +kernel) (Nat.le_of_ble_eq_true rfl) ?_
  intro p e s m below meth c X hr hlk hnm hG h ls hl
  have hx := X.1
  have hb := X.2.1
  have hc : 0 ≤ mc ∧ 0 ≤ ms := ⟨Nat.zero_le _, Nat.zero_le _⟩
  have hl : lv_has ls 4 [(0, .ref (θ.1 12)), (1, .int x)] := hl
  unfold wxA_append3 at hw
  refine lv_aload_n hx hb dxA_append3_0 rfl (lv_at hl 0 rfl) ?_
  refine gx_xA_79 X hG h (x := ρ.2.2.2.2.2.2.2 0) rfl dxA_append3_1 ?_
  refine lv_istore_n (lv' := [(2, .int (ρ.2.2.2.2.2.2.2 0)), (0, .ref (θ.1 12)), (1, .int x)]) hx hb dxA_append3_4 rfl hl (by decide) rfl (fun ls hl => ?_)
  refine lv_iload_n hx hb dxA_append3_5 rfl (lv_at hl 0 rfl) ?_
  refine lv_iload_n hx hb dxA_append3_6 rfl (lv_at hl 2 rfl) ?_
  refine cx_xA_245 (As := [.int x]) (rest := [.int (ρ.2.2.2.2.2.2.2 0)]) X hG h hl.1 (mxI_stringSize l Γ θ ρ S Z x _ hw) ⟨show 0 + 1 ≤ 4 from by omega, show 8 + (4 + 11) + 0 ≤ 122 from by omega⟩ rfl (Nat.le_of_ble_eq_true rfl) dxA_append3_7 hc (fun v W1 hK H locs h => ?_)
  obtain ⟨r1, S2, rfl, rfl, hw⟩ := hK
  refine W.eq (g2 := F0 m 10 ls [.int r1, .int (ρ.2.2.2.2.2.2.2 0)]) rfl ?_
  refine lv_iadd hx hb dxA_append3_10 ?_
  refine lv_istore_n (lv' := [(3, .int ((ρ.2.2.2.2.2.2.2 0) + r1)), (2, .int (ρ.2.2.2.2.2.2.2 0)), (0, .ref (θ.1 12)), (1, .int x)]) hx hb dxA_append3_11 rfl hl (by decide) rfl (fun ls hl => ?_)
  refine lv_aload_n hx hb dxA_append3_12 rfl (lv_at hl 2 rfl) ?_
  refine lv_iload_n hx hb dxA_append3_13 rfl (lv_at hl 0 rfl) ?_
  obtain ⟨m5, s6, hc, hw⟩ := hw
  refine cx_xA_100 (As := [.int ((ρ.2.2.2.2.2.2.2 0) + r1)]) (rest := []) X hG h hl.1 (mxA_ensureCapacityInternal l Γ θ ρ S2 Z ((ρ.2.2.2.2.2.2.2 0) + r1) m5 s6 _ hw) ⟨show 3 + 1 ≤ 4 from by omega, show 8 + (3 + 11) + 100 ≤ 122 from by omega⟩ (q0 := 12) rfl rfl (Nat.le_of_ble_eq_true rfl) dxA_append3_14 hc (fun v W1 hK H locs h => ?_)
  obtain ⟨r3, ⟨ρ7, S4⟩, rfl, rfl, hw⟩ := hK
  refine W.eq (g2 := F0 m 17 ls []) rfl ?_
  refine lv_aload_n hx hb dxA_append3_17 rfl (lv_at hl 2 rfl) ?_
  refine cx_xA_83 (As := []) (rest := []) X hG h hl.1 (mxA_isLatin1 l Γ θ ρ7 S4 Z  _ hw) ⟨show 0 + 1 ≤ 4 from by omega, show 8 + (1 + 11) + 0 ≤ 122 from by omega⟩ (q0 := 12) rfl rfl (Nat.le_of_ble_eq_true rfl) dxA_append3_18 hc (fun v W1 hK H locs h => ?_)
  obtain ⟨r8, S9, rfl, rfl, hw⟩ := hK
  refine W.eq (g2 := F0 m 21 ls [.int r8]) rfl ?_
  refine lv_if_eq (tgt := 37) hx hb dxA_append3_21 (by decide) (fun c10 => ?_) (fun c10 => ?_)
  · have hw := hw.1 c10
    refine lv_iload_n hx hb dxA_append3_37 rfl (lv_at hl 3 rfl) ?_
    refine lv_iload_n hx hb dxA_append3_38 rfl (lv_at hl 1 rfl) ?_
    refine lv_iload_n hx hb dxA_append3_39 rfl (lv_at hl 0 rfl) ?_
    refine lv_aload_n hx hb dxA_append3_40 rfl (lv_at hl 2 rfl) ?_
    refine gx_xA_15 X hG h dxA_append3_41 ?_
    exact hw.elim
  · have hw := hw.2 c10
    refine lv_iload_n hx hb dxA_append3_24 rfl (lv_at hl 3 rfl) ?_
    refine lv_iload_n hx hb dxA_append3_25 rfl (lv_at hl 0 rfl) ?_
    refine lv_aload_n hx hb dxA_append3_26 rfl (lv_at hl 2 rfl) ?_
    refine gx_xA_15 X hG h dxA_append3_27 ?_
    refine cx_xA_248 (As := [.int x, .int ((ρ.2.2.2.2.2.2.2 0) + r1), .ref ρ7.2.2.2.2.1]) (rest := []) X hG h hl.1 (mxI_getChars l Γ θ ρ7 S9 Z x ((ρ.2.2.2.2.2.2.2 0) + r1) _ hw) ⟨show 0 + 1 ≤ 4 from by omega, show 8 + (7 + 11) + 0 ≤ 122 from by omega⟩ rfl (Nat.le_of_ble_eq_true rfl) dxA_append3_30 hc (fun v W1 hK H locs h => ?_)
    obtain ⟨r11, ⟨ρ13, S12⟩, rfl, rfl, hw⟩ := hK
    refine W.eq (g2 := F0 m 33 ls [.int r11]) rfl ?_
    refine lv_pop hx hb dxA_append3_33 rfl ?_
    refine lv_goto (tgt := 48) hx hb dxA_append3_34 (by decide) ?_
    refine lv_aload_n hx hb dxA_append3_48 rfl (lv_at hl 2 rfl) ?_
    refine lv_iload_n hx hb dxA_append3_49 rfl (lv_at hl 0 rfl) ?_
    refine px_xA_79 X hG h dxA_append3_50 (fun H locs h => ?_)
    refine lv_aload_n hx hb dxA_append3_53 rfl (lv_at hl 2 rfl) ?_
    refine W.widen (k := mc) (n := ms) hc.1 hc.2 ?_
    exact z_aret X hr hlk h (Or.inr ⟨_, rfl⟩) ⟨_, ((rT ρ13 0 ((ρ.2.2.2.2.2.2.2 0) + r1)), S12), rfl, rfl, hw⟩ dxA_append3_54
def wxB_append3  (post : Unit → Rh → Sg → Prop) (ρ : Rh) (S : Sg) (x : Int32) (mc ms : Nat) : Prop := ∃ m3 s4 : Nat, (0 + m3 ≤ mc ∧ 0 + s4 ≤ ms) ∧ wxA_append3 (fun r1 ρ5 S2 => post () ρ5 S2) ρ S x m3 s4
set_option maxHeartbeats 4000000 in
set_option maxRecDepth 100000 in
theorem mxB_append3 (l : Launch) (Γ : Gm) (θ : Th) (ρ : Rh) (S : Sg) (Z : va_W) (x : Int32) (mc ms : Nat) (post : Unit → Rh → Sg → Prop) (hw : wxB_append3 post ρ S x mc ms) : MM l yxB_append3 cxB_append3 2 (some (.object "java/lang/StringBuilder")) 5 145 Γ [.ref (θ.1 12), .int x] (WX Γ θ ρ S Z) (KK (fun _ : Unit => some (.ref (θ.1 12))) (fun q : Rh × Sg => WX Γ θ q.1 q.2 Z) (fun r q => post r q.1 q.2)) mc ms := by
  refine MM_ofF (by decide +kernel) (Nat.le_of_ble_eq_true rfl) ?_
  intro p e s m below meth c X hr hlk hnm hG h ls hl
  have hx := X.1
  have hb := X.2.1
  have hc : 0 ≤ mc ∧ 0 ≤ ms := ⟨Nat.zero_le _, Nat.zero_le _⟩
  have hl : lv_has ls 2 [(0, .ref (θ.1 12)), (1, .int x)] := hl
  unfold wxB_append3 at hw
  refine lv_aload_n hx hb dxB_append3_0 rfl (lv_at hl 0 rfl) ?_
  refine lv_iload_n hx hb dxB_append3_1 rfl (lv_at hl 1 rfl) ?_
  obtain ⟨m3, s4, hc, hw⟩ := hw
  refine cx_xB_53 (As := [.int x]) (rest := []) X hG h hl.1 (mxA_append3 l Γ θ ρ S Z x m3 s4 _ hw) ⟨show 4 + 1 ≤ 5 from by omega, show 8 + (4 + 11) + 122 ≤ 145 from by omega⟩ (q0 := 12) rfl rfl (Nat.le_of_ble_eq_true rfl) dxB_append3_2 hc (fun v W1 hK H locs h => ?_)
  obtain ⟨r1, ⟨ρ5, S2⟩, rfl, rfl, hw⟩ := hK
  refine W.eq (g2 := F0 m 5 ls [.ref (θ.1 12)]) rfl ?_
  refine lv_pop hx hb dxB_append3_5 rfl ?_
  refine lv_aload_n hx hb dxB_append3_6 rfl (lv_at hl 0 rfl) ?_
  refine W.widen (k := mc) (n := ms) hc.1 hc.2 ?_
  exact z_aret X hr hlk h (Or.inr ⟨_, rfl⟩) ⟨_, (ρ5, S2), rfl, rfl, hw⟩ dxB_append3_7
def wxC_isOwn  (post : Int32 → Sg → Prop) (ρ : Rh) (S : Sg) (x : Int32) : Prop := ((x < (10 : Int32)) → post (0 : Int32) S) ∧ ((¬ (x < (10 : Int32))) → post (1 : Int32) S)
set_option maxHeartbeats 4000000 in
set_option maxRecDepth 100000 in
theorem mxC_isOwn (l : Launch) (Γ : Gm) (θ : Th) (ρ : Rh) (S : Sg) (Z : va_W) (x : Int32) (post : Int32 → Sg → Prop) (hw : wxC_isOwn post ρ S x) : MM l yxC_isOwn cxC_isOwn 1 (some .boolean) 0 0 Γ [.int x] (WX Γ θ ρ S Z) (KK (fun r : Int32 => some (.int r)) (fun S' => WX Γ θ ρ S' Z) post) 0 0 := by
  refine MM_of (by decide) (Nat.le_of_ble_eq_true rfl) ?_
  intro p e s m below meth c X hr hlk hnm hG h ls hl
  have hx := X.1
  have hb := X.2.1
  have hl : lv_has ls 1 [(0, .int x)] := hl
  unfold wxC_isOwn at hw
  refine lv_iload_n hx hb dxC_isOwn_0 rfl (lv_at hl 0 rfl) ?_
  refine lv_bipush (v := 10) hx hb dxC_isOwn_1 (by decide) ?_
  refine lv_icmp_lt (tgt := 10) hx hb dxC_isOwn_3 (by decide) (fun c1 => ?_) (fun c1 => ?_)
  · have hw := hw.1 c1
    refine lv_iconst (v := 0) hx hb dxC_isOwn_10 (by decide) ?_
    exact z_zret X hr hlk h rfl ⟨_, _, rfl, rfl, hw⟩ dxC_isOwn_11
  · have hw := hw.2 c1
    refine lv_iconst (v := 1) hx hb dxC_isOwn_6 (by decide) ?_
    refine lv_goto (tgt := 11) hx hb dxC_isOwn_7 (by decide) ?_
    exact z_zret X hr hlk h rfl ⟨_, _, rfl, rfl, hw⟩ dxC_isOwn_11
def wxC_wordOf  (post : Nat → Sg → Prop) (ρ : Rh) (S : Sg) (x : Int32) : Prop := ((x.toInt < 0 ∨ 9 < x.toInt) → post 16 S) ∧ (x = 0 → post 6 S) ∧ (x = 1 → post 7 S) ∧ (x = 2 → post 8 S) ∧ (x = 3 → post 9 S) ∧ (x = 4 → post 10 S) ∧ (x = 5 → post 11 S) ∧ (x = 6 → post 12 S) ∧ (x = 7 → post 13 S) ∧ (x = 8 → post 14 S) ∧ (x = 9 → post 15 S)
set_option maxHeartbeats 4000000 in
set_option maxRecDepth 100000 in
theorem mxC_wordOf (l : Launch) (Γ : Gm) (θ : Th) (ρ : Rh) (S : Sg) (Z : va_W) (x : Int32) (post : Nat → Sg → Prop) (hw : wxC_wordOf post ρ S x) : MM l yxC_wordOf cxC_wordOf 1 (some (.object "java/lang/String")) 0 0 Γ [.int x] (WX Γ θ ρ S Z) (KK (fun r : Nat => some (.ref (Γ.2.2.2.2.1 r))) (fun S' => WX Γ θ ρ S' Z) post) 0 0 := by
  refine MM_of (by decide) (Nat.le_of_ble_eq_true rfl) ?_
  intro p e s m below meth c X hr hlk hnm hG h ls hl
  have hx := X.1
  have hb := X.2.1
  have hl : lv_has ls 1 [(0, .int x)] := hl
  unfold wxC_wordOf at hw
  refine lv_iload_n hx hb dxC_wordOf_0 rfl (lv_at hl 0 rfl) ?_
  by_cases c1 : x.toInt < 0 ∨ 9 < x.toInt
  · have hw := hw.1 c1
    refine lv_tableOut (tgt := 86) hx hb dxC_wordOf_1 c1 (by decide) ?_
    refine va_ldcS hx hb X.2.2.2.1 (lS_16 hG) dxC_wordOf_86 ?_
    exact z_aret X hr hlk h (Or.inr ⟨_, rfl⟩) ⟨_, _, rfl, rfl, hw⟩ dxC_wordOf_88
  · have hw := hw.2
    obtain ⟨j3, j_h, e2⟩ := sw_in (lo := 0) (n := 9) c1
    match j3, j_h, e2 with
    | 0, _, e2 =>
      have e2 : x = 0 := e2
      have hw := hw.1 e2
      refine lv_tableIn (off := 55) (tgt := 56) hx hb dxC_wordOf_1 (by rw [e2]; decide) (by rw [e2]; decide) (by rw [e2]; rfl) (by decide) ?_
      refine va_ldcS hx hb X.2.2.2.1 (lS_6 hG) dxC_wordOf_56 ?_
      exact z_aret X hr hlk h (Or.inr ⟨_, rfl⟩) ⟨_, _, rfl, rfl, hw⟩ dxC_wordOf_58
    | 1, _, e2 =>
      have e2 : x = 1 := e2
      have hw := hw.2.1 e2
      refine lv_tableIn (off := 58) (tgt := 59) hx hb dxC_wordOf_1 (by rw [e2]; decide) (by rw [e2]; decide) (by rw [e2]; rfl) (by decide) ?_
      refine va_ldcS hx hb X.2.2.2.1 (lS_7 hG) dxC_wordOf_59 ?_
      exact z_aret X hr hlk h (Or.inr ⟨_, rfl⟩) ⟨_, _, rfl, rfl, hw⟩ dxC_wordOf_61
    | 2, _, e2 =>
      have e2 : x = 2 := e2
      have hw := hw.2.2.1 e2
      refine lv_tableIn (off := 61) (tgt := 62) hx hb dxC_wordOf_1 (by rw [e2]; decide) (by rw [e2]; decide) (by rw [e2]; rfl) (by decide) ?_
      refine va_ldcS hx hb X.2.2.2.1 (lS_8 hG) dxC_wordOf_62 ?_
      exact z_aret X hr hlk h (Or.inr ⟨_, rfl⟩) ⟨_, _, rfl, rfl, hw⟩ dxC_wordOf_64
    | 3, _, e2 =>
      have e2 : x = 3 := e2
      have hw := hw.2.2.2.1 e2
      refine lv_tableIn (off := 64) (tgt := 65) hx hb dxC_wordOf_1 (by rw [e2]; decide) (by rw [e2]; decide) (by rw [e2]; rfl) (by decide) ?_
      refine va_ldcS hx hb X.2.2.2.1 (lS_9 hG) dxC_wordOf_65 ?_
      exact z_aret X hr hlk h (Or.inr ⟨_, rfl⟩) ⟨_, _, rfl, rfl, hw⟩ dxC_wordOf_67
    | 4, _, e2 =>
      have e2 : x = 4 := e2
      have hw := hw.2.2.2.2.1 e2
      refine lv_tableIn (off := 67) (tgt := 68) hx hb dxC_wordOf_1 (by rw [e2]; decide) (by rw [e2]; decide) (by rw [e2]; rfl) (by decide) ?_
      refine va_ldcS hx hb X.2.2.2.1 (lS_10 hG) dxC_wordOf_68 ?_
      exact z_aret X hr hlk h (Or.inr ⟨_, rfl⟩) ⟨_, _, rfl, rfl, hw⟩ dxC_wordOf_70
    | 5, _, e2 =>
      have e2 : x = 5 := e2
      have hw := hw.2.2.2.2.2.1 e2
      refine lv_tableIn (off := 70) (tgt := 71) hx hb dxC_wordOf_1 (by rw [e2]; decide) (by rw [e2]; decide) (by rw [e2]; rfl) (by decide) ?_
      refine va_ldcS hx hb X.2.2.2.1 (lS_11 hG) dxC_wordOf_71 ?_
      exact z_aret X hr hlk h (Or.inr ⟨_, rfl⟩) ⟨_, _, rfl, rfl, hw⟩ dxC_wordOf_73
    | 6, _, e2 =>
      have e2 : x = 6 := e2
      have hw := hw.2.2.2.2.2.2.1 e2
      refine lv_tableIn (off := 73) (tgt := 74) hx hb dxC_wordOf_1 (by rw [e2]; decide) (by rw [e2]; decide) (by rw [e2]; rfl) (by decide) ?_
      refine va_ldcS hx hb X.2.2.2.1 (lS_12 hG) dxC_wordOf_74 ?_
      exact z_aret X hr hlk h (Or.inr ⟨_, rfl⟩) ⟨_, _, rfl, rfl, hw⟩ dxC_wordOf_76
    | 7, _, e2 =>
      have e2 : x = 7 := e2
      have hw := hw.2.2.2.2.2.2.2.1 e2
      refine lv_tableIn (off := 76) (tgt := 77) hx hb dxC_wordOf_1 (by rw [e2]; decide) (by rw [e2]; decide) (by rw [e2]; rfl) (by decide) ?_
      refine va_ldcS hx hb X.2.2.2.1 (lS_13 hG) dxC_wordOf_77 ?_
      exact z_aret X hr hlk h (Or.inr ⟨_, rfl⟩) ⟨_, _, rfl, rfl, hw⟩ dxC_wordOf_79
    | 8, _, e2 =>
      have e2 : x = 8 := e2
      have hw := hw.2.2.2.2.2.2.2.2.1 e2
      refine lv_tableIn (off := 79) (tgt := 80) hx hb dxC_wordOf_1 (by rw [e2]; decide) (by rw [e2]; decide) (by rw [e2]; rfl) (by decide) ?_
      refine va_ldcS hx hb X.2.2.2.1 (lS_14 hG) dxC_wordOf_80 ?_
      exact z_aret X hr hlk h (Or.inr ⟨_, rfl⟩) ⟨_, _, rfl, rfl, hw⟩ dxC_wordOf_82
    | 9, _, e2 =>
      have e2 : x = 9 := e2
      have hw := hw.2.2.2.2.2.2.2.2.2 e2
      refine lv_tableIn (off := 82) (tgt := 83) hx hb dxC_wordOf_1 (by rw [e2]; decide) (by rw [e2]; decide) (by rw [e2]; rfl) (by decide) ?_
      refine va_ldcS hx hb X.2.2.2.1 (lS_15 hG) dxC_wordOf_83 ?_
      exact z_aret X hr hlk h (Or.inr ⟨_, rfl⟩) ⟨_, _, rfl, rfl, hw⟩ dxC_wordOf_85
    | k + 10, j_h, _ => exact absurd j_h (by omega)
def wxR_wordsOf  (post : Nat → Sg → Prop) (ρ : Rh) (S : Sg) (x : Int32) : Prop := ((x.toInt < 1 ∨ 5 < x.toInt) → post 5 S) ∧ (x = 1 → post 0 S) ∧ (x = 2 → post 1 S) ∧ (x = 3 → post 2 S) ∧ (x = 4 → post 3 S) ∧ (x = 5 → post 4 S)
set_option maxHeartbeats 4000000 in
set_option maxRecDepth 100000 in
theorem mxR_wordsOf (l : Launch) (Γ : Gm) (θ : Th) (ρ : Rh) (S : Sg) (Z : va_W) (x : Int32) (post : Nat → Sg → Prop) (hw : wxR_wordsOf post ρ S x) : MM l yxR_wordsOf cxR_wordsOf 1 (some (.object "java/lang/String")) 0 0 Γ [.int x] (WX Γ θ ρ S Z) (KK (fun r : Nat => some (.ref (Γ.2.2.2.2.1 r))) (fun S' => WX Γ θ ρ S' Z) post) 0 0 := by
  refine MM_of (by decide) (Nat.le_of_ble_eq_true rfl) ?_
  intro p e s m below meth c X hr hlk hnm hG h ls hl
  have hx := X.1
  have hb := X.2.1
  have hl : lv_has ls 1 [(0, .int x)] := hl
  unfold wxR_wordsOf at hw
  refine lv_iload_n hx hb dxR_wordsOf_0 rfl (lv_at hl 0 rfl) ?_
  by_cases c1 : x.toInt < 1 ∨ 5 < x.toInt
  · have hw := hw.1 c1
    refine lv_tableOut (tgt := 51) hx hb dxR_wordsOf_1 c1 (by decide) ?_
    refine va_ldcS hx hb X.2.2.2.1 (lS_5 hG) dxR_wordsOf_51 ?_
    exact z_aret X hr hlk h (Or.inr ⟨_, rfl⟩) ⟨_, _, rfl, rfl, hw⟩ dxR_wordsOf_53
  · have hw := hw.2
    obtain ⟨j3, j_h, e2⟩ := sw_in (lo := 1) (n := 4) c1
    match j3, j_h, e2 with
    | 0, _, e2 =>
      have e2 : x = 1 := e2
      have hw := hw.1 e2
      refine lv_tableIn (off := 35) (tgt := 36) hx hb dxR_wordsOf_1 (by rw [e2]; decide) (by rw [e2]; decide) (by rw [e2]; rfl) (by decide) ?_
      refine va_ldcS hx hb X.2.2.2.1 (lS_0 hG) dxR_wordsOf_36 ?_
      exact z_aret X hr hlk h (Or.inr ⟨_, rfl⟩) ⟨_, _, rfl, rfl, hw⟩ dxR_wordsOf_38
    | 1, _, e2 =>
      have e2 : x = 2 := e2
      have hw := hw.2.1 e2
      refine lv_tableIn (off := 38) (tgt := 39) hx hb dxR_wordsOf_1 (by rw [e2]; decide) (by rw [e2]; decide) (by rw [e2]; rfl) (by decide) ?_
      refine va_ldcS hx hb X.2.2.2.1 (lS_1 hG) dxR_wordsOf_39 ?_
      exact z_aret X hr hlk h (Or.inr ⟨_, rfl⟩) ⟨_, _, rfl, rfl, hw⟩ dxR_wordsOf_41
    | 2, _, e2 =>
      have e2 : x = 3 := e2
      have hw := hw.2.2.1 e2
      refine lv_tableIn (off := 41) (tgt := 42) hx hb dxR_wordsOf_1 (by rw [e2]; decide) (by rw [e2]; decide) (by rw [e2]; rfl) (by decide) ?_
      refine va_ldcS hx hb X.2.2.2.1 (lS_2 hG) dxR_wordsOf_42 ?_
      exact z_aret X hr hlk h (Or.inr ⟨_, rfl⟩) ⟨_, _, rfl, rfl, hw⟩ dxR_wordsOf_44
    | 3, _, e2 =>
      have e2 : x = 4 := e2
      have hw := hw.2.2.2.1 e2
      refine lv_tableIn (off := 44) (tgt := 45) hx hb dxR_wordsOf_1 (by rw [e2]; decide) (by rw [e2]; decide) (by rw [e2]; rfl) (by decide) ?_
      refine va_ldcS hx hb X.2.2.2.1 (lS_3 hG) dxR_wordsOf_45 ?_
      exact z_aret X hr hlk h (Or.inr ⟨_, rfl⟩) ⟨_, _, rfl, rfl, hw⟩ dxR_wordsOf_47
    | 4, _, e2 =>
      have e2 : x = 5 := e2
      have hw := hw.2.2.2.2 e2
      refine lv_tableIn (off := 47) (tgt := 48) hx hb dxR_wordsOf_1 (by rw [e2]; decide) (by rw [e2]; decide) (by rw [e2]; rfl) (by decide) ?_
      refine va_ldcS hx hb X.2.2.2.1 (lS_4 hG) dxR_wordsOf_48 ?_
      exact z_aret X hr hlk h (Or.inr ⟨_, rfl⟩) ⟨_, _, rfl, rfl, hw⟩ dxR_wordsOf_50
    | k + 5, j_h, _ => exact absurd j_h (by omega)
def wxR_length  (post : Int32 → Sg → Prop) (ρ : Rh) (S : Sg)  : Prop := wxB_length (fun r1 S2 => post r1 S2) ρ S 
set_option maxHeartbeats 4000000 in
set_option maxRecDepth 100000 in
theorem mxR_length (l : Launch) (Γ : Gm) (θ : Th) (ρ : Rh) (S : Sg) (Z : va_W)  (post : Int32 → Sg → Prop) (hw : wxR_length post ρ S ) : MM l yxR_length cxR_length 1 (some .int) 2 40 Γ [.ref (θ.1 11)] (WX Γ θ ρ S Z) (KK (fun r : Int32 => some (.int r)) (fun S' => WX Γ θ ρ S' Z) post) 0 0 := by
  refine MM_of (by decide) (Nat.le_of_ble_eq_true rfl) ?_
  intro p e s m below meth c X hr hlk hnm hG h ls hl
  have hx := X.1
  have hb := X.2.1
  have hl : lv_has ls 1 [(0, .ref (θ.1 11))] := hl
  unfold wxR_length at hw
  refine lv_aload_n hx hb dxR_length_0 rfl (lv_at hl 0 rfl) ?_
  refine gx_xR_12 X hG h dxR_length_1 ?_
  refine cx_xR_18 (As := []) (rest := []) X hG h hl.1 (mxB_length l Γ θ ρ S Z  _ hw) ⟨show 1 + 1 ≤ 2 from by omega, show 8 + (1 + 11) + 20 ≤ 40 from by omega⟩ (q0 := 12) rfl rfl (Nat.le_of_ble_eq_true rfl) dxR_length_4 ⟨Nat.le_of_ble_eq_true rfl, Nat.le_of_ble_eq_true rfl⟩ (fun v W1 hK H locs h => ?_)
  obtain ⟨r1, S2, rfl, rfl, hw⟩ := hK
  refine W.eq (g2 := F0 m 7 ls [.int r1]) rfl ?_
  exact z_iret X hr hlk h ⟨_, _, rfl, rfl, hw⟩ dxR_length_7
def wxR_characterAt  (post : Int32 → Sg → Prop) (ρ : Rh) (S : Sg) (x : Int32) : Prop := wxB_charAt (fun r1 S2 => post r1 S2) ρ S x
set_option maxHeartbeats 4000000 in
set_option maxRecDepth 100000 in
theorem mxR_characterAt (l : Launch) (Γ : Gm) (θ : Th) (ρ : Rh) (S : Sg) (Z : va_W) (x : Int32) (post : Int32 → Sg → Prop) (hw : wxR_characterAt post ρ S x) : MM l yxR_characterAt cxR_characterAt 2 (some .int) 4 88 Γ [.ref (θ.1 11), .int x] (WX Γ θ ρ S Z) (KK (fun r : Int32 => some (.int r)) (fun S' => WX Γ θ ρ S' Z) post) 0 0 := by
  refine MM_of (by decide) (Nat.le_of_ble_eq_true rfl) ?_
  intro p e s m below meth c X hr hlk hnm hG h ls hl
  have hx := X.1
  have hb := X.2.1
  have hl : lv_has ls 2 [(0, .ref (θ.1 11)), (1, .int x)] := hl
  unfold wxR_characterAt at hw
  refine lv_aload_n hx hb dxR_characterAt_0 rfl (lv_at hl 0 rfl) ?_
  refine gx_xR_12 X hG h dxR_characterAt_1 ?_
  refine lv_iload_n hx hb dxR_characterAt_4 rfl (lv_at hl 1 rfl) ?_
  refine cx_xR_22 (As := [.int x]) (rest := []) X hG h hl.1 (mxB_charAt l Γ θ ρ S Z x _ hw) ⟨show 3 + 1 ≤ 4 from by omega, show 8 + (2 + 11) + 67 ≤ 88 from by omega⟩ (q0 := 12) rfl rfl (Nat.le_of_ble_eq_true rfl) dxR_characterAt_5 ⟨Nat.le_of_ble_eq_true rfl, Nat.le_of_ble_eq_true rfl⟩ (fun v W1 hK H locs h => ?_)
  obtain ⟨r1, S2, rfl, rfl, hw⟩ := hK
  refine W.eq (g2 := F0 m 8 ls [.int r1]) rfl ?_
  exact z_iret X hr hlk h ⟨_, _, rfl, rfl, hw⟩ dxR_characterAt_8
def wxR_addName_c37  (post : Unit → Rh → Sg → Prop) (j : Nat) (mc ms : Nat) (ρ : Rh) (S : Sg) (cu : Nat) (su : Nat) : Prop := ∃ m3 s4 : Nat, (cu + m3 ≤ mc ∧ su + s4 ≤ ms) ∧ wxB_append2 (fun r1 ρ5 S2 => (j < 300) ∧ ∃ m9 s10 : Nat, ((cu + m3) + m9 ≤ mc ∧ (su + s4) + s10 ≤ ms) ∧ wxB_append3 (fun r7 ρ11 S8 => ∃ m14 s15 : Nat, (((cu + m3) + m9) + m14 ≤ mc ∧ ((su + s4) + s10) + s15 ≤ ms) ∧ wxB_append2 (fun r12 ρ16 S13 => (((S13.1 6 j) ≤ (0 : Int32)) → post () ρ16 S13) ∧ ((¬ ((S13.1 6 j) ≤ (0 : Int32))) → ∃ m20 s21 : Nat, ((((cu + m3) + m9) + m14) + m20 ≤ mc ∧ (((su + s4) + s10) + s15) + s21 ≤ ms) ∧ wxB_append2 (fun r18 ρ22 S19 => ∃ m25 s26 : Nat, (((((cu + m3) + m9) + m14) + m20) + m25 ≤ mc ∧ ((((su + s4) + s10) + s15) + s21) + s26 ≤ ms) ∧ wxB_append3 (fun r23 ρ27 S24 => post () ρ27 S24) ρ22 S19 (S19.1 6 j) m25 s26) ρ16 S13 (43) m20 s21)) ρ11 S8 (41) m14 s15) ρ5 S2 (S2.1 4 j) m9 s10) ρ S (40) m3 s4
set_option maxHeartbeats 4000000 in
set_option maxRecDepth 100000 in
theorem txR_addName_c37 {p : Program} {l : Launch} {e : Env} {s : State} {m : MethodId} {below : List Frame} {meth : Method} {c : Code} (Γ : Gm) (θ : Th) (Z : va_W) (j : Nat) (mc ms : Nat)  (post : Unit → Rh → Sg → Prop) (X : CallFix p m c cxR_addName 2 s ([.ref (θ.1 11), .ref (θ.2 j)] : List Value).toArray big RxR) (hr : meth.sig.returnType = none) (hlk : meth.locks = false) (hG : GX Γ s s.heap) :
    ∀ (ρ : Rh) (S : Sg) (cu : Nat) (su : Nat) (hc : cu ≤ mc ∧ su ≤ ms) (hw : wxR_addName_c37 post j mc ms ρ S cu su) (H : Heap) (locs : List Loc) (h : HS Γ s (WX Γ θ ρ S Z) H locs) (ls : Array Slot) (hl : lv_has ls 2 [(0, .ref (θ.1 11)), (1, .ref (θ.2 j))]), W p l e { frames := 6, cells := mc, slots := ms, locals := 166 } s m ([.ref (θ.1 11), .ref (θ.2 j)] : List Value).toArray below meth c H locs cu su (MQ below (QM Γ (KK (fun _ : Unit => none) (fun q : Rh × Sg => WX Γ θ q.1 q.2 Z) (fun r q => post r q.1 q.2))) ([.ref (θ.1 11), .ref (θ.2 j)] : List Value).toArray s mc ms (AA Γ)) (F0 m 37 ls []) := by
  have hx := X.1
  have hb := X.2.1
  intro ρ S cu su hc hw H locs h ls hl
  unfold wxR_addName_c37 at hw
  refine lv_aload_n hx hb dxR_addName_37 rfl (lv_at hl 0 rfl) ?_
  refine gx_xR_12 X hG h dxR_addName_38 ?_
  refine lv_bipush (v := 40) hx hb dxR_addName_41 (by decide) ?_
  obtain ⟨m3, s4, hc, hw⟩ := hw
  refine cx_xR_40 (As := [.int 40]) (rest := []) X hG h hl.1 (mxB_append2 l Γ θ ρ S Z (40) m3 s4 _ hw) ⟨show 5 + 1 ≤ 6 from by omega, show 8 + (2 + 11) + 143 ≤ 166 from by omega⟩ (q0 := 12) rfl rfl (Nat.le_of_ble_eq_true rfl) dxR_addName_43 hc (fun v W1 hK H locs h => ?_)
  obtain ⟨r1, ⟨ρ5, S2⟩, rfl, rfl, hw⟩ := hK
  refine W.eq (g2 := F0 m 46 ls [.ref (θ.1 12)]) rfl ?_
  refine lv_aload_n hx hb dxR_addName_46 rfl (lv_at hl 1 rfl) ?_
  obtain ⟨o6, hw⟩ := hw
  refine gx_xR_88 X hG h o6 (x := S2.1 4 j) rfl dxR_addName_47 ?_
  obtain ⟨m9, s10, hc, hw⟩ := hw
  refine cx_xR_43 (As := [.int (S2.1 4 j)]) (rest := []) X hG h hl.1 (mxB_append3 l Γ θ ρ5 S2 Z (S2.1 4 j) m9 s10 _ hw) ⟨show 5 + 1 ≤ 6 from by omega, show 8 + (2 + 11) + 145 ≤ 166 from by omega⟩ (q0 := 12) rfl rfl (Nat.le_of_ble_eq_true rfl) dxR_addName_50 hc (fun v W1 hK H locs h => ?_)
  obtain ⟨r7, ⟨ρ11, S8⟩, rfl, rfl, hw⟩ := hK
  refine W.eq (g2 := F0 m 53 ls [.ref (θ.1 12)]) rfl ?_
  refine lv_bipush (v := 41) hx hb dxR_addName_53 (by decide) ?_
  obtain ⟨m14, s15, hc, hw⟩ := hw
  refine cx_xR_40 (As := [.int 41]) (rest := []) X hG h hl.1 (mxB_append2 l Γ θ ρ11 S8 Z (41) m14 s15 _ hw) ⟨show 5 + 1 ≤ 6 from by omega, show 8 + (2 + 11) + 143 ≤ 166 from by omega⟩ (q0 := 12) rfl rfl (Nat.le_of_ble_eq_true rfl) dxR_addName_55 hc (fun v W1 hK H locs h => ?_)
  obtain ⟨r12, ⟨ρ16, S13⟩, rfl, rfl, hw⟩ := hK
  refine W.eq (g2 := F0 m 58 ls [.ref (θ.1 12)]) rfl ?_
  refine lv_pop hx hb dxR_addName_58 rfl ?_
  refine lv_aload_n hx hb dxR_addName_59 rfl (lv_at hl 1 rfl) ?_
  refine gx_xR_91 X hG h o6 (x := S13.1 6 j) rfl dxR_addName_60 ?_
  refine lv_if_le (tgt := 83) hx hb dxR_addName_63 (by decide) (fun c17 => ?_) (fun c17 => ?_)
  · have hw := hw.1 c17
    refine W.widen (k := mc) (n := ms) hc.1 hc.2 ?_
    exact z_vret X hr hlk h ⟨_, (ρ16, S13), rfl, rfl, hw⟩ dxR_addName_83
  · have hw := hw.2 c17
    refine lv_aload_n hx hb dxR_addName_66 rfl (lv_at hl 0 rfl) ?_
    refine gx_xR_12 X hG h dxR_addName_67 ?_
    refine lv_bipush (v := 43) hx hb dxR_addName_70 (by decide) ?_
    obtain ⟨m20, s21, hc, hw⟩ := hw
    refine cx_xR_40 (As := [.int 43]) (rest := []) X hG h hl.1 (mxB_append2 l Γ θ ρ16 S13 Z (43) m20 s21 _ hw) ⟨show 5 + 1 ≤ 6 from by omega, show 8 + (2 + 11) + 143 ≤ 166 from by omega⟩ (q0 := 12) rfl rfl (Nat.le_of_ble_eq_true rfl) dxR_addName_72 hc (fun v W1 hK H locs h => ?_)
    obtain ⟨r18, ⟨ρ22, S19⟩, rfl, rfl, hw⟩ := hK
    refine W.eq (g2 := F0 m 75 ls [.ref (θ.1 12)]) rfl ?_
    refine lv_aload_n hx hb dxR_addName_75 rfl (lv_at hl 1 rfl) ?_
    refine gx_xR_91 X hG h o6 (x := S19.1 6 j) rfl dxR_addName_76 ?_
    obtain ⟨m25, s26, hc, hw⟩ := hw
    refine cx_xR_43 (As := [.int (S19.1 6 j)]) (rest := []) X hG h hl.1 (mxB_append3 l Γ θ ρ22 S19 Z (S19.1 6 j) m25 s26 _ hw) ⟨show 5 + 1 ≤ 6 from by omega, show 8 + (2 + 11) + 145 ≤ 166 from by omega⟩ (q0 := 12) rfl rfl (Nat.le_of_ble_eq_true rfl) dxR_addName_79 hc (fun v W1 hK H locs h => ?_)
    obtain ⟨r23, ⟨ρ27, S24⟩, rfl, rfl, hw⟩ := hK
    refine W.eq (g2 := F0 m 82 ls [.ref (θ.1 12)]) rfl ?_
    refine lv_pop hx hb dxR_addName_82 rfl ?_
    refine W.widen (k := mc) (n := ms) hc.1 hc.2 ?_
    exact z_vret X hr hlk h ⟨_, (ρ27, S24), rfl, rfl, hw⟩ dxR_addName_83
def wxR_addName  (post : Unit → Rh → Sg → Prop) (ρ : Rh) (S : Sg) (j : Nat) (mc ms : Nat) : Prop := (j < 300) ∧ wxC_wordOf (fun r2 S3 => ∃ m6 s7 : Nat, (0 + m6 ≤ mc ∧ 0 + s7 ≤ ms) ∧ wxB_append (fun r4 ρ8 S5 => wxC_isOwn (fun r9 S10 => ((r9 = (0 : Int32)) → wxR_addName_c37 post j mc ms ρ8 S10  (0 + m6) (0 + s7)) ∧ ((¬ (r9 = (0 : Int32))) → ∃ m30 s31 : Nat, ((0 + m6) + m30 ≤ mc ∧ (0 + s7) + s31 ≤ ms) ∧ wxB_append3 (fun r28 ρ32 S29 => wxR_addName_c37 post j mc ms ρ32 S29  ((0 + m6) + m30) ((0 + s7) + s31)) ρ8 S10 (S10.1 3 j) m30 s31)) ρ8 S5 (S5.1 3 j)) ρ S3 r2 m6 s7) ρ S (S.1 3 j)
set_option maxHeartbeats 4000000 in
set_option maxRecDepth 100000 in
theorem mxR_addName (l : Launch) (Γ : Gm) (θ : Th) (ρ : Rh) (S : Sg) (Z : va_W) (j : Nat) (mc ms : Nat) (post : Unit → Rh → Sg → Prop) (hw : wxR_addName post ρ S j mc ms) : MM l yxR_addName cxR_addName 2 none 6 166 Γ [.ref (θ.1 11), .ref (θ.2 j)] (WX Γ θ ρ S Z) (KK (fun _ : Unit => none) (fun q : Rh × Sg => WX Γ θ q.1 q.2 Z) (fun r q => post r q.1 q.2)) mc ms := by
  refine MM_of (by decide) (Nat.le_of_ble_eq_true rfl) ?_
  intro p e s m below meth c X hr hlk hnm hG h ls hl
  have hx := X.1
  have hb := X.2.1
  have hc : 0 ≤ mc ∧ 0 ≤ ms := ⟨Nat.zero_le _, Nat.zero_le _⟩
  have hl : lv_has ls 2 [(0, .ref (θ.1 11)), (1, .ref (θ.2 j))] := hl
  unfold wxR_addName at hw
  refine lv_aload_n hx hb dxR_addName_0 rfl (lv_at hl 0 rfl) ?_
  refine gx_xR_12 X hG h dxR_addName_1 ?_
  refine lv_aload_n hx hb dxR_addName_4 rfl (lv_at hl 1 rfl) ?_
  obtain ⟨o1, hw⟩ := hw
  refine gx_xR_75 X hG h o1 (x := S.1 3 j) rfl dxR_addName_5 ?_
  refine cx_xR_79 (As := [.int (S.1 3 j)]) (rest := [.ref (θ.1 12)]) X hG h hl.1 (mxC_wordOf l Γ θ ρ S Z (S.1 3 j) _ hw) ⟨show 0 + 1 ≤ 6 from by omega, show 8 + (1 + 11) + 0 ≤ 166 from by omega⟩ rfl (Nat.le_of_ble_eq_true rfl) dxR_addName_8 hc (fun v W1 hK H locs h => ?_)
  obtain ⟨r2, S3, rfl, rfl, hw⟩ := hK
  refine W.eq (g2 := F0 m 11 ls [.ref (Γ.2.2.2.2.1 r2), .ref (θ.1 12)]) rfl ?_
  obtain ⟨m6, s7, hc, hw⟩ := hw
  refine cx_xR_34 (As := [.ref (Γ.2.2.2.2.1 r2)]) (rest := []) X hG h hl.1 (mxB_append l Γ θ ρ S3 Z r2 m6 s7 _ hw) ⟨show 5 + 1 ≤ 6 from by omega, show 8 + (2 + 11) + 144 ≤ 166 from by omega⟩ (q0 := 12) rfl rfl (Nat.le_of_ble_eq_true rfl) dxR_addName_11 hc (fun v W1 hK H locs h => ?_)
  obtain ⟨r4, ⟨ρ8, S5⟩, rfl, rfl, hw⟩ := hK
  refine W.eq (g2 := F0 m 14 ls [.ref (θ.1 12)]) rfl ?_
  refine lv_pop hx hb dxR_addName_14 rfl ?_
  refine lv_aload_n hx hb dxR_addName_15 rfl (lv_at hl 1 rfl) ?_
  refine gx_xR_75 X hG h o1 (x := S5.1 3 j) rfl dxR_addName_16 ?_
  refine cx_xR_84 (As := [.int (S5.1 3 j)]) (rest := []) X hG h hl.1 (mxC_isOwn l Γ θ ρ8 S5 Z (S5.1 3 j) _ hw) ⟨show 0 + 1 ≤ 6 from by omega, show 8 + (1 + 11) + 0 ≤ 166 from by omega⟩ rfl (Nat.le_of_ble_eq_true rfl) dxR_addName_19 hc (fun v W1 hK H locs h => ?_)
  obtain ⟨r9, S10, rfl, rfl, hw⟩ := hK
  refine W.eq (g2 := F0 m 22 ls [.int r9]) rfl ?_
  refine lv_if_eq (tgt := 37) hx hb dxR_addName_22 (by decide) (fun c11 => ?_) (fun c11 => ?_)
  · have hw := hw.1 c11
    exact txR_addName_c37 Γ θ Z j mc ms post X hr hlk hG ρ8 S10  (0 + m6) (0 + s7) hc hw _ _ h ls (lv_sub hl [0, 1] rfl)
  · have hw := hw.2 c11
    refine lv_aload_n hx hb dxR_addName_25 rfl (lv_at hl 0 rfl) ?_
    refine gx_xR_12 X hG h dxR_addName_26 ?_
    refine lv_aload_n hx hb dxR_addName_29 rfl (lv_at hl 1 rfl) ?_
    refine gx_xR_75 X hG h o1 (x := S10.1 3 j) rfl dxR_addName_30 ?_
    obtain ⟨m30, s31, hc, hw⟩ := hw
    refine cx_xR_43 (As := [.int (S10.1 3 j)]) (rest := []) X hG h hl.1 (mxB_append3 l Γ θ ρ8 S10 Z (S10.1 3 j) m30 s31 _ hw) ⟨show 5 + 1 ≤ 6 from by omega, show 8 + (2 + 11) + 145 ≤ 166 from by omega⟩ (q0 := 12) rfl rfl (Nat.le_of_ble_eq_true rfl) dxR_addName_33 hc (fun v W1 hK H locs h => ?_)
    obtain ⟨r28, ⟨ρ32, S29⟩, rfl, rfl, hw⟩ := hK
    refine W.eq (g2 := F0 m 36 ls [.ref (θ.1 12)]) rfl ?_
    refine lv_pop hx hb dxR_addName_36 rfl ?_
    exact txR_addName_c37 Γ θ Z j mc ms post X hr hlk hG ρ32 S29  ((0 + m6) + m30) ((0 + s7) + s31) hc hw _ _ h ls (lv_sub hl [0, 1] rfl)
def wxR_addChain_c20  (post : Unit → Rh → Sg → Prop) (j : Nat) (mc ms : Nat) : Nat → Rh → Sg → Option Nat → Nat → Nat → Prop
  | 0, _, _, _, _, _ => False
  | d + 1, ρ, S, a2, cu, su => (a2 = none → post () ρ S) ∧ (∀ j2 : Nat, a2 = some j2 → wxB_length (fun r3 S4 => (((120 : Int32) ≤ r3) → post () ρ S4) ∧ ((¬ ((120 : Int32) ≤ r3)) → ∃ m8 s9 : Nat, (cu + m8 ≤ mc ∧ su + s9 ≤ ms) ∧ wxB_append (fun r6 ρ10 S7 => ∃ m13 s14 : Nat, ((cu + m8) + m13 ≤ mc ∧ (su + s9) + s14 ≤ ms) ∧ wxR_addName (fun (_ : Unit) ρ15 S12 => (j2 < 300) ∧ wxR_addChain_c20 post j mc ms d ρ15 S12 (S12.2 j2) ((cu + m8) + m13) ((su + s9) + s14)) ρ10 S7 j2 m13 s14) ρ S4 17 m8 s9)) ρ S )
set_option maxHeartbeats 4000000 in
set_option maxRecDepth 100000 in
theorem txR_addChain_c20 {p : Program} {l : Launch} {e : Env} {s : State} {m : MethodId} {below : List Frame} {meth : Method} {c : Code} (Γ : Gm) (θ : Th) (Z : va_W) (j : Nat) (mc ms : Nat)  (post : Unit → Rh → Sg → Prop) (X : CallFix p m c cxR_addChain 3 s ([.ref (θ.1 11), .ref (θ.2 j)] : List Value).toArray big RxR) (hr : meth.sig.returnType = none) (hlk : meth.locks = false) (hG : GX Γ s s.heap) :
    ∀ (d : Nat) (ρ : Rh) (S : Sg) (a2 : Option Nat) (cu : Nat) (su : Nat) (hc : cu ≤ mc ∧ su ≤ ms) (hw : wxR_addChain_c20 post j mc ms d ρ S a2 cu su) (H : Heap) (locs : List Loc) (h : HS Γ s (WX Γ θ ρ S Z) H locs) (ls : Array Slot) (hl : lv_has ls 3 [(0, .ref (θ.1 11)), (1, .ref (θ.2 j)), (2, va_rf (Option.map θ.2 a2))]), W p l e { frames := 7, cells := mc, slots := ms, locals := 187 } s m ([.ref (θ.1 11), .ref (θ.2 j)] : List Value).toArray below meth c H locs cu su (MQ below (QM Γ (KK (fun _ : Unit => none) (fun q : Rh × Sg => WX Γ θ q.1 q.2 Z) (fun r q => post r q.1 q.2))) ([.ref (θ.1 11), .ref (θ.2 j)] : List Value).toArray s mc ms (AA Γ)) (F0 m 20 ls []) := by
  have hx := X.1
  have hb := X.2.1
  intro d
  induction d with
  | zero => intro ρ S a2 cu su hc hw; exact absurd hw (by simp [wxR_addChain_c20])
  | succ d ih =>
    intro ρ S a2 cu su hc hw H locs h ls hl
    rw [wxR_addChain_c20] at hw
    refine z_aload_nQ X dxR_addChain_20 rfl (lv_at hl 2 rfl) ?_
    refine x_ifnull X (tgt := 59) dxR_addChain_21 (by decide) (fun e1 => ?_) (fun j2 e1 => ?_)
    · have hw := hw.1 e1
      have hl : lv_has ls 3 [(0, .ref (θ.1 11)), (1, .ref (θ.2 j)), (2, .null)] := by rw [e1] at hl; exact hl
      refine W.widen (k := mc) (n := ms) hc.1 hc.2 ?_
      exact z_vret X hr hlk h ⟨_, (ρ, S), rfl, rfl, hw⟩ dxR_addChain_59
    · have hw := hw.2 j2 e1
      have hl : lv_has ls 3 [(0, .ref (θ.1 11)), (1, .ref (θ.2 j)), (2, .ref (θ.2 j2))] := by rw [e1] at hl; exact hl
      refine lv_aload_n hx hb dxR_addChain_24 rfl (lv_at hl 0 rfl) ?_
      refine gx_xR_12 X hG h dxR_addChain_25 ?_
      refine cx_xR_18 (As := []) (rest := []) X hG h hl.1 (mxB_length l Γ θ ρ S Z  _ hw) ⟨show 1 + 1 ≤ 7 from by omega, show 8 + (1 + 11) + 20 ≤ 187 from by omega⟩ (q0 := 12) rfl rfl (Nat.le_of_ble_eq_true rfl) dxR_addChain_28 hc (fun v W1 hK H locs h => ?_)
      obtain ⟨r3, S4, rfl, rfl, hw⟩ := hK
      refine W.eq (g2 := F0 m 31 ls [.int r3]) rfl ?_
      refine lv_bipush (v := 120) hx hb dxR_addChain_31 (by decide) ?_
      refine lv_icmp_ge (tgt := 59) hx hb dxR_addChain_33 (by decide) (fun c5 => ?_) (fun c5 => ?_)
      · have hw := hw.1 c5
        refine W.widen (k := mc) (n := ms) hc.1 hc.2 ?_
        exact z_vret X hr hlk h ⟨_, (ρ, S4), rfl, rfl, hw⟩ dxR_addChain_59
      · have hw := hw.2 c5
        refine lv_aload_n hx hb dxR_addChain_36 rfl (lv_at hl 0 rfl) ?_
        refine gx_xR_12 X hG h dxR_addChain_37 ?_
        refine va_ldcS hx hb X.2.2.2.1 (lS_17 hG) dxR_addChain_40 ?_
        obtain ⟨m8, s9, hc, hw⟩ := hw
        refine cx_xR_34 (As := [.ref (Γ.2.2.2.2.1 17)]) (rest := []) X hG h hl.1 (mxB_append l Γ θ ρ S4 Z 17 m8 s9 _ hw) ⟨show 5 + 1 ≤ 7 from by omega, show 8 + (2 + 11) + 144 ≤ 187 from by omega⟩ (q0 := 12) rfl rfl (Nat.le_of_ble_eq_true rfl) dxR_addChain_42 hc (fun v W1 hK H locs h => ?_)
        obtain ⟨r6, ⟨ρ10, S7⟩, rfl, rfl, hw⟩ := hK
        refine W.eq (g2 := F0 m 45 ls [.ref (θ.1 12)]) rfl ?_
        refine lv_pop hx hb dxR_addChain_45 rfl ?_
        refine lv_aload_n hx hb dxR_addChain_46 rfl (lv_at hl 0 rfl) ?_
        refine lv_aload_n hx hb dxR_addChain_47 rfl (lv_at hl 2 rfl) ?_
        obtain ⟨m13, s14, hc, hw⟩ := hw
        refine cx_xR_52 (As := [.ref (θ.2 j2)]) (rest := []) X hG h hl.1 (mxR_addName l Γ θ ρ10 S7 Z j2 m13 s14 _ hw) ⟨show 6 + 1 ≤ 7 from by omega, show 8 + (2 + 11) + 166 ≤ 187 from by omega⟩ (q0 := 11) rfl rfl (Nat.le_of_ble_eq_true rfl) dxR_addChain_48 hc (fun v W1 hK H locs h => ?_)
        obtain ⟨r11, ⟨ρ15, S12⟩, rfl, rfl, hw⟩ := hK
        refine W.eq (g2 := F0 m 51 ls []) rfl ?_
        refine lv_aload_n hx hb dxR_addChain_51 rfl (lv_at hl 2 rfl) ?_
        obtain ⟨o16, hw⟩ := hw
        refine gx_xR_67 X hG h o16 (x := S12.2 j2) rfl dxR_addChain_52 ?_
        refine z_astore_nQ (lv' := [(2, va_rf (Option.map θ.2 (S12.2 j2))), (0, .ref (θ.1 11)), (1, .ref (θ.2 j))]) X dxR_addChain_55 rfl hl (by decide) rfl (fun ls hl => ?_)
        refine lv_goto (tgt := 20) hx hb dxR_addChain_56 (by decide) ?_
        exact ih ρ15 S12 (S12.2 j2) ((cu + m8) + m13) ((su + s9) + s14) hc hw _ _ h ls (lv_sub hl [1, 2, 0] rfl)
def wxR_addChain  (post : Unit → Rh → Sg → Prop) (ρ : Rh) (S : Sg) (j : Nat) (mc ms : Nat) : Prop := ∃ m3 s4 : Nat, (0 + m3 ≤ mc ∧ 0 + s4 ≤ ms) ∧ wxB_append2 (fun r1 ρ5 S2 => ∃ m8 s9 : Nat, ((0 + m3) + m8 ≤ mc ∧ (0 + s4) + s9 ≤ ms) ∧ wxR_addName (fun (_ : Unit) ρ10 S7 => (j < 300) ∧ ∃ d17 : Nat, wxR_addChain_c20 post j mc ms d17 ρ10 S7 (S7.2 j) ((0 + m3) + m8) ((0 + s4) + s9)) ρ5 S2 j m8 s9) ρ S (32) m3 s4
set_option maxHeartbeats 4000000 in
set_option maxRecDepth 100000 in
theorem mxR_addChain (l : Launch) (Γ : Gm) (θ : Th) (ρ : Rh) (S : Sg) (Z : va_W) (j : Nat) (mc ms : Nat) (post : Unit → Rh → Sg → Prop) (hw : wxR_addChain post ρ S j mc ms) : MM l yxR_addChain cxR_addChain 3 none 7 187 Γ [.ref (θ.1 11), .ref (θ.2 j)] (WX Γ θ ρ S Z) (KK (fun _ : Unit => none) (fun q : Rh × Sg => WX Γ θ q.1 q.2 Z) (fun r q => post r q.1 q.2)) mc ms := by
  refine MM_of (by decide) (Nat.le_of_ble_eq_true rfl) ?_
  intro p e s m below meth c X hr hlk hnm hG h ls hl
  have hx := X.1
  have hb := X.2.1
  have hc : 0 ≤ mc ∧ 0 ≤ ms := ⟨Nat.zero_le _, Nat.zero_le _⟩
  have hl : lv_has ls 3 [(0, .ref (θ.1 11)), (1, .ref (θ.2 j))] := hl
  unfold wxR_addChain at hw
  refine lv_aload_n hx hb dxR_addChain_0 rfl (lv_at hl 0 rfl) ?_
  refine gx_xR_12 X hG h dxR_addChain_1 ?_
  refine lv_bipush (v := 32) hx hb dxR_addChain_4 (by decide) ?_
  obtain ⟨m3, s4, hc, hw⟩ := hw
  refine cx_xR_40 (As := [.int 32]) (rest := []) X hG h hl.1 (mxB_append2 l Γ θ ρ S Z (32) m3 s4 _ hw) ⟨show 5 + 1 ≤ 7 from by omega, show 8 + (2 + 11) + 143 ≤ 187 from by omega⟩ (q0 := 12) rfl rfl (Nat.le_of_ble_eq_true rfl) dxR_addChain_6 hc (fun v W1 hK H locs h => ?_)
  obtain ⟨r1, ⟨ρ5, S2⟩, rfl, rfl, hw⟩ := hK
  refine W.eq (g2 := F0 m 9 ls [.ref (θ.1 12)]) rfl ?_
  refine lv_pop hx hb dxR_addChain_9 rfl ?_
  refine lv_aload_n hx hb dxR_addChain_10 rfl (lv_at hl 0 rfl) ?_
  refine lv_aload_n hx hb dxR_addChain_11 rfl (lv_at hl 1 rfl) ?_
  obtain ⟨m8, s9, hc, hw⟩ := hw
  refine cx_xR_52 (As := [.ref (θ.2 j)]) (rest := []) X hG h hl.1 (mxR_addName l Γ θ ρ5 S2 Z j m8 s9 _ hw) ⟨show 6 + 1 ≤ 7 from by omega, show 8 + (2 + 11) + 166 ≤ 187 from by omega⟩ (q0 := 11) rfl rfl (Nat.le_of_ble_eq_true rfl) dxR_addChain_12 hc (fun v W1 hK H locs h => ?_)
  obtain ⟨r6, ⟨ρ10, S7⟩, rfl, rfl, hw⟩ := hK
  refine W.eq (g2 := F0 m 15 ls []) rfl ?_
  refine lv_aload_n hx hb dxR_addChain_15 rfl (lv_at hl 1 rfl) ?_
  obtain ⟨o11, hw⟩ := hw
  refine gx_xR_67 X hG h o11 (x := S7.2 j) rfl dxR_addChain_16 ?_
  refine z_astore_nQ (lv' := [(2, va_rf (Option.map θ.2 (S7.2 j))), (0, .ref (θ.1 11)), (1, .ref (θ.2 j))]) X dxR_addChain_19 rfl hl (by decide) rfl (fun ls hl => ?_)
  obtain ⟨d17, hw⟩ := hw
  exact txR_addChain_c20 Γ θ Z j mc ms post X hr hlk hG d17 ρ10 S7 (S7.2 j) ((0 + m3) + m8) ((0 + s4) + s9) hc hw _ _ h ls (lv_sub hl [1, 2, 0] rfl)
def wxR_write_c75  (post : Unit → Rh → Sg → Prop) (x : Int32) (y : Int64) (o : Option Nat) (u : Option Nat) (mc ms : Nat) (ρ : Rh) (S : Sg) (cu : Nat) (su : Nat) : Prop := wxB_length (fun r1 S2 => ((r1 ≤ (120 : Int32)) → post () ρ S2) ∧ ((¬ (r1 ≤ (120 : Int32))) → ∃ m6 s7 : Nat, (cu + m6 ≤ mc ∧ su + s7 ≤ ms) ∧ wxB_setLength (fun (_ : Unit) ρ8 S5 => post () ρ8 S5) ρ S2 (120) m6 s7)) ρ S 
set_option maxHeartbeats 4000000 in
set_option maxRecDepth 100000 in
theorem txR_write_c75 {p : Program} {l : Launch} {e : Env} {s : State} {m : MethodId} {below : List Frame} {meth : Method} {c : Code} (Γ : Gm) (θ : Th) (Z : va_W) (x : Int32) (y : Int64) (o : Option Nat) (u : Option Nat) (mc ms : Nat)  (post : Unit → Rh → Sg → Prop) (X : CallFix p m c cxR_write 6 s ([.ref (θ.1 11), .int x, .long y, va_rf (Option.map θ.2 o), va_rf (Option.map θ.2 u)] : List Value).toArray big RxR) (hr : meth.sig.returnType = none) (hlk : meth.locks = false) (hG : GX Γ s s.heap) :
    ∀ (ρ : Rh) (S : Sg) (cu : Nat) (su : Nat) (hc : cu ≤ mc ∧ su ≤ ms) (hw : wxR_write_c75 post x y o u mc ms ρ S cu su) (H : Heap) (locs : List Loc) (h : HS Γ s (WX Γ θ ρ S Z) H locs) (ls : Array Slot) (hl : lv_has ls 6 [(0, .ref (θ.1 11)), (1, .int x), (2, .long y)]), W p l e { frames := 8, cells := mc, slots := ms, locals := 209 } s m ([.ref (θ.1 11), .int x, .long y, va_rf (Option.map θ.2 o), va_rf (Option.map θ.2 u)] : List Value).toArray below meth c H locs cu su (MQ below (QM Γ (KK (fun _ : Unit => none) (fun q : Rh × Sg => WX Γ θ q.1 q.2 Z) (fun r q => post r q.1 q.2))) ([.ref (θ.1 11), .int x, .long y, va_rf (Option.map θ.2 o), va_rf (Option.map θ.2 u)] : List Value).toArray s mc ms (AA Γ)) (F0 m 75 ls []) := by
  have hx := X.1
  have hb := X.2.1
  intro ρ S cu su hc hw H locs h ls hl
  unfold wxR_write_c75 at hw
  refine lv_aload_n hx hb dxR_write_75 rfl (lv_at hl 0 rfl) ?_
  refine gx_xR_12 X hG h dxR_write_76 ?_
  refine cx_xR_18 (As := []) (rest := []) X hG h hl.1 (mxB_length l Γ θ ρ S Z  _ hw) ⟨show 1 + 1 ≤ 8 from by omega, show 8 + (1 + 11) + 20 ≤ 209 from by omega⟩ (q0 := 12) rfl rfl (Nat.le_of_ble_eq_true rfl) dxR_write_79 hc (fun v W1 hK H locs h => ?_)
  obtain ⟨r1, S2, rfl, rfl, hw⟩ := hK
  refine W.eq (g2 := F0 m 82 ls [.int r1]) rfl ?_
  refine lv_bipush (v := 120) hx hb dxR_write_82 (by decide) ?_
  refine lv_icmp_le (tgt := 96) hx hb dxR_write_84 (by decide) (fun c3 => ?_) (fun c3 => ?_)
  · have hw := hw.1 c3
    refine W.widen (k := mc) (n := ms) hc.1 hc.2 ?_
    exact z_vret X hr hlk h ⟨_, (ρ, S2), rfl, rfl, hw⟩ dxR_write_96
  · have hw := hw.2 c3
    refine lv_aload_n hx hb dxR_write_87 rfl (lv_at hl 0 rfl) ?_
    refine gx_xR_12 X hG h dxR_write_88 ?_
    refine lv_bipush (v := 120) hx hb dxR_write_91 (by decide) ?_
    obtain ⟨m6, s7, hc, hw⟩ := hw
    refine cx_xR_26 (As := [.int 120]) (rest := []) X hG h hl.1 (mxB_setLength l Γ θ ρ S2 Z (120) m6 s7 _ hw) ⟨show 5 + 1 ≤ 8 from by omega, show 8 + (2 + 11) + 143 ≤ 209 from by omega⟩ (q0 := 12) rfl rfl (Nat.le_of_ble_eq_true rfl) dxR_write_93 hc (fun v W1 hK H locs h => ?_)
    obtain ⟨r4, ⟨ρ8, S5⟩, rfl, rfl, hw⟩ := hK
    refine W.eq (g2 := F0 m 96 ls []) rfl ?_
    refine W.widen (k := mc) (n := ms) hc.1 hc.2 ?_
    exact z_vret X hr hlk h ⟨_, (ρ8, S5), rfl, rfl, hw⟩ dxR_write_96
def wxR_write_c54  (post : Unit → Rh → Sg → Prop) (x : Int32) (y : Int64) (o : Option Nat) (u : Option Nat) (mc ms : Nat) (ρ : Rh) (S : Sg) (cu : Nat) (su : Nat) : Prop := (u = none → wxR_write_c75 post x y o u mc ms ρ S  cu su) ∧ (∀ j2 : Nat, u = some j2 → ∃ m11 s12 : Nat, (cu + m11 ≤ mc ∧ su + s12 ≤ ms) ∧ wxB_append (fun r9 ρ13 S10 => ∃ m16 s17 : Nat, ((cu + m11) + m16 ≤ mc ∧ (su + s12) + s17 ≤ ms) ∧ wxR_addName (fun (_ : Unit) ρ18 S15 => wxR_write_c75 post x y o u mc ms ρ18 S15  ((cu + m11) + m16) ((su + s12) + s17)) ρ13 S10 j2 m16 s17) ρ S 18 m11 s12)
set_option maxHeartbeats 4000000 in
set_option maxRecDepth 100000 in
theorem txR_write_c54 {p : Program} {l : Launch} {e : Env} {s : State} {m : MethodId} {below : List Frame} {meth : Method} {c : Code} (Γ : Gm) (θ : Th) (Z : va_W) (x : Int32) (y : Int64) (o : Option Nat) (u : Option Nat) (mc ms : Nat)  (post : Unit → Rh → Sg → Prop) (X : CallFix p m c cxR_write 6 s ([.ref (θ.1 11), .int x, .long y, va_rf (Option.map θ.2 o), va_rf (Option.map θ.2 u)] : List Value).toArray big RxR) (hr : meth.sig.returnType = none) (hlk : meth.locks = false) (hG : GX Γ s s.heap) :
    ∀ (ρ : Rh) (S : Sg) (cu : Nat) (su : Nat) (hc : cu ≤ mc ∧ su ≤ ms) (hw : wxR_write_c54 post x y o u mc ms ρ S cu su) (H : Heap) (locs : List Loc) (h : HS Γ s (WX Γ θ ρ S Z) H locs) (ls : Array Slot) (hl : lv_has ls 6 [(0, .ref (θ.1 11)), (1, .int x), (2, .long y), (5, va_rf (Option.map θ.2 u))]), W p l e { frames := 8, cells := mc, slots := ms, locals := 209 } s m ([.ref (θ.1 11), .int x, .long y, va_rf (Option.map θ.2 o), va_rf (Option.map θ.2 u)] : List Value).toArray below meth c H locs cu su (MQ below (QM Γ (KK (fun _ : Unit => none) (fun q : Rh × Sg => WX Γ θ q.1 q.2 Z) (fun r q => post r q.1 q.2))) ([.ref (θ.1 11), .int x, .long y, va_rf (Option.map θ.2 o), va_rf (Option.map θ.2 u)] : List Value).toArray s mc ms (AA Γ)) (F0 m 54 ls []) := by
  have hx := X.1
  have hb := X.2.1
  intro ρ S cu su hc hw H locs h ls hl
  unfold wxR_write_c54 at hw
  refine z_aloadQ X dxR_write_54 (lv_at hl 3 rfl) ?_
  refine x_ifnull X (tgt := 75) dxR_write_56 (by decide) (fun e1 => ?_) (fun j2 e1 => ?_)
  · have hw := hw.1 e1
    have hl : lv_has ls 6 [(0, .ref (θ.1 11)), (1, .int x), (2, .long y), (5, .null)] := by rw [e1] at hl; exact hl
    exact txR_write_c75 Γ θ Z x y o u mc ms post X hr hlk hG ρ S  cu su hc hw _ _ h ls (lv_sub hl [0, 1, 2] rfl)
  · have hw := hw.2 j2 e1
    have hl : lv_has ls 6 [(0, .ref (θ.1 11)), (1, .int x), (2, .long y), (5, .ref (θ.2 j2))] := by rw [e1] at hl; exact hl
    refine lv_aload_n hx hb dxR_write_59 rfl (lv_at hl 0 rfl) ?_
    refine gx_xR_12 X hG h dxR_write_60 ?_
    refine va_ldcS hx hb X.2.2.2.1 (lS_18 hG) dxR_write_63 ?_
    obtain ⟨m11, s12, hc, hw⟩ := hw
    refine cx_xR_34 (As := [.ref (Γ.2.2.2.2.1 18)]) (rest := []) X hG h hl.1 (mxB_append l Γ θ ρ S Z 18 m11 s12 _ hw) ⟨show 5 + 1 ≤ 8 from by omega, show 8 + (2 + 11) + 144 ≤ 209 from by omega⟩ (q0 := 12) rfl rfl (Nat.le_of_ble_eq_true rfl) dxR_write_65 hc (fun v W1 hK H locs h => ?_)
    obtain ⟨r9, ⟨ρ13, S10⟩, rfl, rfl, hw⟩ := hK
    refine W.eq (g2 := F0 m 68 ls [.ref (θ.1 12)]) rfl ?_
    refine lv_pop hx hb dxR_write_68 rfl ?_
    refine lv_aload_n hx hb dxR_write_69 rfl (lv_at hl 0 rfl) ?_
    refine lv_aload hx hb dxR_write_70 (lv_at hl 3 rfl) ?_
    obtain ⟨m16, s17, hc, hw⟩ := hw
    refine cx_xR_52 (As := [.ref (θ.2 j2)]) (rest := []) X hG h hl.1 (mxR_addName l Γ θ ρ13 S10 Z j2 m16 s17 _ hw) ⟨show 6 + 1 ≤ 8 from by omega, show 8 + (2 + 11) + 166 ≤ 209 from by omega⟩ (q0 := 11) rfl rfl (Nat.le_of_ble_eq_true rfl) dxR_write_72 hc (fun v W1 hK H locs h => ?_)
    obtain ⟨r14, ⟨ρ18, S15⟩, rfl, rfl, hw⟩ := hK
    refine W.eq (g2 := F0 m 75 ls []) rfl ?_
    exact txR_write_c75 Γ θ Z x y o u mc ms post X hr hlk hG ρ18 S15  ((cu + m11) + m16) ((su + s12) + s17) hc hw _ _ h ls (lv_sub hl [0, 1, 2] rfl)
def wxR_write_c43  (post : Unit → Rh → Sg → Prop) (x : Int32) (y : Int64) (o : Option Nat) (u : Option Nat) (mc ms : Nat) (ρ : Rh) (S : Sg) (cu : Nat) (su : Nat) : Prop := (o = none → wxR_write_c54 post x y o u mc ms ρ S  cu su) ∧ (∀ j2 : Nat, o = some j2 → ∃ m21 s22 : Nat, (cu + m21 ≤ mc ∧ su + s22 ≤ ms) ∧ wxR_addChain (fun (_ : Unit) ρ23 S20 => wxR_write_c54 post x y o u mc ms ρ23 S20  (cu + m21) (su + s22)) ρ S j2 m21 s22)
set_option maxHeartbeats 4000000 in
set_option maxRecDepth 100000 in
theorem txR_write_c43 {p : Program} {l : Launch} {e : Env} {s : State} {m : MethodId} {below : List Frame} {meth : Method} {c : Code} (Γ : Gm) (θ : Th) (Z : va_W) (x : Int32) (y : Int64) (o : Option Nat) (u : Option Nat) (mc ms : Nat)  (post : Unit → Rh → Sg → Prop) (X : CallFix p m c cxR_write 6 s ([.ref (θ.1 11), .int x, .long y, va_rf (Option.map θ.2 o), va_rf (Option.map θ.2 u)] : List Value).toArray big RxR) (hr : meth.sig.returnType = none) (hlk : meth.locks = false) (hG : GX Γ s s.heap) :
    ∀ (ρ : Rh) (S : Sg) (cu : Nat) (su : Nat) (hc : cu ≤ mc ∧ su ≤ ms) (hw : wxR_write_c43 post x y o u mc ms ρ S cu su) (H : Heap) (locs : List Loc) (h : HS Γ s (WX Γ θ ρ S Z) H locs) (ls : Array Slot) (hl : lv_has ls 6 [(0, .ref (θ.1 11)), (1, .int x), (2, .long y), (4, va_rf (Option.map θ.2 o)), (5, va_rf (Option.map θ.2 u))]), W p l e { frames := 8, cells := mc, slots := ms, locals := 209 } s m ([.ref (θ.1 11), .int x, .long y, va_rf (Option.map θ.2 o), va_rf (Option.map θ.2 u)] : List Value).toArray below meth c H locs cu su (MQ below (QM Γ (KK (fun _ : Unit => none) (fun q : Rh × Sg => WX Γ θ q.1 q.2 Z) (fun r q => post r q.1 q.2))) ([.ref (θ.1 11), .int x, .long y, va_rf (Option.map θ.2 o), va_rf (Option.map θ.2 u)] : List Value).toArray s mc ms (AA Γ)) (F0 m 43 ls []) := by
  have hx := X.1
  have hb := X.2.1
  intro ρ S cu su hc hw H locs h ls hl
  unfold wxR_write_c43 at hw
  refine z_aloadQ X dxR_write_43 (lv_at hl 3 rfl) ?_
  refine x_ifnull X (tgt := 54) dxR_write_45 (by decide) (fun e1 => ?_) (fun j2 e1 => ?_)
  · have hw := hw.1 e1
    have hl : lv_has ls 6 [(0, .ref (θ.1 11)), (1, .int x), (2, .long y), (4, .null), (5, va_rf (Option.map θ.2 u))] := by rw [e1] at hl; exact hl
    exact txR_write_c54 Γ θ Z x y o u mc ms post X hr hlk hG ρ S  cu su hc hw _ _ h ls (lv_sub hl [0, 1, 2, 4] rfl)
  · have hw := hw.2 j2 e1
    have hl : lv_has ls 6 [(0, .ref (θ.1 11)), (1, .int x), (2, .long y), (4, .ref (θ.2 j2)), (5, va_rf (Option.map θ.2 u))] := by rw [e1] at hl; exact hl
    refine lv_aload_n hx hb dxR_write_48 rfl (lv_at hl 0 rfl) ?_
    refine lv_aload hx hb dxR_write_49 (lv_at hl 3 rfl) ?_
    obtain ⟨m21, s22, hc, hw⟩ := hw
    refine cx_xR_46 (As := [.ref (θ.2 j2)]) (rest := []) X hG h hl.1 (mxR_addChain l Γ θ ρ S Z j2 m21 s22 _ hw) ⟨show 7 + 1 ≤ 8 from by omega, show 8 + (3 + 11) + 187 ≤ 209 from by omega⟩ (q0 := 11) rfl rfl (Nat.le_of_ble_eq_true rfl) dxR_write_51 hc (fun v W1 hK H locs h => ?_)
    obtain ⟨r19, ⟨ρ23, S20⟩, rfl, rfl, hw⟩ := hK
    refine W.eq (g2 := F0 m 54 ls []) rfl ?_
    exact txR_write_c54 Γ θ Z x y o u mc ms post X hr hlk hG ρ23 S20  (cu + m21) (su + s22) hc hw _ _ h ls (lv_sub hl [0, 1, 2, 4] rfl)
def wxR_write  (post : Unit → Rh → Sg → Prop) (ρ : Rh) (S : Sg) (x : Int32) (y : Int64) (o : Option Nat) (u : Option Nat) (mc ms : Nat) : Prop := ∃ m3 s4 : Nat, (0 + m3 ≤ mc ∧ 0 + s4 ≤ ms) ∧ wxB_setLength (fun (_ : Unit) ρ5 S2 => wxR_wordsOf (fun r6 S7 => ∃ m10 s11 : Nat, ((0 + m3) + m10 ≤ mc ∧ (0 + s4) + s11 ≤ ms) ∧ wxB_append (fun r8 ρ12 S9 => (((lg_cmp y (1000000000000 : Int64)) = (0 : Int32)) → wxR_write_c43 post x y o u mc ms ρ12 S9  ((0 + m3) + m10) ((0 + s4) + s11)) ∧ ((¬ ((lg_cmp y (1000000000000 : Int64)) = (0 : Int32))) → ∃ m26 s27 : Nat, (((0 + m3) + m10) + m26 ≤ mc ∧ ((0 + s4) + s11) + s27 ≤ ms) ∧ wxB_append2 (fun r24 ρ28 S25 => ∃ m31 s32 : Nat, ((((0 + m3) + m10) + m26) + m31 ≤ mc ∧ (((0 + s4) + s11) + s27) + s32 ≤ ms) ∧ wxB_append3 (fun r29 ρ33 S30 => wxR_write_c43 post x y o u mc ms ρ33 S30  ((((0 + m3) + m10) + m26) + m31) ((((0 + s4) + s11) + s27) + s32)) ρ28 S25 y.toInt32 m31 s32) ρ12 S9 (32) m26 s27)) ρ5 S7 r6 m10 s11) ρ5 S2 x) ρ S (0) m3 s4
set_option maxHeartbeats 4000000 in
set_option maxRecDepth 100000 in
theorem mxR_write (l : Launch) (Γ : Gm) (θ : Th) (ρ : Rh) (S : Sg) (Z : va_W) (x : Int32) (y : Int64) (o : Option Nat) (u : Option Nat) (mc ms : Nat) (post : Unit → Rh → Sg → Prop) (hw : wxR_write post ρ S x y o u mc ms) : MM l yxR_write cxR_write 6 none 8 209 Γ [.ref (θ.1 11), .int x, .long y, va_rf (Option.map θ.2 o), va_rf (Option.map θ.2 u)] (WX Γ θ ρ S Z) (KK (fun _ : Unit => none) (fun q : Rh × Sg => WX Γ θ q.1 q.2 Z) (fun r q => post r q.1 q.2)) mc ms := by
  refine MM_of (by decide) (by cases o <;> cases u <;> exact Nat.le_of_ble_eq_true rfl) ?_
  intro p e s m below meth c X hr hlk hnm hG h ls hl
  have hx := X.1
  have hb := X.2.1
  have hc : 0 ≤ mc ∧ 0 ≤ ms := ⟨Nat.zero_le _, Nat.zero_le _⟩
  have hl : lv_has ls 6 [(0, .ref (θ.1 11)), (1, .int x), (2, .long y), (4, va_rf (Option.map θ.2 o)), (5, va_rf (Option.map θ.2 u))] := by cases o <;> cases u <;> exact hl
  unfold wxR_write at hw
  refine lv_aload_n hx hb dxR_write_0 rfl (lv_at hl 0 rfl) ?_
  refine gx_xR_12 X hG h dxR_write_1 ?_
  refine lv_iconst (v := 0) hx hb dxR_write_4 (by decide) ?_
  obtain ⟨m3, s4, hc, hw⟩ := hw
  refine cx_xR_26 (As := [.int 0]) (rest := []) X hG h hl.1 (mxB_setLength l Γ θ ρ S Z (0) m3 s4 _ hw) ⟨show 5 + 1 ≤ 8 from by omega, show 8 + (2 + 11) + 143 ≤ 209 from by omega⟩ (q0 := 12) rfl rfl (Nat.le_of_ble_eq_true rfl) dxR_write_5 hc (fun v W1 hK H locs h => ?_)
  obtain ⟨r1, ⟨ρ5, S2⟩, rfl, rfl, hw⟩ := hK
  refine W.eq (g2 := F0 m 8 ls []) rfl ?_
  refine lv_aload_n hx hb dxR_write_8 rfl (lv_at hl 0 rfl) ?_
  refine gx_xR_12 X hG h dxR_write_9 ?_
  refine lv_iload_n hx hb dxR_write_12 rfl (lv_at hl 1 rfl) ?_
  refine cx_xR_30 (As := [.int x]) (rest := [.ref (θ.1 12)]) X hG h hl.1 (mxR_wordsOf l Γ θ ρ5 S2 Z x _ hw) ⟨show 0 + 1 ≤ 8 from by omega, show 8 + (1 + 11) + 0 ≤ 209 from by omega⟩ rfl (Nat.le_of_ble_eq_true rfl) dxR_write_13 hc (fun v W1 hK H locs h => ?_)
  obtain ⟨r6, S7, rfl, rfl, hw⟩ := hK
  refine W.eq (g2 := F0 m 16 ls [.ref (Γ.2.2.2.2.1 r6), .ref (θ.1 12)]) rfl ?_
  obtain ⟨m10, s11, hc, hw⟩ := hw
  refine cx_xR_34 (As := [.ref (Γ.2.2.2.2.1 r6)]) (rest := []) X hG h hl.1 (mxB_append l Γ θ ρ5 S7 Z r6 m10 s11 _ hw) ⟨show 5 + 1 ≤ 8 from by omega, show 8 + (2 + 11) + 144 ≤ 209 from by omega⟩ (q0 := 12) rfl rfl (Nat.le_of_ble_eq_true rfl) dxR_write_16 hc (fun v W1 hK H locs h => ?_)
  obtain ⟨r8, ⟨ρ12, S9⟩, rfl, rfl, hw⟩ := hK
  refine W.eq (g2 := F0 m 19 ls [.ref (θ.1 12)]) rfl ?_
  refine lv_pop hx hb dxR_write_19 rfl ?_
  refine lv_lload_n hx hb dxR_write_20 rfl (lv_at hl 2 rfl) ?_
  refine lv_ldc2 (v := 1000000000000) hx hb X.2.2.2.1 (X.2.2.2.2 _ kL_xR_38) dxR_write_21 ?_
  refine W.lcmp hx hb dxR_write_24 ?_
  refine lv_if_eq (tgt := 43) hx hb dxR_write_25 (by decide) (fun c13 => ?_) (fun c13 => ?_)
  · have hw := hw.1 c13
    exact txR_write_c43 Γ θ Z x y o u mc ms post X hr hlk hG ρ12 S9  ((0 + m3) + m10) ((0 + s4) + s11) hc hw _ _ h ls (lv_sub hl [0, 1, 2, 3, 4] rfl)
  · have hw := hw.2 c13
    refine lv_aload_n hx hb dxR_write_28 rfl (lv_at hl 0 rfl) ?_
    refine gx_xR_12 X hG h dxR_write_29 ?_
    refine lv_bipush (v := 32) hx hb dxR_write_32 (by decide) ?_
    obtain ⟨m26, s27, hc, hw⟩ := hw
    refine cx_xR_40 (As := [.int 32]) (rest := []) X hG h hl.1 (mxB_append2 l Γ θ ρ12 S9 Z (32) m26 s27 _ hw) ⟨show 5 + 1 ≤ 8 from by omega, show 8 + (2 + 11) + 143 ≤ 209 from by omega⟩ (q0 := 12) rfl rfl (Nat.le_of_ble_eq_true rfl) dxR_write_34 hc (fun v W1 hK H locs h => ?_)
    obtain ⟨r24, ⟨ρ28, S25⟩, rfl, rfl, hw⟩ := hK
    refine W.eq (g2 := F0 m 37 ls [.ref (θ.1 12)]) rfl ?_
    refine lv_lload_n hx hb dxR_write_37 rfl (lv_at hl 2 rfl) ?_
    refine lv_l2i (v := y.toInt32) hx hb dxR_write_38 rfl ?_
    obtain ⟨m31, s32, hc, hw⟩ := hw
    refine cx_xR_43 (As := [.int y.toInt32]) (rest := []) X hG h hl.1 (mxB_append3 l Γ θ ρ28 S25 Z y.toInt32 m31 s32 _ hw) ⟨show 5 + 1 ≤ 8 from by omega, show 8 + (2 + 11) + 145 ≤ 209 from by omega⟩ (q0 := 12) rfl rfl (Nat.le_of_ble_eq_true rfl) dxR_write_39 hc (fun v W1 hK H locs h => ?_)
    obtain ⟨r29, ⟨ρ33, S30⟩, rfl, rfl, hw⟩ := hK
    refine W.eq (g2 := F0 m 42 ls [.ref (θ.1 12)]) rfl ?_
    refine lv_pop hx hb dxR_write_42 rfl ?_
    exact txR_write_c43 Γ θ Z x y o u mc ms post X hr hlk hG ρ33 S30  ((((0 + m3) + m10) + m26) + m31) ((((0 + s4) + s11) + s27) + s32) hc hw _ _ h ls (lv_sub hl [0, 1, 2, 3, 4] rfl)
def wxT_report  (post : Int32 → Sg → Prop) (ρ : Rh) (S : Sg) (x : Int32) : Prop := ((¬ (x = (-1 : Int32))) → ((x < (0 : Int32)) → post (-1 : Int32) S) ∧ ((¬ (x < (0 : Int32))) → wxR_length (fun r3 S4 => ((r3 ≤ x) → post (-1 : Int32) S4) ∧ ((¬ (r3 ≤ x)) → wxR_characterAt (fun r6 S7 => post r6 S7) ρ S4 x)) ρ S )) ∧ ((x = (-1 : Int32)) → wxR_length (fun r8 S9 => post r8 S9) ρ S )
set_option maxHeartbeats 4000000 in
set_option maxRecDepth 100000 in
theorem mxT_report (l : Launch) (Γ : Gm) (θ : Th) (ρ : Rh) (S : Sg) (Z : va_W) (x : Int32) (post : Int32 → Sg → Prop) (hw : wxT_report post ρ S x) : MM l yxT_report cxT_report 2 (some .int) 5 109 Γ [.ref (θ.1 0), .int x] (WX Γ θ ρ S Z) (KK (fun r : Int32 => some (.int r)) (fun S' => WX Γ θ ρ S' Z) post) 0 0 := by
  refine MM_of (by decide) (Nat.le_of_ble_eq_true rfl) ?_
  intro p e s m below meth c X hr hlk hnm hG h ls hl
  have hx := X.1
  have hb := X.2.1
  have hl : lv_has ls 2 [(0, .ref (θ.1 0)), (1, .int x)] := hl
  unfold wxT_report at hw
  refine lv_iload_n hx hb dxT_report_0 rfl (lv_at hl 1 rfl) ?_
  refine lv_iconst (v := -1) hx hb dxT_report_1 (by decide) ?_
  refine lv_icmp_ne (tgt := 13) hx hb dxT_report_2 (by decide) (fun c1 => ?_) (fun c1 => ?_)
  · have hw := hw.1 c1
    refine lv_iload_n hx hb dxT_report_13 rfl (lv_at hl 1 rfl) ?_
    refine lv_if_lt (tgt := 39) hx hb dxT_report_14 (by decide) (fun c2 => ?_) (fun c2 => ?_)
    · have hw := hw.1 c2
      refine lv_iconst (v := -1) hx hb dxT_report_39 (by decide) ?_
      exact z_iret X hr hlk h ⟨_, _, rfl, rfl, hw⟩ dxT_report_40
    · have hw := hw.2 c2
      refine lv_iload_n hx hb dxT_report_17 rfl (lv_at hl 1 rfl) ?_
      refine lv_aload_n hx hb dxT_report_18 rfl (lv_at hl 0 rfl) ?_
      refine gx_xT_28 X hG h dxT_report_19 ?_
      refine cx_xT_175 (As := []) (rest := [.int x]) X hG h hl.1 (mxR_length l Γ θ ρ S Z  _ hw) ⟨show 2 + 1 ≤ 5 from by omega, show 8 + (1 + 11) + 40 ≤ 109 from by omega⟩ (q0 := 11) rfl rfl (Nat.le_of_ble_eq_true rfl) dxT_report_22 ⟨Nat.le_of_ble_eq_true rfl, Nat.le_of_ble_eq_true rfl⟩ (fun v W1 hK H locs h => ?_)
      obtain ⟨r3, S4, rfl, rfl, hw⟩ := hK
      refine W.eq (g2 := F0 m 25 ls [.int r3, .int x]) rfl ?_
      refine lv_icmp_ge (tgt := 39) hx hb dxT_report_25 (by decide) (fun c5 => ?_) (fun c5 => ?_)
      · have hw := hw.1 c5
        refine lv_iconst (v := -1) hx hb dxT_report_39 (by decide) ?_
        exact z_iret X hr hlk h ⟨_, _, rfl, rfl, hw⟩ dxT_report_40
      · have hw := hw.2 c5
        refine lv_aload_n hx hb dxT_report_28 rfl (lv_at hl 0 rfl) ?_
        refine gx_xT_28 X hG h dxT_report_29 ?_
        refine lv_iload_n hx hb dxT_report_32 rfl (lv_at hl 1 rfl) ?_
        refine cx_xT_178 (As := [.int x]) (rest := []) X hG h hl.1 (mxR_characterAt l Γ θ ρ S4 Z x _ hw) ⟨show 4 + 1 ≤ 5 from by omega, show 8 + (2 + 11) + 88 ≤ 109 from by omega⟩ (q0 := 11) rfl rfl (Nat.le_of_ble_eq_true rfl) dxT_report_33 ⟨Nat.le_of_ble_eq_true rfl, Nat.le_of_ble_eq_true rfl⟩ (fun v W1 hK H locs h => ?_)
        obtain ⟨r6, S7, rfl, rfl, hw⟩ := hK
        refine W.eq (g2 := F0 m 36 ls [.int r6]) rfl ?_
        refine lv_goto (tgt := 40) hx hb dxT_report_36 (by decide) ?_
        exact z_iret X hr hlk h ⟨_, _, rfl, rfl, hw⟩ dxT_report_40
  · have hw := hw.2 c1
    refine lv_aload_n hx hb dxT_report_5 rfl (lv_at hl 0 rfl) ?_
    refine gx_xT_28 X hG h dxT_report_6 ?_
    refine cx_xT_175 (As := []) (rest := []) X hG h hl.1 (mxR_length l Γ θ ρ S Z  _ hw) ⟨show 2 + 1 ≤ 5 from by omega, show 8 + (1 + 11) + 40 ≤ 109 from by omega⟩ (q0 := 11) rfl rfl (Nat.le_of_ble_eq_true rfl) dxT_report_9 ⟨Nat.le_of_ble_eq_true rfl, Nat.le_of_ble_eq_true rfl⟩ (fun v W1 hK H locs h => ?_)
    obtain ⟨r8, S9, rfl, rfl, hw⟩ := hK
    refine W.eq (g2 := F0 m 12 ls [.int r8]) rfl ?_
    exact z_iret X hr hlk h ⟨_, _, rfl, rfl, hw⟩ dxT_report_12
def wxT_run_c92  (post : Int32 → Rh → Sg → Prop) (x : Int32) (y : Int32) (q : Int32) (mc ms : Nat) (ρ : Rh) (S : Sg) (a5 : Int32) (b0 : Int32) (cu : Nat) (su : Nat) : Prop := ((b0 = (0 : Int32)) → ∃ m4 s5 : Nat, (cu + m4 ≤ mc ∧ su + s5 ≤ ms) ∧ wxR_write (fun (_ : Unit) ρ6 S3 => post a5 ρ6 S3) (rL ρ (1000000000000 : Int64)) S a5 (1000000000000 : Int64) (S.2 301) (S.2 302) m4 s5) ∧ ((¬ (b0 = (0 : Int32))) → wxM_carried (fun r7 S8 => ∃ m11 s12 : Nat, (cu + m11 ≤ mc ∧ su + s12 ≤ ms) ∧ wxR_write (fun (_ : Unit) ρ13 S10 => post a5 ρ13 S10) (rL ρ r7.toInt64) S8 a5 r7.toInt64 (S8.2 301) (S8.2 302) m11 s12) ρ S )
set_option maxHeartbeats 4000000 in
set_option maxRecDepth 100000 in
theorem txT_run_c92 {p : Program} {l : Launch} {e : Env} {s : State} {m : MethodId} {below : List Frame} {meth : Method} {c : Code} (Γ : Gm) (θ : Th) (Z : va_W) (x : Int32) (y : Int32) (q : Int32) (mc ms : Nat)  (post : Int32 → Rh → Sg → Prop) (X : CallFix p m c cxT_run 7 s ([.ref (θ.1 0), .int x, .int y, .int q] : List Value).toArray big RxT) (hr : meth.sig.returnType = (some .int)) (hlk : meth.locks = false) (hG : GX Γ s s.heap) :
    ∀ (ρ : Rh) (S : Sg) (a5 : Int32) (b0 : Int32) (cu : Nat) (su : Nat) (hc : cu ≤ mc ∧ su ≤ ms) (hw : wxT_run_c92 post x y q mc ms ρ S a5 b0 cu su) (H : Heap) (locs : List Loc) (h : HS Γ s (WX Γ θ ρ S Z) H locs) (ls : Array Slot) (hl : lv_has ls 7 [(0, .ref (θ.1 0)), (1, .int x), (2, .int y), (3, .int q), (5, .int a5)]), W p l e { frames := 215, cells := mc, slots := ms, locals := 6468 } s m ([.ref (θ.1 0), .int x, .int y, .int q] : List Value).toArray below meth c H locs cu su (MQ below (QM Γ (KK (fun r : Int32 => some (.int r)) (fun q : Rh × Sg => WX Γ θ q.1 q.2 Z) (fun r q => post r q.1 q.2))) ([.ref (θ.1 0), .int x, .int y, .int q] : List Value).toArray s mc ms (AA Γ)) (F0 m 92 ls [.int b0]) := by
  have hx := X.1
  have hb := X.2.1
  intro ρ S a5 b0 cu su hc hw H locs h ls hl
  unfold wxT_run_c92 at hw
  refine lv_istore (lv' := [(6, .int b0), (0, .ref (θ.1 0)), (1, .int x), (2, .int y), (3, .int q), (5, .int a5)]) hx hb dxT_run_92 hl (by decide) rfl (fun ls hl => ?_)
  refine lv_aload_n hx hb dxT_run_94 rfl (lv_at hl 1 rfl) ?_
  refine lv_iload hx hb dxT_run_95 (lv_at hl 0 rfl) ?_
  refine lv_if_eq (tgt := 111) hx hb dxT_run_97 (by decide) (fun c1 => ?_) (fun c1 => ?_)
  · have hw := hw.1 c1
    refine lv_ldc2 (v := 1000000000000) hx hb X.2.2.2.1 (X.2.2.2.2 _ kL_xT_36) dxT_run_111 ?_
    refine px_xT_38 X hG h dxT_run_114 (fun H locs h => ?_)
    refine lv_aload_n hx hb dxT_run_117 rfl (lv_at hl 1 rfl) ?_
    refine gx_xT_28 X hG h dxT_run_118 ?_
    refine lv_iload hx hb dxT_run_121 (lv_at hl 5 rfl) ?_
    refine lv_aload_n hx hb dxT_run_123 rfl (lv_at hl 1 rfl) ?_
    refine gx_xT_38 X hG h (x := (1000000000000 : Int64)) rfl dxT_run_124 ?_
    refine lv_aload_n hx hb dxT_run_127 rfl (lv_at hl 1 rfl) ?_
    refine gx_xT_99 X hG h (x := S.2 301) rfl dxT_run_128 ?_
    refine lv_aload_n hx hb dxT_run_131 rfl (lv_at hl 1 rfl) ?_
    refine gx_xT_103 X hG h (x := S.2 302) rfl dxT_run_132 ?_
    obtain ⟨m4, s5, hc, hw⟩ := hw
    refine cx_xT_135 (As := [.int a5, .long (1000000000000 : Int64), va_rf (Option.map θ.2 (S.2 301)), va_rf (Option.map θ.2 (S.2 302))]) (rest := []) X hG h hl.1 (mxR_write l Γ θ (rL ρ (1000000000000 : Int64)) S Z a5 (1000000000000 : Int64) (S.2 301) (S.2 302) m4 s5 _ hw) ⟨show 8 + 1 ≤ 215 from by omega, show 8 + (6 + 11) + 209 ≤ 6468 from by omega⟩ (q0 := 11) rfl rfl (Nat.le_of_ble_eq_true rfl) dxT_run_135 hc (fun v W1 hK H locs h => ?_)
    obtain ⟨r2, ⟨ρ6, S3⟩, rfl, rfl, hw⟩ := hK
    refine W.eq (g2 := F0 m 138 ls []) rfl ?_
    refine lv_iload hx hb dxT_run_138 (lv_at hl 5 rfl) ?_
    refine W.widen (k := mc) (n := ms) hc.1 hc.2 ?_
    exact z_iret X hr hlk h ⟨_, (ρ6, S3), rfl, rfl, hw⟩ dxT_run_140
  · have hw := hw.2 c1
    refine lv_aload_n hx hb dxT_run_100 rfl (lv_at hl 1 rfl) ?_
    refine gx_xT_56 X hG h dxT_run_101 ?_
    refine cx_xT_131 (As := []) (rest := [.ref (θ.1 0)]) X hG h hl.1 (mxM_carried l Γ θ ρ S Z  _ hw) ⟨show 0 + 1 ≤ 215 from by omega, show 8 + (1 + 11) + 0 ≤ 6468 from by omega⟩ (q0 := 6) rfl rfl (Nat.le_of_ble_eq_true rfl) dxT_run_104 hc (fun v W1 hK H locs h => ?_)
    obtain ⟨r7, S8, rfl, rfl, hw⟩ := hK
    refine W.eq (g2 := F0 m 107 ls [.int r7, .ref (θ.1 0)]) rfl ?_
    refine lv_i2l (v := r7.toInt64) hx hb dxT_run_107 rfl ?_
    refine lv_goto (tgt := 114) hx hb dxT_run_108 (by decide) ?_
    refine px_xT_38 X hG h dxT_run_114 (fun H locs h => ?_)
    refine lv_aload_n hx hb dxT_run_117 rfl (lv_at hl 1 rfl) ?_
    refine gx_xT_28 X hG h dxT_run_118 ?_
    refine lv_iload hx hb dxT_run_121 (lv_at hl 5 rfl) ?_
    refine lv_aload_n hx hb dxT_run_123 rfl (lv_at hl 1 rfl) ?_
    refine gx_xT_38 X hG h (x := r7.toInt64) rfl dxT_run_124 ?_
    refine lv_aload_n hx hb dxT_run_127 rfl (lv_at hl 1 rfl) ?_
    refine gx_xT_99 X hG h (x := S8.2 301) rfl dxT_run_128 ?_
    refine lv_aload_n hx hb dxT_run_131 rfl (lv_at hl 1 rfl) ?_
    refine gx_xT_103 X hG h (x := S8.2 302) rfl dxT_run_132 ?_
    obtain ⟨m11, s12, hc, hw⟩ := hw
    refine cx_xT_135 (As := [.int a5, .long r7.toInt64, va_rf (Option.map θ.2 (S8.2 301)), va_rf (Option.map θ.2 (S8.2 302))]) (rest := []) X hG h hl.1 (mxR_write l Γ θ (rL ρ r7.toInt64) S8 Z a5 r7.toInt64 (S8.2 301) (S8.2 302) m11 s12 _ hw) ⟨show 8 + 1 ≤ 215 from by omega, show 8 + (6 + 11) + 209 ≤ 6468 from by omega⟩ (q0 := 11) rfl rfl (Nat.le_of_ble_eq_true rfl) dxT_run_135 hc (fun v W1 hK H locs h => ?_)
    obtain ⟨r9, ⟨ρ13, S10⟩, rfl, rfl, hw⟩ := hK
    refine W.eq (g2 := F0 m 138 ls []) rfl ?_
    refine lv_iload hx hb dxT_run_138 (lv_at hl 5 rfl) ?_
    refine W.widen (k := mc) (n := ms) hc.1 hc.2 ?_
    exact z_iret X hr hlk h ⟨_, (ρ13, S10), rfl, rfl, hw⟩ dxT_run_140
def wxT_run_c71  (post : Int32 → Rh → Sg → Prop) (x : Int32) (y : Int32) (q : Int32) (mc ms : Nat) (ρ : Rh) (S : Sg) (a4 : Nat) (b0 : Int32) (cu : Nat) (su : Nat) : Prop := (a4 < 6) ∧ ((a4 = 2) → wxT_run_c92 post x y q mc ms ρ S b0 (1 : Int32) cu su) ∧ ((¬ (a4 = 2)) → ((¬ (b0 = (4 : Int32))) → wxT_run_c92 post x y q mc ms ρ S b0 (0 : Int32) cu su) ∧ ((b0 = (4 : Int32)) → wxT_run_c92 post x y q mc ms ρ S b0 (1 : Int32) cu su))
set_option maxHeartbeats 4000000 in
set_option maxRecDepth 100000 in
theorem txT_run_c71 {p : Program} {l : Launch} {e : Env} {s : State} {m : MethodId} {below : List Frame} {meth : Method} {c : Code} (Γ : Gm) (θ : Th) (Z : va_W) (x : Int32) (y : Int32) (q : Int32) (mc ms : Nat)  (post : Int32 → Rh → Sg → Prop) (X : CallFix p m c cxT_run 7 s ([.ref (θ.1 0), .int x, .int y, .int q] : List Value).toArray big RxT) (hr : meth.sig.returnType = (some .int)) (hlk : meth.locks = false) (hG : GX Γ s s.heap) :
    ∀ (ρ : Rh) (S : Sg) (a4 : Nat) (b0 : Int32) (cu : Nat) (su : Nat) (hc : cu ≤ mc ∧ su ≤ ms) (hw : wxT_run_c71 post x y q mc ms ρ S a4 b0 cu su) (H : Heap) (locs : List Loc) (h : HS Γ s (WX Γ θ ρ S Z) H locs) (ls : Array Slot) (hl : lv_has ls 7 [(0, .ref (θ.1 0)), (1, .int x), (2, .int y), (3, .int q), (4, .ref (Γ.2.2.2.1 a4))]), W p l e { frames := 215, cells := mc, slots := ms, locals := 6468 } s m ([.ref (θ.1 0), .int x, .int y, .int q] : List Value).toArray below meth c H locs cu su (MQ below (QM Γ (KK (fun r : Int32 => some (.int r)) (fun q : Rh × Sg => WX Γ θ q.1 q.2 Z) (fun r q => post r q.1 q.2))) ([.ref (θ.1 0), .int x, .int y, .int q] : List Value).toArray s mc ms (AA Γ)) (F0 m 71 ls [.int b0]) := by
  have hx := X.1
  have hb := X.2.1
  intro ρ S a4 b0 cu su hc hw H locs h ls hl
  unfold wxT_run_c71 at hw
  refine lv_istore (lv' := [(5, .int b0), (0, .ref (θ.1 0)), (1, .int x), (2, .int y), (3, .int q), (4, .ref (Γ.2.2.2.1 a4))]) hx hb dxT_run_71 hl (by decide) rfl (fun ls hl => ?_)
  refine lv_aload hx hb dxT_run_73 (lv_at hl 5 rfl) ?_
  refine gx_xT_128 X hG h dxT_run_75 ?_
  obtain ⟨o1, hw⟩ := hw
  refine x_acmp_eq X hG (tgt := 87) o1 (by decide) dxT_run_78 (by decide) (fun c2 => ?_) (fun c2 => ?_)
  · have hw := hw.1 c2
    refine lv_iconst (v := 1) hx hb dxT_run_87 (by decide) ?_
    refine lv_goto (tgt := 92) hx hb dxT_run_88 (by decide) ?_
    exact txT_run_c92 Γ θ Z x y q mc ms post X hr hlk hG ρ S b0 (1 : Int32) cu su hc hw _ _ h ls (lv_sub hl [1, 2, 3, 4, 0] rfl)
  · have hw := hw.2 c2
    refine lv_iload hx hb dxT_run_81 (lv_at hl 0 rfl) ?_
    refine lv_iconst (v := 4) hx hb dxT_run_83 (by decide) ?_
    refine lv_icmp_ne (tgt := 91) hx hb dxT_run_84 (by decide) (fun c14 => ?_) (fun c14 => ?_)
    · have hw := hw.1 c14
      refine lv_iconst (v := 0) hx hb dxT_run_91 (by decide) ?_
      exact txT_run_c92 Γ θ Z x y q mc ms post X hr hlk hG ρ S b0 (0 : Int32) cu su hc hw _ _ h ls (lv_sub hl [1, 2, 3, 4, 0] rfl)
    · have hw := hw.2 c14
      refine lv_iconst (v := 1) hx hb dxT_run_87 (by decide) ?_
      refine lv_goto (tgt := 92) hx hb dxT_run_88 (by decide) ?_
      exact txT_run_c92 Γ θ Z x y q mc ms post X hr hlk hG ρ S b0 (1 : Int32) cu su hc hw _ _ h ls (lv_sub hl [1, 2, 3, 4, 0] rfl)
def wxT_run  (post : Int32 → Rh → Sg → Prop) (ρ : Rh) (S : Sg) (x : Int32) (y : Int32) (q : Int32) (mc ms : Nat) : Prop := wxP_isDefined (fun r1 S2 => ((¬ (r1 = (0 : Int32))) → wxM_prepare (fun (_ : Unit) S5 => wxM_performRoutine (fun r6 S7 => (r6 < 6) ∧ ((¬ (r6 = 3)) → wxT_outcomeOf (fun r10 S11 => wxT_run_c71 post x y q mc ms ρ S11 r6 r10 0 0) ρ S7 r6 (0)) ∧ ((r6 = 3) → wxM_thrown (fun r15 S16 => wxT_afterFailure (fun r17 S18 => wxT_run_c71 post x y q mc ms ρ S18 r6 r17 0 0) ρ S16 r15) ρ S7 )) ρ (sC (sC S5 301 none) 302 none) x none) ρ S2 y q) ∧ ((r1 = (0 : Int32)) → post (-1 : Int32) ρ S2)) ρ S x
set_option maxHeartbeats 4000000 in
set_option maxRecDepth 100000 in
theorem mxT_run (l : Launch) (Γ : Gm) (θ : Th) (ρ : Rh) (S : Sg) (Z : va_W) (x : Int32) (y : Int32) (q : Int32) (mc ms : Nat) (post : Int32 → Rh → Sg → Prop) (hw : wxT_run post ρ S x y q mc ms) : MM l yxT_run cxT_run 7 (some .int) 215 6468 Γ [.ref (θ.1 0), .int x, .int y, .int q] (WX Γ θ ρ S Z) (KK (fun r : Int32 => some (.int r)) (fun q : Rh × Sg => WX Γ θ q.1 q.2 Z) (fun r q => post r q.1 q.2)) mc ms := by
  refine MM_of (by decide) (Nat.le_of_ble_eq_true rfl) ?_
  intro p e s m below meth c X hr hlk hnm hG h ls hl
  have hx := X.1
  have hb := X.2.1
  have hc : 0 ≤ mc ∧ 0 ≤ ms := ⟨Nat.zero_le _, Nat.zero_le _⟩
  have hl : lv_has ls 7 [(0, .ref (θ.1 0)), (1, .int x), (2, .int y), (3, .int q)] := hl
  unfold wxT_run at hw
  refine lv_aload_n hx hb dxT_run_0 rfl (lv_at hl 0 rfl) ?_
  refine gx_xT_21 X hG h dxT_run_1 ?_
  refine lv_iload_n hx hb dxT_run_4 rfl (lv_at hl 1 rfl) ?_
  refine cx_xT_93 (As := [.int x]) (rest := []) X hG h hl.1 (mxP_isDefined l Γ θ ρ S Z x _ hw) ⟨show 1 + 1 ≤ 215 from by omega, show 8 + (2 + 11) + 20 ≤ 6468 from by omega⟩ (q0 := 3) rfl rfl (Nat.le_of_ble_eq_true rfl) dxT_run_5 hc (fun v W1 hK H locs h => ?_)
  obtain ⟨r1, S2, rfl, rfl, hw⟩ := hK
  refine W.eq (g2 := F0 m 8 ls [.int r1]) rfl ?_
  refine lv_if_ne (tgt := 13) hx hb dxT_run_8 (by decide) (fun c3 => ?_) (fun c3 => ?_)
  · have hw := hw.1 c3
    refine lv_aload_n hx hb dxT_run_13 rfl (lv_at hl 0 rfl) ?_
    refine gx_xT_56 X hG h dxT_run_14 ?_
    refine lv_iload_n hx hb dxT_run_17 rfl (lv_at hl 2 rfl) ?_
    refine lv_iload_n hx hb dxT_run_18 rfl (lv_at hl 3 rfl) ?_
    refine cx_xT_96 (As := [.int y, .int q]) (rest := []) X hG h hl.1 (mxM_prepare l Γ θ ρ S2 Z y q _ hw) ⟨show 0 + 1 ≤ 215 from by omega, show 8 + (3 + 11) + 0 ≤ 6468 from by omega⟩ (q0 := 6) rfl rfl (Nat.le_of_ble_eq_true rfl) dxT_run_19 hc (fun v W1 hK H locs h => ?_)
    obtain ⟨r4, S5, rfl, rfl, hw⟩ := hK
    refine W.eq (g2 := F0 m 22 ls []) rfl ?_
    refine lv_aload_n hx hb dxT_run_22 rfl (lv_at hl 0 rfl) ?_
    refine lv_null hx hb dxT_run_23 ?_
    refine px_xT_99 X hG h (o := none) dxT_run_24 (fun H locs h => ?_)
    refine lv_aload_n hx hb dxT_run_27 rfl (lv_at hl 0 rfl) ?_
    refine lv_null hx hb dxT_run_28 ?_
    refine px_xT_103 X hG h (o := none) dxT_run_29 (fun H locs h => ?_)
    refine lv_aload_n hx hb dxT_run_32 rfl (lv_at hl 0 rfl) ?_
    refine gx_xT_56 X hG h dxT_run_33 ?_
    refine lv_iload_n hx hb dxT_run_36 rfl (lv_at hl 1 rfl) ?_
    refine lv_null hx hb dxT_run_37 ?_
    refine cx_xT_106 (As := [.int x, .null]) (rest := []) X hG h hl.1 (mxM_performRoutine l Γ θ ρ (sC (sC S5 301 none) 302 none) Z x none _ hw) ⟨show 213 + 1 ≤ 215 from by omega, show 8 + (3 + 11) + 6424 ≤ 6468 from by omega⟩ (q0 := 6) rfl rfl (Nat.le_of_ble_eq_true rfl) dxT_run_38 hc (fun v W1 hK H locs h => ?_)
    obtain ⟨r6, S7, rfl, rfl, hw⟩ := hK
    refine W.eq (g2 := F0 m 41 ls [.ref (Γ.2.2.2.1 r6)]) rfl ?_
    refine lv_astore (lv' := [(4, .ref (Γ.2.2.2.1 r6)), (0, .ref (θ.1 0)), (1, .int x), (2, .int y), (3, .int q)]) hx hb dxT_run_41 hl (by decide) rfl (fun ls hl => ?_)
    refine lv_aload hx hb dxT_run_43 (lv_at hl 0 rfl) ?_
    refine gx_xT_110 X hG h dxT_run_45 ?_
    obtain ⟨o8, hw⟩ := hw
    refine x_acmp_ne X hG (tgt := 65) o8 (by decide) dxT_run_48 (by decide) (fun c9 => ?_) (fun c9 => ?_)
    · have hw := hw.1 c9
      refine lv_aload hx hb dxT_run_65 (lv_at hl 0 rfl) ?_
      refine lv_iconst (v := 0) hx hb dxT_run_67 (by decide) ?_
      refine cx_xT_124 (As := [.ref (Γ.2.2.2.1 r6), .int 0]) (rest := []) X hG h hl.1 (mxT_outcomeOf l Γ θ ρ S7 Z r6 (0) _ hw) ⟨show 0 + 1 ≤ 215 from by omega, show 8 + (2 + 11) + 0 ≤ 6468 from by omega⟩ rfl (Nat.le_of_ble_eq_true rfl) dxT_run_68 hc (fun v W1 hK H locs h => ?_)
      obtain ⟨r10, S11, rfl, rfl, hw⟩ := hK
      refine W.eq (g2 := F0 m 71 ls [.int r10]) rfl ?_
      exact txT_run_c71 Γ θ Z x y q mc ms post X hr hlk hG ρ S11 r6 r10 0 0 hc hw _ _ h ls (lv_sub hl [1, 2, 3, 4, 0] rfl)
    · have hw := hw.2 c9
      refine lv_aload_n hx hb dxT_run_51 rfl (lv_at hl 1 rfl) ?_
      refine lv_aload_n hx hb dxT_run_52 rfl (lv_at hl 1 rfl) ?_
      refine gx_xT_56 X hG h dxT_run_53 ?_
      refine cx_xT_116 (As := []) (rest := [.ref (θ.1 0)]) X hG h hl.1 (mxM_thrown l Γ θ ρ S7 Z  _ hw) ⟨show 0 + 1 ≤ 215 from by omega, show 8 + (1 + 11) + 0 ≤ 6468 from by omega⟩ (q0 := 6) rfl rfl (Nat.le_of_ble_eq_true rfl) dxT_run_56 hc (fun v W1 hK H locs h => ?_)
      obtain ⟨r15, S16, rfl, rfl, hw⟩ := hK
      refine W.eq (g2 := F0 m 59 ls [va_rf (Option.map θ.2 r15), .ref (θ.1 0)]) rfl ?_
      refine cx_xT_120 (As := [va_rf (Option.map θ.2 r15)]) (rest := []) X hG h hl.1 (mxT_afterFailure l Γ θ ρ S16 Z r15 _ hw) ⟨show 214 + 1 ≤ 215 from by omega, show 8 + (3 + 11) + 6446 ≤ 6468 from by omega⟩ (q0 := 0) rfl rfl (Nat.le_of_ble_eq_true rfl) dxT_run_59 hc (fun v W1 hK H locs h => ?_)
      obtain ⟨r17, S18, rfl, rfl, hw⟩ := hK
      refine W.eq (g2 := F0 m 62 ls [.int r17]) rfl ?_
      refine lv_goto (tgt := 71) hx hb dxT_run_62 (by decide) ?_
      exact txT_run_c71 Γ θ Z x y q mc ms post X hr hlk hG ρ S18 r6 r17 0 0 hc hw _ _ h ls (lv_sub hl [1, 2, 3, 4, 0] rfl)
  · have hw := hw.2 c3
    refine lv_iconst (v := -1) hx hb dxT_run_11 (by decide) ?_
    refine W.widen (k := mc) (n := ms) hc.1 hc.2 ?_
    exact z_iret X hr hlk h ⟨_, (ρ, S2), rfl, rfl, hw⟩ dxT_run_12
