def wxU_canEncode  (post : Int32 → Sg → Prop) (ρ : Rh) (S : Sg) (x : Int32) : Prop := (((255 : Int32) < x) → post (0 : Int32) S) ∧ ((¬ ((255 : Int32) < x)) → post (1 : Int32) S)
set_option maxHeartbeats 4000000 in
set_option maxRecDepth 100000 in
theorem mxU_canEncode (l : Launch) (Γ : Gm) (θ : Th) (ρ : Rh) (S : Sg) (Z : va_W) (x : Int32) (post : Int32 → Sg → Prop) (hw : wxU_canEncode post ρ S x) : MM l yxU_canEncode cxU_canEncode 1 (some .boolean) 0 0 Γ [.int x] (WX Γ θ ρ S Z) (KK (fun r : Int32 => some (.int r)) (fun S' => WX Γ θ ρ S' Z) post) 0 0 := by
  refine MM_ofF (by decide +kernel) (Nat.le_of_ble_eq_true rfl) ?_
  intro p e s m below meth c X hr hlk hnm hG h ls hl
  have hx := X.1
  have hb := X.2.1
  have hl : lv_has ls 1 [(0, .int x)] := hl
  unfold wxU_canEncode at hw
  refine lv_iload_n hx hb dxU_canEncode_0 rfl (lv_at hl 0 rfl) ?_
  refine lv_sipush (v := 255) hx hb dxU_canEncode_1 (by decide) ?_
  refine lv_icmp_gt (tgt := 11) hx hb dxU_canEncode_4 (by decide) (fun c1 => ?_) (fun c1 => ?_)
  · have hw := hw.1 c1
    refine lv_iconst (v := 0) hx hb dxU_canEncode_11 (by decide) ?_
    exact z_zret X hr hlk h rfl ⟨_, _, rfl, rfl, hw⟩ dxU_canEncode_12
  · have hw := hw.2 c1
    refine lv_iconst (v := 1) hx hb dxU_canEncode_7 (by decide) ?_
    refine lv_goto (tgt := 12) hx hb dxU_canEncode_8 (by decide) ?_
    exact z_zret X hr hlk h rfl ⟨_, _, rfl, rfl, hw⟩ dxU_canEncode_12
def wxX_checkIndex  (post : Int32 → Sg → Prop) (ρ : Rh) (S : Sg) (x : Int32) (y : Int32) (o : Option Nat) : Prop := ((x < (0 : Int32)) → False) ∧ ((¬ (x < (0 : Int32))) → ((x < y) → post x S) ∧ ((¬ (x < y)) → False))
set_option maxHeartbeats 4000000 in
set_option maxRecDepth 100000 in
theorem mxX_checkIndex (l : Launch) (Γ : Gm) (θ : Th) (ρ : Rh) (S : Sg) (Z : va_W) (x : Int32) (y : Int32) (o : Option Nat) (post : Int32 → Sg → Prop) (hw : wxX_checkIndex post ρ S x y o) : MM l yxX_checkIndex cxX_checkIndex 3 (some .int) 0 0 Γ [.int x, .int y, va_rf o] (WX Γ θ ρ S Z) (KK (fun r : Int32 => some (.int r)) (fun S' => WX Γ θ ρ S' Z) post) 0 0 := by
  refine MM_ofF (by decide +kernel) (by cases o <;> exact Nat.le_of_ble_eq_true rfl) ?_
  intro p e s m below meth c X hr hlk hnm hG h ls hl
  have hx := X.1
  have hb := X.2.1
  have hl : lv_has ls 3 [(0, .int x), (1, .int y), (2, va_rf o)] := hl
  unfold wxX_checkIndex at hw
  refine lv_iload_n hx hb dxX_checkIndex_0 rfl (lv_at hl 0 rfl) ?_
  refine lv_if_lt (tgt := 9) hx hb dxX_checkIndex_1 (by decide) (fun c1 => ?_) (fun c1 => ?_)
  · have hw := hw.1 c1
    refine z_aload_nQ X dxX_checkIndex_9 rfl (lv_at hl 2 rfl) ?_
    refine lv_iload_n hx hb dxX_checkIndex_10 rfl (lv_at hl 0 rfl) ?_
    refine lv_iload_n hx hb dxX_checkIndex_11 rfl (lv_at hl 1 rfl) ?_
    exact hw.elim
  · have hw := hw.2 c1
    refine lv_iload_n hx hb dxX_checkIndex_4 rfl (lv_at hl 0 rfl) ?_
    refine lv_iload_n hx hb dxX_checkIndex_5 rfl (lv_at hl 1 rfl) ?_
    refine lv_icmp_lt (tgt := 16) hx hb dxX_checkIndex_6 (by decide) (fun c2 => ?_) (fun c2 => ?_)
    · have hw := hw.1 c2
      refine lv_iload_n hx hb dxX_checkIndex_16 rfl (lv_at hl 0 rfl) ?_
      exact z_iret X hr hlk h ⟨_, _, rfl, rfl, hw⟩ dxX_checkIndex_17
    · have hw := hw.2 c2
      refine z_aload_nQ X dxX_checkIndex_9 rfl (lv_at hl 2 rfl) ?_
      refine lv_iload_n hx hb dxX_checkIndex_10 rfl (lv_at hl 0 rfl) ?_
      refine lv_iload_n hx hb dxX_checkIndex_11 rfl (lv_at hl 1 rfl) ?_
      exact hw.elim
def wxS_checkIndex  (post : Unit → Sg → Prop) (ρ : Rh) (S : Sg) (x : Int32) (y : Int32) : Prop := ∀ z1 : Option Nat, wxX_checkIndex (fun r2 S3 => post () S3) ρ S x y z1
set_option maxHeartbeats 4000000 in
set_option maxRecDepth 100000 in
theorem mxS_checkIndex (l : Launch) (Γ : Gm) (θ : Th) (ρ : Rh) (S : Sg) (Z : va_W) (x : Int32) (y : Int32) (post : Unit → Sg → Prop) (hw : wxS_checkIndex post ρ S x y) : MM l yxS_checkIndex cxS_checkIndex 2 none 1 22 Γ [.int x, .int y] (WX Γ θ ρ S Z) (KK (fun _ : Unit => none) (fun S' => WX Γ θ ρ S' Z) post) 0 0 := by
  refine MM_ofF (by decide +kernel) (Nat.le_of_ble_eq_true rfl) ?_
  intro p e s m below meth c X hr hlk hnm hG h ls hl
  have hx := X.1
  have hb := X.2.1
  have hl : lv_has ls 2 [(0, .int x), (1, .int y)] := hl
  unfold wxS_checkIndex at hw
  refine lv_iload_n hx hb dxS_checkIndex_0 rfl (lv_at hl 0 rfl) ?_
  refine lv_iload_n hx hb dxS_checkIndex_1 rfl (lv_at hl 1 rfl) ?_
  obtain ⟨z1, hz1⟩ := zq_of (GX_F hG)
  have hw := hw z1
  refine va_gets hx hb hz1 h.2.2 X.2.2.2.1 (X.2.2.2.2 _ kF_xS_1053) (fun _ h9 => h9) dxS_checkIndex_2 ?_
  refine cx_xS_1059 (As := [.int x, .int y, va_rf z1]) (rest := []) X hG h hl.1 (mxX_checkIndex l Γ θ ρ S Z x y z1 _ hw) ⟨show 0 + 1 ≤ 1 from by omega, show 8 + (3 + 11) + 0 ≤ 22 from by omega⟩ rfl (Nat.le_of_ble_eq_true rfl) dxS_checkIndex_5 ⟨Nat.le_of_ble_eq_true rfl, Nat.le_of_ble_eq_true rfl⟩ (fun v W1 hK H locs h => ?_)
  obtain ⟨r2, S3, rfl, rfl, hw⟩ := hK
  refine W.eq (g2 := F0 m 8 ls [.int r2]) rfl ?_
  refine lv_pop hx hb dxS_checkIndex_8 rfl ?_
  exact z_vret X hr hlk h ⟨_, _, rfl, rfl, hw⟩ dxS_checkIndex_9
def wxS_coder  (post : Int32 → Sg → Prop) (ρ : Rh) (S : Sg) (iT : Nat) : Prop := (iT < 19) ∧ post (0 : Int32) S
set_option maxHeartbeats 4000000 in
set_option maxRecDepth 100000 in
theorem mxS_coder (l : Launch) (Γ : Gm) (θ : Th) (ρ : Rh) (S : Sg) (Z : va_W) (iT : Nat) (post : Int32 → Sg → Prop) (hw : wxS_coder post ρ S iT) : MM l yxS_coder cxS_coder 1 (some .byte) 0 0 Γ [.ref (Γ.2.2.2.2.1 iT)] (WX Γ θ ρ S Z) (KK (fun r : Int32 => some (.int r)) (fun S' => WX Γ θ ρ S' Z) post) 0 0 := by
  refine MM_ofF (by decide +kernel) (Nat.le_of_ble_eq_true rfl) ?_
  intro p e s m below meth c X hr hlk hnm hG h ls hl
  have hx := X.1
  have hb := X.2.1
  have hl : lv_has ls 1 [(0, .ref (Γ.2.2.2.2.1 iT))] := hl
  unfold wxS_coder at hw
  refine va_gets hx hb (GX_C hG) h.2.2 X.2.2.2.1 (X.2.2.2.2 _ kF_xS_38) (fun _ h9 => h9) dxS_coder_0 ?_
  refine lv_if_eq (tgt := 13) hx hb dxS_coder_3 (by decide) (fun c0 => ?_) (fun c0 => ?_)
  · exact absurd c0 (by decide)
  · refine lv_aload_n hx hb dxS_coder_6 rfl (lv_at hl 0 rfl) ?_
    obtain ⟨o1, hw⟩ := hw
    refine vk_getf hx hb ((GX_S hG).1 iT o1).2.1 h.2.2 X.2.2.2.1 (X.2.2.2.2 _ kF_xS_15) (fun _ h9 => h9) dxS_coder_7 ?_
    refine lv_goto (tgt := 14) hx hb dxS_coder_10 (by decide) ?_
    exact z_nret X hr hlk h rfl ⟨_, _, rfl, rfl, hw⟩ dxS_coder_14
def wxS_length  (post : Int32 → Sg → Prop) (ρ : Rh) (S : Sg) (iT : Nat) : Prop := (iT < 19) ∧ wxS_coder (fun r2 S3 => post ((Int32.ofNat (strN.getD iT 0)) >>> (r2 &&& 31)) S3) ρ S iT
set_option maxHeartbeats 4000000 in
set_option maxRecDepth 100000 in
theorem mxS_length (l : Launch) (Γ : Gm) (θ : Th) (ρ : Rh) (S : Sg) (Z : va_W) (iT : Nat) (post : Int32 → Sg → Prop) (hw : wxS_length post ρ S iT) : MM l yxS_length cxS_length 1 (some .int) 1 20 Γ [.ref (Γ.2.2.2.2.1 iT)] (WX Γ θ ρ S Z) (KK (fun r : Int32 => some (.int r)) (fun S' => WX Γ θ ρ S' Z) post) 0 0 := by
  refine MM_ofF (by decide +kernel) (Nat.le_of_ble_eq_true rfl) ?_
  intro p e s m below meth c X hr hlk hnm hG h ls hl
  have hx := X.1
  have hb := X.2.1
  have hl : lv_has ls 1 [(0, .ref (Γ.2.2.2.2.1 iT))] := hl
  unfold wxS_length at hw
  refine lv_aload_n hx hb dxS_length_0 rfl (lv_at hl 0 rfl) ?_
  obtain ⟨o1, hw⟩ := hw
  refine vk_getf hx hb ((GX_S hG).1 iT o1).2.2.1 h.2.2 X.2.2.2.1 (X.2.2.2.2 _ kF_xS_9) (fun _ h9 => h9) dxS_length_1 ?_
  refine sv_len X hG h o1 dxS_length_4 ?_
  refine lv_aload_n hx hb dxS_length_5 rfl (lv_at hl 0 rfl) ?_
  refine cx_xS_335 (As := []) (rest := [.int (Int32.ofNat (strN.getD iT 0))]) X hG h hl.1 (mxS_coder l Γ θ ρ S Z iT _ hw) ⟨show 0 + 1 ≤ 1 from by omega, show 8 + (1 + 11) + 0 ≤ 20 from by omega⟩ (vk_recv (GX_S hG) o1 h.2.2) rfl (Nat.le_of_ble_eq_true rfl) dxS_length_6 ⟨Nat.le_of_ble_eq_true rfl, Nat.le_of_ble_eq_true rfl⟩ (fun v W1 hK H locs h => ?_)
  obtain ⟨r2, S3, rfl, rfl, hw⟩ := hK
  refine W.eq (g2 := F0 m 9 ls [.int r2, .int (Int32.ofNat (strN.getD iT 0))]) rfl ?_
  refine lv_ishr hx hb dxS_length_9 ?_
  exact z_iret X hr hlk h ⟨_, _, rfl, rfl, hw⟩ dxS_length_10
def wxA_isLatin1  (post : Int32 → Sg → Prop) (ρ : Rh) (S : Sg)  : Prop := post (1 : Int32) S
set_option maxHeartbeats 4000000 in
set_option maxRecDepth 100000 in
theorem mxA_isLatin1 (l : Launch) (Γ : Gm) (θ : Th) (ρ : Rh) (S : Sg) (Z : va_W)  (post : Int32 → Sg → Prop) (hw : wxA_isLatin1 post ρ S ) : MM l yxA_isLatin1 cxA_isLatin1 1 (some .boolean) 0 0 Γ [.ref (θ.1 12)] (WX Γ θ ρ S Z) (KK (fun r : Int32 => some (.int r)) (fun S' => WX Γ θ ρ S' Z) post) 0 0 := by
  refine MM_ofF (by decide +kernel) (Nat.le_of_ble_eq_true rfl) ?_
  intro p e s m below meth c X hr hlk hnm hG h ls hl
  have hx := X.1
  have hb := X.2.1
  have hl : lv_has ls 1 [(0, .ref (θ.1 12))] := hl
  unfold wxA_isLatin1 at hw
  refine va_gets hx hb (GX_C hG) h.2.2 X.2.2.2.1 (X.2.2.2.2 _ kF_xA_18) (fun _ h9 => h9) dxA_isLatin1_0 ?_
  refine lv_if_eq (tgt := 17) hx hb dxA_isLatin1_3 (by decide) (fun c0 => ?_) (fun c0 => ?_)
  · exact absurd c0 (by decide)
  · refine lv_aload_n hx hb dxA_isLatin1_6 rfl (lv_at hl 0 rfl) ?_
    refine gx_xA_22 X hG h dxA_isLatin1_7 ?_
    refine lv_if_ne (tgt := 17) hx hb dxA_isLatin1_10 (by decide) (fun c0 => ?_) (fun c0 => ?_)
    · exact absurd c0 (by decide)
    · refine lv_iconst (v := 1) hx hb dxA_isLatin1_13 (by decide) ?_
      refine lv_goto (tgt := 18) hx hb dxA_isLatin1_14 (by decide) ?_
      exact z_zret X hr hlk h rfl ⟨_, _, rfl, rfl, hw⟩ dxA_isLatin1_18
def wxA_length  (post : Int32 → Sg → Prop) (ρ : Rh) (S : Sg)  : Prop := post (ρ.2.2.2.2.2.2.2 0) S
set_option maxHeartbeats 4000000 in
set_option maxRecDepth 100000 in
theorem mxA_length (l : Launch) (Γ : Gm) (θ : Th) (ρ : Rh) (S : Sg) (Z : va_W)  (post : Int32 → Sg → Prop) (hw : wxA_length post ρ S ) : MM l yxA_length cxA_length 1 (some .int) 0 0 Γ [.ref (θ.1 12)] (WX Γ θ ρ S Z) (KK (fun r : Int32 => some (.int r)) (fun S' => WX Γ θ ρ S' Z) post) 0 0 := by
  refine MM_ofF (by decide +kernel) (Nat.le_of_ble_eq_true rfl) ?_
  intro p e s m below meth c X hr hlk hnm hG h ls hl
  have hx := X.1
  have hb := X.2.1
  have hl : lv_has ls 1 [(0, .ref (θ.1 12))] := hl
  unfold wxA_length at hw
  refine lv_aload_n hx hb dxA_length_0 rfl (lv_at hl 0 rfl) ?_
  refine gx_xA_79 X hG h (x := ρ.2.2.2.2.2.2.2 0) rfl dxA_length_1 ?_
  exact z_iret X hr hlk h ⟨_, _, rfl, rfl, hw⟩ dxA_length_4
def wxB_length  (post : Int32 → Sg → Prop) (ρ : Rh) (S : Sg)  : Prop := wxA_length (fun r1 S2 => post r1 S2) ρ S 
set_option maxHeartbeats 4000000 in
set_option maxRecDepth 100000 in
theorem mxB_length (l : Launch) (Γ : Gm) (θ : Th) (ρ : Rh) (S : Sg) (Z : va_W)  (post : Int32 → Sg → Prop) (hw : wxB_length post ρ S ) : MM l yxB_length cxB_length 1 (some .int) 1 20 Γ [.ref (θ.1 12)] (WX Γ θ ρ S Z) (KK (fun r : Int32 => some (.int r)) (fun S' => WX Γ θ ρ S' Z) post) 0 0 := by
  refine MM_ofF (by decide +kernel) (Nat.le_of_ble_eq_true rfl) ?_
  intro p e s m below meth c X hr hlk hnm hG h ls hl
  have hx := X.1
  have hb := X.2.1
  have hl : lv_has ls 1 [(0, .ref (θ.1 12))] := hl
  unfold wxB_length at hw
  refine lv_aload_n hx hb dxB_length_0 rfl (lv_at hl 0 rfl) ?_
  refine cx_xB_343 (As := []) (rest := []) X hG h hl.1 (mxA_length l Γ θ ρ S Z  _ hw) ⟨show 0 + 1 ≤ 1 from by omega, show 8 + (1 + 11) + 0 ≤ 20 from by omega⟩ (q0 := 12) rfl rfl (Nat.le_of_ble_eq_true rfl) dxB_length_1 ⟨Nat.le_of_ble_eq_true rfl, Nat.le_of_ble_eq_true rfl⟩ (fun v W1 hK H locs h => ?_)
  obtain ⟨r1, S2, rfl, rfl, hw⟩ := hK
  refine W.eq (g2 := F0 m 4 ls [.int r1]) rfl ?_
  exact z_iret X hr hlk h ⟨_, _, rfl, rfl, hw⟩ dxB_length_4
def wxA_charAt  (post : Int32 → Sg → Prop) (ρ : Rh) (S : Sg) (x : Int32) : Prop := wxS_checkIndex (fun (_ : Unit) S2 => (vp_in x ρ.2.2.2.2.2.2.1) ∧ (narrow .char (.int ((((ρ.2.2.2.2.2.1 x.toNatClampNeg) &&& 255).toUInt32 % 65536).toInt32)) = .int ((((ρ.2.2.2.2.2.1 x.toNatClampNeg) &&& 255).toUInt32 % 65536).toInt32)) ∧ post ((((ρ.2.2.2.2.2.1 x.toNatClampNeg) &&& 255).toUInt32 % 65536).toInt32) S2) ρ S x (if ((Int32.ofNat ρ.2.2.2.2.2.2.1) >>> ((0 : Int32) &&& 31)) < (ρ.2.2.2.2.2.2.2 0) then ((Int32.ofNat ρ.2.2.2.2.2.2.1) >>> ((0 : Int32) &&& 31)) else (ρ.2.2.2.2.2.2.2 0))
set_option maxHeartbeats 4000000 in
set_option maxRecDepth 100000 in
theorem mxA_charAt (l : Launch) (Γ : Gm) (θ : Th) (ρ : Rh) (S : Sg) (Z : va_W) (x : Int32) (post : Int32 → Sg → Prop) (hw : wxA_charAt post ρ S x) : MM l yxA_charAt cxA_charAt 5 (some .char) 2 43 Γ [.ref (θ.1 12), .int x] (WX Γ θ ρ S Z) (KK (fun r : Int32 => some (.int r)) (fun S' => WX Γ θ ρ S' Z) post) 0 0 := by
  refine MM_ofF (by decide +kernel) (Nat.le_of_ble_eq_true rfl) ?_
  intro p e s m below meth c X hr hlk hnm hG h ls hl
  have hx := X.1
  have hb := X.2.1
  have hl : lv_has ls 5 [(0, .ref (θ.1 12)), (1, .int x)] := hl
  unfold wxA_charAt at hw
  refine lv_aload_n hx hb dxA_charAt_0 rfl (lv_at hl 0 rfl) ?_
  refine gx_xA_22 X hG h dxA_charAt_1 ?_
  refine lv_istore_n (lv' := [(2, .int 0), (0, .ref (θ.1 12)), (1, .int x)]) hx hb dxA_charAt_4 rfl hl (by decide) rfl (fun ls hl => ?_)
  refine lv_aload_n hx hb dxA_charAt_5 rfl (lv_at hl 1 rfl) ?_
  refine gx_xA_15 X hG h dxA_charAt_6 ?_
  refine lv_astore_n (lv' := [(3, .ref ρ.2.2.2.2.1), (2, .int 0), (0, .ref (θ.1 12)), (1, .int x)]) hx hb dxA_charAt_9 rfl hl (by decide) rfl (fun ls hl => ?_)
  refine lv_aload_n hx hb dxA_charAt_10 rfl (lv_at hl 2 rfl) ?_
  refine gx_xA_79 X hG h (x := ρ.2.2.2.2.2.2.2 0) rfl dxA_charAt_11 ?_
  refine lv_aload_n hx hb dxA_charAt_14 rfl (lv_at hl 0 rfl) ?_
  refine bl_len X hG h dxA_charAt_15 ?_
  refine lv_iload_n hx hb dxA_charAt_16 rfl (lv_at hl 1 rfl) ?_
  refine lv_ishr hx hb dxA_charAt_17 ?_
  refine va_mmin hx hb (by rw [hl.1]; exact X.2.2.1) X.2.2.2.1 (X.2.2.2.2 _ kM_xA_138.1) (X.2.2.2.2 _ kM_xA_138.2.1) (X.2.2.2.2 _ kM_xA_138.2.2.1) (X.2.2.2.2 _ kM_xA_138.2.2.2) (show 1 ≤ 2 from by omega) (Nat.le_trans (Nat.add_le_add_right (m := 8) (Nat.le_of_ble_eq_true rfl) 13) (show 8 + 13 ≤ 43 from by omega)) (Nat.zero_le _) (Nat.zero_le _) dxA_charAt_18 ?_
  refine lv_istore (lv' := [(4, .int (if ((Int32.ofNat ρ.2.2.2.2.2.2.1) >>> ((0 : Int32) &&& 31)) < (ρ.2.2.2.2.2.2.2 0) then ((Int32.ofNat ρ.2.2.2.2.2.2.1) >>> ((0 : Int32) &&& 31)) else (ρ.2.2.2.2.2.2.2 0))), (3, .ref ρ.2.2.2.2.1), (2, .int 0), (0, .ref (θ.1 12)), (1, .int x)]) hx hb dxA_charAt_21 hl (by decide) rfl (fun ls hl => ?_)
  refine lv_iload_n hx hb dxA_charAt_23 rfl (lv_at hl 4 rfl) ?_
  refine lv_iload hx hb dxA_charAt_24 (lv_at hl 0 rfl) ?_
  refine cx_xA_144 (As := [.int x, .int (if ((Int32.ofNat ρ.2.2.2.2.2.2.1) >>> ((0 : Int32) &&& 31)) < (ρ.2.2.2.2.2.2.2 0) then ((Int32.ofNat ρ.2.2.2.2.2.2.1) >>> ((0 : Int32) &&& 31)) else (ρ.2.2.2.2.2.2.2 0))]) (rest := []) X hG h hl.1 (mxS_checkIndex l Γ θ ρ S Z x (if ((Int32.ofNat ρ.2.2.2.2.2.2.1) >>> ((0 : Int32) &&& 31)) < (ρ.2.2.2.2.2.2.2 0) then ((Int32.ofNat ρ.2.2.2.2.2.2.1) >>> ((0 : Int32) &&& 31)) else (ρ.2.2.2.2.2.2.2 0)) _ hw) ⟨show 1 + 1 ≤ 2 from by omega, show 8 + (2 + 11) + 22 ≤ 43 from by omega⟩ rfl (Nat.le_of_ble_eq_true rfl) dxA_charAt_26 ⟨Nat.le_of_ble_eq_true rfl, Nat.le_of_ble_eq_true rfl⟩ (fun v W1 hK H locs h => ?_)
  obtain ⟨r1, S2, rfl, rfl, hw⟩ := hK
  refine W.eq (g2 := F0 m 29 ls []) rfl ?_
  refine lv_iload_n hx hb dxA_charAt_29 rfl (lv_at hl 2 rfl) ?_
  refine lv_if_ne (tgt := 42) hx hb dxA_charAt_30 (by decide) (fun c0 => ?_) (fun c0 => ?_)
  · exact absurd c0 (by decide)
  · refine lv_aload_n hx hb dxA_charAt_33 rfl (lv_at hl 1 rfl) ?_
    refine lv_iload_n hx hb dxA_charAt_34 rfl (lv_at hl 4 rfl) ?_
    obtain ⟨o3, hw⟩ := hw
    refine bl_ld X hG h o3 (x := ρ.2.2.2.2.2.1 x.toNatClampNeg) rfl dxA_charAt_35 ?_
    refine lv_sipush (v := 255) hx hb dxA_charAt_36 (by decide) ?_
    refine lv_iand hx hb dxA_charAt_39 ?_
    refine lv_i2c (v := (((ρ.2.2.2.2.2.1 x.toNatClampNeg) &&& 255).toUInt32 % 65536).toInt32) hx hb dxA_charAt_40 rfl ?_
    obtain ⟨o4, hw⟩ := hw
    exact z_nret X hr hlk h o4 ⟨_, _, rfl, rfl, hw⟩ dxA_charAt_41
def wxB_charAt  (post : Int32 → Sg → Prop) (ρ : Rh) (S : Sg) (x : Int32) : Prop := wxA_charAt (fun r1 S2 => (narrow .char (.int r1) = .int r1) ∧ post r1 S2) ρ S x
set_option maxHeartbeats 4000000 in
set_option maxRecDepth 100000 in
theorem mxB_charAt (l : Launch) (Γ : Gm) (θ : Th) (ρ : Rh) (S : Sg) (Z : va_W) (x : Int32) (post : Int32 → Sg → Prop) (hw : wxB_charAt post ρ S x) : MM l yxB_charAt cxB_charAt 2 (some .char) 3 67 Γ [.ref (θ.1 12), .int x] (WX Γ θ ρ S Z) (KK (fun r : Int32 => some (.int r)) (fun S' => WX Γ θ ρ S' Z) post) 0 0 := by
  refine MM_ofF (by decide +kernel) (Nat.le_of_ble_eq_true rfl) ?_
  intro p e s m below meth c X hr hlk hnm hG h ls hl
  have hx := X.1
  have hb := X.2.1
  have hl : lv_has ls 2 [(0, .ref (θ.1 12)), (1, .int x)] := hl
  unfold wxB_charAt at hw
  refine lv_aload_n hx hb dxB_charAt_0 rfl (lv_at hl 0 rfl) ?_
  refine lv_iload_n hx hb dxB_charAt_1 rfl (lv_at hl 1 rfl) ?_
  refine cx_xB_329 (As := [.int x]) (rest := []) X hG h hl.1 (mxA_charAt l Γ θ ρ S Z x _ hw) ⟨show 2 + 1 ≤ 3 from by omega, show 8 + (5 + 11) + 43 ≤ 67 from by omega⟩ (q0 := 12) rfl rfl (Nat.le_of_ble_eq_true rfl) dxB_charAt_2 ⟨Nat.le_of_ble_eq_true rfl, Nat.le_of_ble_eq_true rfl⟩ (fun v W1 hK H locs h => ?_)
  obtain ⟨r1, S2, rfl, rfl, hw⟩ := hK
  refine W.eq (g2 := F0 m 5 ls [.int r1]) rfl ?_
  obtain ⟨o3, hw⟩ := hw
  exact z_nret X hr hlk h o3 ⟨_, _, rfl, rfl, hw⟩ dxB_charAt_5
def wxI_stringSize_c16  (post : Int32 → Sg → Prop) (ρ : Rh) (x : Int32) : Nat → Sg → Int32 → Int32 → Int32 → Int32 → Prop
  | 0, _, _, _, _, _ => False
  | d + 1, S, a0, a1, a2, a3 => (((10 : Int32) ≤ a3) → post (10 + a1) S) ∧ ((¬ ((10 : Int32) ≤ a3)) → ((a0 ≤ a2) → wxI_stringSize_c16 post ρ x d S a0 a1 (10 * a2) (a3 + 1)) ∧ ((¬ (a0 ≤ a2)) → post (a3 + a1) S))
set_option maxHeartbeats 4000000 in
set_option maxRecDepth 100000 in
theorem txI_stringSize_c16 {p : Program} {l : Launch} {e : Env} {s : State} {m : MethodId} {below : List Frame} {meth : Method} {c : Code} (Γ : Gm) (θ : Th) (ρ : Rh) (Z : va_W) (x : Int32)  (post : Int32 → Sg → Prop) (X : CallFix p m c cxI_stringSize 4 s ([.int x] : List Value).toArray big RxI) (hr : meth.sig.returnType = (some .int)) (hlk : meth.locks = false) (hG : GX Γ s s.heap) :
    ∀ (d : Nat) (S : Sg) (a0 : Int32) (a1 : Int32) (a2 : Int32) (a3 : Int32) (hw : wxI_stringSize_c16 post ρ x d S a0 a1 a2 a3) (H : Heap) (locs : List Loc) (h : HS Γ s (WX Γ θ ρ S Z) H locs) (ls : Array Slot) (hl : lv_has ls 4 [(0, .int a0), (1, .int a1), (2, .int a2), (3, .int a3)]), W p l e { frames := 0, cells := 0, slots := 0, locals := 0 } s m ([.int x] : List Value).toArray below meth c H locs 0 0 (MQ below (QM Γ (KK (fun r : Int32 => some (.int r)) (fun S' => WX Γ θ ρ S' Z) post)) ([.int x] : List Value).toArray s 0 0 (AA Γ)) (F0 m 16 ls []) := by
  have hx := X.1
  have hb := X.2.1
  intro d
  induction d with
  | zero => intro S a0 a1 a2 a3 hw; exact absurd hw (by simp [wxI_stringSize_c16])
  | succ d ih =>
    intro S a0 a1 a2 a3 hw H locs h ls hl
    rw [wxI_stringSize_c16] at hw
    refine lv_iload_n hx hb dxI_stringSize_16 rfl (lv_at hl 3 rfl) ?_
    refine lv_bipush (v := 10) hx hb dxI_stringSize_17 (by decide) ?_
    refine lv_icmp_ge (tgt := 42) hx hb dxI_stringSize_19 (by decide) (fun c1 => ?_) (fun c1 => ?_)
    · have hw := hw.1 c1
      refine lv_bipush (v := 10) hx hb dxI_stringSize_42 (by decide) ?_
      refine lv_iload_n hx hb dxI_stringSize_44 rfl (lv_at hl 1 rfl) ?_
      refine lv_iadd hx hb dxI_stringSize_45 ?_
      exact z_iret X hr hlk h ⟨_, _, rfl, rfl, hw⟩ dxI_stringSize_46
    · have hw := hw.2 c1
      refine lv_iload_n hx hb dxI_stringSize_22 rfl (lv_at hl 0 rfl) ?_
      refine lv_iload_n hx hb dxI_stringSize_23 rfl (lv_at hl 2 rfl) ?_
      refine lv_icmp_le (tgt := 31) hx hb dxI_stringSize_24 (by decide) (fun c2 => ?_) (fun c2 => ?_)
      · have hw := hw.1 c2
        refine lv_bipush (v := 10) hx hb dxI_stringSize_31 (by decide) ?_
        refine lv_iload_n hx hb dxI_stringSize_33 rfl (lv_at hl 2 rfl) ?_
        refine lv_imul hx hb dxI_stringSize_34 ?_
        refine lv_istore_n (lv' := [(2, .int (10 * a2)), (0, .int a0), (1, .int a1), (3, .int a3)]) hx hb dxI_stringSize_35 rfl hl (by decide) rfl (fun ls hl => ?_)
        refine lv_iinc (v := a3 + 1) (lv' := [(3, .int (a3 + 1)), (2, .int (10 * a2)), (0, .int a0), (1, .int a1)]) hx hb dxI_stringSize_36 hl (k := 3) rfl rfl (by decide) rfl (fun ls hl => ?_)
        refine lv_goto (tgt := 16) hx hb dxI_stringSize_39 (by decide) ?_
        exact ih S a0 a1 (10 * a2) (a3 + 1) hw _ _ h ls (lv_sub hl [2, 3, 1, 0] rfl)
      · have hw := hw.2 c2
        refine lv_iload_n hx hb dxI_stringSize_27 rfl (lv_at hl 3 rfl) ?_
        refine lv_iload_n hx hb dxI_stringSize_28 rfl (lv_at hl 1 rfl) ?_
        refine lv_iadd hx hb dxI_stringSize_29 ?_
        exact z_iret X hr hlk h ⟨_, _, rfl, rfl, hw⟩ dxI_stringSize_30
def wxI_stringSize_c8  (post : Int32 → Sg → Prop) (ρ : Rh) (x : Int32) (S : Sg) (a1 : Int32) : Prop := ∃ d1 : Nat, wxI_stringSize_c16 post ρ x d1 S (-x) a1 (-10 : Int32) (1 : Int32)
set_option maxHeartbeats 4000000 in
set_option maxRecDepth 100000 in
theorem txI_stringSize_c8 {p : Program} {l : Launch} {e : Env} {s : State} {m : MethodId} {below : List Frame} {meth : Method} {c : Code} (Γ : Gm) (θ : Th) (ρ : Rh) (Z : va_W) (x : Int32)  (post : Int32 → Sg → Prop) (X : CallFix p m c cxI_stringSize 4 s ([.int x] : List Value).toArray big RxI) (hr : meth.sig.returnType = (some .int)) (hlk : meth.locks = false) (hG : GX Γ s s.heap) :
    ∀ (S : Sg) (a1 : Int32) (hw : wxI_stringSize_c8 post ρ x S a1) (H : Heap) (locs : List Loc) (h : HS Γ s (WX Γ θ ρ S Z) H locs) (ls : Array Slot) (hl : lv_has ls 4 [(0, .int x), (1, .int a1)]), W p l e { frames := 0, cells := 0, slots := 0, locals := 0 } s m ([.int x] : List Value).toArray below meth c H locs 0 0 (MQ below (QM Γ (KK (fun r : Int32 => some (.int r)) (fun S' => WX Γ θ ρ S' Z) post)) ([.int x] : List Value).toArray s 0 0 (AA Γ)) (F0 m 8 ls []) := by
  have hx := X.1
  have hb := X.2.1
  intro S a1 hw H locs h ls hl
  unfold wxI_stringSize_c8 at hw
  refine lv_iload_n hx hb dxI_stringSize_8 rfl (lv_at hl 0 rfl) ?_
  refine lv_ineg hx hb dxI_stringSize_9 ?_
  refine lv_istore_n (lv' := [(0, .int (-x)), (1, .int a1)]) hx hb dxI_stringSize_10 rfl hl (by decide) rfl (fun ls hl => ?_)
  refine lv_bipush (v := -10) hx hb dxI_stringSize_11 (by decide) ?_
  refine lv_istore_n (lv' := [(2, .int (-10)), (0, .int (-x)), (1, .int a1)]) hx hb dxI_stringSize_13 rfl hl (by decide) rfl (fun ls hl => ?_)
  refine lv_iconst (v := 1) hx hb dxI_stringSize_14 (by decide) ?_
  refine lv_istore_n (lv' := [(3, .int 1), (2, .int (-10)), (0, .int (-x)), (1, .int a1)]) hx hb dxI_stringSize_15 rfl hl (by decide) rfl (fun ls hl => ?_)
  obtain ⟨d1, hw⟩ := hw
  exact txI_stringSize_c16 Γ θ ρ Z x post X hr hlk hG d1 S (-x) a1 (-10 : Int32) (1 : Int32) hw _ _ h ls (lv_sub hl [2, 3, 1, 0] rfl)
def wxI_stringSize  (post : Int32 → Sg → Prop) (ρ : Rh) (S : Sg) (x : Int32) : Prop := ((x < (0 : Int32)) → ∃ d3 : Nat, wxI_stringSize_c16 post ρ x d3 S x (1 : Int32) (-10 : Int32) (1 : Int32)) ∧ ((¬ (x < (0 : Int32))) → wxI_stringSize_c8 post ρ x S (0 : Int32))
set_option maxHeartbeats 4000000 in
set_option maxRecDepth 100000 in
theorem mxI_stringSize (l : Launch) (Γ : Gm) (θ : Th) (ρ : Rh) (S : Sg) (Z : va_W) (x : Int32) (post : Int32 → Sg → Prop) (hw : wxI_stringSize post ρ S x) : MM l yxI_stringSize cxI_stringSize 4 (some .int) 0 0 Γ [.int x] (WX Γ θ ρ S Z) (KK (fun r : Int32 => some (.int r)) (fun S' => WX Γ θ ρ S' Z) post) 0 0 := by
  refine MM_ofF (by decide +kernel) (Nat.le_of_ble_eq_true rfl) ?_
  intro p e s m below meth c X hr hlk hnm hG h ls hl
  have hx := X.1
  have hb := X.2.1
  have hl : lv_has ls 4 [(0, .int x)] := hl
  unfold wxI_stringSize at hw
  refine lv_iconst (v := 1) hx hb dxI_stringSize_0 (by decide) ?_
  refine lv_istore_n (lv' := [(1, .int 1), (0, .int x)]) hx hb dxI_stringSize_1 rfl hl (by decide) rfl (fun ls hl => ?_)
  refine lv_iload_n hx hb dxI_stringSize_2 rfl (lv_at hl 1 rfl) ?_
  refine lv_if_lt (tgt := 11) hx hb dxI_stringSize_3 (by decide) (fun c1 => ?_) (fun c1 => ?_)
  · have hw := hw.1 c1
    refine lv_bipush (v := -10) hx hb dxI_stringSize_11 (by decide) ?_
    refine lv_istore_n (lv' := [(2, .int (-10)), (1, .int 1), (0, .int x)]) hx hb dxI_stringSize_13 rfl hl (by decide) rfl (fun ls hl => ?_)
    refine lv_iconst (v := 1) hx hb dxI_stringSize_14 (by decide) ?_
    refine lv_istore_n (lv' := [(3, .int 1), (2, .int (-10)), (1, .int 1), (0, .int x)]) hx hb dxI_stringSize_15 rfl hl (by decide) rfl (fun ls hl => ?_)
    obtain ⟨d3, hw⟩ := hw
    exact txI_stringSize_c16 Γ θ ρ Z x post X hr hlk hG d3 S x (1 : Int32) (-10 : Int32) (1 : Int32) hw _ _ h ls (lv_sub hl [3, 2, 1, 0] rfl)
  · have hw := hw.2 c1
    refine lv_iconst (v := 0) hx hb dxI_stringSize_6 (by decide) ?_
    refine lv_istore_n (lv' := [(1, .int 0), (0, .int x)]) hx hb dxI_stringSize_7 rfl hl (by decide) rfl (fun ls hl => ?_)
    exact txI_stringSize_c8 Γ θ ρ Z x post X hr hlk hG S (0 : Int32) hw _ _ h ls (lv_sub hl [1, 0] rfl)
def wxZ_newLength  (post : Int32 → Sg → Prop) (ρ : Rh) (S : Sg) (x : Int32) (y : Int32) (q : Int32) : Prop := (((x + (if y < q then q else y)) ≤ (0 : Int32)) → False) ∧ ((¬ ((x + (if y < q then q else y)) ≤ (0 : Int32))) → (((2147483639 : Int32) < (x + (if y < q then q else y))) → False) ∧ ((¬ ((2147483639 : Int32) < (x + (if y < q then q else y)))) → post (x + (if y < q then q else y)) S))
set_option maxHeartbeats 4000000 in
set_option maxRecDepth 100000 in
theorem mxZ_newLength (l : Launch) (Γ : Gm) (θ : Th) (ρ : Rh) (S : Sg) (Z : va_W) (x : Int32) (y : Int32) (q : Int32) (post : Int32 → Sg → Prop) (hw : wxZ_newLength post ρ S x y q) : MM l yxZ_newLength cxZ_newLength 4 (some .int) 1 21 Γ [.int x, .int y, .int q] (WX Γ θ ρ S Z) (KK (fun r : Int32 => some (.int r)) (fun S' => WX Γ θ ρ S' Z) post) 0 0 := by
  refine MM_ofF (by decide +kernel) (Nat.le_of_ble_eq_true rfl) ?_
  intro p e s m below meth c X hr hlk hnm hG h ls hl
  have hx := X.1
  have hb := X.2.1
  have hl : lv_has ls 4 [(0, .int x), (1, .int y), (2, .int q)] := hl
  unfold wxZ_newLength at hw
  refine lv_iload_n hx hb dxZ_newLength_0 rfl (lv_at hl 0 rfl) ?_
  refine lv_iload_n hx hb dxZ_newLength_1 rfl (lv_at hl 1 rfl) ?_
  refine lv_iload_n hx hb dxZ_newLength_2 rfl (lv_at hl 2 rfl) ?_
  refine va_mmax hx hb (by rw [hl.1]; exact X.2.2.1) X.2.2.2.1 (X.2.2.2.2 _ kM_xZ_194.1) (X.2.2.2.2 _ kM_xZ_194.2.1) (X.2.2.2.2 _ kM_xZ_194.2.2.1) (X.2.2.2.2 _ kM_xZ_194.2.2.2) (show 1 ≤ 1 from by omega) (Nat.le_trans (Nat.add_le_add_right (m := 8) (Nat.le_of_ble_eq_true rfl) 13) (show 8 + 13 ≤ 21 from by omega)) (Nat.zero_le _) (Nat.zero_le _) dxZ_newLength_3 ?_
  refine lv_iadd hx hb dxZ_newLength_6 ?_
  refine lv_istore_n (lv' := [(3, .int (x + (if y < q then q else y))), (0, .int x), (1, .int y), (2, .int q)]) hx hb dxZ_newLength_7 rfl hl (by decide) rfl (fun ls hl => ?_)
  refine lv_iconst (v := 0) hx hb dxZ_newLength_8 (by decide) ?_
  refine lv_iload_n hx hb dxZ_newLength_9 rfl (lv_at hl 0 rfl) ?_
  refine lv_icmp_ge (tgt := 21) hx hb dxZ_newLength_10 (by decide) (fun c1 => ?_) (fun c1 => ?_)
  · have hw := hw.1 c1
    refine lv_iload_n hx hb dxZ_newLength_21 rfl (lv_at hl 1 rfl) ?_
    refine lv_iload_n hx hb dxZ_newLength_22 rfl (lv_at hl 2 rfl) ?_
    exact hw.elim
  · have hw := hw.2 c1
    refine lv_iload_n hx hb dxZ_newLength_13 rfl (lv_at hl 0 rfl) ?_
    refine lv_ldc (v := 2147483639) hx hb X.2.2.2.1 (X.2.2.2.2 _ kI_xZ_200) dxZ_newLength_14 ?_
    refine lv_icmp_gt (tgt := 21) hx hb dxZ_newLength_16 (by decide) (fun c2 => ?_) (fun c2 => ?_)
    · have hw := hw.1 c2
      refine lv_iload_n hx hb dxZ_newLength_21 rfl (lv_at hl 1 rfl) ?_
      refine lv_iload_n hx hb dxZ_newLength_22 rfl (lv_at hl 2 rfl) ?_
      exact hw.elim
    · have hw := hw.2 c2
      refine lv_iload_n hx hb dxZ_newLength_19 rfl (lv_at hl 0 rfl) ?_
      exact z_iret X hr hlk h ⟨_, _, rfl, rfl, hw⟩ dxZ_newLength_20
def wxA_newCapacity  (post : Int32 → Sg → Prop) (ρ : Rh) (S : Sg) (x : Int32) : Prop := wxZ_newLength (fun r1 S2 => ((¬ (r1 = (2147483647 : Int32))) → post (r1 >>> ((0 : Int32) &&& 31)) S2) ∧ ((r1 = (2147483647 : Int32)) → False)) ρ S (Int32.ofNat ρ.2.2.2.2.2.2.1) ((x <<< ((0 : Int32) &&& 31)) - (Int32.ofNat ρ.2.2.2.2.2.2.1)) ((Int32.ofNat ρ.2.2.2.2.2.2.1) + ((2 : Int32) <<< ((0 : Int32) &&& 31)))
set_option maxHeartbeats 4000000 in
set_option maxRecDepth 100000 in
theorem mxA_newCapacity (l : Launch) (Γ : Gm) (θ : Th) (ρ : Rh) (S : Sg) (Z : va_W) (x : Int32) (post : Int32 → Sg → Prop) (hw : wxA_newCapacity post ρ S x) : MM l yxA_newCapacity cxA_newCapacity 6 (some .int) 2 44 Γ [.ref (θ.1 12), .int x] (WX Γ θ ρ S Z) (KK (fun r : Int32 => some (.int r)) (fun S' => WX Γ θ ρ S' Z) post) 0 0 := by
  refine MM_ofF (by decide +kernel) (Nat.le_of_ble_eq_true rfl) ?_
  intro p e s m below meth c X hr hlk hnm hG h ls hl
  have hx := X.1
  have hb := X.2.1
  have hl : lv_has ls 6 [(0, .ref (θ.1 12)), (1, .int x)] := hl
  unfold wxA_newCapacity at hw
  refine lv_aload_n hx hb dxA_newCapacity_0 rfl (lv_at hl 0 rfl) ?_
  refine gx_xA_15 X hG h dxA_newCapacity_1 ?_
  refine bl_len X hG h dxA_newCapacity_4 ?_
  refine lv_istore_n (lv' := [(2, .int (Int32.ofNat ρ.2.2.2.2.2.2.1)), (0, .ref (θ.1 12)), (1, .int x)]) hx hb dxA_newCapacity_5 rfl hl (by decide) rfl (fun ls hl => ?_)
  refine lv_iload_n hx hb dxA_newCapacity_6 rfl (lv_at hl 2 rfl) ?_
  refine lv_aload_n hx hb dxA_newCapacity_7 rfl (lv_at hl 1 rfl) ?_
  refine gx_xA_22 X hG h dxA_newCapacity_8 ?_
  refine lv_ishl hx hb dxA_newCapacity_11 ?_
  refine lv_istore_n (lv' := [(3, .int (x <<< ((0 : Int32) &&& 31))), (2, .int (Int32.ofNat ρ.2.2.2.2.2.2.1)), (0, .ref (θ.1 12)), (1, .int x)]) hx hb dxA_newCapacity_12 rfl hl (by decide) rfl (fun ls hl => ?_)
  refine lv_iload_n hx hb dxA_newCapacity_13 rfl (lv_at hl 0 rfl) ?_
  refine lv_iload_n hx hb dxA_newCapacity_14 rfl (lv_at hl 1 rfl) ?_
  refine lv_isub hx hb dxA_newCapacity_15 ?_
  refine lv_istore (lv' := [(4, .int ((x <<< ((0 : Int32) &&& 31)) - (Int32.ofNat ρ.2.2.2.2.2.2.1))), (3, .int (x <<< ((0 : Int32) &&& 31))), (2, .int (Int32.ofNat ρ.2.2.2.2.2.2.1)), (0, .ref (θ.1 12)), (1, .int x)]) hx hb dxA_newCapacity_16 hl (by decide) rfl (fun ls hl => ?_)
  refine lv_iload_n hx hb dxA_newCapacity_18 rfl (lv_at hl 2 rfl) ?_
  refine lv_iload hx hb dxA_newCapacity_19 (lv_at hl 0 rfl) ?_
  refine lv_iload_n hx hb dxA_newCapacity_21 rfl (lv_at hl 2 rfl) ?_
  refine lv_iconst (v := 2) hx hb dxA_newCapacity_22 (by decide) ?_
  refine lv_aload_n hx hb dxA_newCapacity_23 rfl (lv_at hl 3 rfl) ?_
  refine gx_xA_22 X hG h dxA_newCapacity_24 ?_
  refine lv_ishl hx hb dxA_newCapacity_27 ?_
  refine lv_iadd hx hb dxA_newCapacity_28 ?_
  refine cx_xA_114 (As := [.int (Int32.ofNat ρ.2.2.2.2.2.2.1), .int ((x <<< ((0 : Int32) &&& 31)) - (Int32.ofNat ρ.2.2.2.2.2.2.1)), .int ((Int32.ofNat ρ.2.2.2.2.2.2.1) + ((2 : Int32) <<< ((0 : Int32) &&& 31)))]) (rest := []) X hG h hl.1 (mxZ_newLength l Γ θ ρ S Z (Int32.ofNat ρ.2.2.2.2.2.2.1) ((x <<< ((0 : Int32) &&& 31)) - (Int32.ofNat ρ.2.2.2.2.2.2.1)) ((Int32.ofNat ρ.2.2.2.2.2.2.1) + ((2 : Int32) <<< ((0 : Int32) &&& 31))) _ hw) ⟨show 1 + 1 ≤ 2 from by omega, show 8 + (4 + 11) + 21 ≤ 44 from by omega⟩ rfl (Nat.le_of_ble_eq_true rfl) dxA_newCapacity_29 ⟨Nat.le_of_ble_eq_true rfl, Nat.le_of_ble_eq_true rfl⟩ (fun v W1 hK H locs h => ?_)
  obtain ⟨r1, S2, rfl, rfl, hw⟩ := hK
  refine W.eq (g2 := F0 m 32 ls [.int r1]) rfl ?_
  refine lv_istore (lv' := [(5, .int r1), (4, .int ((x <<< ((0 : Int32) &&& 31)) - (Int32.ofNat ρ.2.2.2.2.2.2.1))), (3, .int (x <<< ((0 : Int32) &&& 31))), (2, .int (Int32.ofNat ρ.2.2.2.2.2.2.1)), (0, .ref (θ.1 12)), (1, .int x)]) hx hb dxA_newCapacity_32 hl (by decide) rfl (fun ls hl => ?_)
  refine lv_iload hx hb dxA_newCapacity_34 (lv_at hl 0 rfl) ?_
  refine lv_ldc (v := 2147483647) hx hb X.2.2.2.1 (X.2.2.2.2 _ kI_xA_39) dxA_newCapacity_36 ?_
  refine lv_icmp_ne (tgt := 51) hx hb dxA_newCapacity_38 (by decide) (fun c3 => ?_) (fun c3 => ?_)
  · have hw := hw.1 c3
    refine lv_iload hx hb dxA_newCapacity_51 (lv_at hl 0 rfl) ?_
    refine lv_aload_n hx hb dxA_newCapacity_53 rfl (lv_at hl 4 rfl) ?_
    refine gx_xA_22 X hG h dxA_newCapacity_54 ?_
    refine lv_ishr hx hb dxA_newCapacity_57 ?_
    exact z_iret X hr hlk h ⟨_, _, rfl, rfl, hw⟩ dxA_newCapacity_58
  · have hw := hw.2 c3
    exact hw.elim
def wxA_inflateIfNeededFor  (post : Unit → Sg → Prop) (ρ : Rh) (S : Sg) (i : Nat) : Prop := (i < 19) ∧ wxS_coder (fun r2 S3 => (((0 : Int32) = r2) → post () S3) ∧ ((¬ ((0 : Int32) = r2)) → False)) ρ S i
set_option maxHeartbeats 4000000 in
set_option maxRecDepth 100000 in
theorem mxA_inflateIfNeededFor (l : Launch) (Γ : Gm) (θ : Th) (ρ : Rh) (S : Sg) (Z : va_W) (i : Nat) (post : Unit → Sg → Prop) (hw : wxA_inflateIfNeededFor post ρ S i) : MM l yxA_inflateIfNeededFor cxA_inflateIfNeededFor 2 none 1 20 Γ [.ref (θ.1 12), .ref (Γ.2.2.2.2.1 i)] (WX Γ θ ρ S Z) (KK (fun _ : Unit => none) (fun S' => WX Γ θ ρ S' Z) post) 0 0 := by
  refine MM_ofF (by decide +kernel) (Nat.le_of_ble_eq_true rfl) ?_
  intro p e s m below meth c X hr hlk hnm hG h ls hl
  have hx := X.1
  have hb := X.2.1
  have hl : lv_has ls 2 [(0, .ref (θ.1 12)), (1, .ref (Γ.2.2.2.2.1 i))] := hl
  unfold wxA_inflateIfNeededFor at hw
  refine va_gets hx hb (GX_C hG) h.2.2 X.2.2.2.1 (X.2.2.2.2 _ kF_xA_18) (fun _ h9 => h9) dxA_inflateIfNeededFor_0 ?_
  refine lv_if_eq (tgt := 21) hx hb dxA_inflateIfNeededFor_3 (by decide) (fun c0 => ?_) (fun c0 => ?_)
  · exact absurd c0 (by decide)
  · refine lv_aload_n hx hb dxA_inflateIfNeededFor_6 rfl (lv_at hl 0 rfl) ?_
    refine gx_xA_22 X hG h dxA_inflateIfNeededFor_7 ?_
    refine lv_aload_n hx hb dxA_inflateIfNeededFor_10 rfl (lv_at hl 1 rfl) ?_
    obtain ⟨o1, hw⟩ := hw
    refine cx_xA_40 (As := []) (rest := [.int 0]) X hG h hl.1 (mxS_coder l Γ θ ρ S Z i _ hw) ⟨show 0 + 1 ≤ 1 from by omega, show 8 + (1 + 11) + 0 ≤ 20 from by omega⟩ (vk_recv (GX_S hG) o1 h.2.2) rfl (Nat.le_of_ble_eq_true rfl) dxA_inflateIfNeededFor_11 ⟨Nat.le_of_ble_eq_true rfl, Nat.le_of_ble_eq_true rfl⟩ (fun v W1 hK H locs h => ?_)
    obtain ⟨r2, S3, rfl, rfl, hw⟩ := hK
    refine W.eq (g2 := F0 m 14 ls [.int r2, .int 0]) rfl ?_
    refine lv_icmp_eq (tgt := 21) hx hb dxA_inflateIfNeededFor_14 (by decide) (fun c4 => ?_) (fun c4 => ?_)
    · have hw := hw.1 c4
      exact z_vret X hr hlk h ⟨_, _, rfl, rfl, hw⟩ dxA_inflateIfNeededFor_21
    · have hw := hw.2 c4
      refine lv_aload_n hx hb dxA_inflateIfNeededFor_17 rfl (lv_at hl 0 rfl) ?_
      exact hw.elim
def wxS_getBytes  (post : Unit → Rh → Sg → Prop) (ρ : Rh) (S : Sg) (iT : Nat) (x : Int32) (y : Int32) : Prop := (iT < 19) ∧ wxS_coder (fun r2 S3 => ((¬ (r2 = y)) → False) ∧ ((r2 = y) → (iT < 19 ∧ ¬ (0 : Int32) < 0 ∧ ¬ (x <<< (y &&& 31)) < 0 ∧ ¬ (Int32.ofNat (strN.getD iT 0)) < 0 ∧ (0 : Int32).toNatClampNeg + (Int32.ofNat (strN.getD iT 0)).toNatClampNeg ≤ strN.getD iT 0 ∧ (x <<< (y &&& 31)).toNatClampNeg + (Int32.ofNat (strN.getD iT 0)).toNatClampNeg ≤ ρ.2.2.2.2.2.2.1) ∧ post () (rX ρ (va_cpy (fun j => (strB.getD iT []).getD j 0) ρ.2.2.2.2.2.1 (0 : Int32).toNatClampNeg (x <<< (y &&& 31)).toNatClampNeg (Int32.ofNat (strN.getD iT 0)).toNatClampNeg)) S3)) ρ S iT
set_option maxHeartbeats 4000000 in
set_option maxRecDepth 100000 in
theorem mxS_getBytes (l : Launch) (Γ : Gm) (θ : Th) (ρ : Rh) (S : Sg) (Z : va_W) (iT : Nat) (x : Int32) (y : Int32) (post : Unit → Rh → Sg → Prop) (hw : wxS_getBytes post ρ S iT x y) : MM l yxS_getBytes cxS_getBytes 4 none 1 60 Γ [.ref (Γ.2.2.2.2.1 iT), .ref ρ.2.2.2.2.1, .int x, .int y] (WX Γ θ ρ S Z) (KK (fun _ : Unit => none) (fun q : Rh × Sg => WX Γ θ q.1 q.2 Z) (fun r q => post r q.1 q.2)) 0 0 := by
  refine MM_ofF (by decide +kernel) (Nat.le_of_ble_eq_true rfl) ?_
  intro p e s m below meth c X hr hlk hnm hG h ls hl
  have hx := X.1
  have hb := X.2.1
  have hl : lv_has ls 4 [(0, .ref (Γ.2.2.2.2.1 iT)), (1, .ref ρ.2.2.2.2.1), (2, .int x), (3, .int y)] := hl
  unfold wxS_getBytes at hw
  refine lv_aload_n hx hb dxS_getBytes_0 rfl (lv_at hl 0 rfl) ?_
  obtain ⟨o1, hw⟩ := hw
  refine cx_xS_335 (As := []) (rest := []) X hG h hl.1 (mxS_coder l Γ θ ρ S Z iT _ hw) ⟨show 0 + 1 ≤ 1 from by omega, show 8 + (1 + 11) + 0 ≤ 60 from by omega⟩ (vk_recv (GX_S hG) o1 h.2.2) rfl (Nat.le_of_ble_eq_true rfl) dxS_getBytes_1 ⟨Nat.le_of_ble_eq_true rfl, Nat.le_of_ble_eq_true rfl⟩ (fun v W1 hK H locs h => ?_)
  obtain ⟨r2, S3, rfl, rfl, hw⟩ := hK
  refine W.eq (g2 := F0 m 4 ls [.int r2]) rfl ?_
  refine lv_iload_n hx hb dxS_getBytes_4 rfl (lv_at hl 3 rfl) ?_
  refine lv_icmp_ne (tgt := 28) hx hb dxS_getBytes_5 (by decide) (fun c4 => ?_) (fun c4 => ?_)
  · have hw := hw.1 c4
    refine lv_aload_n hx hb dxS_getBytes_28 rfl (lv_at hl 0 rfl) ?_
    refine vk_getf hx hb ((GX_S hG).1 iT o1).2.2.1 h.2.2 X.2.2.2.1 (X.2.2.2.2 _ kF_xS_9) (fun _ h9 => h9) dxS_getBytes_29 ?_
    refine lv_iconst (v := 0) hx hb dxS_getBytes_32 (by decide) ?_
    refine lv_aload_n hx hb dxS_getBytes_33 rfl (lv_at hl 1 rfl) ?_
    refine lv_iload_n hx hb dxS_getBytes_34 rfl (lv_at hl 2 rfl) ?_
    refine lv_aload_n hx hb dxS_getBytes_35 rfl (lv_at hl 0 rfl) ?_
    refine vk_getf hx hb ((GX_S hG).1 iT o1).2.2.1 h.2.2 X.2.2.2.1 (X.2.2.2.2 _ kF_xS_9) (fun _ h9 => h9) dxS_getBytes_36 ?_
    refine sv_len X hG h o1 dxS_getBytes_39 ?_
    exact hw.elim
  · have hw := hw.2 c4
    refine lv_aload_n hx hb dxS_getBytes_8 rfl (lv_at hl 0 rfl) ?_
    refine vk_getf hx hb ((GX_S hG).1 iT o1).2.2.1 h.2.2 X.2.2.2.1 (X.2.2.2.2 _ kF_xS_9) (fun _ h9 => h9) dxS_getBytes_9 ?_
    refine lv_iconst (v := 0) hx hb dxS_getBytes_12 (by decide) ?_
    refine lv_aload_n hx hb dxS_getBytes_13 rfl (lv_at hl 1 rfl) ?_
    refine lv_iload_n hx hb dxS_getBytes_14 rfl (lv_at hl 2 rfl) ?_
    refine lv_iload_n hx hb dxS_getBytes_15 rfl (lv_at hl 3 rfl) ?_
    refine lv_ishl hx hb dxS_getBytes_16 ?_
    refine lv_aload_n hx hb dxS_getBytes_17 rfl (lv_at hl 0 rfl) ?_
    refine vk_getf hx hb ((GX_S hG).1 iT o1).2.2.1 h.2.2 X.2.2.2.1 (X.2.2.2.2 _ kF_xS_9) (fun _ h9 => h9) dxS_getBytes_18 ?_
    refine sv_len X hG h o1 dxS_getBytes_21 ?_
    obtain ⟨o5, hw⟩ := hw
    refine bl_cpS X (by rw [hl.1]; exact X.2.2.1) hG h kY_xS_212 o5 (show 1 ≤ 1 from by omega) (show 8 + 40 ≤ 60 from by omega) (Nat.le_of_ble_eq_true rfl) dxS_getBytes_22 (fun H locs h => ?_)
    refine lv_goto (tgt := 43) hx hb dxS_getBytes_25 (by decide) ?_
    exact z_vret X hr hlk h ⟨_, ((rX ρ (va_cpy (fun j => (strB.getD iT []).getD j 0) ρ.2.2.2.2.2.1 (0 : Int32).toNatClampNeg (x <<< (y &&& 31)).toNatClampNeg (Int32.ofNat (strN.getD iT 0)).toNatClampNeg)), S3), rfl, rfl, hw⟩ dxS_getBytes_43
def wxA_putStringAt  (post : Unit → Rh → Sg → Prop) (ρ : Rh) (S : Sg) (x : Int32) (i : Nat) : Prop := wxA_inflateIfNeededFor (fun (_ : Unit) S2 => (i < 19) ∧ wxS_getBytes (fun (_ : Unit) ρ6 S5 => post () ρ6 S5) ρ S2 i x (0)) ρ S i
set_option maxHeartbeats 4000000 in
set_option maxRecDepth 100000 in
theorem mxA_putStringAt (l : Launch) (Γ : Gm) (θ : Th) (ρ : Rh) (S : Sg) (Z : va_W) (x : Int32) (i : Nat) (post : Unit → Rh → Sg → Prop) (hw : wxA_putStringAt post ρ S x i) : MM l yxA_putStringAt cxA_putStringAt 3 none 2 83 Γ [.ref (θ.1 12), .int x, .ref (Γ.2.2.2.2.1 i)] (WX Γ θ ρ S Z) (KK (fun _ : Unit => none) (fun q : Rh × Sg => WX Γ θ q.1 q.2 Z) (fun r q => post r q.1 q.2)) 0 0 := by
  refine MM_ofF (by decide +kernel) (Nat.le_of_ble_eq_true rfl) ?_
  intro p e s m below meth c X hr hlk hnm hG h ls hl
  have hx := X.1
  have hb := X.2.1
  have hl : lv_has ls 3 [(0, .ref (θ.1 12)), (1, .int x), (2, .ref (Γ.2.2.2.2.1 i))] := hl
  unfold wxA_putStringAt at hw
  refine lv_aload_n hx hb dxA_putStringAt_0 rfl (lv_at hl 0 rfl) ?_
  refine lv_aload_n hx hb dxA_putStringAt_1 rfl (lv_at hl 2 rfl) ?_
  refine cx_xA_397 (As := [.ref (Γ.2.2.2.2.1 i)]) (rest := []) X hG h hl.1 (mxA_inflateIfNeededFor l Γ θ ρ S Z i _ hw) ⟨show 1 + 1 ≤ 2 from by omega, show 8 + (2 + 11) + 20 ≤ 83 from by omega⟩ (q0 := 12) rfl rfl (Nat.le_of_ble_eq_true rfl) dxA_putStringAt_2 ⟨Nat.le_of_ble_eq_true rfl, Nat.le_of_ble_eq_true rfl⟩ (fun v W1 hK H locs h => ?_)
  obtain ⟨r1, S2, rfl, rfl, hw⟩ := hK
  refine W.eq (g2 := F0 m 5 ls []) rfl ?_
  refine lv_aload_n hx hb dxA_putStringAt_5 rfl (lv_at hl 2 rfl) ?_
  refine lv_aload_n hx hb dxA_putStringAt_6 rfl (lv_at hl 0 rfl) ?_
  refine gx_xA_15 X hG h dxA_putStringAt_7 ?_
  refine lv_iload_n hx hb dxA_putStringAt_10 rfl (lv_at hl 1 rfl) ?_
  refine lv_aload_n hx hb dxA_putStringAt_11 rfl (lv_at hl 0 rfl) ?_
  refine gx_xA_22 X hG h dxA_putStringAt_12 ?_
  obtain ⟨o3, hw⟩ := hw
  refine cx_xA_399 (As := [.ref ρ.2.2.2.2.1, .int x, .int 0]) (rest := []) X hG h hl.1 (mxS_getBytes l Γ θ ρ S2 Z i x (0) _ hw) ⟨show 1 + 1 ≤ 2 from by omega, show 8 + (4 + 11) + 60 ≤ 83 from by omega⟩ (vk_recv (GX_S hG) o3 h.2.2) rfl (Nat.le_of_ble_eq_true rfl) dxA_putStringAt_15 ⟨Nat.le_of_ble_eq_true rfl, Nat.le_of_ble_eq_true rfl⟩ (fun v W1 hK H locs h => ?_)
  obtain ⟨r4, ⟨ρ6, S5⟩, rfl, rfl, hw⟩ := hK
  refine W.eq (g2 := F0 m 18 ls []) rfl ?_
  exact z_vret X hr hlk h ⟨_, (ρ6, S5), rfl, rfl, hw⟩ dxA_putStringAt_18
def wxI_getChars_c104  (post : Int32 → Rh → Sg → Prop) (x : Int32) (y : Int32) (ρ : Rh) (S : Sg) (a0 : Int32) (a5 : Int32) (a6 : Int32) : Prop := ((a6 = (0 : Int32)) → post a5 ρ S) ∧ ((¬ (a6 = (0 : Int32))) → (vp_in (a5 + -1) ρ.2.2.2.2.2.2.1) ∧ post (a5 + -1) (rB ρ ((a5 + -1).toNatClampNeg) (vp_nar .byte (45 : Int32))) S)
set_option maxHeartbeats 4000000 in
set_option maxRecDepth 100000 in
theorem txI_getChars_c104 {p : Program} {l : Launch} {e : Env} {s : State} {m : MethodId} {below : List Frame} {meth : Method} {c : Code} (Γ : Gm) (θ : Th) (Z : va_W) (ρ0 : Rh) (x : Int32) (y : Int32)  (post : Int32 → Rh → Sg → Prop) (X : CallFix p m c cxI_getChars 7 s ([.int x, .int y, .ref ρ0.2.2.2.2.1] : List Value).toArray big RxI) (hr : meth.sig.returnType = (some .int)) (hlk : meth.locks = false) (hG : GX Γ s s.heap) :
    ∀ (ρ : Rh) (S : Sg) (a0 : Int32) (a5 : Int32) (a6 : Int32) (hw : wxI_getChars_c104 post x y ρ S a0 a5 a6) (H : Heap) (locs : List Loc) (h : HS Γ s (WX Γ θ ρ S Z) H locs) (ls : Array Slot) (hb0 : ρ.2.2.2.2.1 = ρ0.2.2.2.2.1) (hl : lv_has ls 7 [(0, .int a0), (1, .int y), (2, .ref ρ0.2.2.2.2.1), (5, .int a5), (6, .int a6)]), W p l e { frames := 0, cells := 0, slots := 0, locals := 0 } s m ([.int x, .int y, .ref ρ0.2.2.2.2.1] : List Value).toArray below meth c H locs 0 0 (MQ below (QM Γ (KK (fun r : Int32 => some (.int r)) (fun q : Rh × Sg => WX Γ θ q.1 q.2 Z) (fun r q => post r q.1 q.2))) ([.int x, .int y, .ref ρ0.2.2.2.2.1] : List Value).toArray s 0 0 (AA Γ)) (F0 m 104 ls []) := by
  have hx := X.1
  have hb := X.2.1
  intro ρ S a0 a5 a6 hw H locs h ls hb0 hl
  unfold wxI_getChars_c104 at hw
  rw [← hb0] at hl
  refine lv_iload hx hb dxI_getChars_104 (lv_at hl 4 rfl) ?_
  refine lv_if_eq (tgt := 118) hx hb dxI_getChars_106 (by decide) (fun c1 => ?_) (fun c1 => ?_)
  · have hw := hw.1 c1
    refine lv_iload hx hb dxI_getChars_118 (lv_at hl 3 rfl) ?_
    exact z_iret X hr hlk h ⟨_, (ρ, S), rfl, rfl, hw⟩ dxI_getChars_120
  · have hw := hw.2 c1
    refine lv_aload_n hx hb dxI_getChars_109 rfl (lv_at hl 2 rfl) ?_
    refine lv_iinc (v := a5 + -1) (lv' := [(5, .int (a5 + -1)), (0, .int a0), (1, .int y), (2, .ref ρ.2.2.2.2.1), (6, .int a6)]) hx hb dxI_getChars_110 hl (k := 3) rfl rfl (by decide) rfl (fun ls hl => ?_)
    refine lv_iload hx hb dxI_getChars_113 (lv_at hl 0 rfl) ?_
    refine lv_bipush (v := 45) hx hb dxI_getChars_115 (by decide) ?_
    obtain ⟨o2, hw⟩ := hw
    refine bl_st X hG h o2 dxI_getChars_117 (fun H locs h => ?_)
    refine lv_iload hx hb dxI_getChars_118 (lv_at hl 0 rfl) ?_
    exact z_iret X hr hlk h ⟨_, ((rB ρ ((a5 + -1).toNatClampNeg) (vp_nar .byte (45 : Int32))), S), rfl, rfl, hw⟩ dxI_getChars_120
def wxI_getChars_c22  (post : Int32 → Rh → Sg → Prop) (x : Int32) (y : Int32) : Nat → Rh → Sg → Int32 → Int32 → Int32 → Prop
  | 0, _, _, _, _, _ => False
  | d + 1, ρ, S, a0, a5, a6 => (((-100 : Int32) < a0) → (vp_in (-a0) 100) ∧ (vp_in (a5 + -1) ρ.2.2.2.2.2.2.1) ∧ (((-9 : Int32) ≤ a0) → wxI_getChars_c104 post x y (rB ρ ((a5 + -1).toNatClampNeg) (vp_nar .byte (doF (-a0).toNatClampNeg))) S a0 (a5 + -1) a6) ∧ ((¬ ((-9 : Int32) ≤ a0)) → (vp_in ((a5 + -1) + -1) (rB ρ ((a5 + -1).toNatClampNeg) (vp_nar .byte (doF (-a0).toNatClampNeg))).2.2.2.2.2.2.1) ∧ wxI_getChars_c104 post x y (rB (rB ρ ((a5 + -1).toNatClampNeg) (vp_nar .byte (doF (-a0).toNatClampNeg))) (((a5 + -1) + -1).toNatClampNeg) (vp_nar .byte (dtF (-a0).toNatClampNeg))) S a0 ((a5 + -1) + -1) a6)) ∧ ((¬ ((-100 : Int32) < a0)) → (vp_in (((a0 / (100 : Int32)) * 100) - a0) 100) ∧ (vp_in (a5 + -1) ρ.2.2.2.2.2.2.1) ∧ (vp_in ((a5 + -1) + -1) (rB ρ ((a5 + -1).toNatClampNeg) (vp_nar .byte (doF (((a0 / (100 : Int32)) * 100) - a0).toNatClampNeg))).2.2.2.2.2.2.1) ∧ wxI_getChars_c22 post x y d (rB (rB ρ ((a5 + -1).toNatClampNeg) (vp_nar .byte (doF (((a0 / (100 : Int32)) * 100) - a0).toNatClampNeg))) (((a5 + -1) + -1).toNatClampNeg) (vp_nar .byte (dtF (((a0 / (100 : Int32)) * 100) - a0).toNatClampNeg))) S (a0 / (100 : Int32)) ((a5 + -1) + -1) a6)
set_option maxHeartbeats 4000000 in
set_option maxRecDepth 100000 in
theorem txI_getChars_c22 {p : Program} {l : Launch} {e : Env} {s : State} {m : MethodId} {below : List Frame} {meth : Method} {c : Code} (Γ : Gm) (θ : Th) (Z : va_W) (ρ0 : Rh) (x : Int32) (y : Int32)  (post : Int32 → Rh → Sg → Prop) (X : CallFix p m c cxI_getChars 7 s ([.int x, .int y, .ref ρ0.2.2.2.2.1] : List Value).toArray big RxI) (hr : meth.sig.returnType = (some .int)) (hlk : meth.locks = false) (hG : GX Γ s s.heap) :
    ∀ (d : Nat) (ρ : Rh) (S : Sg) (a0 : Int32) (a5 : Int32) (a6 : Int32) (hw : wxI_getChars_c22 post x y d ρ S a0 a5 a6) (H : Heap) (locs : List Loc) (h : HS Γ s (WX Γ θ ρ S Z) H locs) (ls : Array Slot) (hb0 : ρ.2.2.2.2.1 = ρ0.2.2.2.2.1) (hl : lv_has ls 7 [(0, .int a0), (1, .int y), (2, .ref ρ0.2.2.2.2.1), (5, .int a5), (6, .int a6)]), W p l e { frames := 0, cells := 0, slots := 0, locals := 0 } s m ([.int x, .int y, .ref ρ0.2.2.2.2.1] : List Value).toArray below meth c H locs 0 0 (MQ below (QM Γ (KK (fun r : Int32 => some (.int r)) (fun q : Rh × Sg => WX Γ θ q.1 q.2 Z) (fun r q => post r q.1 q.2))) ([.int x, .int y, .ref ρ0.2.2.2.2.1] : List Value).toArray s 0 0 (AA Γ)) (F0 m 22 ls []) := by
  have hx := X.1
  have hb := X.2.1
  intro d
  induction d with
  | zero => intro ρ S a0 a5 a6 hw; exact absurd hw (by simp [wxI_getChars_c22])
  | succ d ih =>
    intro ρ S a0 a5 a6 hw H locs h ls hb0 hl
    rw [wxI_getChars_c22] at hw
    rw [← hb0] at hl
    refine lv_iload_n hx hb dxI_getChars_22 rfl (lv_at hl 0 rfl) ?_
    refine lv_bipush (v := -100) hx hb dxI_getChars_23 (by decide) ?_
    refine lv_icmp_gt (tgt := 72) hx hb dxI_getChars_25 (by decide) (fun c1 => ?_) (fun c1 => ?_)
    · have hw := hw.1 c1
      refine lv_aload_n hx hb dxI_getChars_72 rfl (lv_at hl 2 rfl) ?_
      refine lv_iinc (v := a5 + -1) (lv' := [(5, .int (a5 + -1)), (0, .int a0), (1, .int y), (2, .ref ρ.2.2.2.2.1), (6, .int a6)]) hx hb dxI_getChars_73 hl (k := 3) rfl rfl (by decide) rfl (fun ls hl => ?_)
      refine lv_iload hx hb dxI_getChars_76 (lv_at hl 0 rfl) ?_
      refine va_gets hx hb (GX_O hG).1 h.2.2 X.2.2.2.1 (X.2.2.2.2 _ kF_xI_83) (fun _ h9 => h9) dxI_getChars_78 ?_
      refine lv_iload_n hx hb dxI_getChars_81 rfl (lv_at hl 1 rfl) ?_
      refine lv_ineg hx hb dxI_getChars_82 ?_
      obtain ⟨o2, hw⟩ := hw
      refine va_tb hx hb (GX_O hG).2 h.2.2 o2 rfl dxI_getChars_83 ?_
      obtain ⟨o3, hw⟩ := hw
      refine bl_st X hG h o3 dxI_getChars_84 (fun H locs h => ?_)
      refine lv_iload_n hx hb dxI_getChars_85 rfl (lv_at hl 1 rfl) ?_
      refine lv_bipush (v := -9) hx hb dxI_getChars_86 (by decide) ?_
      refine lv_icmp_ge (tgt := 104) hx hb dxI_getChars_88 (by decide) (fun c4 => ?_) (fun c4 => ?_)
      · have hw := hw.1 c4
        exact txI_getChars_c104 Γ θ Z ρ0 x y post X hr hlk hG (rB ρ ((a5 + -1).toNatClampNeg) (vp_nar .byte (doF (-a0).toNatClampNeg))) S a0 (a5 + -1) a6 hw _ _ h ls hb0 (by rw [hb0] at hl; exact (lv_sub hl [1, 2, 3, 0, 4] rfl))
      · have hw := hw.2 c4
        refine lv_aload_n hx hb dxI_getChars_91 rfl (lv_at hl 3 rfl) ?_
        refine lv_iinc (v := (a5 + -1) + -1) (lv' := [(5, .int ((a5 + -1) + -1)), (0, .int a0), (1, .int y), (2, .ref ρ.2.2.2.2.1), (6, .int a6)]) hx hb dxI_getChars_92 hl (k := 0) rfl rfl (by decide) rfl (fun ls hl => ?_)
        refine lv_iload hx hb dxI_getChars_95 (lv_at hl 0 rfl) ?_
        refine va_gets hx hb (GX_T hG).1 h.2.2 X.2.2.2.1 (X.2.2.2.2 _ kF_xI_87) (fun _ h9 => h9) dxI_getChars_97 ?_
        refine lv_iload_n hx hb dxI_getChars_100 rfl (lv_at hl 1 rfl) ?_
        refine lv_ineg hx hb dxI_getChars_101 ?_
        refine va_tb hx hb (GX_T hG).2 h.2.2 o2 rfl dxI_getChars_102 ?_
        obtain ⟨o5, hw⟩ := hw
        refine bl_st X hG h o5 dxI_getChars_103 (fun H locs h => ?_)
        exact txI_getChars_c104 Γ θ Z ρ0 x y post X hr hlk hG (rB (rB ρ ((a5 + -1).toNatClampNeg) (vp_nar .byte (doF (-a0).toNatClampNeg))) (((a5 + -1) + -1).toNatClampNeg) (vp_nar .byte (dtF (-a0).toNatClampNeg))) S a0 ((a5 + -1) + -1) a6 hw _ _ h ls hb0 (by rw [hb0] at hl; exact (lv_sub hl [1, 2, 3, 0, 4] rfl))
    · have hw := hw.2 c1
      refine lv_iload_n hx hb dxI_getChars_28 rfl (lv_at hl 0 rfl) ?_
      refine lv_bipush (v := 100) hx hb dxI_getChars_29 (by decide) ?_
      refine lv_idiv hx hb dxI_getChars_31 (by decide) ?_
      refine lv_istore_n (lv' := [(3, .int (a0 / (100 : Int32))), (0, .int a0), (1, .int y), (2, .ref ρ.2.2.2.2.1), (5, .int a5), (6, .int a6)]) hx hb dxI_getChars_32 rfl hl (by decide) rfl (fun ls hl => ?_)
      refine lv_iload_n hx hb dxI_getChars_33 rfl (lv_at hl 0 rfl) ?_
      refine lv_bipush (v := 100) hx hb dxI_getChars_34 (by decide) ?_
      refine lv_imul hx hb dxI_getChars_36 ?_
      refine lv_iload_n hx hb dxI_getChars_37 rfl (lv_at hl 1 rfl) ?_
      refine lv_isub hx hb dxI_getChars_38 ?_
      refine lv_istore (lv' := [(4, .int (((a0 / (100 : Int32)) * 100) - a0)), (3, .int (a0 / (100 : Int32))), (0, .int a0), (1, .int y), (2, .ref ρ.2.2.2.2.1), (5, .int a5), (6, .int a6)]) hx hb dxI_getChars_39 hl (by decide) rfl (fun ls hl => ?_)
      refine lv_iload_n hx hb dxI_getChars_41 rfl (lv_at hl 1 rfl) ?_
      refine lv_istore_n (lv' := [(0, .int (a0 / (100 : Int32))), (4, .int (((a0 / (100 : Int32)) * 100) - a0)), (3, .int (a0 / (100 : Int32))), (1, .int y), (2, .ref ρ.2.2.2.2.1), (5, .int a5), (6, .int a6)]) hx hb dxI_getChars_42 rfl hl (by decide) rfl (fun ls hl => ?_)
      refine lv_aload_n hx hb dxI_getChars_43 rfl (lv_at hl 4 rfl) ?_
      refine lv_iinc (v := a5 + -1) (lv' := [(5, .int (a5 + -1)), (0, .int (a0 / (100 : Int32))), (4, .int (((a0 / (100 : Int32)) * 100) - a0)), (3, .int (a0 / (100 : Int32))), (1, .int y), (2, .ref ρ.2.2.2.2.1), (6, .int a6)]) hx hb dxI_getChars_44 hl (k := 5) rfl rfl (by decide) rfl (fun ls hl => ?_)
      refine lv_iload hx hb dxI_getChars_47 (lv_at hl 0 rfl) ?_
      refine va_gets hx hb (GX_O hG).1 h.2.2 X.2.2.2.1 (X.2.2.2.2 _ kF_xI_83) (fun _ h9 => h9) dxI_getChars_49 ?_
      refine lv_iload hx hb dxI_getChars_52 (lv_at hl 2 rfl) ?_
      obtain ⟨o6, hw⟩ := hw
      refine va_tb hx hb (GX_O hG).2 h.2.2 o6 rfl dxI_getChars_54 ?_
      obtain ⟨o7, hw⟩ := hw
      refine bl_st X hG h o7 dxI_getChars_55 (fun H locs h => ?_)
      refine lv_aload_n hx hb dxI_getChars_56 rfl (lv_at hl 5 rfl) ?_
      refine lv_iinc (v := (a5 + -1) + -1) (lv' := [(5, .int ((a5 + -1) + -1)), (0, .int (a0 / (100 : Int32))), (4, .int (((a0 / (100 : Int32)) * 100) - a0)), (3, .int (a0 / (100 : Int32))), (1, .int y), (2, .ref ρ.2.2.2.2.1), (6, .int a6)]) hx hb dxI_getChars_57 hl (k := 0) rfl rfl (by decide) rfl (fun ls hl => ?_)
      refine lv_iload hx hb dxI_getChars_60 (lv_at hl 0 rfl) ?_
      refine va_gets hx hb (GX_T hG).1 h.2.2 X.2.2.2.1 (X.2.2.2.2 _ kF_xI_87) (fun _ h9 => h9) dxI_getChars_62 ?_
      refine lv_iload hx hb dxI_getChars_65 (lv_at hl 2 rfl) ?_
      refine va_tb hx hb (GX_T hG).2 h.2.2 o6 rfl dxI_getChars_67 ?_
      obtain ⟨o8, hw⟩ := hw
      refine bl_st X hG h o8 dxI_getChars_68 (fun H locs h => ?_)
      refine lv_goto (tgt := 22) hx hb dxI_getChars_69 (by decide) ?_
      exact ih (rB (rB ρ ((a5 + -1).toNatClampNeg) (vp_nar .byte (doF (((a0 / (100 : Int32)) * 100) - a0).toNatClampNeg))) (((a5 + -1) + -1).toNatClampNeg) (vp_nar .byte (dtF (((a0 / (100 : Int32)) * 100) - a0).toNatClampNeg))) S (a0 / (100 : Int32)) ((a5 + -1) + -1) a6 hw _ _ h ls hb0 (by rw [hb0] at hl; exact (lv_sub hl [1, 4, 5, 0, 6] rfl))
def wxI_getChars  (post : Int32 → Rh → Sg → Prop) (ρ : Rh) (S : Sg) (x : Int32) (y : Int32) : Prop := (((0 : Int32) ≤ x) → ∃ d9 : Nat, wxI_getChars_c22 post x y d9 ρ S (-x) y (0 : Int32)) ∧ ((¬ ((0 : Int32) ≤ x)) → ∃ d10 : Nat, wxI_getChars_c22 post x y d10 ρ S x y (1 : Int32))
set_option maxHeartbeats 4000000 in
set_option maxRecDepth 100000 in
theorem mxI_getChars (l : Launch) (Γ : Gm) (θ : Th) (ρ : Rh) (S : Sg) (Z : va_W) (x : Int32) (y : Int32) (post : Int32 → Rh → Sg → Prop) (hw : wxI_getChars post ρ S x y) : MM l yxI_getChars cxI_getChars 7 (some .int) 0 0 Γ [.int x, .int y, .ref ρ.2.2.2.2.1] (WX Γ θ ρ S Z) (KK (fun r : Int32 => some (.int r)) (fun q : Rh × Sg => WX Γ θ q.1 q.2 Z) (fun r q => post r q.1 q.2)) 0 0 := by
  refine MM_ofF (by decide +kernel) (Nat.le_of_ble_eq_true rfl) ?_
  intro p e s m below meth c X hr hlk hnm hG h ls hl
  have hx := X.1
  have hb := X.2.1
  have hl : lv_has ls 7 [(0, .int x), (1, .int y), (2, .ref ρ.2.2.2.2.1)] := hl
  unfold wxI_getChars at hw
  refine lv_iload_n hx hb dxI_getChars_0 rfl (lv_at hl 1 rfl) ?_
  refine lv_istore (lv' := [(5, .int y), (0, .int x), (1, .int y), (2, .ref ρ.2.2.2.2.1)]) hx hb dxI_getChars_1 hl (by decide) rfl (fun ls hl => ?_)
  refine lv_iload_n hx hb dxI_getChars_3 rfl (lv_at hl 1 rfl) ?_
  refine lv_if_ge (tgt := 11) hx hb dxI_getChars_4 (by decide) (fun c1 => ?_) (fun c1 => ?_)
  · have hw := hw.1 c1
    refine lv_iconst (v := 0) hx hb dxI_getChars_11 (by decide) ?_
    refine lv_istore (lv' := [(6, .int 0), (5, .int y), (0, .int x), (1, .int y), (2, .ref ρ.2.2.2.2.1)]) hx hb dxI_getChars_12 hl (by decide) rfl (fun ls hl => ?_)
    refine lv_iload hx hb dxI_getChars_14 (lv_at hl 0 rfl) ?_
    refine lv_if_ne (tgt := 22) hx hb dxI_getChars_16 (by decide) (fun c0 => ?_) (fun c0 => ?_)
    · exact absurd c0 (by decide)
    · refine lv_iload_n hx hb dxI_getChars_19 rfl (lv_at hl 2 rfl) ?_
      refine lv_ineg hx hb dxI_getChars_20 ?_
      refine lv_istore_n (lv' := [(0, .int (-x)), (6, .int 0), (5, .int y), (1, .int y), (2, .ref ρ.2.2.2.2.1)]) hx hb dxI_getChars_21 rfl hl (by decide) rfl (fun ls hl => ?_)
      obtain ⟨d9, hw⟩ := hw
      exact txI_getChars_c22 Γ θ Z ρ x y post X hr hlk hG d9 ρ S (-x) y (0 : Int32) hw _ _ h ls rfl (lv_sub hl [0, 3, 4, 2, 1] rfl)
  · have hw := hw.2 c1
    refine lv_iconst (v := 1) hx hb dxI_getChars_7 (by decide) ?_
    refine lv_goto (tgt := 12) hx hb dxI_getChars_8 (by decide) ?_
    refine lv_istore (lv' := [(6, .int 1), (5, .int y), (0, .int x), (1, .int y), (2, .ref ρ.2.2.2.2.1)]) hx hb dxI_getChars_12 hl (by decide) rfl (fun ls hl => ?_)
    refine lv_iload hx hb dxI_getChars_14 (lv_at hl 0 rfl) ?_
    refine lv_if_ne (tgt := 22) hx hb dxI_getChars_16 (by decide) (fun c0 => ?_) (fun c0 => ?_)
    · obtain ⟨d10, hw⟩ := hw
      exact txI_getChars_c22 Γ θ Z ρ x y post X hr hlk hG d10 ρ S x y (1 : Int32) hw _ _ h ls rfl (lv_sub hl [2, 3, 4, 1, 0] rfl)
    · exact absurd c0 (by decide)
