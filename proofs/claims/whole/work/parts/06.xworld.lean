/-- the run: registers and references -/
abbrev Sg : Type := (Nat → Nat → Int32) × (Nat → Option Nat)
abbrev Th : Type := (Nat → Nat) × (Nat → Nat)
/-- the program: node addresses, how many, registers; told; the bytes' address, the bytes, how many there is room for, 0: how many are used, 1: maybeLatin1 -/
abbrev Rh : Type := (Nat → Nat) × Nat × (Nat → Nat → Int32) × Int64 × Nat × (Nat → Int32) × Nat × (Nat → Int32)
def sR (S : Sg) (a i : Nat) (v : Int32) : Sg := (uu S.1 a i v, S.2)
def sC (S : Sg) (i : Nat) (o : Option Nat) : Sg := (S.1, va_up S.2 i o)
def rP (ρ : Rh) (a i : Nat) (v : Int32) : Rh := (ρ.1, ρ.2.1, uu ρ.2.2.1 a i v, ρ.2.2.2)
def rL (ρ : Rh) (v : Int64) : Rh := (ρ.1, ρ.2.1, ρ.2.2.1, v, ρ.2.2.2.2)
def rT (ρ : Rh) (i : Nat) (v : Int32) : Rh := (ρ.1, ρ.2.1, ρ.2.2.1, ρ.2.2.2.1, ρ.2.2.2.2.1, ρ.2.2.2.2.2.1, ρ.2.2.2.2.2.2.1, upd ρ.2.2.2.2.2.2.2 i v)
def rB (ρ : Rh) (i : Nat) (v : Int32) : Rh := (ρ.1, ρ.2.1, ρ.2.2.1, ρ.2.2.2.1, ρ.2.2.2.2.1, upd ρ.2.2.2.2.2.1 i v, ρ.2.2.2.2.2.2.1, ρ.2.2.2.2.2.2.2)
def rX (ρ : Rh) (f : Nat → Int32) : Rh := (ρ.1, ρ.2.1, ρ.2.2.1, ρ.2.2.2.1, ρ.2.2.2.2.1, f, ρ.2.2.2.2.2.2.1, ρ.2.2.2.2.2.2.2)
def rV (ρ : Rh) (q : Nat) (f : Nat → Int32) (n : Nat) : Rh := (ρ.1, ρ.2.1, ρ.2.2.1, ρ.2.2.2.1, q, f, n, ρ.2.2.2.2.2.2.2)
def er (w : Nat) : Int32 := ([0, 0, 0, 0, 1, 1] : List Int32).getD w 0
def fxX (Γ : Gm) (θ : Th) (ρ : Rh) (S : Sg) : va_W := [(θ.1 0, .inr (0, [.ref (θ.1 1), .ref (θ.1 3), .ref (θ.1 11), .ref (θ.1 6), .int (ρ.2.2.1 7 2), .long ρ.2.2.2.1, va_rf (Option.map θ.2 (S.2 301)), va_rf (Option.map θ.2 (S.2 302))])),
  (θ.1 1, .inr (1, [.ref (θ.1 2), .int (ρ.2.2.1 7 0)])),
  (θ.1 2, .inl (Γ.2.2.1 0, 16, .inl (ρ.2.2.1 6))),
  (θ.1 3, .inr (2, [.ref (θ.1 1), .ref (θ.1 4), .ref (θ.1 5), .int (ρ.2.2.1 7 1)])),
  (θ.1 4, .inl (Γ.2.2.1 1, 64, .inr (.inr (.inr (.inr (fun j => if j < ρ.2.1 then some (ρ.1 j) else none)))))),
  (θ.1 5, .inl (Γ.2.2.1 0, 6, .inl (ρ.2.2.1 5))),
  (θ.1 6, .inr (3, [.ref (θ.1 3), .ref (θ.1 1), .int (ρ.2.2.1 7 3), .ref (θ.1 7), .ref (θ.1 8), .ref (θ.1 9), .ref (θ.1 10), .int (S.1 7 0), .int (S.1 7 1), .int (S.1 7 2), .int (S.1 7 3), .int (S.1 7 4), .int (S.1 7 5), .int (S.1 7 6), va_rf (Option.map θ.2 (S.2 300))])),
  (θ.1 7, .inl (Γ.2.2.1 0, 4, .inl (S.1 0))),
  (θ.1 8, .inl (Γ.2.2.1 0, 2, .inl (S.1 1))),
  (θ.1 9, .inl (Γ.2.2.1 0, 300, .inl (S.1 2))),
  (θ.1 10, .inl (Γ.2.2.1 2, 300, .inr (.inr (.inr (.inr (fun j => some (θ.2 j))))))),
  (θ.1 11, .inr (4, [.ref (θ.1 12)])),
  (θ.1 12, .inr (7, [.ref ρ.2.2.2.2.1, .int 0, .int (ρ.2.2.2.2.2.2.2 1), .int (ρ.2.2.2.2.2.2.2 0)])),
  (ρ.2.2.2.2.1, .inl (Γ.2.2.1 3, ρ.2.2.2.2.2.2.1, .inl ρ.2.2.2.2.2.1))]
def thX (θ : Th) (S : Sg) (j : Nat) : Nat × va_E := (θ.2 j, .inr (5, [.int (S.1 3 j), .int (S.1 4 j), va_rf (Option.map θ.2 (S.2 j)), .int (S.1 6 j)]))
def noX (ρ : Rh) (k : Nat) : Nat × va_E := (ρ.1 k, .inr (6, [.int (ρ.2.2.1 0 k), .int (ρ.2.2.1 1 k), .int (ρ.2.2.1 2 k), .int (ρ.2.2.1 3 k), .int (ρ.2.2.1 4 k)]))
def WX (Γ : Gm) (θ : Th) (ρ : Rh) (S : Sg) (Z : va_W) : va_W := fxX Γ θ ρ S ++ (pz 300 (thX θ S) ++ (pz ρ.2.1 (noX ρ) ++ Z))
theorem WX_thr {Γ : Gm} {θ : Th} {ρ : Rh} {S : Sg} {Z : va_W} {j : Nat} (h : j < 300) : (WX Γ θ ρ S Z)[14 + j]? = some (thX θ S j) := pz_get rfl h
theorem WX_node {Γ : Gm} {θ : Th} {ρ : Rh} {S : Sg} {Z : va_W} {k : Nat} (h : k < ρ.2.1) : (WX Γ θ ρ S Z)[314 + k]? = some (noX ρ k) := by
  unfold WX
  rw [← List.append_assoc]
  exact pz_get (by rw [List.length_append, pz_len]; rfl) h
theorem WX_set {Γ : Gm} {θ : Th} {ρ : Rh} {S S1 : Sg} {Z : va_W} {j : Nat} {v : Nat × va_E} (h : j < 300) (hf : fxX Γ θ ρ S1 = fxX Γ θ ρ S) (hg : ∀ i, thX θ S1 i = if i = j then v else thX θ S i) : (WX Γ θ ρ S Z).set (14 + j) v = WX Γ θ ρ S1 Z := by
  unfold WX
  rw [hf]
  exact pz_set rfl h (fun i _ => hg i)
def KK {ρ : Type} {σ : Type} (val : ρ → Option Value) (Wf : σ → va_W) (post : ρ → σ → Prop) : Option Value → va_W → Prop := fun v W1 => ∃ (r : ρ) (S : σ), v = val r ∧ W1 = Wf S ∧ post r S
theorem nz {v : Int32} (h : v = 0 ∨ v = 1) : narrow .boolean (.int v) = .int v := by rcases h with rfl | rfl <;> rfl
theorem sw_in {x : Int32} {lo : Int} {n : Nat} (h : ¬ (x.toInt < lo ∨ lo + n < x.toInt)) : ∃ j : Nat, j ≤ n ∧ x = Int32.ofInt (lo + j) := by
  refine ⟨(x.toInt - lo).toNat, by omega, ?_⟩
  rw [show lo + ((x.toInt - lo).toNat : Int) = x.toInt by omega]
  exact (Int32.ofInt_toInt x).symm
section XA
variable {p : Program} {l : Launch} {e : Env} {R : Room} {s : State} {m : MethodId} {args : Array Value} {below : List Frame} {meth : Method} {c : Code} {H : Heap} {locs : List Loc} {cells slots : Nat} {Q : State → Prop}
variable {cc : ByteArray} {nL : Nat} {pc : Nat} {ls : Array Slot} {rest : List Value} {Γ : Gm} {θ : Th} {ρ : Rh} {S : Sg} {Z : va_W}
variable {own : String}
theorem lx_2 (X : CallFix p m c cc nL s args big own) (hG : GX Γ s s.heap) (h : HS Γ s (WX Γ θ ρ S Z) H locs) {i : Int32} (hi : vp_in i 16) {x : Int32} (hx : ρ.2.2.1 6 i.toNatClampNeg = x) (hdg : decode cc pc = .ok (.iaload, 1)) (kk : W p l e R s m args below meth c H locs cells slots Q (F0 m (pc + 1) ls (.int x :: rest))) : W p l e R s m args below meth c H locs cells slots Q (F0 m pc ls (.int i :: .ref (θ.1 2) :: rest)) := by
  subst hx; exact z_iald X hG h 2 0 rfl rfl hi hdg kk
theorem sx_2 (X : CallFix p m c cc nL s args big own) (hG : GX Γ s s.heap) (h : HS Γ s (WX Γ θ ρ S Z) H locs) {i v : Int32} (hi : vp_in i 16) (hdg : decode cc pc = .ok (.iastore, 1)) (kk : ∀ (H1 : Heap) (locs1 : List Loc), HS Γ s (WX Γ θ (rP ρ 6 i.toNatClampNeg v) S Z) H1 locs1 → W p l e R s m args below meth c H1 locs1 cells slots Q (F0 m (pc + 1) ls rest)) : W p l e R s m args below meth c H locs cells slots Q (F0 m pc ls (.int v :: .int i :: .ref (θ.1 2) :: rest)) :=
  z_iast X hG h 2 0 rfl rfl hi hdg (fun H1 locs1 h1 => kk H1 locs1 h1)
theorem lx_5 (X : CallFix p m c cc nL s args big own) (hG : GX Γ s s.heap) (h : HS Γ s (WX Γ θ ρ S Z) H locs) {i : Int32} (hi : vp_in i 6) {x : Int32} (hx : ρ.2.2.1 5 i.toNatClampNeg = x) (hdg : decode cc pc = .ok (.iaload, 1)) (kk : W p l e R s m args below meth c H locs cells slots Q (F0 m (pc + 1) ls (.int x :: rest))) : W p l e R s m args below meth c H locs cells slots Q (F0 m pc ls (.int i :: .ref (θ.1 5) :: rest)) := by
  subst hx; exact z_iald X hG h 5 0 rfl rfl hi hdg kk
theorem sx_5 (X : CallFix p m c cc nL s args big own) (hG : GX Γ s s.heap) (h : HS Γ s (WX Γ θ ρ S Z) H locs) {i v : Int32} (hi : vp_in i 6) (hdg : decode cc pc = .ok (.iastore, 1)) (kk : ∀ (H1 : Heap) (locs1 : List Loc), HS Γ s (WX Γ θ (rP ρ 5 i.toNatClampNeg v) S Z) H1 locs1 → W p l e R s m args below meth c H1 locs1 cells slots Q (F0 m (pc + 1) ls rest)) : W p l e R s m args below meth c H locs cells slots Q (F0 m pc ls (.int v :: .int i :: .ref (θ.1 5) :: rest)) :=
  z_iast X hG h 5 0 rfl rfl hi hdg (fun H1 locs1 h1 => kk H1 locs1 h1)
theorem lx_7 (X : CallFix p m c cc nL s args big own) (hG : GX Γ s s.heap) (h : HS Γ s (WX Γ θ ρ S Z) H locs) {i : Int32} (hi : vp_in i 4) {x : Int32} (hx : S.1 0 i.toNatClampNeg = x) (hdg : decode cc pc = .ok (.iaload, 1)) (kk : W p l e R s m args below meth c H locs cells slots Q (F0 m (pc + 1) ls (.int x :: rest))) : W p l e R s m args below meth c H locs cells slots Q (F0 m pc ls (.int i :: .ref (θ.1 7) :: rest)) := by
  subst hx; exact z_iald X hG h 7 0 rfl rfl hi hdg kk
theorem sx_7 (X : CallFix p m c cc nL s args big own) (hG : GX Γ s s.heap) (h : HS Γ s (WX Γ θ ρ S Z) H locs) {i v : Int32} (hi : vp_in i 4) (hdg : decode cc pc = .ok (.iastore, 1)) (kk : ∀ (H1 : Heap) (locs1 : List Loc), HS Γ s (WX Γ θ ρ (sR S 0 i.toNatClampNeg v) Z) H1 locs1 → W p l e R s m args below meth c H1 locs1 cells slots Q (F0 m (pc + 1) ls rest)) : W p l e R s m args below meth c H locs cells slots Q (F0 m pc ls (.int v :: .int i :: .ref (θ.1 7) :: rest)) :=
  z_iast X hG h 7 0 rfl rfl hi hdg (fun H1 locs1 h1 => kk H1 locs1 h1)
theorem lx_8 (X : CallFix p m c cc nL s args big own) (hG : GX Γ s s.heap) (h : HS Γ s (WX Γ θ ρ S Z) H locs) {i : Int32} (hi : vp_in i 2) {x : Int32} (hx : S.1 1 i.toNatClampNeg = x) (hdg : decode cc pc = .ok (.iaload, 1)) (kk : W p l e R s m args below meth c H locs cells slots Q (F0 m (pc + 1) ls (.int x :: rest))) : W p l e R s m args below meth c H locs cells slots Q (F0 m pc ls (.int i :: .ref (θ.1 8) :: rest)) := by
  subst hx; exact z_iald X hG h 8 0 rfl rfl hi hdg kk
theorem sx_8 (X : CallFix p m c cc nL s args big own) (hG : GX Γ s s.heap) (h : HS Γ s (WX Γ θ ρ S Z) H locs) {i v : Int32} (hi : vp_in i 2) (hdg : decode cc pc = .ok (.iastore, 1)) (kk : ∀ (H1 : Heap) (locs1 : List Loc), HS Γ s (WX Γ θ ρ (sR S 1 i.toNatClampNeg v) Z) H1 locs1 → W p l e R s m args below meth c H1 locs1 cells slots Q (F0 m (pc + 1) ls rest)) : W p l e R s m args below meth c H locs cells slots Q (F0 m pc ls (.int v :: .int i :: .ref (θ.1 8) :: rest)) :=
  z_iast X hG h 8 0 rfl rfl hi hdg (fun H1 locs1 h1 => kk H1 locs1 h1)
theorem lx_9 (X : CallFix p m c cc nL s args big own) (hG : GX Γ s s.heap) (h : HS Γ s (WX Γ θ ρ S Z) H locs) {i : Int32} (hi : vp_in i 300) {x : Int32} (hx : S.1 2 i.toNatClampNeg = x) (hdg : decode cc pc = .ok (.iaload, 1)) (kk : W p l e R s m args below meth c H locs cells slots Q (F0 m (pc + 1) ls (.int x :: rest))) : W p l e R s m args below meth c H locs cells slots Q (F0 m pc ls (.int i :: .ref (θ.1 9) :: rest)) := by
  subst hx; exact z_iald X hG h 9 0 rfl rfl hi hdg kk
theorem sx_9 (X : CallFix p m c cc nL s args big own) (hG : GX Γ s s.heap) (h : HS Γ s (WX Γ θ ρ S Z) H locs) {i v : Int32} (hi : vp_in i 300) (hdg : decode cc pc = .ok (.iastore, 1)) (kk : ∀ (H1 : Heap) (locs1 : List Loc), HS Γ s (WX Γ θ ρ (sR S 2 i.toNatClampNeg v) Z) H1 locs1 → W p l e R s m args below meth c H1 locs1 cells slots Q (F0 m (pc + 1) ls rest)) : W p l e R s m args below meth c H locs cells slots Q (F0 m pc ls (.int v :: .int i :: .ref (θ.1 9) :: rest)) :=
  z_iast X hG h 9 0 rfl rfl hi hdg (fun H1 locs1 h1 => kk H1 locs1 h1)
theorem lx_10 (X : CallFix p m c cc nL s args big own) (hG : GX Γ s s.heap) (h : HS Γ s (WX Γ θ ρ S Z) H locs) {i : Int32} (hi : vp_in i 300) (hdg : decode cc pc = .ok (.aaload, 1)) (kk : W p l e R s m args below meth c H locs cells slots Q (F0 m (pc + 1) ls (.ref (θ.2 i.toNatClampNeg) :: rest))) : W p l e R s m args below meth c H locs cells slots Q (F0 m pc ls (.int i :: .ref (θ.1 10) :: rest)) :=
  z_aald X hG h 10 2 rfl rfl hi hdg kk
theorem lx_4 (X : CallFix p m c cc nL s args big own) (hG : GX Γ s s.heap) (h : HS Γ s (WX Γ θ ρ S Z) H locs) {i : Int32} (hi : vp_in i 64) (hn : i.toNatClampNeg < ρ.2.1) (hdg : decode cc pc = .ok (.aaload, 1)) (kk : W p l e R s m args below meth c H locs cells slots Q (F0 m (pc + 1) ls (.ref (ρ.1 i.toNatClampNeg) :: rest))) : W p l e R s m args below meth c H locs cells slots Q (F0 m pc ls (.int i :: .ref (θ.1 4) :: rest)) := by
  refine z_aald X hG h 4 1 rfl rfl hi hdg ?_
  rw [if_pos hn]
  exact kk
theorem x_acmp_eq {i j : Nat} {off : Int} {tgt : Nat} (X : CallFix p m c cc nL s args big own) (hG : GX Γ s s.heap) (hi : i < 6) (hj : j < 6) (hdg : decode cc pc = .ok (.if_acmp .eq off, 3)) (ht : (pc : Int) + off = (tgt : Int)) (kt : i = j → W p l e R s m args below meth c H locs cells slots Q (F0 m tgt ls rest)) (kf : ¬ i = j → W p l e R s m args below meth c H locs cells slots Q (F0 m (pc + 3) ls rest)) : W p l e R s m args below meth c H locs cells slots Q (F0 m pc ls (.ref (Γ.2.2.2.1 j) :: .ref (Γ.2.2.2.1 i) :: rest)) :=
  lv_acmp_eq (rx := some (Γ.2.2.2.1 i)) (ry := some (Γ.2.2.2.1 j)) X.1 X.2.1 hdg ht (fun z => kt ((GX_E hG).2 i j hi hj (Option.some.inj z))) (fun z => kf (fun q => z (by rw [q])))
theorem x_acmp_ne {i j : Nat} {off : Int} {tgt : Nat} (X : CallFix p m c cc nL s args big own) (hG : GX Γ s s.heap) (hi : i < 6) (hj : j < 6) (hdg : decode cc pc = .ok (.if_acmp .ne off, 3)) (ht : (pc : Int) + off = (tgt : Int)) (kt : ¬ i = j → W p l e R s m args below meth c H locs cells slots Q (F0 m tgt ls rest)) (kf : i = j → W p l e R s m args below meth c H locs cells slots Q (F0 m (pc + 3) ls rest)) : W p l e R s m args below meth c H locs cells slots Q (F0 m pc ls (.ref (Γ.2.2.2.1 j) :: .ref (Γ.2.2.2.1 i) :: rest)) :=
  lv_acmp_ne (rx := some (Γ.2.2.2.1 i)) (ry := some (Γ.2.2.2.1 j)) X.1 X.2.1 hdg ht (fun z => kt (fun q => z (by rw [q]))) (fun z => kf ((GX_E hG).2 i j hi hj (Option.some.inj z)))
theorem x_ifnull {o : Option Nat} {off : Int} {tgt : Nat} (X : CallFix p m c cc nL s args big own) (hdg : decode cc pc = .ok (.ifnull off, 3)) (ht : (pc : Int) + off = (tgt : Int)) (kt : o = none → W p l e R s m args below meth c H locs cells slots Q (F0 m tgt ls rest)) (kf : ∀ x, o = some x → W p l e R s m args below meth c H locs cells slots Q (F0 m (pc + 3) ls rest)) : W p l e R s m args below meth c H locs cells slots Q (F0 m pc ls (va_rf (Option.map θ.2 o) :: rest)) := by
  cases o with
  | none => exact lv_ifnullN X.1 X.2.1 hdg ht (kt rfl)
  | some x => exact lv_ifnull X.1 X.2.1 hdg (kf x rfl)
theorem x_ifnonnull {o : Option Nat} {off : Int} {tgt : Nat} (X : CallFix p m c cc nL s args big own) (hdg : decode cc pc = .ok (.ifnonnull off, 3)) (ht : (pc : Int) + off = (tgt : Int)) (kt : ∀ x, o = some x → W p l e R s m args below meth c H locs cells slots Q (F0 m tgt ls rest)) (kf : o = none → W p l e R s m args below meth c H locs cells slots Q (F0 m (pc + 3) ls rest)) : W p l e R s m args below meth c H locs cells slots Q (F0 m pc ls (va_rf (Option.map θ.2 o) :: rest)) := by
  cases o with
  | none => exact lv_ifnonnullN X.1 X.2.1 hdg (kf rfl)
  | some x => exact lv_ifnonnull X.1 X.2.1 hdg ht (kt x rfl)
end XA
theorem rf_nar {C : String} (r : Option Nat) : narrow (.object C) (va_rf r) = va_rf r := by cases r <;> rfl
theorem rf_fit {C : String} (r : Option Nat) : fits (.object C) (va_rf r) = true := by cases r <;> rfl
theorem thX_TR3 {θ : Th} {S : Sg} {j : Nat} {v : Int32} (i : Nat) : thX θ (sR S 3 j v) i = if i = j then (θ.2 j, .inr (5, ([.int (S.1 3 j), .int (S.1 4 j), va_rf (Option.map θ.2 (S.2 j)), .int (S.1 6 j)] : List Value).set 0 (.int v))) else thX θ S i := by
  by_cases h : i = j
  · subst h; simp [thX, sR, uu, upd]
  · simp [thX, sR, uu, upd, h]
theorem thX_TR4 {θ : Th} {S : Sg} {j : Nat} {v : Int32} (i : Nat) : thX θ (sR S 4 j v) i = if i = j then (θ.2 j, .inr (5, ([.int (S.1 3 j), .int (S.1 4 j), va_rf (Option.map θ.2 (S.2 j)), .int (S.1 6 j)] : List Value).set 1 (.int v))) else thX θ S i := by
  by_cases h : i = j
  · subst h; simp [thX, sR, uu, upd]
  · simp [thX, sR, uu, upd, h]
theorem fx_sC {Γ : Gm} {θ : Th} {ρ : Rh} {S : Sg} {j : Nat} {o : Option Nat} (h : j < 300) : fxX Γ θ ρ (sC S j o) = fxX Γ θ ρ S := by
  have h0 : (sC S j o).2 300 = S.2 300 := if_neg (by omega)
  have h1 : (sC S j o).2 301 = S.2 301 := if_neg (by omega)
  have h2 : (sC S j o).2 302 = S.2 302 := if_neg (by omega)
  unfold fxX
  rw [h0, h1, h2]
  rfl
theorem WX_c {Γ : Gm} {θ : Th} {ρ : Rh} {S : Sg} {Z : va_W} {k : Nat} {o : Option Nat} (h : 300 ≤ k) : WX Γ θ ρ (sC S k o) Z = fxX Γ θ ρ (sC S k o) ++ (pz 300 (thX θ S) ++ (pz ρ.2.1 (noX ρ) ++ Z)) := by
  unfold WX
  rw [pz_congr (f := thX θ (sC S k o)) (g := thX θ S) (fun i hi => ?_)]
  have h0 : (sC S k o).2 i = S.2 i := if_neg (by omega)
  unfold thX
  rw [h0]
  rfl
theorem thX_TC {θ : Th} {S : Sg} {j : Nat} {o : Option Nat} (i : Nat) : thX θ (sC S j o) i = if i = j then (θ.2 j, .inr (5, ([.int (S.1 3 j), .int (S.1 4 j), va_rf (Option.map θ.2 (S.2 j)), .int (S.1 6 j)] : List Value).set 2 (va_rf (Option.map θ.2 o)))) else thX θ S i := by
  by_cases h : i = j
  · subst h; simp [thX, sC, va_up]
  · simp [thX, sC, va_up, h]
theorem thX_TR6 {θ : Th} {S : Sg} {j : Nat} {v : Int32} (i : Nat) : thX θ (sR S 6 j v) i = if i = j then (θ.2 j, .inr (5, ([.int (S.1 3 j), .int (S.1 4 j), va_rf (Option.map θ.2 (S.2 j)), .int (S.1 6 j)] : List Value).set 3 (.int v))) else thX θ S i := by
  by_cases h : i = j
  · subst h; simp [thX, sR, uu, upd]
  · simp [thX, sR, uu, upd, h]
