theorem fits_0 {post : Int32 → Sg → Prop} {ρ : Rh} {S : Sg} {a b q : Int32} (h : post (1 : Int32) S) : wxP_fits post ρ S (nI 0) a b q := ⟨(fun z => absurd z (by decide)), (fun _ => h), (fun z => absurd z (by decide)), (fun z => absurd z (by decide)), (fun z => absurd z (by decide)), (fun z => absurd z (by decide)), (fun z => absurd z (by decide)), (fun z => absurd z (by decide)), (fun z => absurd z (by decide)), (fun z => absurd z (by decide)), (fun z => absurd z (by decide)), (fun z => absurd z (by decide)), (fun z => absurd z (by decide)), (fun z => absurd z (by decide)), (fun z => absurd z (by decide)), (fun z => absurd z (by decide)), (fun z => absurd z (by decide)), (fun z => absurd z (by decide)), (fun z => absurd z (by decide)), (fun z => absurd z (by decide)), (fun z => absurd z (by decide)), (fun z => absurd z (by decide)), (fun z => absurd z (by decide)), (fun z => absurd z (by decide))⟩
theorem fits_1 {post : Int32 → Sg → Prop} {ρ : Rh} {S : Sg} {a b q : Int32} (h : wxP_isVariable (fun r4 S5 => (r4 = 0 ∨ r4 = 1) ∧ post r4 S5) ρ S a) : wxP_fits post ρ S (nI 1) a b q := ⟨(fun z => absurd z (by decide)), (fun z => absurd z (by decide)), (fun _ => h), (fun z => absurd z (by decide)), (fun z => absurd z (by decide)), (fun z => absurd z (by decide)), (fun z => absurd z (by decide)), (fun z => absurd z (by decide)), (fun z => absurd z (by decide)), (fun z => absurd z (by decide)), (fun z => absurd z (by decide)), (fun z => absurd z (by decide)), (fun z => absurd z (by decide)), (fun z => absurd z (by decide)), (fun z => absurd z (by decide)), (fun z => absurd z (by decide)), (fun z => absurd z (by decide)), (fun z => absurd z (by decide)), (fun z => absurd z (by decide)), (fun z => absurd z (by decide)), (fun z => absurd z (by decide)), (fun z => absurd z (by decide)), (fun z => absurd z (by decide)), (fun z => absurd z (by decide))⟩
theorem fits_2 {post : Int32 → Sg → Prop} {ρ : Rh} {S : Sg} {a b q : Int32} (h : wxP_isVariable (fun r7 S8 => (r7 = 0 ∨ r7 = 1) ∧ post r7 S8) ρ S a) : wxP_fits post ρ S (nI 2) a b q := ⟨(fun z => absurd z (by decide)), (fun z => absurd z (by decide)), (fun z => absurd z (by decide)), (fun _ => h), (fun z => absurd z (by decide)), (fun z => absurd z (by decide)), (fun z => absurd z (by decide)), (fun z => absurd z (by decide)), (fun z => absurd z (by decide)), (fun z => absurd z (by decide)), (fun z => absurd z (by decide)), (fun z => absurd z (by decide)), (fun z => absurd z (by decide)), (fun z => absurd z (by decide)), (fun z => absurd z (by decide)), (fun z => absurd z (by decide)), (fun z => absurd z (by decide)), (fun z => absurd z (by decide)), (fun z => absurd z (by decide)), (fun z => absurd z (by decide)), (fun z => absurd z (by decide)), (fun z => absurd z (by decide)), (fun z => absurd z (by decide)), (fun z => absurd z (by decide))⟩
theorem fits_3 {post : Int32 → Sg → Prop} {ρ : Rh} {S : Sg} {a b q : Int32} (h : wxP_isVariable (fun r10 S11 => (r10 = 0 ∨ r10 = 1) ∧ post r10 S11) ρ S a) : wxP_fits post ρ S (nI 3) a b q := ⟨(fun z => absurd z (by decide)), (fun z => absurd z (by decide)), (fun z => absurd z (by decide)), (fun z => absurd z (by decide)), (fun _ => h), (fun z => absurd z (by decide)), (fun z => absurd z (by decide)), (fun z => absurd z (by decide)), (fun z => absurd z (by decide)), (fun z => absurd z (by decide)), (fun z => absurd z (by decide)), (fun z => absurd z (by decide)), (fun z => absurd z (by decide)), (fun z => absurd z (by decide)), (fun z => absurd z (by decide)), (fun z => absurd z (by decide)), (fun z => absurd z (by decide)), (fun z => absurd z (by decide)), (fun z => absurd z (by decide)), (fun z => absurd z (by decide)), (fun z => absurd z (by decide)), (fun z => absurd z (by decide)), (fun z => absurd z (by decide)), (fun z => absurd z (by decide))⟩
theorem fits_4 {post : Int32 → Sg → Prop} {ρ : Rh} {S : Sg} {a b q : Int32} (h : wxP_isNode (fun r13 S14 => ((r13 = (0 : Int32)) → post (0 : Int32) S14) ∧ ((¬ (r13 = (0 : Int32))) → wxP_isNode (fun r16 S17 => ((r16 = (0 : Int32)) → post (0 : Int32) S17) ∧ ((¬ (r16 = (0 : Int32))) → post (1 : Int32) S17)) ρ S14 b)) ρ S a) : wxP_fits post ρ S (nI 4) a b q := ⟨(fun z => absurd z (by decide)), (fun z => absurd z (by decide)), (fun z => absurd z (by decide)), (fun z => absurd z (by decide)), (fun z => absurd z (by decide)), (fun _ => h), (fun z => absurd z (by decide)), (fun z => absurd z (by decide)), (fun z => absurd z (by decide)), (fun z => absurd z (by decide)), (fun z => absurd z (by decide)), (fun z => absurd z (by decide)), (fun z => absurd z (by decide)), (fun z => absurd z (by decide)), (fun z => absurd z (by decide)), (fun z => absurd z (by decide)), (fun z => absurd z (by decide)), (fun z => absurd z (by decide)), (fun z => absurd z (by decide)), (fun z => absurd z (by decide)), (fun z => absurd z (by decide)), (fun z => absurd z (by decide)), (fun z => absurd z (by decide)), (fun z => absurd z (by decide))⟩
theorem fits_5 {post : Int32 → Sg → Prop} {ρ : Rh} {S : Sg} {a b q : Int32} (h : wxP_isVariable (fun r19 S20 => ((r19 = (0 : Int32)) → post (0 : Int32) S20) ∧ ((¬ (r19 = (0 : Int32))) → wxP_isNode (fun r22 S23 => ((r22 = (0 : Int32)) → post (0 : Int32) S23) ∧ ((¬ (r22 = (0 : Int32))) → ((q = (-1 : Int32)) → post (1 : Int32) S23) ∧ ((¬ (q = (-1 : Int32))) → wxP_isNode (fun r26 S27 => ((r26 = (0 : Int32)) → post (0 : Int32) S27) ∧ ((¬ (r26 = (0 : Int32))) → post (1 : Int32) S27)) ρ S23 q))) ρ S20 b)) ρ S a) : wxP_fits post ρ S (nI 5) a b q := ⟨(fun z => absurd z (by decide)), (fun z => absurd z (by decide)), (fun z => absurd z (by decide)), (fun z => absurd z (by decide)), (fun z => absurd z (by decide)), (fun z => absurd z (by decide)), (fun _ => h), (fun z => absurd z (by decide)), (fun z => absurd z (by decide)), (fun z => absurd z (by decide)), (fun z => absurd z (by decide)), (fun z => absurd z (by decide)), (fun z => absurd z (by decide)), (fun z => absurd z (by decide)), (fun z => absurd z (by decide)), (fun z => absurd z (by decide)), (fun z => absurd z (by decide)), (fun z => absurd z (by decide)), (fun z => absurd z (by decide)), (fun z => absurd z (by decide)), (fun z => absurd z (by decide)), (fun z => absurd z (by decide)), (fun z => absurd z (by decide)), (fun z => absurd z (by decide))⟩
theorem fits_6 {post : Int32 → Sg → Prop} {ρ : Rh} {S : Sg} {a b q : Int32} (h : ((a < (1 : Int32)) → post (0 : Int32) S) ∧ ((¬ (a < (1 : Int32))) → (((8 : Int32) < a) → post (0 : Int32) S) ∧ ((¬ ((8 : Int32) < a)) → wxP_isNode (fun r31 S32 => ((r31 = (0 : Int32)) → post (0 : Int32) S32) ∧ ((¬ (r31 = (0 : Int32))) → post (1 : Int32) S32)) ρ S b))) : wxP_fits post ρ S (nI 6) a b q := ⟨(fun z => absurd z (by decide)), (fun z => absurd z (by decide)), (fun z => absurd z (by decide)), (fun z => absurd z (by decide)), (fun z => absurd z (by decide)), (fun z => absurd z (by decide)), (fun z => absurd z (by decide)), (fun _ => h), (fun z => absurd z (by decide)), (fun z => absurd z (by decide)), (fun z => absurd z (by decide)), (fun z => absurd z (by decide)), (fun z => absurd z (by decide)), (fun z => absurd z (by decide)), (fun z => absurd z (by decide)), (fun z => absurd z (by decide)), (fun z => absurd z (by decide)), (fun z => absurd z (by decide)), (fun z => absurd z (by decide)), (fun z => absurd z (by decide)), (fun z => absurd z (by decide)), (fun z => absurd z (by decide)), (fun z => absurd z (by decide)), (fun z => absurd z (by decide))⟩
theorem fits_7 {post : Int32 → Sg → Prop} {ρ : Rh} {S : Sg} {a b q : Int32} (h : post (1 : Int32) S) : wxP_fits post ρ S (nI 7) a b q := ⟨(fun z => absurd z (by decide)), (fun z => absurd z (by decide)), (fun z => absurd z (by decide)), (fun z => absurd z (by decide)), (fun z => absurd z (by decide)), (fun z => absurd z (by decide)), (fun z => absurd z (by decide)), (fun z => absurd z (by decide)), (fun _ => h), (fun z => absurd z (by decide)), (fun z => absurd z (by decide)), (fun z => absurd z (by decide)), (fun z => absurd z (by decide)), (fun z => absurd z (by decide)), (fun z => absurd z (by decide)), (fun z => absurd z (by decide)), (fun z => absurd z (by decide)), (fun z => absurd z (by decide)), (fun z => absurd z (by decide)), (fun z => absurd z (by decide)), (fun z => absurd z (by decide)), (fun z => absurd z (by decide)), (fun z => absurd z (by decide)), (fun z => absurd z (by decide))⟩
theorem fits_8 {post : Int32 → Sg → Prop} {ρ : Rh} {S : Sg} {a b q : Int32} (h : wxP_isVariable (fun r34 S35 => (r34 = 0 ∨ r34 = 1) ∧ post r34 S35) ρ S a) : wxP_fits post ρ S (nI 8) a b q := ⟨(fun z => absurd z (by decide)), (fun z => absurd z (by decide)), (fun z => absurd z (by decide)), (fun z => absurd z (by decide)), (fun z => absurd z (by decide)), (fun z => absurd z (by decide)), (fun z => absurd z (by decide)), (fun z => absurd z (by decide)), (fun z => absurd z (by decide)), (fun _ => h), (fun z => absurd z (by decide)), (fun z => absurd z (by decide)), (fun z => absurd z (by decide)), (fun z => absurd z (by decide)), (fun z => absurd z (by decide)), (fun z => absurd z (by decide)), (fun z => absurd z (by decide)), (fun z => absurd z (by decide)), (fun z => absurd z (by decide)), (fun z => absurd z (by decide)), (fun z => absurd z (by decide)), (fun z => absurd z (by decide)), (fun z => absurd z (by decide)), (fun z => absurd z (by decide))⟩
theorem fits_9 {post : Int32 → Sg → Prop} {ρ : Rh} {S : Sg} {a b q : Int32} (h : wxP_isRoutine (fun r37 S38 => (r37 = 0 ∨ r37 = 1) ∧ post r37 S38) ρ S a) : wxP_fits post ρ S (nI 9) a b q := ⟨(fun z => absurd z (by decide)), (fun z => absurd z (by decide)), (fun z => absurd z (by decide)), (fun z => absurd z (by decide)), (fun z => absurd z (by decide)), (fun z => absurd z (by decide)), (fun z => absurd z (by decide)), (fun z => absurd z (by decide)), (fun z => absurd z (by decide)), (fun z => absurd z (by decide)), (fun _ => h), (fun z => absurd z (by decide)), (fun z => absurd z (by decide)), (fun z => absurd z (by decide)), (fun z => absurd z (by decide)), (fun z => absurd z (by decide)), (fun z => absurd z (by decide)), (fun z => absurd z (by decide)), (fun z => absurd z (by decide)), (fun z => absurd z (by decide)), (fun z => absurd z (by decide)), (fun z => absurd z (by decide)), (fun z => absurd z (by decide)), (fun z => absurd z (by decide))⟩
theorem fits_10 {post : Int32 → Sg → Prop} {ρ : Rh} {S : Sg} {a b q : Int32} (h : wxC_has (fun r40 S41 => (r40 = 0 ∨ r40 = 1) ∧ post r40 S41) ρ S a) : wxP_fits post ρ S (nI 10) a b q := ⟨(fun z => absurd z (by decide)), (fun z => absurd z (by decide)), (fun z => absurd z (by decide)), (fun z => absurd z (by decide)), (fun z => absurd z (by decide)), (fun z => absurd z (by decide)), (fun z => absurd z (by decide)), (fun z => absurd z (by decide)), (fun z => absurd z (by decide)), (fun z => absurd z (by decide)), (fun z => absurd z (by decide)), (fun _ => h), (fun z => absurd z (by decide)), (fun z => absurd z (by decide)), (fun z => absurd z (by decide)), (fun z => absurd z (by decide)), (fun z => absurd z (by decide)), (fun z => absurd z (by decide)), (fun z => absurd z (by decide)), (fun z => absurd z (by decide)), (fun z => absurd z (by decide)), (fun z => absurd z (by decide)), (fun z => absurd z (by decide)), (fun z => absurd z (by decide))⟩
theorem fits_11 {post : Int32 → Sg → Prop} {ρ : Rh} {S : Sg} {a b q : Int32} (h : post (1 : Int32) S) : wxP_fits post ρ S (nI 11) a b q := ⟨(fun z => absurd z (by decide)), (fun z => absurd z (by decide)), (fun z => absurd z (by decide)), (fun z => absurd z (by decide)), (fun z => absurd z (by decide)), (fun z => absurd z (by decide)), (fun z => absurd z (by decide)), (fun z => absurd z (by decide)), (fun z => absurd z (by decide)), (fun z => absurd z (by decide)), (fun z => absurd z (by decide)), (fun z => absurd z (by decide)), (fun _ => h), (fun z => absurd z (by decide)), (fun z => absurd z (by decide)), (fun z => absurd z (by decide)), (fun z => absurd z (by decide)), (fun z => absurd z (by decide)), (fun z => absurd z (by decide)), (fun z => absurd z (by decide)), (fun z => absurd z (by decide)), (fun z => absurd z (by decide)), (fun z => absurd z (by decide)), (fun z => absurd z (by decide))⟩
theorem fits_12 {post : Int32 → Sg → Prop} {ρ : Rh} {S : Sg} {a b q : Int32} (h : wxC_has (fun r43 S44 => (r43 = 0 ∨ r43 = 1) ∧ post r43 S44) ρ S a) : wxP_fits post ρ S (nI 12) a b q := ⟨(fun z => absurd z (by decide)), (fun z => absurd z (by decide)), (fun z => absurd z (by decide)), (fun z => absurd z (by decide)), (fun z => absurd z (by decide)), (fun z => absurd z (by decide)), (fun z => absurd z (by decide)), (fun z => absurd z (by decide)), (fun z => absurd z (by decide)), (fun z => absurd z (by decide)), (fun z => absurd z (by decide)), (fun z => absurd z (by decide)), (fun z => absurd z (by decide)), (fun _ => h), (fun z => absurd z (by decide)), (fun z => absurd z (by decide)), (fun z => absurd z (by decide)), (fun z => absurd z (by decide)), (fun z => absurd z (by decide)), (fun z => absurd z (by decide)), (fun z => absurd z (by decide)), (fun z => absurd z (by decide)), (fun z => absurd z (by decide)), (fun z => absurd z (by decide))⟩
theorem fits_13 {post : Int32 → Sg → Prop} {ρ : Rh} {S : Sg} {a b q : Int32} (h : wxP_isNode (fun r46 S47 => ((r46 = (0 : Int32)) → post (0 : Int32) S47) ∧ ((¬ (r46 = (0 : Int32))) → wxC_has (fun r49 S50 => ((r49 = (0 : Int32)) → post (0 : Int32) S50) ∧ ((¬ (r49 = (0 : Int32))) → wxP_isNode (fun r52 S53 => ((r52 = (0 : Int32)) → post (0 : Int32) S53) ∧ ((¬ (r52 = (0 : Int32))) → post (1 : Int32) S53)) ρ S50 q)) ρ S47 b)) ρ S a) : wxP_fits post ρ S (nI 13) a b q := ⟨(fun z => absurd z (by decide)), (fun z => absurd z (by decide)), (fun z => absurd z (by decide)), (fun z => absurd z (by decide)), (fun z => absurd z (by decide)), (fun z => absurd z (by decide)), (fun z => absurd z (by decide)), (fun z => absurd z (by decide)), (fun z => absurd z (by decide)), (fun z => absurd z (by decide)), (fun z => absurd z (by decide)), (fun z => absurd z (by decide)), (fun z => absurd z (by decide)), (fun z => absurd z (by decide)), (fun _ => h), (fun z => absurd z (by decide)), (fun z => absurd z (by decide)), (fun z => absurd z (by decide)), (fun z => absurd z (by decide)), (fun z => absurd z (by decide)), (fun z => absurd z (by decide)), (fun z => absurd z (by decide)), (fun z => absurd z (by decide)), (fun z => absurd z (by decide))⟩
theorem fits_14 {post : Int32 → Sg → Prop} {ρ : Rh} {S : Sg} {a b q : Int32} (h : wxP_isNode (fun r55 S56 => ((r55 = (0 : Int32)) → post (0 : Int32) S56) ∧ ((¬ (r55 = (0 : Int32))) → wxP_isNode (fun r58 S59 => ((r58 = (0 : Int32)) → post (0 : Int32) S59) ∧ ((¬ (r58 = (0 : Int32))) → post (1 : Int32) S59)) ρ S56 b)) ρ S a) : wxP_fits post ρ S (nI 14) a b q := ⟨(fun z => absurd z (by decide)), (fun z => absurd z (by decide)), (fun z => absurd z (by decide)), (fun z => absurd z (by decide)), (fun z => absurd z (by decide)), (fun z => absurd z (by decide)), (fun z => absurd z (by decide)), (fun z => absurd z (by decide)), (fun z => absurd z (by decide)), (fun z => absurd z (by decide)), (fun z => absurd z (by decide)), (fun z => absurd z (by decide)), (fun z => absurd z (by decide)), (fun z => absurd z (by decide)), (fun z => absurd z (by decide)), (fun _ => h), (fun z => absurd z (by decide)), (fun z => absurd z (by decide)), (fun z => absurd z (by decide)), (fun z => absurd z (by decide)), (fun z => absurd z (by decide)), (fun z => absurd z (by decide)), (fun z => absurd z (by decide)), (fun z => absurd z (by decide))⟩
theorem fits_15 {post : Int32 → Sg → Prop} {ρ : Rh} {S : Sg} {a b q : Int32} (h : wxP_isNode (fun r61 S62 => ((r61 = (0 : Int32)) → post (0 : Int32) S62) ∧ ((¬ (r61 = (0 : Int32))) → wxP_isNode (fun r64 S65 => ((r64 = (0 : Int32)) → post (0 : Int32) S65) ∧ ((¬ (r64 = (0 : Int32))) → post (1 : Int32) S65)) ρ S62 b)) ρ S a) : wxP_fits post ρ S (nI 15) a b q := ⟨(fun z => absurd z (by decide)), (fun z => absurd z (by decide)), (fun z => absurd z (by decide)), (fun z => absurd z (by decide)), (fun z => absurd z (by decide)), (fun z => absurd z (by decide)), (fun z => absurd z (by decide)), (fun z => absurd z (by decide)), (fun z => absurd z (by decide)), (fun z => absurd z (by decide)), (fun z => absurd z (by decide)), (fun z => absurd z (by decide)), (fun z => absurd z (by decide)), (fun z => absurd z (by decide)), (fun z => absurd z (by decide)), (fun z => absurd z (by decide)), (fun _ => h), (fun z => absurd z (by decide)), (fun z => absurd z (by decide)), (fun z => absurd z (by decide)), (fun z => absurd z (by decide)), (fun z => absurd z (by decide)), (fun z => absurd z (by decide)), (fun z => absurd z (by decide))⟩
theorem fits_16 {post : Int32 → Sg → Prop} {ρ : Rh} {S : Sg} {a b q : Int32} (h : wxP_isVariable (fun r67 S68 => ((r67 = (0 : Int32)) → post (0 : Int32) S68) ∧ ((¬ (r67 = (0 : Int32))) → wxP_isVariable (fun r70 S71 => ((r70 = (0 : Int32)) → post (0 : Int32) S71) ∧ ((¬ (r70 = (0 : Int32))) → post (1 : Int32) S71)) ρ S68 b)) ρ S a) : wxP_fits post ρ S (nI 16) a b q := ⟨(fun z => absurd z (by decide)), (fun z => absurd z (by decide)), (fun z => absurd z (by decide)), (fun z => absurd z (by decide)), (fun z => absurd z (by decide)), (fun z => absurd z (by decide)), (fun z => absurd z (by decide)), (fun z => absurd z (by decide)), (fun z => absurd z (by decide)), (fun z => absurd z (by decide)), (fun z => absurd z (by decide)), (fun z => absurd z (by decide)), (fun z => absurd z (by decide)), (fun z => absurd z (by decide)), (fun z => absurd z (by decide)), (fun z => absurd z (by decide)), (fun z => absurd z (by decide)), (fun _ => h), (fun z => absurd z (by decide)), (fun z => absurd z (by decide)), (fun z => absurd z (by decide)), (fun z => absurd z (by decide)), (fun z => absurd z (by decide)), (fun z => absurd z (by decide))⟩
theorem fits_17 {post : Int32 → Sg → Prop} {ρ : Rh} {S : Sg} {a b q : Int32} (h : wxP_isVariable (fun r73 S74 => ((r73 = (0 : Int32)) → post (0 : Int32) S74) ∧ ((¬ (r73 = (0 : Int32))) → ((b < (0 : Int32)) → post (0 : Int32) S74) ∧ ((¬ (b < (0 : Int32))) → (((4 : Int32) < b) → post (0 : Int32) S74) ∧ ((¬ ((4 : Int32) < b)) → post (1 : Int32) S74)))) ρ S a) : wxP_fits post ρ S (nI 17) a b q := ⟨(fun z => absurd z (by decide)), (fun z => absurd z (by decide)), (fun z => absurd z (by decide)), (fun z => absurd z (by decide)), (fun z => absurd z (by decide)), (fun z => absurd z (by decide)), (fun z => absurd z (by decide)), (fun z => absurd z (by decide)), (fun z => absurd z (by decide)), (fun z => absurd z (by decide)), (fun z => absurd z (by decide)), (fun z => absurd z (by decide)), (fun z => absurd z (by decide)), (fun z => absurd z (by decide)), (fun z => absurd z (by decide)), (fun z => absurd z (by decide)), (fun z => absurd z (by decide)), (fun z => absurd z (by decide)), (fun _ => h), (fun z => absurd z (by decide)), (fun z => absurd z (by decide)), (fun z => absurd z (by decide)), (fun z => absurd z (by decide)), (fun z => absurd z (by decide))⟩
theorem fits_18 {post : Int32 → Sg → Prop} {ρ : Rh} {S : Sg} {a b q : Int32} (h : wxC_has (fun r78 S79 => (r78 = 0 ∨ r78 = 1) ∧ post r78 S79) ρ S a) : wxP_fits post ρ S (nI 18) a b q := ⟨(fun z => absurd z (by decide)), (fun z => absurd z (by decide)), (fun z => absurd z (by decide)), (fun z => absurd z (by decide)), (fun z => absurd z (by decide)), (fun z => absurd z (by decide)), (fun z => absurd z (by decide)), (fun z => absurd z (by decide)), (fun z => absurd z (by decide)), (fun z => absurd z (by decide)), (fun z => absurd z (by decide)), (fun z => absurd z (by decide)), (fun z => absurd z (by decide)), (fun z => absurd z (by decide)), (fun z => absurd z (by decide)), (fun z => absurd z (by decide)), (fun z => absurd z (by decide)), (fun z => absurd z (by decide)), (fun z => absurd z (by decide)), (fun _ => h), (fun z => absurd z (by decide)), (fun z => absurd z (by decide)), (fun z => absurd z (by decide)), (fun z => absurd z (by decide))⟩
theorem fits_19 {post : Int32 → Sg → Prop} {ρ : Rh} {S : Sg} {a b q : Int32} (h : wxP_isVariable (fun r81 S82 => (r81 = 0 ∨ r81 = 1) ∧ post r81 S82) ρ S a) : wxP_fits post ρ S (nI 19) a b q := ⟨(fun z => absurd z (by decide)), (fun z => absurd z (by decide)), (fun z => absurd z (by decide)), (fun z => absurd z (by decide)), (fun z => absurd z (by decide)), (fun z => absurd z (by decide)), (fun z => absurd z (by decide)), (fun z => absurd z (by decide)), (fun z => absurd z (by decide)), (fun z => absurd z (by decide)), (fun z => absurd z (by decide)), (fun z => absurd z (by decide)), (fun z => absurd z (by decide)), (fun z => absurd z (by decide)), (fun z => absurd z (by decide)), (fun z => absurd z (by decide)), (fun z => absurd z (by decide)), (fun z => absurd z (by decide)), (fun z => absurd z (by decide)), (fun z => absurd z (by decide)), (fun _ => h), (fun z => absurd z (by decide)), (fun z => absurd z (by decide)), (fun z => absurd z (by decide))⟩
theorem fits_20 {post : Int32 → Sg → Prop} {ρ : Rh} {S : Sg} {a b q : Int32} (h : wxP_isMonitor (fun r84 S85 => ((r84 = (0 : Int32)) → post (0 : Int32) S85) ∧ ((¬ (r84 = (0 : Int32))) → wxP_isNode (fun r87 S88 => ((r87 = (0 : Int32)) → post (0 : Int32) S88) ∧ ((¬ (r87 = (0 : Int32))) → post (1 : Int32) S88)) ρ S85 b)) ρ S a) : wxP_fits post ρ S (nI 20) a b q := ⟨(fun z => absurd z (by decide)), (fun z => absurd z (by decide)), (fun z => absurd z (by decide)), (fun z => absurd z (by decide)), (fun z => absurd z (by decide)), (fun z => absurd z (by decide)), (fun z => absurd z (by decide)), (fun z => absurd z (by decide)), (fun z => absurd z (by decide)), (fun z => absurd z (by decide)), (fun z => absurd z (by decide)), (fun z => absurd z (by decide)), (fun z => absurd z (by decide)), (fun z => absurd z (by decide)), (fun z => absurd z (by decide)), (fun z => absurd z (by decide)), (fun z => absurd z (by decide)), (fun z => absurd z (by decide)), (fun z => absurd z (by decide)), (fun z => absurd z (by decide)), (fun z => absurd z (by decide)), (fun _ => h), (fun z => absurd z (by decide)), (fun z => absurd z (by decide))⟩
theorem fits_21 {post : Int32 → Sg → Prop} {ρ : Rh} {S : Sg} {a b q : Int32} (h : wxP_isMonitor (fun r90 S91 => (r90 = 0 ∨ r90 = 1) ∧ post r90 S91) ρ S a) : wxP_fits post ρ S (nI 21) a b q := ⟨(fun z => absurd z (by decide)), (fun z => absurd z (by decide)), (fun z => absurd z (by decide)), (fun z => absurd z (by decide)), (fun z => absurd z (by decide)), (fun z => absurd z (by decide)), (fun z => absurd z (by decide)), (fun z => absurd z (by decide)), (fun z => absurd z (by decide)), (fun z => absurd z (by decide)), (fun z => absurd z (by decide)), (fun z => absurd z (by decide)), (fun z => absurd z (by decide)), (fun z => absurd z (by decide)), (fun z => absurd z (by decide)), (fun z => absurd z (by decide)), (fun z => absurd z (by decide)), (fun z => absurd z (by decide)), (fun z => absurd z (by decide)), (fun z => absurd z (by decide)), (fun z => absurd z (by decide)), (fun z => absurd z (by decide)), (fun _ => h), (fun z => absurd z (by decide))⟩
theorem fits_22 {post : Int32 → Sg → Prop} {ρ : Rh} {S : Sg} {a b q : Int32} (h : post (1 : Int32) S) : wxP_fits post ρ S (nI 22) a b q := ⟨(fun z => absurd z (by decide)), (fun z => absurd z (by decide)), (fun z => absurd z (by decide)), (fun z => absurd z (by decide)), (fun z => absurd z (by decide)), (fun z => absurd z (by decide)), (fun z => absurd z (by decide)), (fun z => absurd z (by decide)), (fun z => absurd z (by decide)), (fun z => absurd z (by decide)), (fun z => absurd z (by decide)), (fun z => absurd z (by decide)), (fun z => absurd z (by decide)), (fun z => absurd z (by decide)), (fun z => absurd z (by decide)), (fun z => absurd z (by decide)), (fun z => absurd z (by decide)), (fun z => absurd z (by decide)), (fun z => absurd z (by decide)), (fun z => absurd z (by decide)), (fun z => absurd z (by decide)), (fun z => absurd z (by decide)), (fun z => absurd z (by decide)), (fun _ => h)⟩
theorem levelOf_4 {post : Int32 → Sg → Prop} {ρ : Rh} {S : Sg} {a b q : Int32} (h : wxP_levelAt (fun r4 S5 => wxP_levelAt (fun r6 S7 => post (1 + (if r4 < r6 then r6 else r4)) S7) ρ S5 b) ρ S a) : wxP_levelOf post ρ S (nI 4) a b q := ⟨(fun z => absurd z (by decide)), (fun _ => h), (fun z => absurd z (by decide)), (fun z => absurd z (by decide)), (fun z => absurd z (by decide)), (fun z => absurd z (by decide)), (fun z => absurd z (by decide)), (fun z => absurd z (by decide)), (fun z => absurd z (by decide)), (fun z => absurd z (by decide)), (fun z => absurd z (by decide)), (fun z => absurd z (by decide)), (fun z => absurd z (by decide)), (fun z => absurd z (by decide)), (fun z => absurd z (by decide)), (fun z => absurd z (by decide)), (fun z => absurd z (by decide)), (fun z => absurd z (by decide))⟩
theorem levelOf_5 {post : Int32 → Sg → Prop} {ρ : Rh} {S : Sg} {a b q : Int32} (h : wxP_levelAt (fun r8 S9 => wxP_levelAt (fun r10 S11 => post (1 + (if r8 < r10 then r10 else r8)) S11) ρ S9 q) ρ S b) : wxP_levelOf post ρ S (nI 5) a b q := ⟨(fun z => absurd z (by decide)), (fun z => absurd z (by decide)), (fun _ => h), (fun z => absurd z (by decide)), (fun z => absurd z (by decide)), (fun z => absurd z (by decide)), (fun z => absurd z (by decide)), (fun z => absurd z (by decide)), (fun z => absurd z (by decide)), (fun z => absurd z (by decide)), (fun z => absurd z (by decide)), (fun z => absurd z (by decide)), (fun z => absurd z (by decide)), (fun z => absurd z (by decide)), (fun z => absurd z (by decide)), (fun z => absurd z (by decide)), (fun z => absurd z (by decide)), (fun z => absurd z (by decide))⟩
theorem levelOf_6 {post : Int32 → Sg → Prop} {ρ : Rh} {S : Sg} {a b q : Int32} (h : wxP_levelAt (fun r12 S13 => post (1 + r12) S13) ρ S b) : wxP_levelOf post ρ S (nI 6) a b q := ⟨(fun z => absurd z (by decide)), (fun z => absurd z (by decide)), (fun z => absurd z (by decide)), (fun _ => h), (fun z => absurd z (by decide)), (fun z => absurd z (by decide)), (fun z => absurd z (by decide)), (fun z => absurd z (by decide)), (fun z => absurd z (by decide)), (fun z => absurd z (by decide)), (fun z => absurd z (by decide)), (fun z => absurd z (by decide)), (fun z => absurd z (by decide)), (fun z => absurd z (by decide)), (fun z => absurd z (by decide)), (fun z => absurd z (by decide)), (fun z => absurd z (by decide)), (fun z => absurd z (by decide))⟩
theorem levelOf_7 {post : Int32 → Sg → Prop} {ρ : Rh} {S : Sg} {a b q : Int32} (h : post (1 : Int32) S) : wxP_levelOf post ρ S (nI 7) a b q := ⟨(fun z => absurd z (by decide)), (fun z => absurd z (by decide)), (fun z => absurd z (by decide)), (fun z => absurd z (by decide)), (fun _ => h), (fun z => absurd z (by decide)), (fun z => absurd z (by decide)), (fun z => absurd z (by decide)), (fun z => absurd z (by decide)), (fun z => absurd z (by decide)), (fun z => absurd z (by decide)), (fun z => absurd z (by decide)), (fun z => absurd z (by decide)), (fun z => absurd z (by decide)), (fun z => absurd z (by decide)), (fun z => absurd z (by decide)), (fun z => absurd z (by decide)), (fun z => absurd z (by decide))⟩
theorem levelOf_8 {post : Int32 → Sg → Prop} {ρ : Rh} {S : Sg} {a b q : Int32} (h : post (1 : Int32) S) : wxP_levelOf post ρ S (nI 8) a b q := ⟨(fun z => absurd z (by decide)), (fun z => absurd z (by decide)), (fun z => absurd z (by decide)), (fun z => absurd z (by decide)), (fun z => absurd z (by decide)), (fun _ => h), (fun z => absurd z (by decide)), (fun z => absurd z (by decide)), (fun z => absurd z (by decide)), (fun z => absurd z (by decide)), (fun z => absurd z (by decide)), (fun z => absurd z (by decide)), (fun z => absurd z (by decide)), (fun z => absurd z (by decide)), (fun z => absurd z (by decide)), (fun z => absurd z (by decide)), (fun z => absurd z (by decide)), (fun z => absurd z (by decide))⟩
theorem levelOf_9 {post : Int32 → Sg → Prop} {ρ : Rh} {S : Sg} {a b q : Int32} (h : post (1 : Int32) S) : wxP_levelOf post ρ S (nI 9) a b q := ⟨(fun z => absurd z (by decide)), (fun z => absurd z (by decide)), (fun z => absurd z (by decide)), (fun z => absurd z (by decide)), (fun z => absurd z (by decide)), (fun z => absurd z (by decide)), (fun _ => h), (fun z => absurd z (by decide)), (fun z => absurd z (by decide)), (fun z => absurd z (by decide)), (fun z => absurd z (by decide)), (fun z => absurd z (by decide)), (fun z => absurd z (by decide)), (fun z => absurd z (by decide)), (fun z => absurd z (by decide)), (fun z => absurd z (by decide)), (fun z => absurd z (by decide)), (fun z => absurd z (by decide))⟩
theorem levelOf_10 {post : Int32 → Sg → Prop} {ρ : Rh} {S : Sg} {a b q : Int32} (h : post (1 : Int32) S) : wxP_levelOf post ρ S (nI 10) a b q := ⟨(fun z => absurd z (by decide)), (fun z => absurd z (by decide)), (fun z => absurd z (by decide)), (fun z => absurd z (by decide)), (fun z => absurd z (by decide)), (fun z => absurd z (by decide)), (fun z => absurd z (by decide)), (fun _ => h), (fun z => absurd z (by decide)), (fun z => absurd z (by decide)), (fun z => absurd z (by decide)), (fun z => absurd z (by decide)), (fun z => absurd z (by decide)), (fun z => absurd z (by decide)), (fun z => absurd z (by decide)), (fun z => absurd z (by decide)), (fun z => absurd z (by decide)), (fun z => absurd z (by decide))⟩
theorem levelOf_11 {post : Int32 → Sg → Prop} {ρ : Rh} {S : Sg} {a b q : Int32} (h : post (1 : Int32) S) : wxP_levelOf post ρ S (nI 11) a b q := ⟨(fun z => absurd z (by decide)), (fun z => absurd z (by decide)), (fun z => absurd z (by decide)), (fun z => absurd z (by decide)), (fun z => absurd z (by decide)), (fun z => absurd z (by decide)), (fun z => absurd z (by decide)), (fun z => absurd z (by decide)), (fun _ => h), (fun z => absurd z (by decide)), (fun z => absurd z (by decide)), (fun z => absurd z (by decide)), (fun z => absurd z (by decide)), (fun z => absurd z (by decide)), (fun z => absurd z (by decide)), (fun z => absurd z (by decide)), (fun z => absurd z (by decide)), (fun z => absurd z (by decide))⟩
theorem levelOf_12 {post : Int32 → Sg → Prop} {ρ : Rh} {S : Sg} {a b q : Int32} (h : post (1 : Int32) S) : wxP_levelOf post ρ S (nI 12) a b q := ⟨(fun z => absurd z (by decide)), (fun z => absurd z (by decide)), (fun z => absurd z (by decide)), (fun z => absurd z (by decide)), (fun z => absurd z (by decide)), (fun z => absurd z (by decide)), (fun z => absurd z (by decide)), (fun z => absurd z (by decide)), (fun z => absurd z (by decide)), (fun _ => h), (fun z => absurd z (by decide)), (fun z => absurd z (by decide)), (fun z => absurd z (by decide)), (fun z => absurd z (by decide)), (fun z => absurd z (by decide)), (fun z => absurd z (by decide)), (fun z => absurd z (by decide)), (fun z => absurd z (by decide))⟩
theorem levelOf_13 {post : Int32 → Sg → Prop} {ρ : Rh} {S : Sg} {a b q : Int32} (h : wxP_levelAt (fun r14 S15 => wxP_levelAt (fun r16 S17 => post (1 + (if r14 < r16 then r16 else r14)) S17) ρ S15 q) ρ S a) : wxP_levelOf post ρ S (nI 13) a b q := ⟨(fun z => absurd z (by decide)), (fun z => absurd z (by decide)), (fun z => absurd z (by decide)), (fun z => absurd z (by decide)), (fun z => absurd z (by decide)), (fun z => absurd z (by decide)), (fun z => absurd z (by decide)), (fun z => absurd z (by decide)), (fun z => absurd z (by decide)), (fun z => absurd z (by decide)), (fun _ => h), (fun z => absurd z (by decide)), (fun z => absurd z (by decide)), (fun z => absurd z (by decide)), (fun z => absurd z (by decide)), (fun z => absurd z (by decide)), (fun z => absurd z (by decide)), (fun z => absurd z (by decide))⟩
theorem levelOf_14 {post : Int32 → Sg → Prop} {ρ : Rh} {S : Sg} {a b q : Int32} (h : wxP_levelAt (fun r18 S19 => wxP_levelAt (fun r20 S21 => post (1 + (if r18 < r20 then r20 else r18)) S21) ρ S19 b) ρ S a) : wxP_levelOf post ρ S (nI 14) a b q := ⟨(fun z => absurd z (by decide)), (fun z => absurd z (by decide)), (fun z => absurd z (by decide)), (fun z => absurd z (by decide)), (fun z => absurd z (by decide)), (fun z => absurd z (by decide)), (fun z => absurd z (by decide)), (fun z => absurd z (by decide)), (fun z => absurd z (by decide)), (fun z => absurd z (by decide)), (fun z => absurd z (by decide)), (fun _ => h), (fun z => absurd z (by decide)), (fun z => absurd z (by decide)), (fun z => absurd z (by decide)), (fun z => absurd z (by decide)), (fun z => absurd z (by decide)), (fun z => absurd z (by decide))⟩
theorem levelOf_15 {post : Int32 → Sg → Prop} {ρ : Rh} {S : Sg} {a b q : Int32} (h : wxP_levelAt (fun r22 S23 => wxP_levelAt (fun r24 S25 => post (1 + (if r22 < r24 then r24 else r22)) S25) ρ S23 b) ρ S a) : wxP_levelOf post ρ S (nI 15) a b q := ⟨(fun z => absurd z (by decide)), (fun z => absurd z (by decide)), (fun z => absurd z (by decide)), (fun z => absurd z (by decide)), (fun z => absurd z (by decide)), (fun z => absurd z (by decide)), (fun z => absurd z (by decide)), (fun z => absurd z (by decide)), (fun z => absurd z (by decide)), (fun z => absurd z (by decide)), (fun z => absurd z (by decide)), (fun z => absurd z (by decide)), (fun _ => h), (fun z => absurd z (by decide)), (fun z => absurd z (by decide)), (fun z => absurd z (by decide)), (fun z => absurd z (by decide)), (fun z => absurd z (by decide))⟩
theorem levelOf_16 {post : Int32 → Sg → Prop} {ρ : Rh} {S : Sg} {a b q : Int32} (h : post (1 : Int32) S) : wxP_levelOf post ρ S (nI 16) a b q := ⟨(fun z => absurd z (by decide)), (fun z => absurd z (by decide)), (fun z => absurd z (by decide)), (fun z => absurd z (by decide)), (fun z => absurd z (by decide)), (fun z => absurd z (by decide)), (fun z => absurd z (by decide)), (fun z => absurd z (by decide)), (fun z => absurd z (by decide)), (fun z => absurd z (by decide)), (fun z => absurd z (by decide)), (fun z => absurd z (by decide)), (fun z => absurd z (by decide)), (fun _ => h), (fun z => absurd z (by decide)), (fun z => absurd z (by decide)), (fun z => absurd z (by decide)), (fun z => absurd z (by decide))⟩
theorem levelOf_17 {post : Int32 → Sg → Prop} {ρ : Rh} {S : Sg} {a b q : Int32} (h : post (1 : Int32) S) : wxP_levelOf post ρ S (nI 17) a b q := ⟨(fun z => absurd z (by decide)), (fun z => absurd z (by decide)), (fun z => absurd z (by decide)), (fun z => absurd z (by decide)), (fun z => absurd z (by decide)), (fun z => absurd z (by decide)), (fun z => absurd z (by decide)), (fun z => absurd z (by decide)), (fun z => absurd z (by decide)), (fun z => absurd z (by decide)), (fun z => absurd z (by decide)), (fun z => absurd z (by decide)), (fun z => absurd z (by decide)), (fun z => absurd z (by decide)), (fun _ => h), (fun z => absurd z (by decide)), (fun z => absurd z (by decide)), (fun z => absurd z (by decide))⟩
theorem levelOf_18 {post : Int32 → Sg → Prop} {ρ : Rh} {S : Sg} {a b q : Int32} (h : post (1 : Int32) S) : wxP_levelOf post ρ S (nI 18) a b q := ⟨(fun z => absurd z (by decide)), (fun z => absurd z (by decide)), (fun z => absurd z (by decide)), (fun z => absurd z (by decide)), (fun z => absurd z (by decide)), (fun z => absurd z (by decide)), (fun z => absurd z (by decide)), (fun z => absurd z (by decide)), (fun z => absurd z (by decide)), (fun z => absurd z (by decide)), (fun z => absurd z (by decide)), (fun z => absurd z (by decide)), (fun z => absurd z (by decide)), (fun z => absurd z (by decide)), (fun z => absurd z (by decide)), (fun _ => h), (fun z => absurd z (by decide)), (fun z => absurd z (by decide))⟩
theorem levelOf_19 {post : Int32 → Sg → Prop} {ρ : Rh} {S : Sg} {a b q : Int32} (h : post (1 : Int32) S) : wxP_levelOf post ρ S (nI 19) a b q := ⟨(fun z => absurd z (by decide)), (fun z => absurd z (by decide)), (fun z => absurd z (by decide)), (fun z => absurd z (by decide)), (fun z => absurd z (by decide)), (fun z => absurd z (by decide)), (fun z => absurd z (by decide)), (fun z => absurd z (by decide)), (fun z => absurd z (by decide)), (fun z => absurd z (by decide)), (fun z => absurd z (by decide)), (fun z => absurd z (by decide)), (fun z => absurd z (by decide)), (fun z => absurd z (by decide)), (fun z => absurd z (by decide)), (fun z => absurd z (by decide)), (fun _ => h), (fun z => absurd z (by decide))⟩
theorem levelOf_20 {post : Int32 → Sg → Prop} {ρ : Rh} {S : Sg} {a b q : Int32} (h : wxP_levelAt (fun r26 S27 => post (1 + r26) S27) ρ S b) : wxP_levelOf post ρ S (nI 20) a b q := ⟨(fun z => absurd z (by decide)), (fun z => absurd z (by decide)), (fun z => absurd z (by decide)), (fun z => absurd z (by decide)), (fun z => absurd z (by decide)), (fun z => absurd z (by decide)), (fun z => absurd z (by decide)), (fun z => absurd z (by decide)), (fun z => absurd z (by decide)), (fun z => absurd z (by decide)), (fun z => absurd z (by decide)), (fun z => absurd z (by decide)), (fun z => absurd z (by decide)), (fun z => absurd z (by decide)), (fun z => absurd z (by decide)), (fun z => absurd z (by decide)), (fun z => absurd z (by decide)), (fun _ => h)⟩
theorem levelOf_0 {post : Int32 → Sg → Prop} {ρ : Rh} {S : Sg} {a b q : Int32} (h : post (1 : Int32) S) : wxP_levelOf post ρ S (nI 0) a b q := ⟨(fun _ => h), (fun z => absurd z (by decide)), (fun z => absurd z (by decide)), (fun z => absurd z (by decide)), (fun z => absurd z (by decide)), (fun z => absurd z (by decide)), (fun z => absurd z (by decide)), (fun z => absurd z (by decide)), (fun z => absurd z (by decide)), (fun z => absurd z (by decide)), (fun z => absurd z (by decide)), (fun z => absurd z (by decide)), (fun z => absurd z (by decide)), (fun z => absurd z (by decide)), (fun z => absurd z (by decide)), (fun z => absurd z (by decide)), (fun z => absurd z (by decide)), (fun z => absurd z (by decide))⟩
theorem levelOf_1 {post : Int32 → Sg → Prop} {ρ : Rh} {S : Sg} {a b q : Int32} (h : post (1 : Int32) S) : wxP_levelOf post ρ S (nI 1) a b q := ⟨(fun _ => h), (fun z => absurd z (by decide)), (fun z => absurd z (by decide)), (fun z => absurd z (by decide)), (fun z => absurd z (by decide)), (fun z => absurd z (by decide)), (fun z => absurd z (by decide)), (fun z => absurd z (by decide)), (fun z => absurd z (by decide)), (fun z => absurd z (by decide)), (fun z => absurd z (by decide)), (fun z => absurd z (by decide)), (fun z => absurd z (by decide)), (fun z => absurd z (by decide)), (fun z => absurd z (by decide)), (fun z => absurd z (by decide)), (fun z => absurd z (by decide)), (fun z => absurd z (by decide))⟩
theorem levelOf_2 {post : Int32 → Sg → Prop} {ρ : Rh} {S : Sg} {a b q : Int32} (h : post (1 : Int32) S) : wxP_levelOf post ρ S (nI 2) a b q := ⟨(fun _ => h), (fun z => absurd z (by decide)), (fun z => absurd z (by decide)), (fun z => absurd z (by decide)), (fun z => absurd z (by decide)), (fun z => absurd z (by decide)), (fun z => absurd z (by decide)), (fun z => absurd z (by decide)), (fun z => absurd z (by decide)), (fun z => absurd z (by decide)), (fun z => absurd z (by decide)), (fun z => absurd z (by decide)), (fun z => absurd z (by decide)), (fun z => absurd z (by decide)), (fun z => absurd z (by decide)), (fun z => absurd z (by decide)), (fun z => absurd z (by decide)), (fun z => absurd z (by decide))⟩
theorem levelOf_3 {post : Int32 → Sg → Prop} {ρ : Rh} {S : Sg} {a b q : Int32} (h : post (1 : Int32) S) : wxP_levelOf post ρ S (nI 3) a b q := ⟨(fun _ => h), (fun z => absurd z (by decide)), (fun z => absurd z (by decide)), (fun z => absurd z (by decide)), (fun z => absurd z (by decide)), (fun z => absurd z (by decide)), (fun z => absurd z (by decide)), (fun z => absurd z (by decide)), (fun z => absurd z (by decide)), (fun z => absurd z (by decide)), (fun z => absurd z (by decide)), (fun z => absurd z (by decide)), (fun z => absurd z (by decide)), (fun z => absurd z (by decide)), (fun z => absurd z (by decide)), (fun z => absurd z (by decide)), (fun z => absurd z (by decide)), (fun z => absurd z (by decide))⟩
theorem levelOf_21 {post : Int32 → Sg → Prop} {ρ : Rh} {S : Sg} {a b q : Int32} (h : post (1 : Int32) S) : wxP_levelOf post ρ S (nI 21) a b q := ⟨(fun _ => h), (fun z => absurd z (by decide)), (fun z => absurd z (by decide)), (fun z => absurd z (by decide)), (fun z => absurd z (by decide)), (fun z => absurd z (by decide)), (fun z => absurd z (by decide)), (fun z => absurd z (by decide)), (fun z => absurd z (by decide)), (fun z => absurd z (by decide)), (fun z => absurd z (by decide)), (fun z => absurd z (by decide)), (fun z => absurd z (by decide)), (fun z => absurd z (by decide)), (fun z => absurd z (by decide)), (fun z => absurd z (by decide)), (fun z => absurd z (by decide)), (fun z => absurd z (by decide))⟩
theorem levelOf_22 {post : Int32 → Sg → Prop} {ρ : Rh} {S : Sg} {a b q : Int32} (h : post (1 : Int32) S) : wxP_levelOf post ρ S (nI 22) a b q := ⟨(fun _ => h), (fun z => absurd z (by decide)), (fun z => absurd z (by decide)), (fun z => absurd z (by decide)), (fun z => absurd z (by decide)), (fun z => absurd z (by decide)), (fun z => absurd z (by decide)), (fun z => absurd z (by decide)), (fun z => absurd z (by decide)), (fun z => absurd z (by decide)), (fun z => absurd z (by decide)), (fun z => absurd z (by decide)), (fun z => absurd z (by decide)), (fun z => absurd z (by decide)), (fun z => absurd z (by decide)), (fun z => absurd z (by decide)), (fun z => absurd z (by decide)), (fun z => absurd z (by decide))⟩
theorem badA_0 {post : Int32 → Rg → Prop} {S : Rg} {y : Int32} (h : post (0 : Int32) S) : wxQ_badA post S (nI 0) y := ⟨(fun z => absurd z (by decide)), (fun _ => h), (fun z => absurd z (by decide)), (fun z => absurd z (by decide)), (fun z => absurd z (by decide)), (fun z => absurd z (by decide)), (fun z => absurd z (by decide)), (fun z => absurd z (by decide)), (fun z => absurd z (by decide)), (fun z => absurd z (by decide)), (fun z => absurd z (by decide)), (fun z => absurd z (by decide)), (fun z => absurd z (by decide)), (fun z => absurd z (by decide)), (fun z => absurd z (by decide)), (fun z => absurd z (by decide)), (fun z => absurd z (by decide)), (fun z => absurd z (by decide)), (fun z => absurd z (by decide)), (fun z => absurd z (by decide)), (fun z => absurd z (by decide)), (fun z => absurd z (by decide)), (fun z => absurd z (by decide)), (fun z => absurd z (by decide))⟩
theorem badA_1 {post : Int32 → Rg → Prop} {S : Rg} {y : Int32} (h : wxQ_out (fun r7 S8 => (r7 = 0 ∨ r7 = 1) ∧ post r7 S8) S y (0) (3)) : wxQ_badA post S (nI 1) y := ⟨(fun z => absurd z (by decide)), (fun z => absurd z (by decide)), (fun _ => h), (fun z => absurd z (by decide)), (fun z => absurd z (by decide)), (fun z => absurd z (by decide)), (fun z => absurd z (by decide)), (fun z => absurd z (by decide)), (fun z => absurd z (by decide)), (fun z => absurd z (by decide)), (fun z => absurd z (by decide)), (fun z => absurd z (by decide)), (fun z => absurd z (by decide)), (fun z => absurd z (by decide)), (fun z => absurd z (by decide)), (fun z => absurd z (by decide)), (fun z => absurd z (by decide)), (fun z => absurd z (by decide)), (fun z => absurd z (by decide)), (fun z => absurd z (by decide)), (fun z => absurd z (by decide)), (fun z => absurd z (by decide)), (fun z => absurd z (by decide)), (fun z => absurd z (by decide))⟩
theorem badA_2 {post : Int32 → Rg → Prop} {S : Rg} {y : Int32} (h : wxQ_out (fun r10 S11 => (r10 = 0 ∨ r10 = 1) ∧ post r10 S11) S y (0) (3)) : wxQ_badA post S (nI 2) y := ⟨(fun z => absurd z (by decide)), (fun z => absurd z (by decide)), (fun z => absurd z (by decide)), (fun _ => h), (fun z => absurd z (by decide)), (fun z => absurd z (by decide)), (fun z => absurd z (by decide)), (fun z => absurd z (by decide)), (fun z => absurd z (by decide)), (fun z => absurd z (by decide)), (fun z => absurd z (by decide)), (fun z => absurd z (by decide)), (fun z => absurd z (by decide)), (fun z => absurd z (by decide)), (fun z => absurd z (by decide)), (fun z => absurd z (by decide)), (fun z => absurd z (by decide)), (fun z => absurd z (by decide)), (fun z => absurd z (by decide)), (fun z => absurd z (by decide)), (fun z => absurd z (by decide)), (fun z => absurd z (by decide)), (fun z => absurd z (by decide)), (fun z => absurd z (by decide))⟩
theorem badA_3 {post : Int32 → Rg → Prop} {S : Rg} {y : Int32} (h : wxQ_out (fun r13 S14 => (r13 = 0 ∨ r13 = 1) ∧ post r13 S14) S y (0) (3)) : wxQ_badA post S (nI 3) y := ⟨(fun z => absurd z (by decide)), (fun z => absurd z (by decide)), (fun z => absurd z (by decide)), (fun z => absurd z (by decide)), (fun _ => h), (fun z => absurd z (by decide)), (fun z => absurd z (by decide)), (fun z => absurd z (by decide)), (fun z => absurd z (by decide)), (fun z => absurd z (by decide)), (fun z => absurd z (by decide)), (fun z => absurd z (by decide)), (fun z => absurd z (by decide)), (fun z => absurd z (by decide)), (fun z => absurd z (by decide)), (fun z => absurd z (by decide)), (fun z => absurd z (by decide)), (fun z => absurd z (by decide)), (fun z => absurd z (by decide)), (fun z => absurd z (by decide)), (fun z => absurd z (by decide)), (fun z => absurd z (by decide)), (fun z => absurd z (by decide)), (fun z => absurd z (by decide))⟩
theorem badA_4 {post : Int32 → Rg → Prop} {S : Rg} {y : Int32} (h : wxQ_noNode (fun r16 S17 => (r16 = 0 ∨ r16 = 1) ∧ post r16 S17) S y) : wxQ_badA post S (nI 4) y := ⟨(fun z => absurd z (by decide)), (fun z => absurd z (by decide)), (fun z => absurd z (by decide)), (fun z => absurd z (by decide)), (fun z => absurd z (by decide)), (fun _ => h), (fun z => absurd z (by decide)), (fun z => absurd z (by decide)), (fun z => absurd z (by decide)), (fun z => absurd z (by decide)), (fun z => absurd z (by decide)), (fun z => absurd z (by decide)), (fun z => absurd z (by decide)), (fun z => absurd z (by decide)), (fun z => absurd z (by decide)), (fun z => absurd z (by decide)), (fun z => absurd z (by decide)), (fun z => absurd z (by decide)), (fun z => absurd z (by decide)), (fun z => absurd z (by decide)), (fun z => absurd z (by decide)), (fun z => absurd z (by decide)), (fun z => absurd z (by decide)), (fun z => absurd z (by decide))⟩
theorem badA_5 {post : Int32 → Rg → Prop} {S : Rg} {y : Int32} (h : wxQ_out (fun r19 S20 => (r19 = 0 ∨ r19 = 1) ∧ post r19 S20) S y (0) (3)) : wxQ_badA post S (nI 5) y := ⟨(fun z => absurd z (by decide)), (fun z => absurd z (by decide)), (fun z => absurd z (by decide)), (fun z => absurd z (by decide)), (fun z => absurd z (by decide)), (fun z => absurd z (by decide)), (fun _ => h), (fun z => absurd z (by decide)), (fun z => absurd z (by decide)), (fun z => absurd z (by decide)), (fun z => absurd z (by decide)), (fun z => absurd z (by decide)), (fun z => absurd z (by decide)), (fun z => absurd z (by decide)), (fun z => absurd z (by decide)), (fun z => absurd z (by decide)), (fun z => absurd z (by decide)), (fun z => absurd z (by decide)), (fun z => absurd z (by decide)), (fun z => absurd z (by decide)), (fun z => absurd z (by decide)), (fun z => absurd z (by decide)), (fun z => absurd z (by decide)), (fun z => absurd z (by decide))⟩
theorem badA_6 {post : Int32 → Rg → Prop} {S : Rg} {y : Int32} (h : wxQ_out (fun r22 S23 => (r22 = 0 ∨ r22 = 1) ∧ post r22 S23) S y (1) (8)) : wxQ_badA post S (nI 6) y := ⟨(fun z => absurd z (by decide)), (fun z => absurd z (by decide)), (fun z => absurd z (by decide)), (fun z => absurd z (by decide)), (fun z => absurd z (by decide)), (fun z => absurd z (by decide)), (fun z => absurd z (by decide)), (fun _ => h), (fun z => absurd z (by decide)), (fun z => absurd z (by decide)), (fun z => absurd z (by decide)), (fun z => absurd z (by decide)), (fun z => absurd z (by decide)), (fun z => absurd z (by decide)), (fun z => absurd z (by decide)), (fun z => absurd z (by decide)), (fun z => absurd z (by decide)), (fun z => absurd z (by decide)), (fun z => absurd z (by decide)), (fun z => absurd z (by decide)), (fun z => absurd z (by decide)), (fun z => absurd z (by decide)), (fun z => absurd z (by decide)), (fun z => absurd z (by decide))⟩
theorem badA_7 {post : Int32 → Rg → Prop} {S : Rg} {y : Int32} (h : post (0 : Int32) S) : wxQ_badA post S (nI 7) y := ⟨(fun z => absurd z (by decide)), (fun z => absurd z (by decide)), (fun z => absurd z (by decide)), (fun z => absurd z (by decide)), (fun z => absurd z (by decide)), (fun z => absurd z (by decide)), (fun z => absurd z (by decide)), (fun z => absurd z (by decide)), (fun _ => h), (fun z => absurd z (by decide)), (fun z => absurd z (by decide)), (fun z => absurd z (by decide)), (fun z => absurd z (by decide)), (fun z => absurd z (by decide)), (fun z => absurd z (by decide)), (fun z => absurd z (by decide)), (fun z => absurd z (by decide)), (fun z => absurd z (by decide)), (fun z => absurd z (by decide)), (fun z => absurd z (by decide)), (fun z => absurd z (by decide)), (fun z => absurd z (by decide)), (fun z => absurd z (by decide)), (fun z => absurd z (by decide))⟩
theorem badA_8 {post : Int32 → Rg → Prop} {S : Rg} {y : Int32} (h : wxQ_out (fun r25 S26 => (r25 = 0 ∨ r25 = 1) ∧ post r25 S26) S y (0) (3)) : wxQ_badA post S (nI 8) y := ⟨(fun z => absurd z (by decide)), (fun z => absurd z (by decide)), (fun z => absurd z (by decide)), (fun z => absurd z (by decide)), (fun z => absurd z (by decide)), (fun z => absurd z (by decide)), (fun z => absurd z (by decide)), (fun z => absurd z (by decide)), (fun z => absurd z (by decide)), (fun _ => h), (fun z => absurd z (by decide)), (fun z => absurd z (by decide)), (fun z => absurd z (by decide)), (fun z => absurd z (by decide)), (fun z => absurd z (by decide)), (fun z => absurd z (by decide)), (fun z => absurd z (by decide)), (fun z => absurd z (by decide)), (fun z => absurd z (by decide)), (fun z => absurd z (by decide)), (fun z => absurd z (by decide)), (fun z => absurd z (by decide)), (fun z => absurd z (by decide)), (fun z => absurd z (by decide))⟩
theorem badA_9 {post : Int32 → Rg → Prop} {S : Rg} {y : Int32} (h : wxQ_out (fun r28 S29 => (r28 = 0 ∨ r28 = 1) ∧ post r28 S29) S y (0) (5)) : wxQ_badA post S (nI 9) y := ⟨(fun z => absurd z (by decide)), (fun z => absurd z (by decide)), (fun z => absurd z (by decide)), (fun z => absurd z (by decide)), (fun z => absurd z (by decide)), (fun z => absurd z (by decide)), (fun z => absurd z (by decide)), (fun z => absurd z (by decide)), (fun z => absurd z (by decide)), (fun z => absurd z (by decide)), (fun _ => h), (fun z => absurd z (by decide)), (fun z => absurd z (by decide)), (fun z => absurd z (by decide)), (fun z => absurd z (by decide)), (fun z => absurd z (by decide)), (fun z => absurd z (by decide)), (fun z => absurd z (by decide)), (fun z => absurd z (by decide)), (fun z => absurd z (by decide)), (fun z => absurd z (by decide)), (fun z => absurd z (by decide)), (fun z => absurd z (by decide)), (fun z => absurd z (by decide))⟩
theorem badA_10 {post : Int32 → Rg → Prop} {S : Rg} {y : Int32} (h : wxQ_out (fun r31 S32 => (r31 = 0 ∨ r31 = 1) ∧ post r31 S32) S y (0) ((S 17 0) - 1)) : wxQ_badA post S (nI 10) y := ⟨(fun z => absurd z (by decide)), (fun z => absurd z (by decide)), (fun z => absurd z (by decide)), (fun z => absurd z (by decide)), (fun z => absurd z (by decide)), (fun z => absurd z (by decide)), (fun z => absurd z (by decide)), (fun z => absurd z (by decide)), (fun z => absurd z (by decide)), (fun z => absurd z (by decide)), (fun z => absurd z (by decide)), (fun _ => h), (fun z => absurd z (by decide)), (fun z => absurd z (by decide)), (fun z => absurd z (by decide)), (fun z => absurd z (by decide)), (fun z => absurd z (by decide)), (fun z => absurd z (by decide)), (fun z => absurd z (by decide)), (fun z => absurd z (by decide)), (fun z => absurd z (by decide)), (fun z => absurd z (by decide)), (fun z => absurd z (by decide)), (fun z => absurd z (by decide))⟩
theorem badA_11 {post : Int32 → Rg → Prop} {S : Rg} {y : Int32} (h : post (0 : Int32) S) : wxQ_badA post S (nI 11) y := ⟨(fun z => absurd z (by decide)), (fun z => absurd z (by decide)), (fun z => absurd z (by decide)), (fun z => absurd z (by decide)), (fun z => absurd z (by decide)), (fun z => absurd z (by decide)), (fun z => absurd z (by decide)), (fun z => absurd z (by decide)), (fun z => absurd z (by decide)), (fun z => absurd z (by decide)), (fun z => absurd z (by decide)), (fun z => absurd z (by decide)), (fun _ => h), (fun z => absurd z (by decide)), (fun z => absurd z (by decide)), (fun z => absurd z (by decide)), (fun z => absurd z (by decide)), (fun z => absurd z (by decide)), (fun z => absurd z (by decide)), (fun z => absurd z (by decide)), (fun z => absurd z (by decide)), (fun z => absurd z (by decide)), (fun z => absurd z (by decide)), (fun z => absurd z (by decide))⟩
theorem badA_12 {post : Int32 → Rg → Prop} {S : Rg} {y : Int32} (h : wxQ_out (fun r34 S35 => (r34 = 0 ∨ r34 = 1) ∧ post r34 S35) S y (0) ((S 17 0) - 1)) : wxQ_badA post S (nI 12) y := ⟨(fun z => absurd z (by decide)), (fun z => absurd z (by decide)), (fun z => absurd z (by decide)), (fun z => absurd z (by decide)), (fun z => absurd z (by decide)), (fun z => absurd z (by decide)), (fun z => absurd z (by decide)), (fun z => absurd z (by decide)), (fun z => absurd z (by decide)), (fun z => absurd z (by decide)), (fun z => absurd z (by decide)), (fun z => absurd z (by decide)), (fun z => absurd z (by decide)), (fun _ => h), (fun z => absurd z (by decide)), (fun z => absurd z (by decide)), (fun z => absurd z (by decide)), (fun z => absurd z (by decide)), (fun z => absurd z (by decide)), (fun z => absurd z (by decide)), (fun z => absurd z (by decide)), (fun z => absurd z (by decide)), (fun z => absurd z (by decide)), (fun z => absurd z (by decide))⟩
theorem badA_13 {post : Int32 → Rg → Prop} {S : Rg} {y : Int32} (h : wxQ_noNode (fun r37 S38 => (r37 = 0 ∨ r37 = 1) ∧ post r37 S38) S y) : wxQ_badA post S (nI 13) y := ⟨(fun z => absurd z (by decide)), (fun z => absurd z (by decide)), (fun z => absurd z (by decide)), (fun z => absurd z (by decide)), (fun z => absurd z (by decide)), (fun z => absurd z (by decide)), (fun z => absurd z (by decide)), (fun z => absurd z (by decide)), (fun z => absurd z (by decide)), (fun z => absurd z (by decide)), (fun z => absurd z (by decide)), (fun z => absurd z (by decide)), (fun z => absurd z (by decide)), (fun z => absurd z (by decide)), (fun _ => h), (fun z => absurd z (by decide)), (fun z => absurd z (by decide)), (fun z => absurd z (by decide)), (fun z => absurd z (by decide)), (fun z => absurd z (by decide)), (fun z => absurd z (by decide)), (fun z => absurd z (by decide)), (fun z => absurd z (by decide)), (fun z => absurd z (by decide))⟩
theorem badA_14 {post : Int32 → Rg → Prop} {S : Rg} {y : Int32} (h : wxQ_noNode (fun r40 S41 => (r40 = 0 ∨ r40 = 1) ∧ post r40 S41) S y) : wxQ_badA post S (nI 14) y := ⟨(fun z => absurd z (by decide)), (fun z => absurd z (by decide)), (fun z => absurd z (by decide)), (fun z => absurd z (by decide)), (fun z => absurd z (by decide)), (fun z => absurd z (by decide)), (fun z => absurd z (by decide)), (fun z => absurd z (by decide)), (fun z => absurd z (by decide)), (fun z => absurd z (by decide)), (fun z => absurd z (by decide)), (fun z => absurd z (by decide)), (fun z => absurd z (by decide)), (fun z => absurd z (by decide)), (fun z => absurd z (by decide)), (fun _ => h), (fun z => absurd z (by decide)), (fun z => absurd z (by decide)), (fun z => absurd z (by decide)), (fun z => absurd z (by decide)), (fun z => absurd z (by decide)), (fun z => absurd z (by decide)), (fun z => absurd z (by decide)), (fun z => absurd z (by decide))⟩
theorem badA_15 {post : Int32 → Rg → Prop} {S : Rg} {y : Int32} (h : wxQ_noNode (fun r43 S44 => (r43 = 0 ∨ r43 = 1) ∧ post r43 S44) S y) : wxQ_badA post S (nI 15) y := ⟨(fun z => absurd z (by decide)), (fun z => absurd z (by decide)), (fun z => absurd z (by decide)), (fun z => absurd z (by decide)), (fun z => absurd z (by decide)), (fun z => absurd z (by decide)), (fun z => absurd z (by decide)), (fun z => absurd z (by decide)), (fun z => absurd z (by decide)), (fun z => absurd z (by decide)), (fun z => absurd z (by decide)), (fun z => absurd z (by decide)), (fun z => absurd z (by decide)), (fun z => absurd z (by decide)), (fun z => absurd z (by decide)), (fun z => absurd z (by decide)), (fun _ => h), (fun z => absurd z (by decide)), (fun z => absurd z (by decide)), (fun z => absurd z (by decide)), (fun z => absurd z (by decide)), (fun z => absurd z (by decide)), (fun z => absurd z (by decide)), (fun z => absurd z (by decide))⟩
theorem badA_16 {post : Int32 → Rg → Prop} {S : Rg} {y : Int32} (h : wxQ_out (fun r46 S47 => (r46 = 0 ∨ r46 = 1) ∧ post r46 S47) S y (0) (3)) : wxQ_badA post S (nI 16) y := ⟨(fun z => absurd z (by decide)), (fun z => absurd z (by decide)), (fun z => absurd z (by decide)), (fun z => absurd z (by decide)), (fun z => absurd z (by decide)), (fun z => absurd z (by decide)), (fun z => absurd z (by decide)), (fun z => absurd z (by decide)), (fun z => absurd z (by decide)), (fun z => absurd z (by decide)), (fun z => absurd z (by decide)), (fun z => absurd z (by decide)), (fun z => absurd z (by decide)), (fun z => absurd z (by decide)), (fun z => absurd z (by decide)), (fun z => absurd z (by decide)), (fun z => absurd z (by decide)), (fun _ => h), (fun z => absurd z (by decide)), (fun z => absurd z (by decide)), (fun z => absurd z (by decide)), (fun z => absurd z (by decide)), (fun z => absurd z (by decide)), (fun z => absurd z (by decide))⟩
theorem badA_17 {post : Int32 → Rg → Prop} {S : Rg} {y : Int32} (h : wxQ_out (fun r49 S50 => (r49 = 0 ∨ r49 = 1) ∧ post r49 S50) S y (0) (3)) : wxQ_badA post S (nI 17) y := ⟨(fun z => absurd z (by decide)), (fun z => absurd z (by decide)), (fun z => absurd z (by decide)), (fun z => absurd z (by decide)), (fun z => absurd z (by decide)), (fun z => absurd z (by decide)), (fun z => absurd z (by decide)), (fun z => absurd z (by decide)), (fun z => absurd z (by decide)), (fun z => absurd z (by decide)), (fun z => absurd z (by decide)), (fun z => absurd z (by decide)), (fun z => absurd z (by decide)), (fun z => absurd z (by decide)), (fun z => absurd z (by decide)), (fun z => absurd z (by decide)), (fun z => absurd z (by decide)), (fun z => absurd z (by decide)), (fun _ => h), (fun z => absurd z (by decide)), (fun z => absurd z (by decide)), (fun z => absurd z (by decide)), (fun z => absurd z (by decide)), (fun z => absurd z (by decide))⟩
theorem badA_18 {post : Int32 → Rg → Prop} {S : Rg} {y : Int32} (h : wxQ_out (fun r52 S53 => (r52 = 0 ∨ r52 = 1) ∧ post r52 S53) S y (0) ((S 17 0) - 1)) : wxQ_badA post S (nI 18) y := ⟨(fun z => absurd z (by decide)), (fun z => absurd z (by decide)), (fun z => absurd z (by decide)), (fun z => absurd z (by decide)), (fun z => absurd z (by decide)), (fun z => absurd z (by decide)), (fun z => absurd z (by decide)), (fun z => absurd z (by decide)), (fun z => absurd z (by decide)), (fun z => absurd z (by decide)), (fun z => absurd z (by decide)), (fun z => absurd z (by decide)), (fun z => absurd z (by decide)), (fun z => absurd z (by decide)), (fun z => absurd z (by decide)), (fun z => absurd z (by decide)), (fun z => absurd z (by decide)), (fun z => absurd z (by decide)), (fun z => absurd z (by decide)), (fun _ => h), (fun z => absurd z (by decide)), (fun z => absurd z (by decide)), (fun z => absurd z (by decide)), (fun z => absurd z (by decide))⟩
theorem badA_19 {post : Int32 → Rg → Prop} {S : Rg} {y : Int32} (h : wxQ_out (fun r55 S56 => (r55 = 0 ∨ r55 = 1) ∧ post r55 S56) S y (0) (3)) : wxQ_badA post S (nI 19) y := ⟨(fun z => absurd z (by decide)), (fun z => absurd z (by decide)), (fun z => absurd z (by decide)), (fun z => absurd z (by decide)), (fun z => absurd z (by decide)), (fun z => absurd z (by decide)), (fun z => absurd z (by decide)), (fun z => absurd z (by decide)), (fun z => absurd z (by decide)), (fun z => absurd z (by decide)), (fun z => absurd z (by decide)), (fun z => absurd z (by decide)), (fun z => absurd z (by decide)), (fun z => absurd z (by decide)), (fun z => absurd z (by decide)), (fun z => absurd z (by decide)), (fun z => absurd z (by decide)), (fun z => absurd z (by decide)), (fun z => absurd z (by decide)), (fun z => absurd z (by decide)), (fun _ => h), (fun z => absurd z (by decide)), (fun z => absurd z (by decide)), (fun z => absurd z (by decide))⟩
theorem badA_20 {post : Int32 → Rg → Prop} {S : Rg} {y : Int32} (h : wxQ_out (fun r58 S59 => (r58 = 0 ∨ r58 = 1) ∧ post r58 S59) S y (0) (1)) : wxQ_badA post S (nI 20) y := ⟨(fun z => absurd z (by decide)), (fun z => absurd z (by decide)), (fun z => absurd z (by decide)), (fun z => absurd z (by decide)), (fun z => absurd z (by decide)), (fun z => absurd z (by decide)), (fun z => absurd z (by decide)), (fun z => absurd z (by decide)), (fun z => absurd z (by decide)), (fun z => absurd z (by decide)), (fun z => absurd z (by decide)), (fun z => absurd z (by decide)), (fun z => absurd z (by decide)), (fun z => absurd z (by decide)), (fun z => absurd z (by decide)), (fun z => absurd z (by decide)), (fun z => absurd z (by decide)), (fun z => absurd z (by decide)), (fun z => absurd z (by decide)), (fun z => absurd z (by decide)), (fun z => absurd z (by decide)), (fun _ => h), (fun z => absurd z (by decide)), (fun z => absurd z (by decide))⟩
theorem badA_21 {post : Int32 → Rg → Prop} {S : Rg} {y : Int32} (h : wxQ_out (fun r61 S62 => (r61 = 0 ∨ r61 = 1) ∧ post r61 S62) S y (0) (1)) : wxQ_badA post S (nI 21) y := ⟨(fun z => absurd z (by decide)), (fun z => absurd z (by decide)), (fun z => absurd z (by decide)), (fun z => absurd z (by decide)), (fun z => absurd z (by decide)), (fun z => absurd z (by decide)), (fun z => absurd z (by decide)), (fun z => absurd z (by decide)), (fun z => absurd z (by decide)), (fun z => absurd z (by decide)), (fun z => absurd z (by decide)), (fun z => absurd z (by decide)), (fun z => absurd z (by decide)), (fun z => absurd z (by decide)), (fun z => absurd z (by decide)), (fun z => absurd z (by decide)), (fun z => absurd z (by decide)), (fun z => absurd z (by decide)), (fun z => absurd z (by decide)), (fun z => absurd z (by decide)), (fun z => absurd z (by decide)), (fun z => absurd z (by decide)), (fun _ => h), (fun z => absurd z (by decide))⟩
theorem badA_22 {post : Int32 → Rg → Prop} {S : Rg} {y : Int32} (h : post (0 : Int32) S) : wxQ_badA post S (nI 22) y := ⟨(fun z => absurd z (by decide)), (fun z => absurd z (by decide)), (fun z => absurd z (by decide)), (fun z => absurd z (by decide)), (fun z => absurd z (by decide)), (fun z => absurd z (by decide)), (fun z => absurd z (by decide)), (fun z => absurd z (by decide)), (fun z => absurd z (by decide)), (fun z => absurd z (by decide)), (fun z => absurd z (by decide)), (fun z => absurd z (by decide)), (fun z => absurd z (by decide)), (fun z => absurd z (by decide)), (fun z => absurd z (by decide)), (fun z => absurd z (by decide)), (fun z => absurd z (by decide)), (fun z => absurd z (by decide)), (fun z => absurd z (by decide)), (fun z => absurd z (by decide)), (fun z => absurd z (by decide)), (fun z => absurd z (by decide)), (fun z => absurd z (by decide)), (fun _ => h)⟩
theorem badB_4 {post : Int32 → Rg → Prop} {S : Rg} {y : Int32} (h : wxQ_noNode (fun r4 S5 => (r4 = 0 ∨ r4 = 1) ∧ post r4 S5) S y) : wxQ_badB post S (nI 4) y := ⟨(fun z => absurd z (by decide)), (fun _ => h), (fun z => absurd z (by decide)), (fun z => absurd z (by decide)), (fun z => absurd z (by decide)), (fun z => absurd z (by decide)), (fun z => absurd z (by decide)), (fun z => absurd z (by decide)), (fun z => absurd z (by decide)), (fun z => absurd z (by decide)), (fun z => absurd z (by decide)), (fun z => absurd z (by decide)), (fun z => absurd z (by decide)), (fun z => absurd z (by decide)), (fun z => absurd z (by decide)), (fun z => absurd z (by decide)), (fun z => absurd z (by decide)), (fun z => absurd z (by decide))⟩
theorem badB_5 {post : Int32 → Rg → Prop} {S : Rg} {y : Int32} (h : wxQ_noNode (fun r7 S8 => (r7 = 0 ∨ r7 = 1) ∧ post r7 S8) S y) : wxQ_badB post S (nI 5) y := ⟨(fun z => absurd z (by decide)), (fun z => absurd z (by decide)), (fun _ => h), (fun z => absurd z (by decide)), (fun z => absurd z (by decide)), (fun z => absurd z (by decide)), (fun z => absurd z (by decide)), (fun z => absurd z (by decide)), (fun z => absurd z (by decide)), (fun z => absurd z (by decide)), (fun z => absurd z (by decide)), (fun z => absurd z (by decide)), (fun z => absurd z (by decide)), (fun z => absurd z (by decide)), (fun z => absurd z (by decide)), (fun z => absurd z (by decide)), (fun z => absurd z (by decide)), (fun z => absurd z (by decide))⟩
theorem badB_6 {post : Int32 → Rg → Prop} {S : Rg} {y : Int32} (h : wxQ_noNode (fun r10 S11 => (r10 = 0 ∨ r10 = 1) ∧ post r10 S11) S y) : wxQ_badB post S (nI 6) y := ⟨(fun z => absurd z (by decide)), (fun z => absurd z (by decide)), (fun z => absurd z (by decide)), (fun _ => h), (fun z => absurd z (by decide)), (fun z => absurd z (by decide)), (fun z => absurd z (by decide)), (fun z => absurd z (by decide)), (fun z => absurd z (by decide)), (fun z => absurd z (by decide)), (fun z => absurd z (by decide)), (fun z => absurd z (by decide)), (fun z => absurd z (by decide)), (fun z => absurd z (by decide)), (fun z => absurd z (by decide)), (fun z => absurd z (by decide)), (fun z => absurd z (by decide)), (fun z => absurd z (by decide))⟩
theorem badB_7 {post : Int32 → Rg → Prop} {S : Rg} {y : Int32} (h : post (0 : Int32) S) : wxQ_badB post S (nI 7) y := ⟨(fun z => absurd z (by decide)), (fun z => absurd z (by decide)), (fun z => absurd z (by decide)), (fun z => absurd z (by decide)), (fun _ => h), (fun z => absurd z (by decide)), (fun z => absurd z (by decide)), (fun z => absurd z (by decide)), (fun z => absurd z (by decide)), (fun z => absurd z (by decide)), (fun z => absurd z (by decide)), (fun z => absurd z (by decide)), (fun z => absurd z (by decide)), (fun z => absurd z (by decide)), (fun z => absurd z (by decide)), (fun z => absurd z (by decide)), (fun z => absurd z (by decide)), (fun z => absurd z (by decide))⟩
theorem badB_8 {post : Int32 → Rg → Prop} {S : Rg} {y : Int32} (h : post (0 : Int32) S) : wxQ_badB post S (nI 8) y := ⟨(fun z => absurd z (by decide)), (fun z => absurd z (by decide)), (fun z => absurd z (by decide)), (fun z => absurd z (by decide)), (fun z => absurd z (by decide)), (fun _ => h), (fun z => absurd z (by decide)), (fun z => absurd z (by decide)), (fun z => absurd z (by decide)), (fun z => absurd z (by decide)), (fun z => absurd z (by decide)), (fun z => absurd z (by decide)), (fun z => absurd z (by decide)), (fun z => absurd z (by decide)), (fun z => absurd z (by decide)), (fun z => absurd z (by decide)), (fun z => absurd z (by decide)), (fun z => absurd z (by decide))⟩
theorem badB_9 {post : Int32 → Rg → Prop} {S : Rg} {y : Int32} (h : post (0 : Int32) S) : wxQ_badB post S (nI 9) y := ⟨(fun z => absurd z (by decide)), (fun z => absurd z (by decide)), (fun z => absurd z (by decide)), (fun z => absurd z (by decide)), (fun z => absurd z (by decide)), (fun z => absurd z (by decide)), (fun _ => h), (fun z => absurd z (by decide)), (fun z => absurd z (by decide)), (fun z => absurd z (by decide)), (fun z => absurd z (by decide)), (fun z => absurd z (by decide)), (fun z => absurd z (by decide)), (fun z => absurd z (by decide)), (fun z => absurd z (by decide)), (fun z => absurd z (by decide)), (fun z => absurd z (by decide)), (fun z => absurd z (by decide))⟩
theorem badB_10 {post : Int32 → Rg → Prop} {S : Rg} {y : Int32} (h : post (0 : Int32) S) : wxQ_badB post S (nI 10) y := ⟨(fun z => absurd z (by decide)), (fun z => absurd z (by decide)), (fun z => absurd z (by decide)), (fun z => absurd z (by decide)), (fun z => absurd z (by decide)), (fun z => absurd z (by decide)), (fun z => absurd z (by decide)), (fun _ => h), (fun z => absurd z (by decide)), (fun z => absurd z (by decide)), (fun z => absurd z (by decide)), (fun z => absurd z (by decide)), (fun z => absurd z (by decide)), (fun z => absurd z (by decide)), (fun z => absurd z (by decide)), (fun z => absurd z (by decide)), (fun z => absurd z (by decide)), (fun z => absurd z (by decide))⟩
theorem badB_11 {post : Int32 → Rg → Prop} {S : Rg} {y : Int32} (h : post (0 : Int32) S) : wxQ_badB post S (nI 11) y := ⟨(fun z => absurd z (by decide)), (fun z => absurd z (by decide)), (fun z => absurd z (by decide)), (fun z => absurd z (by decide)), (fun z => absurd z (by decide)), (fun z => absurd z (by decide)), (fun z => absurd z (by decide)), (fun z => absurd z (by decide)), (fun _ => h), (fun z => absurd z (by decide)), (fun z => absurd z (by decide)), (fun z => absurd z (by decide)), (fun z => absurd z (by decide)), (fun z => absurd z (by decide)), (fun z => absurd z (by decide)), (fun z => absurd z (by decide)), (fun z => absurd z (by decide)), (fun z => absurd z (by decide))⟩
theorem badB_12 {post : Int32 → Rg → Prop} {S : Rg} {y : Int32} (h : post (0 : Int32) S) : wxQ_badB post S (nI 12) y := ⟨(fun z => absurd z (by decide)), (fun z => absurd z (by decide)), (fun z => absurd z (by decide)), (fun z => absurd z (by decide)), (fun z => absurd z (by decide)), (fun z => absurd z (by decide)), (fun z => absurd z (by decide)), (fun z => absurd z (by decide)), (fun z => absurd z (by decide)), (fun _ => h), (fun z => absurd z (by decide)), (fun z => absurd z (by decide)), (fun z => absurd z (by decide)), (fun z => absurd z (by decide)), (fun z => absurd z (by decide)), (fun z => absurd z (by decide)), (fun z => absurd z (by decide)), (fun z => absurd z (by decide))⟩
theorem badB_13 {post : Int32 → Rg → Prop} {S : Rg} {y : Int32} (h : wxQ_out (fun r13 S14 => (r13 = 0 ∨ r13 = 1) ∧ post r13 S14) S y (0) ((S 17 0) - 1)) : wxQ_badB post S (nI 13) y := ⟨(fun z => absurd z (by decide)), (fun z => absurd z (by decide)), (fun z => absurd z (by decide)), (fun z => absurd z (by decide)), (fun z => absurd z (by decide)), (fun z => absurd z (by decide)), (fun z => absurd z (by decide)), (fun z => absurd z (by decide)), (fun z => absurd z (by decide)), (fun z => absurd z (by decide)), (fun _ => h), (fun z => absurd z (by decide)), (fun z => absurd z (by decide)), (fun z => absurd z (by decide)), (fun z => absurd z (by decide)), (fun z => absurd z (by decide)), (fun z => absurd z (by decide)), (fun z => absurd z (by decide))⟩
theorem badB_14 {post : Int32 → Rg → Prop} {S : Rg} {y : Int32} (h : wxQ_noNode (fun r16 S17 => (r16 = 0 ∨ r16 = 1) ∧ post r16 S17) S y) : wxQ_badB post S (nI 14) y := ⟨(fun z => absurd z (by decide)), (fun z => absurd z (by decide)), (fun z => absurd z (by decide)), (fun z => absurd z (by decide)), (fun z => absurd z (by decide)), (fun z => absurd z (by decide)), (fun z => absurd z (by decide)), (fun z => absurd z (by decide)), (fun z => absurd z (by decide)), (fun z => absurd z (by decide)), (fun z => absurd z (by decide)), (fun _ => h), (fun z => absurd z (by decide)), (fun z => absurd z (by decide)), (fun z => absurd z (by decide)), (fun z => absurd z (by decide)), (fun z => absurd z (by decide)), (fun z => absurd z (by decide))⟩
theorem badB_15 {post : Int32 → Rg → Prop} {S : Rg} {y : Int32} (h : wxQ_noNode (fun r19 S20 => (r19 = 0 ∨ r19 = 1) ∧ post r19 S20) S y) : wxQ_badB post S (nI 15) y := ⟨(fun z => absurd z (by decide)), (fun z => absurd z (by decide)), (fun z => absurd z (by decide)), (fun z => absurd z (by decide)), (fun z => absurd z (by decide)), (fun z => absurd z (by decide)), (fun z => absurd z (by decide)), (fun z => absurd z (by decide)), (fun z => absurd z (by decide)), (fun z => absurd z (by decide)), (fun z => absurd z (by decide)), (fun z => absurd z (by decide)), (fun _ => h), (fun z => absurd z (by decide)), (fun z => absurd z (by decide)), (fun z => absurd z (by decide)), (fun z => absurd z (by decide)), (fun z => absurd z (by decide))⟩
theorem badB_16 {post : Int32 → Rg → Prop} {S : Rg} {y : Int32} (h : wxQ_out (fun r22 S23 => (r22 = 0 ∨ r22 = 1) ∧ post r22 S23) S y (0) (3)) : wxQ_badB post S (nI 16) y := ⟨(fun z => absurd z (by decide)), (fun z => absurd z (by decide)), (fun z => absurd z (by decide)), (fun z => absurd z (by decide)), (fun z => absurd z (by decide)), (fun z => absurd z (by decide)), (fun z => absurd z (by decide)), (fun z => absurd z (by decide)), (fun z => absurd z (by decide)), (fun z => absurd z (by decide)), (fun z => absurd z (by decide)), (fun z => absurd z (by decide)), (fun z => absurd z (by decide)), (fun _ => h), (fun z => absurd z (by decide)), (fun z => absurd z (by decide)), (fun z => absurd z (by decide)), (fun z => absurd z (by decide))⟩
theorem badB_17 {post : Int32 → Rg → Prop} {S : Rg} {y : Int32} (h : wxQ_out (fun r25 S26 => (r25 = 0 ∨ r25 = 1) ∧ post r25 S26) S y (0) (4)) : wxQ_badB post S (nI 17) y := ⟨(fun z => absurd z (by decide)), (fun z => absurd z (by decide)), (fun z => absurd z (by decide)), (fun z => absurd z (by decide)), (fun z => absurd z (by decide)), (fun z => absurd z (by decide)), (fun z => absurd z (by decide)), (fun z => absurd z (by decide)), (fun z => absurd z (by decide)), (fun z => absurd z (by decide)), (fun z => absurd z (by decide)), (fun z => absurd z (by decide)), (fun z => absurd z (by decide)), (fun z => absurd z (by decide)), (fun _ => h), (fun z => absurd z (by decide)), (fun z => absurd z (by decide)), (fun z => absurd z (by decide))⟩
theorem badB_18 {post : Int32 → Rg → Prop} {S : Rg} {y : Int32} (h : post (0 : Int32) S) : wxQ_badB post S (nI 18) y := ⟨(fun z => absurd z (by decide)), (fun z => absurd z (by decide)), (fun z => absurd z (by decide)), (fun z => absurd z (by decide)), (fun z => absurd z (by decide)), (fun z => absurd z (by decide)), (fun z => absurd z (by decide)), (fun z => absurd z (by decide)), (fun z => absurd z (by decide)), (fun z => absurd z (by decide)), (fun z => absurd z (by decide)), (fun z => absurd z (by decide)), (fun z => absurd z (by decide)), (fun z => absurd z (by decide)), (fun z => absurd z (by decide)), (fun _ => h), (fun z => absurd z (by decide)), (fun z => absurd z (by decide))⟩
theorem badB_19 {post : Int32 → Rg → Prop} {S : Rg} {y : Int32} (h : post (0 : Int32) S) : wxQ_badB post S (nI 19) y := ⟨(fun z => absurd z (by decide)), (fun z => absurd z (by decide)), (fun z => absurd z (by decide)), (fun z => absurd z (by decide)), (fun z => absurd z (by decide)), (fun z => absurd z (by decide)), (fun z => absurd z (by decide)), (fun z => absurd z (by decide)), (fun z => absurd z (by decide)), (fun z => absurd z (by decide)), (fun z => absurd z (by decide)), (fun z => absurd z (by decide)), (fun z => absurd z (by decide)), (fun z => absurd z (by decide)), (fun z => absurd z (by decide)), (fun z => absurd z (by decide)), (fun _ => h), (fun z => absurd z (by decide))⟩
theorem badB_20 {post : Int32 → Rg → Prop} {S : Rg} {y : Int32} (h : wxQ_noNode (fun r28 S29 => (r28 = 0 ∨ r28 = 1) ∧ post r28 S29) S y) : wxQ_badB post S (nI 20) y := ⟨(fun z => absurd z (by decide)), (fun z => absurd z (by decide)), (fun z => absurd z (by decide)), (fun z => absurd z (by decide)), (fun z => absurd z (by decide)), (fun z => absurd z (by decide)), (fun z => absurd z (by decide)), (fun z => absurd z (by decide)), (fun z => absurd z (by decide)), (fun z => absurd z (by decide)), (fun z => absurd z (by decide)), (fun z => absurd z (by decide)), (fun z => absurd z (by decide)), (fun z => absurd z (by decide)), (fun z => absurd z (by decide)), (fun z => absurd z (by decide)), (fun z => absurd z (by decide)), (fun _ => h)⟩
theorem badB_0 {post : Int32 → Rg → Prop} {S : Rg} {y : Int32} (h : post (0 : Int32) S) : wxQ_badB post S (nI 0) y := ⟨(fun _ => h), (fun z => absurd z (by decide)), (fun z => absurd z (by decide)), (fun z => absurd z (by decide)), (fun z => absurd z (by decide)), (fun z => absurd z (by decide)), (fun z => absurd z (by decide)), (fun z => absurd z (by decide)), (fun z => absurd z (by decide)), (fun z => absurd z (by decide)), (fun z => absurd z (by decide)), (fun z => absurd z (by decide)), (fun z => absurd z (by decide)), (fun z => absurd z (by decide)), (fun z => absurd z (by decide)), (fun z => absurd z (by decide)), (fun z => absurd z (by decide)), (fun z => absurd z (by decide))⟩
theorem badB_1 {post : Int32 → Rg → Prop} {S : Rg} {y : Int32} (h : post (0 : Int32) S) : wxQ_badB post S (nI 1) y := ⟨(fun _ => h), (fun z => absurd z (by decide)), (fun z => absurd z (by decide)), (fun z => absurd z (by decide)), (fun z => absurd z (by decide)), (fun z => absurd z (by decide)), (fun z => absurd z (by decide)), (fun z => absurd z (by decide)), (fun z => absurd z (by decide)), (fun z => absurd z (by decide)), (fun z => absurd z (by decide)), (fun z => absurd z (by decide)), (fun z => absurd z (by decide)), (fun z => absurd z (by decide)), (fun z => absurd z (by decide)), (fun z => absurd z (by decide)), (fun z => absurd z (by decide)), (fun z => absurd z (by decide))⟩
theorem badB_2 {post : Int32 → Rg → Prop} {S : Rg} {y : Int32} (h : post (0 : Int32) S) : wxQ_badB post S (nI 2) y := ⟨(fun _ => h), (fun z => absurd z (by decide)), (fun z => absurd z (by decide)), (fun z => absurd z (by decide)), (fun z => absurd z (by decide)), (fun z => absurd z (by decide)), (fun z => absurd z (by decide)), (fun z => absurd z (by decide)), (fun z => absurd z (by decide)), (fun z => absurd z (by decide)), (fun z => absurd z (by decide)), (fun z => absurd z (by decide)), (fun z => absurd z (by decide)), (fun z => absurd z (by decide)), (fun z => absurd z (by decide)), (fun z => absurd z (by decide)), (fun z => absurd z (by decide)), (fun z => absurd z (by decide))⟩
theorem badB_3 {post : Int32 → Rg → Prop} {S : Rg} {y : Int32} (h : post (0 : Int32) S) : wxQ_badB post S (nI 3) y := ⟨(fun _ => h), (fun z => absurd z (by decide)), (fun z => absurd z (by decide)), (fun z => absurd z (by decide)), (fun z => absurd z (by decide)), (fun z => absurd z (by decide)), (fun z => absurd z (by decide)), (fun z => absurd z (by decide)), (fun z => absurd z (by decide)), (fun z => absurd z (by decide)), (fun z => absurd z (by decide)), (fun z => absurd z (by decide)), (fun z => absurd z (by decide)), (fun z => absurd z (by decide)), (fun z => absurd z (by decide)), (fun z => absurd z (by decide)), (fun z => absurd z (by decide)), (fun z => absurd z (by decide))⟩
theorem badB_21 {post : Int32 → Rg → Prop} {S : Rg} {y : Int32} (h : post (0 : Int32) S) : wxQ_badB post S (nI 21) y := ⟨(fun _ => h), (fun z => absurd z (by decide)), (fun z => absurd z (by decide)), (fun z => absurd z (by decide)), (fun z => absurd z (by decide)), (fun z => absurd z (by decide)), (fun z => absurd z (by decide)), (fun z => absurd z (by decide)), (fun z => absurd z (by decide)), (fun z => absurd z (by decide)), (fun z => absurd z (by decide)), (fun z => absurd z (by decide)), (fun z => absurd z (by decide)), (fun z => absurd z (by decide)), (fun z => absurd z (by decide)), (fun z => absurd z (by decide)), (fun z => absurd z (by decide)), (fun z => absurd z (by decide))⟩
theorem badB_22 {post : Int32 → Rg → Prop} {S : Rg} {y : Int32} (h : post (0 : Int32) S) : wxQ_badB post S (nI 22) y := ⟨(fun _ => h), (fun z => absurd z (by decide)), (fun z => absurd z (by decide)), (fun z => absurd z (by decide)), (fun z => absurd z (by decide)), (fun z => absurd z (by decide)), (fun z => absurd z (by decide)), (fun z => absurd z (by decide)), (fun z => absurd z (by decide)), (fun z => absurd z (by decide)), (fun z => absurd z (by decide)), (fun z => absurd z (by decide)), (fun z => absurd z (by decide)), (fun z => absurd z (by decide)), (fun z => absurd z (by decide)), (fun z => absurd z (by decide)), (fun z => absurd z (by decide)), (fun z => absurd z (by decide))⟩
def c67c (post : Int32 → Rg → Prop) (x a b q : Int32) (r1 : Int32) (S2 : Rg) : Prop := ((r1 ≤ (8 : Int32)) → ((¬ ((S2 17 1) = (64 : Int32))) → (vp_in (S2 17 1) 64) ∧ post (((S2 17 1) + 1) - 1) (uu (uu (uu (uu (uu (uu S2 10 ((S2 17 1).toNatClampNeg) x) 11 ((S2 17 1).toNatClampNeg) a) 12 ((S2 17 1).toNatClampNeg) b) 13 ((S2 17 1).toNatClampNeg) q) 14 ((S2 17 1).toNatClampNeg) r1) 17 1 ((S2 17 1) + 1))) ∧ (((S2 17 1) = (64 : Int32)) → post (-2 : Int32) S2)) ∧ ((¬ (r1 ≤ (8 : Int32))) → post (-1 : Int32) S2)
section ND
variable {ρ : Rh} {S : Sg} {M : Rg} {post : Int32 → Sg → Prop} {pm : Int32 → Rg → Prop} {x : Int32} {j n : Nat}
theorem isV_in (hj : j < 4) (h : post 1 S) : wxP_isVariable post ρ S (nI j) := in_c (n := 4) hj (by omega) rfl h
theorem isV_ex (hx : x < 0 ∨ nI 4 ≤ x) (h : post 0 S) : wxP_isVariable post ρ S x := ex_c (n := 4) hx rfl h
theorem isM_in (hj : j < 2) (h : post 1 S) : wxP_isMonitor post ρ S (nI j) := in_c (n := 2) hj (by omega) rfl h
theorem isM_ex (hx : x < 0 ∨ nI 2 ≤ x) (h : post 0 S) : wxP_isMonitor post ρ S x := ex_c (n := 2) hx rfl h
theorem isR_in (hj : j < 6) (h : post 1 S) : wxP_isRoutine post ρ S (nI j) := in_c (n := 6) hj (by omega) rfl h
theorem isR_ex (hx : x < 0 ∨ nI 6 ≤ x) (h : post 0 S) : wxP_isRoutine post ρ S x := ex_c (n := 6) hx rfl h
theorem isN_in (hj : j < n) (hn : n < 1000) (e : ρ.2.2.1 7 1 = nI n) (h : post 1 S) : wxP_isNode post ρ S (nI j) := in_c hj hn e h
theorem isN_ex (hx : x < 0 ∨ nI n ≤ x) (e : ρ.2.2.1 7 1 = nI n) (h : post 0 S) : wxP_isNode post ρ S x := ex_c hx e h
theorem isC_in (hj : j < n) (hn : n < 1000) (e : ρ.2.2.1 7 0 = nI n) (h : post 1 S) : wxC_has post ρ S (nI j) := in_c hj hn e h
theorem isC_ex (hx : x < 0 ∨ nI n ≤ x) (e : ρ.2.2.1 7 0 = nI n) (h : post 0 S) : wxC_has post ρ S x := ex_c hx e h
theorem nI_m1 {j : Nat} (hj : j < 1000) : ¬ nI j = -1 := fun z => absurd (nI_pos' (n := j) (by omega)) (by rw [z]; decide)
theorem ix_L (a : Int32) : (a < 1 ∨ 8 < a) ∨ ∃ j : Nat, 1 ≤ j ∧ j ≤ 8 ∧ a = nI j := by
  have e1 : (1 : Int32).toInt = 1 := rfl
  have e8 : (8 : Int32).toInt = 8 := rfl
  rcases ix_n a 9 (by omega) with h | ⟨j, hj, rfl⟩
  · left
    rw [Int32.lt_iff_toInt_lt, Int32.le_iff_toInt_le, nI_toInt (by omega), show (0 : Int32).toInt = 0 from rfl] at h
    rw [Int32.lt_iff_toInt_lt, Int32.lt_iff_toInt_lt, e1, e8]
    omega
  · by_cases h0 : j = 0
    · subst h0; exact Or.inl (Or.inl (by decide))
    · exact Or.inr ⟨j, by omega, by omega, rfl⟩
theorem L_in {p0 p1 : Prop} (h1 : 1 ≤ j) (h8 : j ≤ 8) (h : p1) : ((nI j < (1 : Int32)) → p0) ∧ ((¬ (nI j < (1 : Int32))) → (((8 : Int32) < nI j) → p0) ∧ ((¬ ((8 : Int32) < nI j)) → p1)) :=
  ⟨fun z => absurd z (nI_nlt (b := 1) h1 (by omega)), fun _ => ⟨fun z => absurd z (nI_nlt (a := 8) h8 (by omega)), fun _ => h⟩⟩
theorem L_ex {p0 p1 : Prop} (hx : x < 1 ∨ 8 < x) (h : p0) : ((x < (1 : Int32)) → p0) ∧ ((¬ (x < (1 : Int32))) → (((8 : Int32) < x) → p0) ∧ ((¬ ((8 : Int32) < x)) → p1)) :=
  ⟨fun _ => h, fun z => ⟨fun _ => h, fun w => by rcases hx with hx | hx; exact absurd hx z; exact absurd hx w⟩⟩
theorem qL_in (h1 : 1 ≤ j) (h8 : j ≤ 8) (h : pm 0 M) : wxQ_out pm M (nI j) 1 8 :=
  ⟨fun z => absurd z (nI_nlt (b := 1) h1 (by omega)), fun _ => ⟨fun _ => h, fun z => absurd (nI_le (b := 8) h8 (by omega)) z⟩⟩
theorem qL_ex (hx : x < 1 ∨ 8 < x) (h : pm 1 M) : wxQ_out pm M x 1 8 :=
  ⟨fun _ => h, fun z => ⟨fun w => by rcases hx with hx | hx; exact absurd hx z; exact absurd w (Int32.not_le.mpr hx), fun _ => h⟩⟩
theorem I_in {p0 p1 : Prop} (hj : j < 5) (h : p1) : ((nI j < (0 : Int32)) → p0) ∧ ((¬ (nI j < (0 : Int32))) → (((4 : Int32) < nI j) → p0) ∧ ((¬ ((4 : Int32) < nI j)) → p1)) :=
  ⟨fun z => absurd z (nI_pos (by omega)), fun _ => ⟨fun z => absurd z (nI_nlt (a := 4) (by omega) (by omega)), fun _ => h⟩⟩
theorem I_ex {p0 p1 : Prop} (hx : x < 0 ∨ nI 5 ≤ x) (h : p0) : ((x < (0 : Int32)) → p0) ∧ ((¬ (x < (0 : Int32))) → (((4 : Int32) < x) → p0) ∧ ((¬ ((4 : Int32) < x)) → p1)) := by
  refine ⟨fun _ => h, fun z => ⟨fun _ => h, fun w => ?_⟩⟩
  exfalso
  rw [Int32.lt_iff_toInt_lt] at z w
  rw [Int32.lt_iff_toInt_lt, Int32.le_iff_toInt_le, show (nI 5).toInt = 5 from nI_toInt (by omega)] at hx
  have e4 : (4 : Int32).toInt = 4 := rfl
  omega
theorem lvl_in {l : Nat} (hj : j < ρ.2.1) (hn : ρ.2.1 < 1000) (e : ρ.2.2.1 7 1 = nI ρ.2.1) (hl : ρ.2.2.1 4 j = nI l) (h : post (nI l) S) (hn64 : ρ.2.1 ≤ 64 := by assumption) : wxP_levelAt post ρ S (nI j) := by
  have cj : (nI j).toNatClampNeg = j := nI_clamp (by omega)
  refine isN_in hj hn e ⟨fun z => absurd z (by decide), fun _ => ⟨vp_in_nI (by omega) (by omega), ?_⟩⟩
  rw [cj, hl]
  exact ⟨hj, h⟩
theorem lvl_m1 (h : post 0 S) : wxP_levelAt post ρ S (-1) := ⟨fun _ => ⟨fun _ => h, fun z => absurd rfl z⟩, fun z => absurd (by decide) z⟩
theorem nI_add1 (l : Nat) : (1 : Int32) + nI l = nI (1 + l) := nI_add 1 l
theorem lv_mx {a b : Nat} (ha : a < 1000) (hb : b < 1000) : (1 : Int32) + (if nI a < nI b then nI b else nI a) = nI (1 + max a b) := by
  by_cases h : a < b
  · rw [if_pos (nI_lt h (by omega)), nI_add1, show max a b = b by omega]
  · rw [if_neg (nI_nlt (by omega) (by omega)), nI_add1, show max a b = a by omega]
theorem lv_m0 {a : Nat} (ha : a < 1000) : (1 : Int32) + (if nI a < 0 then 0 else nI a) = nI (1 + a) := by
  rw [if_neg (nI_pos (by omega)), nI_add1]
/-- levels of the reference -/
theorem q_max {l v : Nat} {f : Int32 → Prop} (hl : l < 1000) (hv : v < 1000) (h : f (nI (max v l))) : ((nI l ≤ nI v) → f (nI v)) ∧ ((¬ (nI l ≤ nI v)) → f (nI l)) := by
  refine ⟨fun z => ?_, fun z => ?_⟩
  · have := (nI_leI (a := l) (b := v) (by omega) (by omega)).mp z
    rw [show max v l = v by omega] at h; exact h
  · have : ¬ l ≤ v := fun w => z (nI_le w (by omega))
    rw [show max v l = l by omega] at h; exact h
theorem qz_0 {a b q : Int32} (h : wxQ_levelOf_c39 pm (nI 0) a b q M (nI 0)) : wxQ_levelOf pm M (nI 0) a b q := ⟨fun z => absurd z (by decide), fun _ => ⟨fun _ => h, fun z => absurd (by decide) z⟩⟩
theorem qy_0 {a b q : Int32} {v : Nat} (h : wxQ_levelOf_c87 pm (nI 0) a b q M (nI v)) : wxQ_levelOf_c39 pm (nI 0) a b q M (nI v) := ⟨fun _ => ⟨fun z => absurd z (by decide), fun _ => ⟨fun z => absurd z (by decide), fun _ => ⟨fun _ => h, fun z => absurd z (by decide)⟩⟩⟩, fun z => absurd (by decide) z⟩
theorem qx_0 {a b q : Int32} {v : Nat} (h : pm (nI v + 1) M) : wxQ_levelOf_c87 pm (nI 0) a b q M (nI v) := ⟨fun _ => ⟨fun _ => h, fun z => absurd z (by decide)⟩, fun z => absurd z (by decide)⟩
theorem qz_1 {a b q : Int32} (h : wxQ_levelOf_c39 pm (nI 1) a b q M (nI 0)) : wxQ_levelOf pm M (nI 1) a b q := ⟨fun z => absurd z (by decide), fun _ => ⟨fun _ => h, fun z => absurd (by decide) z⟩⟩
theorem qy_1 {a b q : Int32} {v : Nat} (h : wxQ_levelOf_c87 pm (nI 1) a b q M (nI v)) : wxQ_levelOf_c39 pm (nI 1) a b q M (nI v) := ⟨fun _ => ⟨fun z => absurd z (by decide), fun _ => ⟨fun z => absurd z (by decide), fun _ => ⟨fun _ => h, fun z => absurd z (by decide)⟩⟩⟩, fun z => absurd (by decide) z⟩
theorem qx_1 {a b q : Int32} {v : Nat} (h : pm (nI v + 1) M) : wxQ_levelOf_c87 pm (nI 1) a b q M (nI v) := ⟨fun _ => ⟨fun _ => h, fun z => absurd z (by decide)⟩, fun z => absurd z (by decide)⟩
theorem qz_2 {a b q : Int32} (h : wxQ_levelOf_c39 pm (nI 2) a b q M (nI 0)) : wxQ_levelOf pm M (nI 2) a b q := ⟨fun z => absurd z (by decide), fun _ => ⟨fun _ => h, fun z => absurd (by decide) z⟩⟩
theorem qy_2 {a b q : Int32} {v : Nat} (h : wxQ_levelOf_c87 pm (nI 2) a b q M (nI v)) : wxQ_levelOf_c39 pm (nI 2) a b q M (nI v) := ⟨fun _ => ⟨fun z => absurd z (by decide), fun _ => ⟨fun z => absurd z (by decide), fun _ => ⟨fun _ => h, fun z => absurd z (by decide)⟩⟩⟩, fun z => absurd (by decide) z⟩
theorem qx_2 {a b q : Int32} {v : Nat} (h : pm (nI v + 1) M) : wxQ_levelOf_c87 pm (nI 2) a b q M (nI v) := ⟨fun _ => ⟨fun _ => h, fun z => absurd z (by decide)⟩, fun z => absurd z (by decide)⟩
theorem qz_3 {a b q : Int32} (h : wxQ_levelOf_c39 pm (nI 3) a b q M (nI 0)) : wxQ_levelOf pm M (nI 3) a b q := ⟨fun z => absurd z (by decide), fun _ => ⟨fun _ => h, fun z => absurd (by decide) z⟩⟩
theorem qy_3 {a b q : Int32} {v : Nat} (h : wxQ_levelOf_c87 pm (nI 3) a b q M (nI v)) : wxQ_levelOf_c39 pm (nI 3) a b q M (nI v) := ⟨fun _ => ⟨fun z => absurd z (by decide), fun _ => ⟨fun z => absurd z (by decide), fun _ => ⟨fun _ => h, fun z => absurd z (by decide)⟩⟩⟩, fun z => absurd (by decide) z⟩
theorem qx_3 {a b q : Int32} {v : Nat} (h : pm (nI v + 1) M) : wxQ_levelOf_c87 pm (nI 3) a b q M (nI v) := ⟨fun _ => ⟨fun _ => h, fun z => absurd z (by decide)⟩, fun z => absurd z (by decide)⟩
theorem qa_4 {b q : Int32} {l : Nat} (hj : j < n) (hn : n ≤ 64) (m : M 14 j = nI l) (h1 : 1 ≤ l) (hl : l < 1000) (h : wxQ_levelOf_c39 pm (nI 4) (nI j) b q M (nI l)) : wxQ_levelOf pm M (nI 4) (nI j) b q := by
  have cj : (nI j).toNatClampNeg = j := nI_clamp (by omega)
  have vj : vp_in (nI j) 64 := vp_in_nI (by omega) (by omega)
  unfold wxQ_levelOf
  rw [cj, m]
  exact ⟨fun _ => ⟨vj, fun z => absurd z (nI_nle (by omega) (by omega)), fun _ => h⟩, fun z => absurd rfl z⟩
theorem qb_4 {a q : Int32} {l v : Nat} (hj : j < n) (hn : n ≤ 64) (m : M 14 j = nI l) (hl : l < 1000) (hv : v < 1000) (h : wxQ_levelOf_c87 pm (nI 4) a (nI j) q M (nI (max v l))) : wxQ_levelOf_c39 pm (nI 4) a (nI j) q M (nI v) := by
  have cj : (nI j).toNatClampNeg = j := nI_clamp (by omega)
  have vj : vp_in (nI j) 64 := vp_in_nI (by omega) (by omega)
  have k68 : wxQ_levelOf_c68 pm (nI 4) a (nI j) q M (nI v) := by
    unfold wxQ_levelOf_c68
    rw [cj, m]
    exact ⟨vj, q_max (f := fun w => wxQ_levelOf_c87 pm (nI 4) a (nI j) q M w) hl hv h⟩
  exact ⟨fun z => absurd z (by decide), fun _ => ⟨fun _ => k68, fun z => absurd (by decide) z⟩⟩
theorem qx_4 {a b q : Int32} {v : Nat} (h : pm (nI v + 1) M) : wxQ_levelOf_c87 pm (nI 4) a b q M (nI v) := ⟨fun _ => ⟨fun _ => h, fun z => absurd z (by decide)⟩, fun z => absurd z (by decide)⟩
theorem qz_5 {a b q : Int32} (h : wxQ_levelOf_c39 pm (nI 5) a b q M (nI 0)) : wxQ_levelOf pm M (nI 5) a b q := ⟨fun z => absurd z (by decide), fun _ => ⟨fun _ => h, fun z => absurd (by decide) z⟩⟩
theorem qb_5 {a q : Int32} {l v : Nat} (hj : j < n) (hn : n ≤ 64) (m : M 14 j = nI l) (hl : l < 1000) (hv : v < 1000) (h : wxQ_levelOf_c87 pm (nI 5) a (nI j) q M (nI (max v l))) : wxQ_levelOf_c39 pm (nI 5) a (nI j) q M (nI v) := by
  have cj : (nI j).toNatClampNeg = j := nI_clamp (by omega)
  have vj : vp_in (nI j) 64 := vp_in_nI (by omega) (by omega)
  have k68 : wxQ_levelOf_c68 pm (nI 5) a (nI j) q M (nI v) := by
    unfold wxQ_levelOf_c68
    rw [cj, m]
    exact ⟨vj, q_max (f := fun w => wxQ_levelOf_c87 pm (nI 5) a (nI j) q M w) hl hv h⟩
  exact ⟨fun z => absurd z (by decide), fun _ => ⟨fun _ => k68, fun z => absurd (by decide) z⟩⟩
theorem qq_5 {a b : Int32} {l v : Nat} (hj : j < n) (hn : n ≤ 64) (m : M 14 j = nI l) (hl : l < 1000) (hv : v < 1000) (h : pm (nI (max v l) + 1) M) : wxQ_levelOf_c87 pm (nI 5) a b (nI j) M (nI v) := by
  have cj : (nI j).toNatClampNeg = j := nI_clamp (by omega)
  have vj : vp_in (nI j) 64 := vp_in_nI (by omega) (by omega)
  have k103 : wxQ_levelOf_c103 pm (nI 5) a b (nI j) M (nI v) := by
    unfold wxQ_levelOf_c103
    rw [cj, m]
    exact ⟨vj, q_max (f := fun w => wxQ_levelOf_c124 pm (nI 5) a b (nI j) M w) hl hv h⟩
  exact ⟨fun z => absurd rfl z, fun _ => ⟨fun _ => k103, fun z => absurd (nI_pos' (by omega)) z⟩⟩
theorem qx_5 {a b : Int32} {v : Nat} (h : pm (nI v + 1) M) : wxQ_levelOf_c87 pm (nI 5) a b (-1) M (nI v) := ⟨fun z => absurd rfl z, fun _ => ⟨fun z => absurd z (by decide), fun _ => ⟨fun _ => h, fun z => absurd z (by decide)⟩⟩⟩
theorem qz_6 {a b q : Int32} (h : wxQ_levelOf_c39 pm (nI 6) a b q M (nI 0)) : wxQ_levelOf pm M (nI 6) a b q := ⟨fun z => absurd z (by decide), fun _ => ⟨fun _ => h, fun z => absurd (by decide) z⟩⟩
theorem qb_6 {a q : Int32} {l v : Nat} (hj : j < n) (hn : n ≤ 64) (m : M 14 j = nI l) (hl : l < 1000) (hv : v < 1000) (h : wxQ_levelOf_c87 pm (nI 6) a (nI j) q M (nI (max v l))) : wxQ_levelOf_c39 pm (nI 6) a (nI j) q M (nI v) := by
  have cj : (nI j).toNatClampNeg = j := nI_clamp (by omega)
  have vj : vp_in (nI j) 64 := vp_in_nI (by omega) (by omega)
  have k68 : wxQ_levelOf_c68 pm (nI 6) a (nI j) q M (nI v) := by
    unfold wxQ_levelOf_c68
    rw [cj, m]
    exact ⟨vj, q_max (f := fun w => wxQ_levelOf_c87 pm (nI 6) a (nI j) q M w) hl hv h⟩
  exact ⟨fun z => absurd z (by decide), fun _ => ⟨fun _ => k68, fun z => absurd (by decide) z⟩⟩
theorem qx_6 {a b q : Int32} {v : Nat} (h : pm (nI v + 1) M) : wxQ_levelOf_c87 pm (nI 6) a b q M (nI v) := ⟨fun _ => ⟨fun _ => h, fun z => absurd z (by decide)⟩, fun z => absurd z (by decide)⟩
theorem qz_7 {a b q : Int32} (h : wxQ_levelOf_c39 pm (nI 7) a b q M (nI 0)) : wxQ_levelOf pm M (nI 7) a b q := ⟨fun z => absurd z (by decide), fun _ => ⟨fun _ => h, fun z => absurd (by decide) z⟩⟩
theorem qy_7 {a b q : Int32} {v : Nat} (h : wxQ_levelOf_c87 pm (nI 7) a b q M (nI v)) : wxQ_levelOf_c39 pm (nI 7) a b q M (nI v) := ⟨fun z => absurd z (by decide), fun _ => ⟨fun z => absurd z (by decide), fun _ => ⟨fun z => absurd z (by decide), fun _ => ⟨fun z => absurd z (by decide), fun _ => ⟨fun _ => h, fun z => absurd z (by decide)⟩⟩⟩⟩⟩
theorem qx_7 {a b q : Int32} {v : Nat} (h : pm (nI v + 1) M) : wxQ_levelOf_c87 pm (nI 7) a b q M (nI v) := ⟨fun _ => ⟨fun _ => h, fun z => absurd z (by decide)⟩, fun z => absurd z (by decide)⟩
theorem qz_8 {a b q : Int32} (h : wxQ_levelOf_c39 pm (nI 8) a b q M (nI 0)) : wxQ_levelOf pm M (nI 8) a b q := ⟨fun z => absurd z (by decide), fun _ => ⟨fun _ => h, fun z => absurd (by decide) z⟩⟩
theorem qy_8 {a b q : Int32} {v : Nat} (h : wxQ_levelOf_c87 pm (nI 8) a b q M (nI v)) : wxQ_levelOf_c39 pm (nI 8) a b q M (nI v) := ⟨fun z => absurd z (by decide), fun _ => ⟨fun z => absurd z (by decide), fun _ => ⟨fun z => absurd z (by decide), fun _ => ⟨fun z => absurd z (by decide), fun _ => ⟨fun _ => h, fun z => absurd z (by decide)⟩⟩⟩⟩⟩
theorem qx_8 {a b q : Int32} {v : Nat} (h : pm (nI v + 1) M) : wxQ_levelOf_c87 pm (nI 8) a b q M (nI v) := ⟨fun _ => ⟨fun _ => h, fun z => absurd z (by decide)⟩, fun z => absurd z (by decide)⟩
theorem qz_9 {a b q : Int32} (h : wxQ_levelOf_c39 pm (nI 9) a b q M (nI 0)) : wxQ_levelOf pm M (nI 9) a b q := ⟨fun z => absurd z (by decide), fun _ => ⟨fun _ => h, fun z => absurd (by decide) z⟩⟩
theorem qy_9 {a b q : Int32} {v : Nat} (h : wxQ_levelOf_c87 pm (nI 9) a b q M (nI v)) : wxQ_levelOf_c39 pm (nI 9) a b q M (nI v) := ⟨fun z => absurd z (by decide), fun _ => ⟨fun z => absurd z (by decide), fun _ => ⟨fun z => absurd z (by decide), fun _ => ⟨fun z => absurd z (by decide), fun _ => ⟨fun _ => h, fun z => absurd z (by decide)⟩⟩⟩⟩⟩
theorem qx_9 {a b q : Int32} {v : Nat} (h : pm (nI v + 1) M) : wxQ_levelOf_c87 pm (nI 9) a b q M (nI v) := ⟨fun _ => ⟨fun _ => h, fun z => absurd z (by decide)⟩, fun z => absurd z (by decide)⟩
theorem qz_10 {a b q : Int32} (h : wxQ_levelOf_c39 pm (nI 10) a b q M (nI 0)) : wxQ_levelOf pm M (nI 10) a b q := ⟨fun z => absurd z (by decide), fun _ => ⟨fun _ => h, fun z => absurd (by decide) z⟩⟩
theorem qy_10 {a b q : Int32} {v : Nat} (h : wxQ_levelOf_c87 pm (nI 10) a b q M (nI v)) : wxQ_levelOf_c39 pm (nI 10) a b q M (nI v) := ⟨fun z => absurd z (by decide), fun _ => ⟨fun z => absurd z (by decide), fun _ => ⟨fun z => absurd z (by decide), fun _ => ⟨fun z => absurd z (by decide), fun _ => ⟨fun _ => h, fun z => absurd z (by decide)⟩⟩⟩⟩⟩
theorem qx_10 {a b q : Int32} {v : Nat} (h : pm (nI v + 1) M) : wxQ_levelOf_c87 pm (nI 10) a b q M (nI v) := ⟨fun _ => ⟨fun _ => h, fun z => absurd z (by decide)⟩, fun z => absurd z (by decide)⟩
theorem qz_11 {a b q : Int32} (h : wxQ_levelOf_c39 pm (nI 11) a b q M (nI 0)) : wxQ_levelOf pm M (nI 11) a b q := ⟨fun z => absurd z (by decide), fun _ => ⟨fun _ => h, fun z => absurd (by decide) z⟩⟩
theorem qy_11 {a b q : Int32} {v : Nat} (h : wxQ_levelOf_c87 pm (nI 11) a b q M (nI v)) : wxQ_levelOf_c39 pm (nI 11) a b q M (nI v) := ⟨fun z => absurd z (by decide), fun _ => ⟨fun z => absurd z (by decide), fun _ => ⟨fun z => absurd z (by decide), fun _ => ⟨fun z => absurd z (by decide), fun _ => ⟨fun _ => h, fun z => absurd z (by decide)⟩⟩⟩⟩⟩
theorem qx_11 {a b q : Int32} {v : Nat} (h : pm (nI v + 1) M) : wxQ_levelOf_c87 pm (nI 11) a b q M (nI v) := ⟨fun _ => ⟨fun _ => h, fun z => absurd z (by decide)⟩, fun z => absurd z (by decide)⟩
theorem qz_12 {a b q : Int32} (h : wxQ_levelOf_c39 pm (nI 12) a b q M (nI 0)) : wxQ_levelOf pm M (nI 12) a b q := ⟨fun z => absurd z (by decide), fun _ => ⟨fun _ => h, fun z => absurd (by decide) z⟩⟩
theorem qy_12 {a b q : Int32} {v : Nat} (h : wxQ_levelOf_c87 pm (nI 12) a b q M (nI v)) : wxQ_levelOf_c39 pm (nI 12) a b q M (nI v) := ⟨fun z => absurd z (by decide), fun _ => ⟨fun z => absurd z (by decide), fun _ => ⟨fun z => absurd z (by decide), fun _ => ⟨fun z => absurd z (by decide), fun _ => ⟨fun _ => h, fun z => absurd z (by decide)⟩⟩⟩⟩⟩
theorem qx_12 {a b q : Int32} {v : Nat} (h : pm (nI v + 1) M) : wxQ_levelOf_c87 pm (nI 12) a b q M (nI v) := ⟨fun _ => ⟨fun _ => h, fun z => absurd z (by decide)⟩, fun z => absurd z (by decide)⟩
theorem qa_13 {b q : Int32} {l : Nat} (hj : j < n) (hn : n ≤ 64) (m : M 14 j = nI l) (h1 : 1 ≤ l) (hl : l < 1000) (h : wxQ_levelOf_c39 pm (nI 13) (nI j) b q M (nI l)) : wxQ_levelOf pm M (nI 13) (nI j) b q := by
  have cj : (nI j).toNatClampNeg = j := nI_clamp (by omega)
  have vj : vp_in (nI j) 64 := vp_in_nI (by omega) (by omega)
  unfold wxQ_levelOf
  rw [cj, m]
  exact ⟨fun z => absurd z (by decide), fun _ => ⟨fun z => absurd z (by decide), fun _ => ⟨fun z => absurd z (by decide), fun _ => ⟨vj, fun z => absurd z (nI_nle (by omega) (by omega)), fun _ => h⟩⟩⟩⟩
theorem qy_13 {a b q : Int32} {v : Nat} (h : wxQ_levelOf_c87 pm (nI 13) a b q M (nI v)) : wxQ_levelOf_c39 pm (nI 13) a b q M (nI v) := ⟨fun z => absurd z (by decide), fun _ => ⟨fun z => absurd z (by decide), fun _ => ⟨fun z => absurd z (by decide), fun _ => ⟨fun z => absurd z (by decide), fun _ => ⟨fun _ => h, fun z => absurd z (by decide)⟩⟩⟩⟩⟩
theorem qq_13 {a b : Int32} {l v : Nat} (hj : j < n) (hn : n ≤ 64) (m : M 14 j = nI l) (hl : l < 1000) (hv : v < 1000) (h : pm (nI (max v l) + 1) M) : wxQ_levelOf_c87 pm (nI 13) a b (nI j) M (nI v) := by
  have cj : (nI j).toNatClampNeg = j := nI_clamp (by omega)
  have vj : vp_in (nI j) 64 := vp_in_nI (by omega) (by omega)
  have k103 : wxQ_levelOf_c103 pm (nI 13) a b (nI j) M (nI v) := by
    unfold wxQ_levelOf_c103
    rw [cj, m]
    exact ⟨vj, q_max (f := fun w => wxQ_levelOf_c124 pm (nI 13) a b (nI j) M w) hl hv h⟩
  exact ⟨fun _ => ⟨fun z => absurd rfl z, fun _ => k103⟩, fun z => absurd z (by decide)⟩
theorem qa_14 {b q : Int32} {l : Nat} (hj : j < n) (hn : n ≤ 64) (m : M 14 j = nI l) (h1 : 1 ≤ l) (hl : l < 1000) (h : wxQ_levelOf_c39 pm (nI 14) (nI j) b q M (nI l)) : wxQ_levelOf pm M (nI 14) (nI j) b q := by
  have cj : (nI j).toNatClampNeg = j := nI_clamp (by omega)
  have vj : vp_in (nI j) 64 := vp_in_nI (by omega) (by omega)
  unfold wxQ_levelOf
  rw [cj, m]
  exact ⟨fun z => absurd z (by decide), fun _ => ⟨fun z => absurd z (by decide), fun _ => ⟨fun z => absurd z (by decide), fun _ => ⟨vj, fun z => absurd z (nI_nle (by omega) (by omega)), fun _ => h⟩⟩⟩⟩
theorem qb_14 {a q : Int32} {l v : Nat} (hj : j < n) (hn : n ≤ 64) (m : M 14 j = nI l) (hl : l < 1000) (hv : v < 1000) (h : wxQ_levelOf_c87 pm (nI 14) a (nI j) q M (nI (max v l))) : wxQ_levelOf_c39 pm (nI 14) a (nI j) q M (nI v) := by
  have cj : (nI j).toNatClampNeg = j := nI_clamp (by omega)
  have vj : vp_in (nI j) 64 := vp_in_nI (by omega) (by omega)
  have k68 : wxQ_levelOf_c68 pm (nI 14) a (nI j) q M (nI v) := by
    unfold wxQ_levelOf_c68
    rw [cj, m]
    exact ⟨vj, q_max (f := fun w => wxQ_levelOf_c87 pm (nI 14) a (nI j) q M w) hl hv h⟩
  exact ⟨fun z => absurd z (by decide), fun _ => ⟨fun z => absurd z (by decide), fun _ => ⟨fun _ => k68, fun z => absurd (by decide) z⟩⟩⟩
theorem qx_14 {a b q : Int32} {v : Nat} (h : pm (nI v + 1) M) : wxQ_levelOf_c87 pm (nI 14) a b q M (nI v) := ⟨fun _ => ⟨fun _ => h, fun z => absurd z (by decide)⟩, fun z => absurd z (by decide)⟩
theorem qa_15 {b q : Int32} {l : Nat} (hj : j < n) (hn : n ≤ 64) (m : M 14 j = nI l) (h1 : 1 ≤ l) (hl : l < 1000) (h : wxQ_levelOf_c39 pm (nI 15) (nI j) b q M (nI l)) : wxQ_levelOf pm M (nI 15) (nI j) b q := by
  have cj : (nI j).toNatClampNeg = j := nI_clamp (by omega)
  have vj : vp_in (nI j) 64 := vp_in_nI (by omega) (by omega)
  unfold wxQ_levelOf
  rw [cj, m]
  exact ⟨fun z => absurd z (by decide), fun _ => ⟨fun z => absurd z (by decide), fun _ => ⟨fun z => absurd z (by decide), fun _ => ⟨vj, fun z => absurd z (nI_nle (by omega) (by omega)), fun _ => h⟩⟩⟩⟩
theorem qb_15 {a q : Int32} {l v : Nat} (hj : j < n) (hn : n ≤ 64) (m : M 14 j = nI l) (hl : l < 1000) (hv : v < 1000) (h : wxQ_levelOf_c87 pm (nI 15) a (nI j) q M (nI (max v l))) : wxQ_levelOf_c39 pm (nI 15) a (nI j) q M (nI v) := by
  have cj : (nI j).toNatClampNeg = j := nI_clamp (by omega)
  have vj : vp_in (nI j) 64 := vp_in_nI (by omega) (by omega)
  have k68 : wxQ_levelOf_c68 pm (nI 15) a (nI j) q M (nI v) := by
    unfold wxQ_levelOf_c68
    rw [cj, m]
    exact ⟨vj, q_max (f := fun w => wxQ_levelOf_c87 pm (nI 15) a (nI j) q M w) hl hv h⟩
  exact ⟨fun z => absurd z (by decide), fun _ => ⟨fun z => absurd z (by decide), fun _ => ⟨fun z => absurd z (by decide), fun _ => ⟨fun _ => k68, fun z => absurd (by decide) z⟩⟩⟩⟩
theorem qx_15 {a b q : Int32} {v : Nat} (h : pm (nI v + 1) M) : wxQ_levelOf_c87 pm (nI 15) a b q M (nI v) := ⟨fun _ => ⟨fun _ => h, fun z => absurd z (by decide)⟩, fun z => absurd z (by decide)⟩
theorem qz_16 {a b q : Int32} (h : wxQ_levelOf_c39 pm (nI 16) a b q M (nI 0)) : wxQ_levelOf pm M (nI 16) a b q := ⟨fun z => absurd z (by decide), fun _ => ⟨fun z => absurd z (by decide), fun _ => ⟨fun _ => h, fun z => absurd (by decide) z⟩⟩⟩
theorem qy_16 {a b q : Int32} {v : Nat} (h : wxQ_levelOf_c87 pm (nI 16) a b q M (nI v)) : wxQ_levelOf_c39 pm (nI 16) a b q M (nI v) := ⟨fun z => absurd z (by decide), fun _ => ⟨fun z => absurd z (by decide), fun _ => ⟨fun z => absurd z (by decide), fun _ => ⟨fun z => absurd z (by decide), fun _ => ⟨fun _ => h, fun z => absurd z (by decide)⟩⟩⟩⟩⟩
theorem qx_16 {a b q : Int32} {v : Nat} (h : pm (nI v + 1) M) : wxQ_levelOf_c87 pm (nI 16) a b q M (nI v) := ⟨fun _ => ⟨fun _ => h, fun z => absurd z (by decide)⟩, fun z => absurd z (by decide)⟩
theorem qz_17 {a b q : Int32} (h : wxQ_levelOf_c39 pm (nI 17) a b q M (nI 0)) : wxQ_levelOf pm M (nI 17) a b q := ⟨fun z => absurd z (by decide), fun _ => ⟨fun z => absurd z (by decide), fun _ => ⟨fun _ => h, fun z => absurd (by decide) z⟩⟩⟩
theorem qy_17 {a b q : Int32} {v : Nat} (h : wxQ_levelOf_c87 pm (nI 17) a b q M (nI v)) : wxQ_levelOf_c39 pm (nI 17) a b q M (nI v) := ⟨fun z => absurd z (by decide), fun _ => ⟨fun z => absurd z (by decide), fun _ => ⟨fun z => absurd z (by decide), fun _ => ⟨fun z => absurd z (by decide), fun _ => ⟨fun _ => h, fun z => absurd z (by decide)⟩⟩⟩⟩⟩
theorem qx_17 {a b q : Int32} {v : Nat} (h : pm (nI v + 1) M) : wxQ_levelOf_c87 pm (nI 17) a b q M (nI v) := ⟨fun _ => ⟨fun _ => h, fun z => absurd z (by decide)⟩, fun z => absurd z (by decide)⟩
theorem qz_18 {a b q : Int32} (h : wxQ_levelOf_c39 pm (nI 18) a b q M (nI 0)) : wxQ_levelOf pm M (nI 18) a b q := ⟨fun z => absurd z (by decide), fun _ => ⟨fun z => absurd z (by decide), fun _ => ⟨fun _ => h, fun z => absurd (by decide) z⟩⟩⟩
theorem qy_18 {a b q : Int32} {v : Nat} (h : wxQ_levelOf_c87 pm (nI 18) a b q M (nI v)) : wxQ_levelOf_c39 pm (nI 18) a b q M (nI v) := ⟨fun z => absurd z (by decide), fun _ => ⟨fun z => absurd z (by decide), fun _ => ⟨fun z => absurd z (by decide), fun _ => ⟨fun z => absurd z (by decide), fun _ => ⟨fun _ => h, fun z => absurd z (by decide)⟩⟩⟩⟩⟩
theorem qx_18 {a b q : Int32} {v : Nat} (h : pm (nI v + 1) M) : wxQ_levelOf_c87 pm (nI 18) a b q M (nI v) := ⟨fun _ => ⟨fun _ => h, fun z => absurd z (by decide)⟩, fun z => absurd z (by decide)⟩
theorem qz_19 {a b q : Int32} (h : wxQ_levelOf_c39 pm (nI 19) a b q M (nI 0)) : wxQ_levelOf pm M (nI 19) a b q := ⟨fun z => absurd z (by decide), fun _ => ⟨fun z => absurd z (by decide), fun _ => ⟨fun _ => h, fun z => absurd (by decide) z⟩⟩⟩
theorem qy_19 {a b q : Int32} {v : Nat} (h : wxQ_levelOf_c87 pm (nI 19) a b q M (nI v)) : wxQ_levelOf_c39 pm (nI 19) a b q M (nI v) := ⟨fun z => absurd z (by decide), fun _ => ⟨fun z => absurd z (by decide), fun _ => ⟨fun z => absurd z (by decide), fun _ => ⟨fun z => absurd z (by decide), fun _ => ⟨fun _ => h, fun z => absurd z (by decide)⟩⟩⟩⟩⟩
theorem qx_19 {a b q : Int32} {v : Nat} (h : pm (nI v + 1) M) : wxQ_levelOf_c87 pm (nI 19) a b q M (nI v) := ⟨fun _ => ⟨fun _ => h, fun z => absurd z (by decide)⟩, fun z => absurd z (by decide)⟩
theorem qz_20 {a b q : Int32} (h : wxQ_levelOf_c39 pm (nI 20) a b q M (nI 0)) : wxQ_levelOf pm M (nI 20) a b q := ⟨fun z => absurd z (by decide), fun _ => ⟨fun z => absurd z (by decide), fun _ => ⟨fun _ => h, fun z => absurd (by decide) z⟩⟩⟩
theorem qb_20 {a q : Int32} {l v : Nat} (hj : j < n) (hn : n ≤ 64) (m : M 14 j = nI l) (hl : l < 1000) (hv : v < 1000) (h : wxQ_levelOf_c87 pm (nI 20) a (nI j) q M (nI (max v l))) : wxQ_levelOf_c39 pm (nI 20) a (nI j) q M (nI v) := by
  have cj : (nI j).toNatClampNeg = j := nI_clamp (by omega)
  have vj : vp_in (nI j) 64 := vp_in_nI (by omega) (by omega)
  have k68 : wxQ_levelOf_c68 pm (nI 20) a (nI j) q M (nI v) := by
    unfold wxQ_levelOf_c68
    rw [cj, m]
    exact ⟨vj, q_max (f := fun w => wxQ_levelOf_c87 pm (nI 20) a (nI j) q M w) hl hv h⟩
  exact ⟨fun z => absurd z (by decide), fun _ => ⟨fun z => absurd z (by decide), fun _ => ⟨fun z => absurd z (by decide), fun _ => ⟨fun z => absurd z (by decide), fun _ => ⟨fun z => absurd (by decide) z, fun _ => k68⟩⟩⟩⟩⟩
theorem qx_20 {a b q : Int32} {v : Nat} (h : pm (nI v + 1) M) : wxQ_levelOf_c87 pm (nI 20) a b q M (nI v) := ⟨fun _ => ⟨fun _ => h, fun z => absurd z (by decide)⟩, fun z => absurd z (by decide)⟩
theorem qz_21 {a b q : Int32} (h : wxQ_levelOf_c39 pm (nI 21) a b q M (nI 0)) : wxQ_levelOf pm M (nI 21) a b q := ⟨fun z => absurd z (by decide), fun _ => ⟨fun z => absurd z (by decide), fun _ => ⟨fun _ => h, fun z => absurd (by decide) z⟩⟩⟩
theorem qy_21 {a b q : Int32} {v : Nat} (h : wxQ_levelOf_c87 pm (nI 21) a b q M (nI v)) : wxQ_levelOf_c39 pm (nI 21) a b q M (nI v) := ⟨fun z => absurd z (by decide), fun _ => ⟨fun z => absurd z (by decide), fun _ => ⟨fun z => absurd z (by decide), fun _ => ⟨fun z => absurd z (by decide), fun _ => ⟨fun _ => h, fun z => absurd z (by decide)⟩⟩⟩⟩⟩
theorem qx_21 {a b q : Int32} {v : Nat} (h : pm (nI v + 1) M) : wxQ_levelOf_c87 pm (nI 21) a b q M (nI v) := ⟨fun _ => ⟨fun _ => h, fun z => absurd z (by decide)⟩, fun z => absurd z (by decide)⟩
theorem qz_22 {a b q : Int32} (h : wxQ_levelOf_c39 pm (nI 22) a b q M (nI 0)) : wxQ_levelOf pm M (nI 22) a b q := ⟨fun z => absurd z (by decide), fun _ => ⟨fun z => absurd z (by decide), fun _ => ⟨fun _ => h, fun z => absurd (by decide) z⟩⟩⟩
theorem qy_22 {a b q : Int32} {v : Nat} (h : wxQ_levelOf_c87 pm (nI 22) a b q M (nI v)) : wxQ_levelOf_c39 pm (nI 22) a b q M (nI v) := ⟨fun z => absurd z (by decide), fun _ => ⟨fun z => absurd z (by decide), fun _ => ⟨fun z => absurd z (by decide), fun _ => ⟨fun z => absurd z (by decide), fun _ => ⟨fun _ => h, fun z => absurd z (by decide)⟩⟩⟩⟩⟩
theorem qx_22 {a b q : Int32} {v : Nat} (h : pm (nI v + 1) M) : wxQ_levelOf_c87 pm (nI 22) a b q M (nI v) := ⟨fun _ => ⟨fun _ => h, fun z => absurd z (by decide)⟩, fun z => absurd z (by decide)⟩
end ND
theorem node_bad {ρ : Rh} {S : Sg} {M : Rg} {x a b q : Int32} (hI : Iv ρ S M) (hfit : ∀ K : Int32 → Sg → Prop, K 0 S → wxP_fits K ρ S x a b q) (href : ∀ post : Int32 → Rg → Prop, post (-1) M → wxQ_node post M x a b q) : wxT_node (fun r ρ1 S1 => wxQ_node (fun r2 M1 => r = r2 ∧ Iv ρ1 S1 M1) M x a b q) ρ S x a b q 1 5 :=
  hfit _ ⟨fun _ => href _ ⟨rfl, hI⟩, fun z => absurd rfl z⟩
theorem node_good {ρ : Rh} {S : Sg} {M : Rg} {a b q : Int32} {c lm mk lg bg dp kd lv : Nat} {l : List Int32} (hI : Iv ρ S M) (hP : Pv ρ.2.2.1 ρ.2.1 c lm) (hR : Rn ρ.2.2.1 c 0 S M mk lg bg dp) (hF : Fl S M mk) (hV : ρ.2.2.2.1 = tv M) (hT : Tx ρ l) (hm : Tm M l) (hkd : kd ≤ 22) (hl1 : 1 ≤ lv) (hl9 : lv < 1000) (hfit : ∀ K : Int32 → Sg → Prop, K 1 S → wxP_fits K ρ S (nI kd) a b q) (hlev : ∀ K : Int32 → Sg → Prop, K (nI lv) S → wxP_levelOf K ρ S (nI kd) a b q) (href : ∀ post : Int32 → Rg → Prop, c67c post (nI kd) a b q (nI lv) M → wxQ_node post M (nI kd) a b q)
    (hok : ∀ P' : Rg, P' 1 ρ.2.1 = a → P' 2 ρ.2.1 = b → P' 3 ρ.2.1 = q → (∀ j, j < ρ.2.1 → P' 4 j = ρ.2.2.1 4 j) → nOk P' (ρ.2.1 + 1) c ρ.2.1 lv kd) : wxT_node (fun r ρ1 S1 => wxQ_node (fun r2 M1 => r = r2 ∧ Iv ρ1 S1 M1) M (nI kd) a b q) ρ S (nI kd) a b q 1 5 := by
  have hn64 := hP.1.1
  have eN : ρ.2.2.1 7 1 = nI ρ.2.1 := hP.1.2
  have eM : M 17 1 = nI ρ.2.1 := (hR.2.1.2.2.2.2.2.2.2 1 (by omega)).trans eN
  refine hfit _ ⟨fun z => absurd z (by decide), fun _ => hlev _ ⟨fun h8 => ?_, fun h8 => ?_⟩⟩
  · have h8' : lv ≤ 8 := (nI_leI (b := 8) (by omega) (by omega)).mp h8
    unfold wxP_isFull
    rw [eN]
    refine ⟨fun hf => ⟨fun _ => ⟨1, 5, ⟨by omega, by omega⟩, ?_⟩, fun z => absurd rfl z⟩, fun hf => ⟨fun z => absurd z (by decide), fun _ => ?_⟩⟩
    · have hlt : ρ.2.1 < 64 := by
        by_cases w : ρ.2.1 = 64
        · exact absurd (by rw [w]; rfl) hf
        · omega
      unfold wxP_add
      rw [eN, nI_clamp (by omega)]
      refine ⟨⟨vp_in_nI hlt (by omega), rfl, by omega, by omega⟩, hlev _ (fun adr => href _ ?_)⟩
      unfold c67c
      rw [eM, nI_clamp (by omega)]
      refine ⟨fun _ => ⟨fun _ => ⟨vp_in_nI hlt (by omega), rfl, ?_⟩, fun z => absurd z hf⟩, fun z => absurd h8 z⟩
      have hrow : ∀ (Q : Rg) (b0 : Nat) (v : Int32) (r0 r1 r2 r3 r4 r7 i7 : Nat) (w : Int32) (a' i : Nat), (a' ≠ r0 ∧ a' ≠ r1 ∧ a' ≠ r2 ∧ a' ≠ r3 ∧ a' ≠ r4 ∨ i ≠ b0) → (a' ≠ r7 ∨ i ≠ i7) → uu (uu (uu (uu (uu (uu Q r0 b0 (nI kd)) r1 b0 a) r2 b0 b) r3 b0 q) r4 b0 v) r7 i7 w a' i = Q a' i := by
        intro Q b0 v r0 r1 r2 r3 r4 r7 i7 w a' i h1 h2
        rw [uu_n (by omega), uu_n (by omega), uu_n (by omega), uu_n (by omega), uu_n (by omega), uu_n (by omega)]
      have hw := hrow ρ.2.2.1 ρ.2.1 (nI lv) 0 1 2 3 4 7 1 (ρ.2.2.1 7 1 + 1)
      have v0 : (rN ρ adr (nI kd) a b q (nI lv)).2.2.1 0 ρ.2.1 = nI kd := by
        show uu (uu (uu (uu (uu (uu ρ.2.2.1 0 ρ.2.1 (nI kd)) 1 ρ.2.1 a) 2 ρ.2.1 b) 3 ρ.2.1 q) 4 ρ.2.1 (nI lv)) 7 1 (ρ.2.2.1 7 1 + 1) 0 ρ.2.1 = _
        rw [uu_n (by omega), uu_n (by omega), uu_n (by omega), uu_n (by omega), uu_n (by omega), uu_same]
      have v1 : (rN ρ adr (nI kd) a b q (nI lv)).2.2.1 1 ρ.2.1 = a := by
        show uu (uu (uu (uu (uu (uu ρ.2.2.1 0 ρ.2.1 (nI kd)) 1 ρ.2.1 a) 2 ρ.2.1 b) 3 ρ.2.1 q) 4 ρ.2.1 (nI lv)) 7 1 (ρ.2.2.1 7 1 + 1) 1 ρ.2.1 = _
        rw [uu_n (by omega), uu_n (by omega), uu_n (by omega), uu_n (by omega), uu_same]
      have v2 : (rN ρ adr (nI kd) a b q (nI lv)).2.2.1 2 ρ.2.1 = b := by
        show uu (uu (uu (uu (uu (uu ρ.2.2.1 0 ρ.2.1 (nI kd)) 1 ρ.2.1 a) 2 ρ.2.1 b) 3 ρ.2.1 q) 4 ρ.2.1 (nI lv)) 7 1 (ρ.2.2.1 7 1 + 1) 2 ρ.2.1 = _
        rw [uu_n (by omega), uu_n (by omega), uu_n (by omega), uu_same]
      have v3 : (rN ρ adr (nI kd) a b q (nI lv)).2.2.1 3 ρ.2.1 = q := by
        show uu (uu (uu (uu (uu (uu ρ.2.2.1 0 ρ.2.1 (nI kd)) 1 ρ.2.1 a) 2 ρ.2.1 b) 3 ρ.2.1 q) 4 ρ.2.1 (nI lv)) 7 1 (ρ.2.2.1 7 1 + 1) 3 ρ.2.1 = _
        rw [uu_n (by omega), uu_n (by omega), uu_same]
      have v4 : (rN ρ adr (nI kd) a b q (nI lv)).2.2.1 4 ρ.2.1 = nI lv := by
        show uu (uu (uu (uu (uu (uu ρ.2.2.1 0 ρ.2.1 (nI kd)) 1 ρ.2.1 a) 2 ρ.2.1 b) 3 ρ.2.1 q) 4 ρ.2.1 (nI lv)) 7 1 (ρ.2.2.1 7 1 + 1) 4 ρ.2.1 = _
        rw [uu_n (by omega), uu_same]
      have v7 : (rN ρ adr (nI kd) a b q (nI lv)).2.2.1 7 1 = nI (ρ.2.1 + 1) := by
        show uu (uu (uu (uu (uu (uu ρ.2.2.1 0 ρ.2.1 (nI kd)) 1 ρ.2.1 a) 2 ρ.2.1 b) 3 ρ.2.1 q) 4 ρ.2.1 (nI lv)) 7 1 (ρ.2.2.1 7 1 + 1) 7 1 = _
        rw [uu_same, eN, nI_1]
      have hv : ∀ a' i, (4 < a' ∨ i ≠ ρ.2.1) → (a' ≠ 7 ∨ i ≠ 1) → (rN ρ adr (nI kd) a b q (nI lv)).2.2.1 a' i = ρ.2.2.1 a' i := fun a' i h1 h2 => hw a' i (by omega) h2
      refine Iv_prog (ρ' := rN ρ adr (nI kd) a b q (nI lv)) (c' := c) (lm' := lm) hR hF hV hT hm ?_ (fun a' ha' => ?_) ?_ (Nat.le_refl _) rfl
      · obtain ⟨⟨p1, p2⟩, ⟨p3, p4, p5⟩, ⟨p6, p7, p8⟩, p9, p10, p11, p12⟩ := hP
        refine ⟨⟨?_, v7⟩, ⟨p3, p4, (hv 7 0 (by omega) (by omega)).trans p5⟩, ⟨p6, p7, (hv 7 3 (by omega) (by omega)).trans p8⟩, ?_, ?_, ?_, ?_⟩
        · show ρ.2.1 + 1 ≤ 64
          omega
        · rw [hv 7 2 (by omega) (by omega)]; exact p9
        · intro r hr
          rw [hv 5 r (by omega) (by omega)]
          rcases p10 r hr with w | ⟨u, w1, w2⟩
          · exact Or.inl w
          · exact Or.inr ⟨u, (show u < ρ.2.1 + 1 by omega), w2⟩
        · intro i hi
          rw [hv 6 i (by omega) (by omega)]; exact p11 i hi
        · intro k hk
          have hk : k < ρ.2.1 + 1 := hk
          by_cases e : k = ρ.2.1
          · subst e
            exact ⟨lv, kd, v4, hl1, h8', v0, hkd, hok _ v1 v2 v3 (fun j hj => hv 4 j (by omega) (by omega))⟩
          · obtain ⟨lv', kd', n1, n2, n3, n4, n5, n6⟩ := p12 k (by omega)
            refine ⟨lv', kd', (hv 4 k (by omega) (by omega)).trans n1, n2, n3, (hv 0 k (by omega) (by omega)).trans n4, n5, ?_⟩
            exact nOk_at (fun a' ha' => hv a' k (by omega) (by omega)) (fun j hj => hv 4 j (by omega) (by omega)) n6
      · rcases ha' with ha' | ha'
        · rw [uu_row (by omega), uu_row (by omega), uu_row (by omega), uu_row (by omega), uu_row (by omega), uu_row (by omega)]
        · rw [uu_row (by omega), uu_row (by omega), uu_row (by omega), uu_row (by omega), uu_row (by omega), uu_row (by omega)]
      · obtain ⟨s0, s1, s2, s3, s4, s5, s6, s7⟩ := hR.2.1
        have hm' := hrow M ρ.2.1 (nI lv) 10 11 12 13 14 17 1 (nI ρ.2.1 + 1)
        have go : ∀ r : Nat, r < 5 → M (10 + r) = ρ.2.2.1 r → ∀ v : Int32, uu (uu (uu (uu (uu (uu M 10 ρ.2.1 (nI kd)) 11 ρ.2.1 a) 12 ρ.2.1 b) 13 ρ.2.1 q) 14 ρ.2.1 (nI lv)) 17 1 (nI ρ.2.1 + 1) (10 + r) ρ.2.1 = v → (rN ρ adr (nI kd) a b q (nI lv)).2.2.1 r ρ.2.1 = v → uu (uu (uu (uu (uu (uu M 10 ρ.2.1 (nI kd)) 11 ρ.2.1 a) 12 ρ.2.1 b) 13 ρ.2.1 q) 14 ρ.2.1 (nI lv)) 17 1 (nI ρ.2.1 + 1) (10 + r) = (rN ρ adr (nI kd) a b q (nI lv)).2.2.1 r := by
          intro r hr e v h1 h2
          funext i
          by_cases w : i = ρ.2.1
          · subst w; rw [h1, h2]
          · rw [hm' (10 + r) i (by omega) (by omega), hv r i (by omega) (by omega), e]
        refine ⟨go 0 (by omega) s0 (nI kd) ?_ v0, go 1 (by omega) s1 a ?_ v1, go 2 (by omega) s2 b ?_ v2, go 3 (by omega) s3 q ?_ v3, go 4 (by omega) s4 (nI lv) ?_ v4, fun i hi => ?_, fun i hi => ?_, fun i hi => ?_⟩
        · rw [uu_n (by omega), uu_n (by omega), uu_n (by omega), uu_n (by omega), uu_n (by omega), uu_same]
        · rw [uu_n (by omega), uu_n (by omega), uu_n (by omega), uu_n (by omega), uu_same]
        · rw [uu_n (by omega), uu_n (by omega), uu_n (by omega), uu_same]
        · rw [uu_n (by omega), uu_n (by omega), uu_same]
        · rw [uu_n (by omega), uu_same]
        · rw [hm' 15 i (by omega) (by omega), hv 5 i (by omega) (by omega)]; exact s5 i hi
        · rw [hm' 16 i (by omega) (by omega), hv 6 i (by omega) (by omega)]; exact s6 i hi
        · by_cases w : i = 1
          · subst w; rw [v7, uu_same, nI_1]
          · rw [hm' 17 i (by omega) (by omega), hv 7 i (by omega) (by omega)]; exact s7 i hi
    · refine href _ ?_
      unfold c67c
      rw [eM]
      exact ⟨fun _ => ⟨fun z => absurd hf z, fun _ => ⟨rfl, hI⟩⟩, fun z => absurd h8 z⟩
  · refine href _ ?_
    unfold c67c
    exact ⟨fun z => absurd z h8, fun _ => ⟨rfl, hI⟩⟩

theorem node_0 {ρ : Rh} {S : Sg} {M : Rg} (hI : Iv ρ S M) (a b q : Int32) : wxT_node (fun r ρ1 S1 => wxQ_node (fun r2 M1 => r = r2 ∧ Iv ρ1 S1 M1) M (nI 0) a b q) ρ S (nI 0) a b q 1 5 := by
  obtain ⟨c, lm, mk, lg, bg, dp, l, hP, hR, hF, hV, hT, hm⟩ := id hI
  have hn64 := hP.1.1
  have hc1 := hP.2.1.1
  have hc2 := hP.2.1.2.1
  have ec : ρ.2.2.1 7 0 = nI c := hP.2.1.2.2
  have eC : M 17 0 - 1 = nI (c - 1) := by
    rw [(hR.2.1.2.2.2.2.2.2.2 0 (by omega)).trans ec, show c = (c - 1) + 1 by omega]; exact nI_pred _
  have eN : ρ.2.2.1 7 1 = nI ρ.2.1 := hP.1.2
  have eM : M 17 1 = nI ρ.2.1 := (hR.2.1.2.2.2.2.2.2.2 1 (by omega)).trans eN
  have e14 : M 14 = ρ.2.2.1 4 := hR.2.1.2.2.2.2.1
  have hlev : ∀ K : Int32 → Sg → Prop, K (nI 1) S → wxP_levelOf K ρ S (nI 0) a b q := fun K hK => levelOf_0 hK
  refine node_good (lv := 1) (kd := 0) hI hP hR hF hV hT hm (by omega) (by omega) (by omega) (fun K hK => fits_0 hK) hlev (fun post hp67 => out_in (j := 0) (n := 23) (by omega) (by omega) rfl ⟨fun z => absurd rfl z, fun _ => (badA_0 ⟨fun z => absurd rfl z, fun _ => (badB_0 ⟨fun _ => ⟨fun _ => ⟨fun _ => (qz_0 (qy_0 (qx_0 (by rw [nI_1, show 0 + 1 = 1 by omega]; exact hp67)))), (fun z => absurd z (by decide))⟩, (fun z => absurd z (by decide))⟩, fun z => absurd rfl z⟩)⟩)⟩) ?_
  intro P' e1 e2 e3 e4
  exact trivial
theorem node_1 {ρ : Rh} {S : Sg} {M : Rg} (hI : Iv ρ S M) (a b q : Int32) : wxT_node (fun r ρ1 S1 => wxQ_node (fun r2 M1 => r = r2 ∧ Iv ρ1 S1 M1) M (nI 1) a b q) ρ S (nI 1) a b q 1 5 := by
  obtain ⟨c, lm, mk, lg, bg, dp, l, hP, hR, hF, hV, hT, hm⟩ := id hI
  have hn64 := hP.1.1
  have hc1 := hP.2.1.1
  have hc2 := hP.2.1.2.1
  have ec : ρ.2.2.1 7 0 = nI c := hP.2.1.2.2
  have eC : M 17 0 - 1 = nI (c - 1) := by
    rw [(hR.2.1.2.2.2.2.2.2.2 0 (by omega)).trans ec, show c = (c - 1) + 1 by omega]; exact nI_pred _
  have eN : ρ.2.2.1 7 1 = nI ρ.2.1 := hP.1.2
  have eM : M 17 1 = nI ρ.2.1 := (hR.2.1.2.2.2.2.2.2.2 1 (by omega)).trans eN
  have e14 : M 14 = ρ.2.2.1 4 := hR.2.1.2.2.2.2.1
  rcases ix_n a 4 (by omega) with ha | ⟨ja, ha, rfl⟩
  · exact node_bad hI (fun K hK => fits_1 (isV_ex ha ⟨Or.inl rfl, hK⟩)) (fun post hp => out_in (j := 1) (n := 23) (by omega) (by omega) rfl ⟨fun z => absurd rfl z, fun _ => (badA_1 (out_ex ha (by omega) (by omega) rfl ⟨Or.inr rfl, ⟨fun _ => hp, (fun z => absurd z (by decide))⟩⟩))⟩)
  · have hlev : ∀ K : Int32 → Sg → Prop, K (nI 1) S → wxP_levelOf K ρ S (nI 1) (nI ja) b q := fun K hK => levelOf_1 hK
    refine node_good (lv := 1) (kd := 1) hI hP hR hF hV hT hm (by omega) (by omega) (by omega) (fun K hK => fits_1 (isV_in ha ⟨Or.inr rfl, hK⟩)) hlev (fun post hp67 => out_in (j := 1) (n := 23) (by omega) (by omega) rfl ⟨fun z => absurd rfl z, fun _ => (badA_1 (out_in ha (by omega) rfl ⟨Or.inl rfl, ⟨fun z => absurd rfl z, fun _ => (badB_1 ⟨fun _ => ⟨fun _ => ⟨fun _ => (qz_1 (qy_1 (qx_1 (by rw [nI_1, show 0 + 1 = 1 by omega]; exact hp67)))), (fun z => absurd z (by decide))⟩, (fun z => absurd z (by decide))⟩, fun z => absurd rfl z⟩)⟩⟩))⟩) ?_
    intro P' e1 e2 e3 e4
    simp only [nOk]
    exact (by rw [e1]; exact ⟨ja, ha, rfl⟩)
theorem node_2 {ρ : Rh} {S : Sg} {M : Rg} (hI : Iv ρ S M) (a b q : Int32) : wxT_node (fun r ρ1 S1 => wxQ_node (fun r2 M1 => r = r2 ∧ Iv ρ1 S1 M1) M (nI 2) a b q) ρ S (nI 2) a b q 1 5 := by
  obtain ⟨c, lm, mk, lg, bg, dp, l, hP, hR, hF, hV, hT, hm⟩ := id hI
  have hn64 := hP.1.1
  have hc1 := hP.2.1.1
  have hc2 := hP.2.1.2.1
  have ec : ρ.2.2.1 7 0 = nI c := hP.2.1.2.2
  have eC : M 17 0 - 1 = nI (c - 1) := by
    rw [(hR.2.1.2.2.2.2.2.2.2 0 (by omega)).trans ec, show c = (c - 1) + 1 by omega]; exact nI_pred _
  have eN : ρ.2.2.1 7 1 = nI ρ.2.1 := hP.1.2
  have eM : M 17 1 = nI ρ.2.1 := (hR.2.1.2.2.2.2.2.2.2 1 (by omega)).trans eN
  have e14 : M 14 = ρ.2.2.1 4 := hR.2.1.2.2.2.2.1
  rcases ix_n a 4 (by omega) with ha | ⟨ja, ha, rfl⟩
  · exact node_bad hI (fun K hK => fits_2 (isV_ex ha ⟨Or.inl rfl, hK⟩)) (fun post hp => out_in (j := 2) (n := 23) (by omega) (by omega) rfl ⟨fun z => absurd rfl z, fun _ => (badA_2 (out_ex ha (by omega) (by omega) rfl ⟨Or.inr rfl, ⟨fun _ => hp, (fun z => absurd z (by decide))⟩⟩))⟩)
  · have hlev : ∀ K : Int32 → Sg → Prop, K (nI 1) S → wxP_levelOf K ρ S (nI 2) (nI ja) b q := fun K hK => levelOf_2 hK
    refine node_good (lv := 1) (kd := 2) hI hP hR hF hV hT hm (by omega) (by omega) (by omega) (fun K hK => fits_2 (isV_in ha ⟨Or.inr rfl, hK⟩)) hlev (fun post hp67 => out_in (j := 2) (n := 23) (by omega) (by omega) rfl ⟨fun z => absurd rfl z, fun _ => (badA_2 (out_in ha (by omega) rfl ⟨Or.inl rfl, ⟨fun z => absurd rfl z, fun _ => (badB_2 ⟨fun _ => ⟨fun _ => ⟨fun _ => (qz_2 (qy_2 (qx_2 (by rw [nI_1, show 0 + 1 = 1 by omega]; exact hp67)))), (fun z => absurd z (by decide))⟩, (fun z => absurd z (by decide))⟩, fun z => absurd rfl z⟩)⟩⟩))⟩) ?_
    intro P' e1 e2 e3 e4
    simp only [nOk]
    exact (by rw [e1]; exact ⟨ja, ha, rfl⟩)
theorem node_3 {ρ : Rh} {S : Sg} {M : Rg} (hI : Iv ρ S M) (a b q : Int32) : wxT_node (fun r ρ1 S1 => wxQ_node (fun r2 M1 => r = r2 ∧ Iv ρ1 S1 M1) M (nI 3) a b q) ρ S (nI 3) a b q 1 5 := by
  obtain ⟨c, lm, mk, lg, bg, dp, l, hP, hR, hF, hV, hT, hm⟩ := id hI
  have hn64 := hP.1.1
  have hc1 := hP.2.1.1
  have hc2 := hP.2.1.2.1
  have ec : ρ.2.2.1 7 0 = nI c := hP.2.1.2.2
  have eC : M 17 0 - 1 = nI (c - 1) := by
    rw [(hR.2.1.2.2.2.2.2.2.2 0 (by omega)).trans ec, show c = (c - 1) + 1 by omega]; exact nI_pred _
  have eN : ρ.2.2.1 7 1 = nI ρ.2.1 := hP.1.2
  have eM : M 17 1 = nI ρ.2.1 := (hR.2.1.2.2.2.2.2.2.2 1 (by omega)).trans eN
  have e14 : M 14 = ρ.2.2.1 4 := hR.2.1.2.2.2.2.1
  rcases ix_n a 4 (by omega) with ha | ⟨ja, ha, rfl⟩
  · exact node_bad hI (fun K hK => fits_3 (isV_ex ha ⟨Or.inl rfl, hK⟩)) (fun post hp => out_in (j := 3) (n := 23) (by omega) (by omega) rfl ⟨fun z => absurd rfl z, fun _ => (badA_3 (out_ex ha (by omega) (by omega) rfl ⟨Or.inr rfl, ⟨fun _ => hp, (fun z => absurd z (by decide))⟩⟩))⟩)
  · have hlev : ∀ K : Int32 → Sg → Prop, K (nI 1) S → wxP_levelOf K ρ S (nI 3) (nI ja) b q := fun K hK => levelOf_3 hK
    refine node_good (lv := 1) (kd := 3) hI hP hR hF hV hT hm (by omega) (by omega) (by omega) (fun K hK => fits_3 (isV_in ha ⟨Or.inr rfl, hK⟩)) hlev (fun post hp67 => out_in (j := 3) (n := 23) (by omega) (by omega) rfl ⟨fun z => absurd rfl z, fun _ => (badA_3 (out_in ha (by omega) rfl ⟨Or.inl rfl, ⟨fun z => absurd rfl z, fun _ => (badB_3 ⟨fun _ => ⟨fun _ => ⟨fun _ => (qz_3 (qy_3 (qx_3 (by rw [nI_1, show 0 + 1 = 1 by omega]; exact hp67)))), (fun z => absurd z (by decide))⟩, (fun z => absurd z (by decide))⟩, fun z => absurd rfl z⟩)⟩⟩))⟩) ?_
    intro P' e1 e2 e3 e4
    simp only [nOk]
    exact (by rw [e1]; exact ⟨ja, ha, rfl⟩)
theorem node_4 {ρ : Rh} {S : Sg} {M : Rg} (hI : Iv ρ S M) (a b q : Int32) : wxT_node (fun r ρ1 S1 => wxQ_node (fun r2 M1 => r = r2 ∧ Iv ρ1 S1 M1) M (nI 4) a b q) ρ S (nI 4) a b q 1 5 := by
  obtain ⟨c, lm, mk, lg, bg, dp, l, hP, hR, hF, hV, hT, hm⟩ := id hI
  have hn64 := hP.1.1
  have hc1 := hP.2.1.1
  have hc2 := hP.2.1.2.1
  have ec : ρ.2.2.1 7 0 = nI c := hP.2.1.2.2
  have eC : M 17 0 - 1 = nI (c - 1) := by
    rw [(hR.2.1.2.2.2.2.2.2.2 0 (by omega)).trans ec, show c = (c - 1) + 1 by omega]; exact nI_pred _
  have eN : ρ.2.2.1 7 1 = nI ρ.2.1 := hP.1.2
  have eM : M 17 1 = nI ρ.2.1 := (hR.2.1.2.2.2.2.2.2.2 1 (by omega)).trans eN
  have e14 : M 14 = ρ.2.2.1 4 := hR.2.1.2.2.2.2.1
  rcases ix_n a ρ.2.1 (by omega) with ha | ⟨ja, ha, rfl⟩
  · exact node_bad hI (fun K hK => fits_4 (isN_ex ha eN ⟨fun _ => hK, fun z => absurd rfl z⟩)) (fun post hp => out_in (j := 4) (n := 23) (by omega) (by omega) rfl ⟨fun z => absurd rfl z, fun _ => (badA_4 (nn_ex ha (by omega) eM ⟨Or.inr rfl, ⟨fun _ => hp, (fun z => absurd z (by decide))⟩⟩))⟩)
  · rcases ix_n b ρ.2.1 (by omega) with hb | ⟨jb, hb, rfl⟩
    · exact node_bad hI (fun K hK => fits_4 (isN_in ha (by omega) eN ⟨(fun z => absurd z (by decide)), fun _ => (isN_ex hb eN ⟨fun _ => hK, fun z => absurd rfl z⟩)⟩)) (fun post hp => out_in (j := 4) (n := 23) (by omega) (by omega) rfl ⟨fun z => absurd rfl z, fun _ => (badA_4 (nn_in ha (by omega) eM ⟨Or.inl rfl, ⟨fun z => absurd rfl z, fun _ => (badB_4 (nn_ex hb (by omega) eM ⟨Or.inr rfl, ⟨(fun z => absurd z (by decide)), fun _ => hp⟩⟩))⟩⟩))⟩)
    · obtain ⟨la, ka, la1, la2, la3, -⟩ := hP.2.2.2.2.2.2 ja ha
      have ma : M 14 ja = nI la := by rw [e14]; exact la1
      obtain ⟨lb, kb, lb1, lb2, lb3, -⟩ := hP.2.2.2.2.2.2 jb hb
      have mb : M 14 jb = nI lb := by rw [e14]; exact lb1
      have hlev : ∀ K : Int32 → Sg → Prop, K (nI (1 + max la lb)) S → wxP_levelOf K ρ S (nI 4) (nI ja) (nI jb) q := fun K hK => levelOf_4 (lvl_in ha (by omega) eN la1 (lvl_in hb (by omega) eN lb1 (by rw [lv_mx (by omega) (by omega)]; exact hK)))
      refine node_good (lv := (1 + max la lb)) (kd := 4) hI hP hR hF hV hT hm (by omega) (by omega) (by omega) (fun K hK => fits_4 (isN_in ha (by omega) eN ⟨(fun z => absurd z (by decide)), fun _ => (isN_in hb (by omega) eN ⟨(fun z => absurd z (by decide)), fun _ => hK⟩)⟩)) hlev (fun post hp67 => out_in (j := 4) (n := 23) (by omega) (by omega) rfl ⟨fun z => absurd rfl z, fun _ => (badA_4 (nn_in ha (by omega) eM ⟨Or.inl rfl, ⟨fun z => absurd rfl z, fun _ => (badB_4 (nn_in hb (by omega) eM ⟨Or.inl rfl, ⟨fun _ => ⟨fun _ => ⟨fun _ => (qa_4 ha (by omega) ma (by omega) (by omega) (qb_4 hb (by omega) mb (by omega) (by omega) (qx_4 (by rw [nI_1, show (max la lb) + 1 = (1 + max la lb) by omega]; exact hp67)))), (fun z => absurd z (by decide))⟩, (fun z => absurd z (by decide))⟩, fun z => absurd rfl z⟩⟩))⟩⟩))⟩) ?_
      intro P' e1 e2 e3 e4
      simp only [nOk]
      exact ⟨(by rw [e1]; exact ⟨ja, la, by omega, rfl, (e4 ja (by omega)).trans la1, la2, by omega⟩), (by rw [e2]; exact ⟨jb, lb, by omega, rfl, (e4 jb (by omega)).trans lb1, lb2, by omega⟩)⟩
theorem node_5 {ρ : Rh} {S : Sg} {M : Rg} (hI : Iv ρ S M) (a b q : Int32) : wxT_node (fun r ρ1 S1 => wxQ_node (fun r2 M1 => r = r2 ∧ Iv ρ1 S1 M1) M (nI 5) a b q) ρ S (nI 5) a b q 1 5 := by
  obtain ⟨c, lm, mk, lg, bg, dp, l, hP, hR, hF, hV, hT, hm⟩ := id hI
  have hn64 := hP.1.1
  have hc1 := hP.2.1.1
  have hc2 := hP.2.1.2.1
  have ec : ρ.2.2.1 7 0 = nI c := hP.2.1.2.2
  have eC : M 17 0 - 1 = nI (c - 1) := by
    rw [(hR.2.1.2.2.2.2.2.2.2 0 (by omega)).trans ec, show c = (c - 1) + 1 by omega]; exact nI_pred _
  have eN : ρ.2.2.1 7 1 = nI ρ.2.1 := hP.1.2
  have eM : M 17 1 = nI ρ.2.1 := (hR.2.1.2.2.2.2.2.2.2 1 (by omega)).trans eN
  have e14 : M 14 = ρ.2.2.1 4 := hR.2.1.2.2.2.2.1
  rcases ix_n a 4 (by omega) with ha | ⟨ja, ha, rfl⟩
  · exact node_bad hI (fun K hK => fits_5 (isV_ex ha ⟨fun _ => hK, fun z => absurd rfl z⟩)) (fun post hp => out_in (j := 5) (n := 23) (by omega) (by omega) rfl ⟨fun z => absurd rfl z, fun _ => (badA_5 (out_ex ha (by omega) (by omega) rfl ⟨Or.inr rfl, ⟨fun _ => hp, (fun z => absurd z (by decide))⟩⟩))⟩)
  · rcases ix_n b ρ.2.1 (by omega) with hb | ⟨jb, hb, rfl⟩
    · exact node_bad hI (fun K hK => fits_5 (isV_in ha ⟨(fun z => absurd z (by decide)), fun _ => (isN_ex hb eN ⟨fun _ => hK, fun z => absurd rfl z⟩)⟩)) (fun post hp => out_in (j := 5) (n := 23) (by omega) (by omega) rfl ⟨fun z => absurd rfl z, fun _ => (badA_5 (out_in ha (by omega) rfl ⟨Or.inl rfl, ⟨fun z => absurd rfl z, fun _ => (badB_5 (nn_ex hb (by omega) eM ⟨Or.inr rfl, ⟨(fun z => absurd z (by decide)), fun _ => hp⟩⟩))⟩⟩))⟩)
    · by_cases hq1 : q = -1
      · subst hq1
        obtain ⟨lb, kb, lb1, lb2, lb3, -⟩ := hP.2.2.2.2.2.2 jb hb
        have mb : M 14 jb = nI lb := by rw [e14]; exact lb1
        have hlev : ∀ K : Int32 → Sg → Prop, K (nI (1 + lb)) S → wxP_levelOf K ρ S (nI 5) (nI ja) (nI jb) (-1) := fun K hK => levelOf_5 (lvl_in hb (by omega) eN lb1 (lvl_m1 (by rw [lv_m0 (by omega)]; exact hK)))
        refine node_good (lv := (1 + lb)) (kd := 5) hI hP hR hF hV hT hm (by omega) (by omega) (by omega) (fun K hK => fits_5 (isV_in ha ⟨(fun z => absurd z (by decide)), fun _ => (isN_in hb (by omega) eN ⟨(fun z => absurd z (by decide)), fun _ => ⟨fun _ => hK, fun z => absurd rfl z⟩⟩)⟩)) hlev (fun post hp67 => out_in (j := 5) (n := 23) (by omega) (by omega) rfl ⟨fun z => absurd rfl z, fun _ => (badA_5 (out_in ha (by omega) rfl ⟨Or.inl rfl, ⟨fun z => absurd rfl z, fun _ => (badB_5 (nn_in hb (by omega) eM ⟨Or.inl rfl, ⟨fun _ => ⟨fun z => absurd rfl z, fun _ => ⟨fun _ => ⟨fun _ => (qz_5 (qb_5 hb (by omega) mb (by omega) (by omega) (qx_5 (by rw [nI_1, show (max 0 lb) + 1 = (1 + lb) by omega]; exact hp67)))), (fun z => absurd z (by decide))⟩, fun z => absurd rfl z⟩⟩, fun z => absurd rfl z⟩⟩))⟩⟩))⟩) ?_
        intro P' e1 e2 e3 e4
        simp only [nOk]
        exact ⟨(by rw [e1]; exact ⟨ja, ha, rfl⟩), (by rw [e2]; exact ⟨jb, lb, by omega, rfl, (e4 jb (by omega)).trans lb1, lb2, by omega⟩), (by rw [e3]; exact Or.inl rfl)⟩
      rcases ix_n q ρ.2.1 (by omega) with hq | ⟨jq, hq, rfl⟩
      · exact node_bad hI (fun K hK => fits_5 (isV_in ha ⟨(fun z => absurd z (by decide)), fun _ => (isN_in hb (by omega) eN ⟨(fun z => absurd z (by decide)), fun _ => ⟨fun z => absurd z hq1, fun _ => (isN_ex hq eN ⟨fun _ => hK, fun z => absurd rfl z⟩)⟩⟩)⟩)) (fun post hp => out_in (j := 5) (n := 23) (by omega) (by omega) rfl ⟨fun z => absurd rfl z, fun _ => (badA_5 (out_in ha (by omega) rfl ⟨Or.inl rfl, ⟨fun z => absurd rfl z, fun _ => (badB_5 (nn_in hb (by omega) eM ⟨Or.inl rfl, ⟨fun _ => ⟨fun z => absurd rfl z, fun _ => ⟨fun z => absurd z hq1, fun _ => (nn_ex hq (by omega) eM ⟨fun _ => hp, (fun z => absurd z (by decide))⟩)⟩⟩, fun z => absurd rfl z⟩⟩))⟩⟩))⟩)
      · obtain ⟨lb, kb, lb1, lb2, lb3, -⟩ := hP.2.2.2.2.2.2 jb hb
        have mb : M 14 jb = nI lb := by rw [e14]; exact lb1
        obtain ⟨lq, kq, lq1, lq2, lq3, -⟩ := hP.2.2.2.2.2.2 jq hq
        have mq : M 14 jq = nI lq := by rw [e14]; exact lq1
        have hlev : ∀ K : Int32 → Sg → Prop, K (nI (1 + max lb lq)) S → wxP_levelOf K ρ S (nI 5) (nI ja) (nI jb) (nI jq) := fun K hK => levelOf_5 (lvl_in hb (by omega) eN lb1 (lvl_in hq (by omega) eN lq1 (by rw [lv_mx (by omega) (by omega)]; exact hK)))
        refine node_good (lv := (1 + max lb lq)) (kd := 5) hI hP hR hF hV hT hm (by omega) (by omega) (by omega) (fun K hK => fits_5 (isV_in ha ⟨(fun z => absurd z (by decide)), fun _ => (isN_in hb (by omega) eN ⟨(fun z => absurd z (by decide)), fun _ => ⟨fun z => absurd z (nI_m1 (by omega)), fun _ => (isN_in hq (by omega) eN ⟨(fun z => absurd z (by decide)), fun _ => hK⟩)⟩⟩)⟩)) hlev (fun post hp67 => out_in (j := 5) (n := 23) (by omega) (by omega) rfl ⟨fun z => absurd rfl z, fun _ => (badA_5 (out_in ha (by omega) rfl ⟨Or.inl rfl, ⟨fun z => absurd rfl z, fun _ => (badB_5 (nn_in hb (by omega) eM ⟨Or.inl rfl, ⟨fun _ => ⟨fun z => absurd rfl z, fun _ => ⟨fun z => absurd z (nI_m1 (by omega)), fun _ => (nn_in hq (by omega) eM ⟨fun z => absurd rfl z, fun _ => ⟨fun _ => (qz_5 (qb_5 hb (by omega) mb (by omega) (by omega) (qq_5 hq (by omega) mq (by omega) (by omega) (by rw [nI_1, show (max (max 0 lb) lq) + 1 = (1 + max lb lq) by omega]; exact hp67)))), (fun z => absurd z (by decide))⟩⟩)⟩⟩, fun z => absurd rfl z⟩⟩))⟩⟩))⟩) ?_
        intro P' e1 e2 e3 e4
        simp only [nOk]
        exact ⟨(by rw [e1]; exact ⟨ja, ha, rfl⟩), (by rw [e2]; exact ⟨jb, lb, by omega, rfl, (e4 jb (by omega)).trans lb1, lb2, by omega⟩), (by rw [e3]; exact Or.inr ⟨jq, lq, by omega, rfl, (e4 jq (by omega)).trans lq1, lq2, by omega⟩)⟩
theorem node_6 {ρ : Rh} {S : Sg} {M : Rg} (hI : Iv ρ S M) (a b q : Int32) : wxT_node (fun r ρ1 S1 => wxQ_node (fun r2 M1 => r = r2 ∧ Iv ρ1 S1 M1) M (nI 6) a b q) ρ S (nI 6) a b q 1 5 := by
  obtain ⟨c, lm, mk, lg, bg, dp, l, hP, hR, hF, hV, hT, hm⟩ := id hI
  have hn64 := hP.1.1
  have hc1 := hP.2.1.1
  have hc2 := hP.2.1.2.1
  have ec : ρ.2.2.1 7 0 = nI c := hP.2.1.2.2
  have eC : M 17 0 - 1 = nI (c - 1) := by
    rw [(hR.2.1.2.2.2.2.2.2.2 0 (by omega)).trans ec, show c = (c - 1) + 1 by omega]; exact nI_pred _
  have eN : ρ.2.2.1 7 1 = nI ρ.2.1 := hP.1.2
  have eM : M 17 1 = nI ρ.2.1 := (hR.2.1.2.2.2.2.2.2.2 1 (by omega)).trans eN
  have e14 : M 14 = ρ.2.2.1 4 := hR.2.1.2.2.2.2.1
  rcases ix_L a with ha | ⟨ja, ha1, ha2, rfl⟩
  · exact node_bad hI (fun K hK => fits_6 (L_ex ha hK)) (fun post hp => out_in (j := 6) (n := 23) (by omega) (by omega) rfl ⟨fun z => absurd rfl z, fun _ => (badA_6 (qL_ex ha ⟨Or.inr rfl, ⟨fun _ => hp, (fun z => absurd z (by decide))⟩⟩))⟩)
  · rcases ix_n b ρ.2.1 (by omega) with hb | ⟨jb, hb, rfl⟩
    · exact node_bad hI (fun K hK => fits_6 (L_in ha1 ha2 (isN_ex hb eN ⟨fun _ => hK, fun z => absurd rfl z⟩))) (fun post hp => out_in (j := 6) (n := 23) (by omega) (by omega) rfl ⟨fun z => absurd rfl z, fun _ => (badA_6 (qL_in ha1 ha2 ⟨Or.inl rfl, ⟨fun z => absurd rfl z, fun _ => (badB_6 (nn_ex hb (by omega) eM ⟨Or.inr rfl, ⟨(fun z => absurd z (by decide)), fun _ => hp⟩⟩))⟩⟩))⟩)
    · obtain ⟨lb, kb, lb1, lb2, lb3, -⟩ := hP.2.2.2.2.2.2 jb hb
      have mb : M 14 jb = nI lb := by rw [e14]; exact lb1
      have hlev : ∀ K : Int32 → Sg → Prop, K (nI (1 + lb)) S → wxP_levelOf K ρ S (nI 6) (nI ja) (nI jb) q := fun K hK => levelOf_6 (lvl_in hb (by omega) eN lb1 (by rw [nI_add1]; exact hK))
      refine node_good (lv := (1 + lb)) (kd := 6) hI hP hR hF hV hT hm (by omega) (by omega) (by omega) (fun K hK => fits_6 (L_in ha1 ha2 (isN_in hb (by omega) eN ⟨(fun z => absurd z (by decide)), fun _ => hK⟩))) hlev (fun post hp67 => out_in (j := 6) (n := 23) (by omega) (by omega) rfl ⟨fun z => absurd rfl z, fun _ => (badA_6 (qL_in ha1 ha2 ⟨Or.inl rfl, ⟨fun z => absurd rfl z, fun _ => (badB_6 (nn_in hb (by omega) eM ⟨Or.inl rfl, ⟨fun _ => ⟨fun _ => ⟨fun _ => (qz_6 (qb_6 hb (by omega) mb (by omega) (by omega) (qx_6 (by rw [nI_1, show (max 0 lb) + 1 = (1 + lb) by omega]; exact hp67)))), (fun z => absurd z (by decide))⟩, (fun z => absurd z (by decide))⟩, fun z => absurd rfl z⟩⟩))⟩⟩))⟩) ?_
      intro P' e1 e2 e3 e4
      simp only [nOk]
      exact ⟨(by rw [e1]; exact ⟨ja, ha1, ha2, rfl⟩), (by rw [e2]; exact ⟨jb, lb, by omega, rfl, (e4 jb (by omega)).trans lb1, lb2, by omega⟩)⟩
theorem node_7 {ρ : Rh} {S : Sg} {M : Rg} (hI : Iv ρ S M) (a b q : Int32) : wxT_node (fun r ρ1 S1 => wxQ_node (fun r2 M1 => r = r2 ∧ Iv ρ1 S1 M1) M (nI 7) a b q) ρ S (nI 7) a b q 1 5 := by
  obtain ⟨c, lm, mk, lg, bg, dp, l, hP, hR, hF, hV, hT, hm⟩ := id hI
  have hn64 := hP.1.1
  have hc1 := hP.2.1.1
  have hc2 := hP.2.1.2.1
  have ec : ρ.2.2.1 7 0 = nI c := hP.2.1.2.2
  have eC : M 17 0 - 1 = nI (c - 1) := by
    rw [(hR.2.1.2.2.2.2.2.2.2 0 (by omega)).trans ec, show c = (c - 1) + 1 by omega]; exact nI_pred _
  have eN : ρ.2.2.1 7 1 = nI ρ.2.1 := hP.1.2
  have eM : M 17 1 = nI ρ.2.1 := (hR.2.1.2.2.2.2.2.2.2 1 (by omega)).trans eN
  have e14 : M 14 = ρ.2.2.1 4 := hR.2.1.2.2.2.2.1
  have hlev : ∀ K : Int32 → Sg → Prop, K (nI 1) S → wxP_levelOf K ρ S (nI 7) a b q := fun K hK => levelOf_7 hK
  refine node_good (lv := 1) (kd := 7) hI hP hR hF hV hT hm (by omega) (by omega) (by omega) (fun K hK => fits_7 hK) hlev (fun post hp67 => out_in (j := 7) (n := 23) (by omega) (by omega) rfl ⟨fun z => absurd rfl z, fun _ => (badA_7 ⟨fun z => absurd rfl z, fun _ => (badB_7 ⟨fun _ => ⟨fun _ => ⟨fun _ => (qz_7 (qy_7 (qx_7 (by rw [nI_1, show 0 + 1 = 1 by omega]; exact hp67)))), (fun z => absurd z (by decide))⟩, (fun z => absurd z (by decide))⟩, fun z => absurd rfl z⟩)⟩)⟩) ?_
  intro P' e1 e2 e3 e4
  exact trivial
theorem node_8 {ρ : Rh} {S : Sg} {M : Rg} (hI : Iv ρ S M) (a b q : Int32) : wxT_node (fun r ρ1 S1 => wxQ_node (fun r2 M1 => r = r2 ∧ Iv ρ1 S1 M1) M (nI 8) a b q) ρ S (nI 8) a b q 1 5 := by
  obtain ⟨c, lm, mk, lg, bg, dp, l, hP, hR, hF, hV, hT, hm⟩ := id hI
  have hn64 := hP.1.1
  have hc1 := hP.2.1.1
  have hc2 := hP.2.1.2.1
  have ec : ρ.2.2.1 7 0 = nI c := hP.2.1.2.2
  have eC : M 17 0 - 1 = nI (c - 1) := by
    rw [(hR.2.1.2.2.2.2.2.2.2 0 (by omega)).trans ec, show c = (c - 1) + 1 by omega]; exact nI_pred _
  have eN : ρ.2.2.1 7 1 = nI ρ.2.1 := hP.1.2
  have eM : M 17 1 = nI ρ.2.1 := (hR.2.1.2.2.2.2.2.2.2 1 (by omega)).trans eN
  have e14 : M 14 = ρ.2.2.1 4 := hR.2.1.2.2.2.2.1
  rcases ix_n a 4 (by omega) with ha | ⟨ja, ha, rfl⟩
  · exact node_bad hI (fun K hK => fits_8 (isV_ex ha ⟨Or.inl rfl, hK⟩)) (fun post hp => out_in (j := 8) (n := 23) (by omega) (by omega) rfl ⟨fun z => absurd rfl z, fun _ => (badA_8 (out_ex ha (by omega) (by omega) rfl ⟨Or.inr rfl, ⟨fun _ => hp, (fun z => absurd z (by decide))⟩⟩))⟩)
  · have hlev : ∀ K : Int32 → Sg → Prop, K (nI 1) S → wxP_levelOf K ρ S (nI 8) (nI ja) b q := fun K hK => levelOf_8 hK
    refine node_good (lv := 1) (kd := 8) hI hP hR hF hV hT hm (by omega) (by omega) (by omega) (fun K hK => fits_8 (isV_in ha ⟨Or.inr rfl, hK⟩)) hlev (fun post hp67 => out_in (j := 8) (n := 23) (by omega) (by omega) rfl ⟨fun z => absurd rfl z, fun _ => (badA_8 (out_in ha (by omega) rfl ⟨Or.inl rfl, ⟨fun z => absurd rfl z, fun _ => (badB_8 ⟨fun _ => ⟨fun _ => ⟨fun _ => (qz_8 (qy_8 (qx_8 (by rw [nI_1, show 0 + 1 = 1 by omega]; exact hp67)))), (fun z => absurd z (by decide))⟩, (fun z => absurd z (by decide))⟩, fun z => absurd rfl z⟩)⟩⟩))⟩) ?_
    intro P' e1 e2 e3 e4
    simp only [nOk]
    exact (by rw [e1]; exact ⟨ja, ha, rfl⟩)
theorem node_9 {ρ : Rh} {S : Sg} {M : Rg} (hI : Iv ρ S M) (a b q : Int32) : wxT_node (fun r ρ1 S1 => wxQ_node (fun r2 M1 => r = r2 ∧ Iv ρ1 S1 M1) M (nI 9) a b q) ρ S (nI 9) a b q 1 5 := by
  obtain ⟨c, lm, mk, lg, bg, dp, l, hP, hR, hF, hV, hT, hm⟩ := id hI
  have hn64 := hP.1.1
  have hc1 := hP.2.1.1
  have hc2 := hP.2.1.2.1
  have ec : ρ.2.2.1 7 0 = nI c := hP.2.1.2.2
  have eC : M 17 0 - 1 = nI (c - 1) := by
    rw [(hR.2.1.2.2.2.2.2.2.2 0 (by omega)).trans ec, show c = (c - 1) + 1 by omega]; exact nI_pred _
  have eN : ρ.2.2.1 7 1 = nI ρ.2.1 := hP.1.2
  have eM : M 17 1 = nI ρ.2.1 := (hR.2.1.2.2.2.2.2.2.2 1 (by omega)).trans eN
  have e14 : M 14 = ρ.2.2.1 4 := hR.2.1.2.2.2.2.1
  rcases ix_n a 6 (by omega) with ha | ⟨ja, ha, rfl⟩
  · exact node_bad hI (fun K hK => fits_9 (isR_ex ha ⟨Or.inl rfl, hK⟩)) (fun post hp => out_in (j := 9) (n := 23) (by omega) (by omega) rfl ⟨fun z => absurd rfl z, fun _ => (badA_9 (out_ex ha (by omega) (by omega) rfl ⟨Or.inr rfl, ⟨fun _ => hp, (fun z => absurd z (by decide))⟩⟩))⟩)
  · have hlev : ∀ K : Int32 → Sg → Prop, K (nI 1) S → wxP_levelOf K ρ S (nI 9) (nI ja) b q := fun K hK => levelOf_9 hK
    refine node_good (lv := 1) (kd := 9) hI hP hR hF hV hT hm (by omega) (by omega) (by omega) (fun K hK => fits_9 (isR_in ha ⟨Or.inr rfl, hK⟩)) hlev (fun post hp67 => out_in (j := 9) (n := 23) (by omega) (by omega) rfl ⟨fun z => absurd rfl z, fun _ => (badA_9 (out_in ha (by omega) rfl ⟨Or.inl rfl, ⟨fun z => absurd rfl z, fun _ => (badB_9 ⟨fun _ => ⟨fun _ => ⟨fun _ => (qz_9 (qy_9 (qx_9 (by rw [nI_1, show 0 + 1 = 1 by omega]; exact hp67)))), (fun z => absurd z (by decide))⟩, (fun z => absurd z (by decide))⟩, fun z => absurd rfl z⟩)⟩⟩))⟩) ?_
    intro P' e1 e2 e3 e4
    simp only [nOk]
    exact (by rw [e1]; exact ⟨ja, ha, rfl⟩)
theorem node_10 {ρ : Rh} {S : Sg} {M : Rg} (hI : Iv ρ S M) (a b q : Int32) : wxT_node (fun r ρ1 S1 => wxQ_node (fun r2 M1 => r = r2 ∧ Iv ρ1 S1 M1) M (nI 10) a b q) ρ S (nI 10) a b q 1 5 := by
  obtain ⟨c, lm, mk, lg, bg, dp, l, hP, hR, hF, hV, hT, hm⟩ := id hI
  have hn64 := hP.1.1
  have hc1 := hP.2.1.1
  have hc2 := hP.2.1.2.1
  have ec : ρ.2.2.1 7 0 = nI c := hP.2.1.2.2
  have eC : M 17 0 - 1 = nI (c - 1) := by
    rw [(hR.2.1.2.2.2.2.2.2.2 0 (by omega)).trans ec, show c = (c - 1) + 1 by omega]; exact nI_pred _
  have eN : ρ.2.2.1 7 1 = nI ρ.2.1 := hP.1.2
  have eM : M 17 1 = nI ρ.2.1 := (hR.2.1.2.2.2.2.2.2.2 1 (by omega)).trans eN
  have e14 : M 14 = ρ.2.2.1 4 := hR.2.1.2.2.2.2.1
  rcases ix_n a c (by omega) with ha | ⟨ja, ha, rfl⟩
  · exact node_bad hI (fun K hK => fits_10 (isC_ex ha ec ⟨Or.inl rfl, hK⟩)) (fun post hp => out_in (j := 10) (n := 23) (by omega) (by omega) rfl ⟨fun z => absurd rfl z, fun _ => (badA_10 (out_ex ha (by omega) (by omega) eC ⟨Or.inr rfl, ⟨fun _ => hp, (fun z => absurd z (by decide))⟩⟩))⟩)
  · have hlev : ∀ K : Int32 → Sg → Prop, K (nI 1) S → wxP_levelOf K ρ S (nI 10) (nI ja) b q := fun K hK => levelOf_10 hK
    refine node_good (lv := 1) (kd := 10) hI hP hR hF hV hT hm (by omega) (by omega) (by omega) (fun K hK => fits_10 (isC_in ha (by omega) ec ⟨Or.inr rfl, hK⟩)) hlev (fun post hp67 => out_in (j := 10) (n := 23) (by omega) (by omega) rfl ⟨fun z => absurd rfl z, fun _ => (badA_10 (out_in ha (by omega) eC ⟨Or.inl rfl, ⟨fun z => absurd rfl z, fun _ => (badB_10 ⟨fun _ => ⟨fun _ => ⟨fun _ => (qz_10 (qy_10 (qx_10 (by rw [nI_1, show 0 + 1 = 1 by omega]; exact hp67)))), (fun z => absurd z (by decide))⟩, (fun z => absurd z (by decide))⟩, fun z => absurd rfl z⟩)⟩⟩))⟩) ?_
    intro P' e1 e2 e3 e4
    simp only [nOk]
    exact (by rw [e1]; exact ⟨ja, ha, rfl⟩)
theorem node_11 {ρ : Rh} {S : Sg} {M : Rg} (hI : Iv ρ S M) (a b q : Int32) : wxT_node (fun r ρ1 S1 => wxQ_node (fun r2 M1 => r = r2 ∧ Iv ρ1 S1 M1) M (nI 11) a b q) ρ S (nI 11) a b q 1 5 := by
  obtain ⟨c, lm, mk, lg, bg, dp, l, hP, hR, hF, hV, hT, hm⟩ := id hI
  have hn64 := hP.1.1
  have hc1 := hP.2.1.1
  have hc2 := hP.2.1.2.1
  have ec : ρ.2.2.1 7 0 = nI c := hP.2.1.2.2
  have eC : M 17 0 - 1 = nI (c - 1) := by
    rw [(hR.2.1.2.2.2.2.2.2.2 0 (by omega)).trans ec, show c = (c - 1) + 1 by omega]; exact nI_pred _
  have eN : ρ.2.2.1 7 1 = nI ρ.2.1 := hP.1.2
  have eM : M 17 1 = nI ρ.2.1 := (hR.2.1.2.2.2.2.2.2.2 1 (by omega)).trans eN
  have e14 : M 14 = ρ.2.2.1 4 := hR.2.1.2.2.2.2.1
  have hlev : ∀ K : Int32 → Sg → Prop, K (nI 1) S → wxP_levelOf K ρ S (nI 11) a b q := fun K hK => levelOf_11 hK
  refine node_good (lv := 1) (kd := 11) hI hP hR hF hV hT hm (by omega) (by omega) (by omega) (fun K hK => fits_11 hK) hlev (fun post hp67 => out_in (j := 11) (n := 23) (by omega) (by omega) rfl ⟨fun z => absurd rfl z, fun _ => (badA_11 ⟨fun z => absurd rfl z, fun _ => (badB_11 ⟨fun _ => ⟨fun _ => ⟨fun _ => (qz_11 (qy_11 (qx_11 (by rw [nI_1, show 0 + 1 = 1 by omega]; exact hp67)))), (fun z => absurd z (by decide))⟩, (fun z => absurd z (by decide))⟩, fun z => absurd rfl z⟩)⟩)⟩) ?_
  intro P' e1 e2 e3 e4
  exact trivial
theorem node_12 {ρ : Rh} {S : Sg} {M : Rg} (hI : Iv ρ S M) (a b q : Int32) : wxT_node (fun r ρ1 S1 => wxQ_node (fun r2 M1 => r = r2 ∧ Iv ρ1 S1 M1) M (nI 12) a b q) ρ S (nI 12) a b q 1 5 := by
  obtain ⟨c, lm, mk, lg, bg, dp, l, hP, hR, hF, hV, hT, hm⟩ := id hI
  have hn64 := hP.1.1
  have hc1 := hP.2.1.1
  have hc2 := hP.2.1.2.1
  have ec : ρ.2.2.1 7 0 = nI c := hP.2.1.2.2
  have eC : M 17 0 - 1 = nI (c - 1) := by
    rw [(hR.2.1.2.2.2.2.2.2.2 0 (by omega)).trans ec, show c = (c - 1) + 1 by omega]; exact nI_pred _
  have eN : ρ.2.2.1 7 1 = nI ρ.2.1 := hP.1.2
  have eM : M 17 1 = nI ρ.2.1 := (hR.2.1.2.2.2.2.2.2.2 1 (by omega)).trans eN
  have e14 : M 14 = ρ.2.2.1 4 := hR.2.1.2.2.2.2.1
  rcases ix_n a c (by omega) with ha | ⟨ja, ha, rfl⟩
  · exact node_bad hI (fun K hK => fits_12 (isC_ex ha ec ⟨Or.inl rfl, hK⟩)) (fun post hp => out_in (j := 12) (n := 23) (by omega) (by omega) rfl ⟨fun z => absurd rfl z, fun _ => (badA_12 (out_ex ha (by omega) (by omega) eC ⟨Or.inr rfl, ⟨fun _ => hp, (fun z => absurd z (by decide))⟩⟩))⟩)
  · have hlev : ∀ K : Int32 → Sg → Prop, K (nI 1) S → wxP_levelOf K ρ S (nI 12) (nI ja) b q := fun K hK => levelOf_12 hK
    refine node_good (lv := 1) (kd := 12) hI hP hR hF hV hT hm (by omega) (by omega) (by omega) (fun K hK => fits_12 (isC_in ha (by omega) ec ⟨Or.inr rfl, hK⟩)) hlev (fun post hp67 => out_in (j := 12) (n := 23) (by omega) (by omega) rfl ⟨fun z => absurd rfl z, fun _ => (badA_12 (out_in ha (by omega) eC ⟨Or.inl rfl, ⟨fun z => absurd rfl z, fun _ => (badB_12 ⟨fun _ => ⟨fun _ => ⟨fun _ => (qz_12 (qy_12 (qx_12 (by rw [nI_1, show 0 + 1 = 1 by omega]; exact hp67)))), (fun z => absurd z (by decide))⟩, (fun z => absurd z (by decide))⟩, fun z => absurd rfl z⟩)⟩⟩))⟩) ?_
    intro P' e1 e2 e3 e4
    simp only [nOk]
    exact (by rw [e1]; exact ⟨ja, ha, rfl⟩)
theorem node_13 {ρ : Rh} {S : Sg} {M : Rg} (hI : Iv ρ S M) (a b q : Int32) : wxT_node (fun r ρ1 S1 => wxQ_node (fun r2 M1 => r = r2 ∧ Iv ρ1 S1 M1) M (nI 13) a b q) ρ S (nI 13) a b q 1 5 := by
  obtain ⟨c, lm, mk, lg, bg, dp, l, hP, hR, hF, hV, hT, hm⟩ := id hI
  have hn64 := hP.1.1
  have hc1 := hP.2.1.1
  have hc2 := hP.2.1.2.1
  have ec : ρ.2.2.1 7 0 = nI c := hP.2.1.2.2
  have eC : M 17 0 - 1 = nI (c - 1) := by
    rw [(hR.2.1.2.2.2.2.2.2.2 0 (by omega)).trans ec, show c = (c - 1) + 1 by omega]; exact nI_pred _
  have eN : ρ.2.2.1 7 1 = nI ρ.2.1 := hP.1.2
  have eM : M 17 1 = nI ρ.2.1 := (hR.2.1.2.2.2.2.2.2.2 1 (by omega)).trans eN
  have e14 : M 14 = ρ.2.2.1 4 := hR.2.1.2.2.2.2.1
  rcases ix_n a ρ.2.1 (by omega) with ha | ⟨ja, ha, rfl⟩
  · exact node_bad hI (fun K hK => fits_13 (isN_ex ha eN ⟨fun _ => hK, fun z => absurd rfl z⟩)) (fun post hp => out_in (j := 13) (n := 23) (by omega) (by omega) rfl ⟨fun z => absurd rfl z, fun _ => (badA_13 (nn_ex ha (by omega) eM ⟨Or.inr rfl, ⟨fun _ => hp, (fun z => absurd z (by decide))⟩⟩))⟩)
  · rcases ix_n b c (by omega) with hb | ⟨jb, hb, rfl⟩
    · exact node_bad hI (fun K hK => fits_13 (isN_in ha (by omega) eN ⟨(fun z => absurd z (by decide)), fun _ => (isC_ex hb ec ⟨fun _ => hK, fun z => absurd rfl z⟩)⟩)) (fun post hp => out_in (j := 13) (n := 23) (by omega) (by omega) rfl ⟨fun z => absurd rfl z, fun _ => (badA_13 (nn_in ha (by omega) eM ⟨Or.inl rfl, ⟨fun z => absurd rfl z, fun _ => (badB_13 (out_ex hb (by omega) (by omega) eC ⟨Or.inr rfl, ⟨(fun z => absurd z (by decide)), fun _ => hp⟩⟩))⟩⟩))⟩)
    · rcases ix_n q ρ.2.1 (by omega) with hq | ⟨jq, hq, rfl⟩
      · exact node_bad hI (fun K hK => fits_13 (isN_in ha (by omega) eN ⟨(fun z => absurd z (by decide)), fun _ => (isC_in hb (by omega) ec ⟨(fun z => absurd z (by decide)), fun _ => (isN_ex hq eN ⟨fun _ => hK, fun z => absurd rfl z⟩)⟩)⟩)) (fun post hp => out_in (j := 13) (n := 23) (by omega) (by omega) rfl ⟨fun z => absurd rfl z, fun _ => (badA_13 (nn_in ha (by omega) eM ⟨Or.inl rfl, ⟨fun z => absurd rfl z, fun _ => (badB_13 (out_in hb (by omega) eC ⟨Or.inl rfl, ⟨fun _ => ⟨fun _ => ⟨fun z => absurd rfl z, fun _ => (nn_ex hq (by omega) eM ⟨(fun z => absurd z (by decide)), fun _ => hp⟩)⟩, (fun z => absurd z (by decide))⟩, fun z => absurd rfl z⟩⟩))⟩⟩))⟩)
      · obtain ⟨la, ka, la1, la2, la3, -⟩ := hP.2.2.2.2.2.2 ja ha
        have ma : M 14 ja = nI la := by rw [e14]; exact la1
        obtain ⟨lq, kq, lq1, lq2, lq3, -⟩ := hP.2.2.2.2.2.2 jq hq
        have mq : M 14 jq = nI lq := by rw [e14]; exact lq1
        have hlev : ∀ K : Int32 → Sg → Prop, K (nI (1 + max la lq)) S → wxP_levelOf K ρ S (nI 13) (nI ja) (nI jb) (nI jq) := fun K hK => levelOf_13 (lvl_in ha (by omega) eN la1 (lvl_in hq (by omega) eN lq1 (by rw [lv_mx (by omega) (by omega)]; exact hK)))
        refine node_good (lv := (1 + max la lq)) (kd := 13) hI hP hR hF hV hT hm (by omega) (by omega) (by omega) (fun K hK => fits_13 (isN_in ha (by omega) eN ⟨(fun z => absurd z (by decide)), fun _ => (isC_in hb (by omega) ec ⟨(fun z => absurd z (by decide)), fun _ => (isN_in hq (by omega) eN ⟨(fun z => absurd z (by decide)), fun _ => hK⟩)⟩)⟩)) hlev (fun post hp67 => out_in (j := 13) (n := 23) (by omega) (by omega) rfl ⟨fun z => absurd rfl z, fun _ => (badA_13 (nn_in ha (by omega) eM ⟨Or.inl rfl, ⟨fun z => absurd rfl z, fun _ => (badB_13 (out_in hb (by omega) eC ⟨Or.inl rfl, ⟨fun _ => ⟨fun _ => ⟨fun z => absurd rfl z, fun _ => (nn_in hq (by omega) eM ⟨fun _ => (qa_13 ha (by omega) ma (by omega) (by omega) (qy_13 (qq_13 hq (by omega) mq (by omega) (by omega) (by rw [nI_1, show (max la lq) + 1 = (1 + max la lq) by omega]; exact hp67)))), fun z => absurd rfl z⟩)⟩, (fun z => absurd z (by decide))⟩, fun z => absurd rfl z⟩⟩))⟩⟩))⟩) ?_
        intro P' e1 e2 e3 e4
        simp only [nOk]
        exact ⟨(by rw [e1]; exact ⟨ja, la, by omega, rfl, (e4 ja (by omega)).trans la1, la2, by omega⟩), (by rw [e3]; exact ⟨jq, lq, by omega, rfl, (e4 jq (by omega)).trans lq1, lq2, by omega⟩)⟩
theorem node_14 {ρ : Rh} {S : Sg} {M : Rg} (hI : Iv ρ S M) (a b q : Int32) : wxT_node (fun r ρ1 S1 => wxQ_node (fun r2 M1 => r = r2 ∧ Iv ρ1 S1 M1) M (nI 14) a b q) ρ S (nI 14) a b q 1 5 := by
  obtain ⟨c, lm, mk, lg, bg, dp, l, hP, hR, hF, hV, hT, hm⟩ := id hI
  have hn64 := hP.1.1
  have hc1 := hP.2.1.1
  have hc2 := hP.2.1.2.1
  have ec : ρ.2.2.1 7 0 = nI c := hP.2.1.2.2
  have eC : M 17 0 - 1 = nI (c - 1) := by
    rw [(hR.2.1.2.2.2.2.2.2.2 0 (by omega)).trans ec, show c = (c - 1) + 1 by omega]; exact nI_pred _
  have eN : ρ.2.2.1 7 1 = nI ρ.2.1 := hP.1.2
  have eM : M 17 1 = nI ρ.2.1 := (hR.2.1.2.2.2.2.2.2.2 1 (by omega)).trans eN
  have e14 : M 14 = ρ.2.2.1 4 := hR.2.1.2.2.2.2.1
  rcases ix_n a ρ.2.1 (by omega) with ha | ⟨ja, ha, rfl⟩
  · exact node_bad hI (fun K hK => fits_14 (isN_ex ha eN ⟨fun _ => hK, fun z => absurd rfl z⟩)) (fun post hp => out_in (j := 14) (n := 23) (by omega) (by omega) rfl ⟨fun z => absurd rfl z, fun _ => (badA_14 (nn_ex ha (by omega) eM ⟨Or.inr rfl, ⟨fun _ => hp, (fun z => absurd z (by decide))⟩⟩))⟩)
  · rcases ix_n b ρ.2.1 (by omega) with hb | ⟨jb, hb, rfl⟩
    · exact node_bad hI (fun K hK => fits_14 (isN_in ha (by omega) eN ⟨(fun z => absurd z (by decide)), fun _ => (isN_ex hb eN ⟨fun _ => hK, fun z => absurd rfl z⟩)⟩)) (fun post hp => out_in (j := 14) (n := 23) (by omega) (by omega) rfl ⟨fun z => absurd rfl z, fun _ => (badA_14 (nn_in ha (by omega) eM ⟨Or.inl rfl, ⟨fun z => absurd rfl z, fun _ => (badB_14 (nn_ex hb (by omega) eM ⟨Or.inr rfl, ⟨(fun z => absurd z (by decide)), fun _ => hp⟩⟩))⟩⟩))⟩)
    · obtain ⟨la, ka, la1, la2, la3, -⟩ := hP.2.2.2.2.2.2 ja ha
      have ma : M 14 ja = nI la := by rw [e14]; exact la1
      obtain ⟨lb, kb, lb1, lb2, lb3, -⟩ := hP.2.2.2.2.2.2 jb hb
      have mb : M 14 jb = nI lb := by rw [e14]; exact lb1
      have hlev : ∀ K : Int32 → Sg → Prop, K (nI (1 + max la lb)) S → wxP_levelOf K ρ S (nI 14) (nI ja) (nI jb) q := fun K hK => levelOf_14 (lvl_in ha (by omega) eN la1 (lvl_in hb (by omega) eN lb1 (by rw [lv_mx (by omega) (by omega)]; exact hK)))
      refine node_good (lv := (1 + max la lb)) (kd := 14) hI hP hR hF hV hT hm (by omega) (by omega) (by omega) (fun K hK => fits_14 (isN_in ha (by omega) eN ⟨(fun z => absurd z (by decide)), fun _ => (isN_in hb (by omega) eN ⟨(fun z => absurd z (by decide)), fun _ => hK⟩)⟩)) hlev (fun post hp67 => out_in (j := 14) (n := 23) (by omega) (by omega) rfl ⟨fun z => absurd rfl z, fun _ => (badA_14 (nn_in ha (by omega) eM ⟨Or.inl rfl, ⟨fun z => absurd rfl z, fun _ => (badB_14 (nn_in hb (by omega) eM ⟨Or.inl rfl, ⟨fun _ => ⟨fun _ => ⟨fun _ => (qa_14 ha (by omega) ma (by omega) (by omega) (qb_14 hb (by omega) mb (by omega) (by omega) (qx_14 (by rw [nI_1, show (max la lb) + 1 = (1 + max la lb) by omega]; exact hp67)))), (fun z => absurd z (by decide))⟩, (fun z => absurd z (by decide))⟩, fun z => absurd rfl z⟩⟩))⟩⟩))⟩) ?_
      intro P' e1 e2 e3 e4
      simp only [nOk]
      exact ⟨(by rw [e1]; exact ⟨ja, la, by omega, rfl, (e4 ja (by omega)).trans la1, la2, by omega⟩), (by rw [e2]; exact ⟨jb, lb, by omega, rfl, (e4 jb (by omega)).trans lb1, lb2, by omega⟩)⟩
theorem node_15 {ρ : Rh} {S : Sg} {M : Rg} (hI : Iv ρ S M) (a b q : Int32) : wxT_node (fun r ρ1 S1 => wxQ_node (fun r2 M1 => r = r2 ∧ Iv ρ1 S1 M1) M (nI 15) a b q) ρ S (nI 15) a b q 1 5 := by
  obtain ⟨c, lm, mk, lg, bg, dp, l, hP, hR, hF, hV, hT, hm⟩ := id hI
  have hn64 := hP.1.1
  have hc1 := hP.2.1.1
  have hc2 := hP.2.1.2.1
  have ec : ρ.2.2.1 7 0 = nI c := hP.2.1.2.2
  have eC : M 17 0 - 1 = nI (c - 1) := by
    rw [(hR.2.1.2.2.2.2.2.2.2 0 (by omega)).trans ec, show c = (c - 1) + 1 by omega]; exact nI_pred _
  have eN : ρ.2.2.1 7 1 = nI ρ.2.1 := hP.1.2
  have eM : M 17 1 = nI ρ.2.1 := (hR.2.1.2.2.2.2.2.2.2 1 (by omega)).trans eN
  have e14 : M 14 = ρ.2.2.1 4 := hR.2.1.2.2.2.2.1
  rcases ix_n a ρ.2.1 (by omega) with ha | ⟨ja, ha, rfl⟩
  · exact node_bad hI (fun K hK => fits_15 (isN_ex ha eN ⟨fun _ => hK, fun z => absurd rfl z⟩)) (fun post hp => out_in (j := 15) (n := 23) (by omega) (by omega) rfl ⟨fun z => absurd rfl z, fun _ => (badA_15 (nn_ex ha (by omega) eM ⟨Or.inr rfl, ⟨fun _ => hp, (fun z => absurd z (by decide))⟩⟩))⟩)
  · rcases ix_n b ρ.2.1 (by omega) with hb | ⟨jb, hb, rfl⟩
    · exact node_bad hI (fun K hK => fits_15 (isN_in ha (by omega) eN ⟨(fun z => absurd z (by decide)), fun _ => (isN_ex hb eN ⟨fun _ => hK, fun z => absurd rfl z⟩)⟩)) (fun post hp => out_in (j := 15) (n := 23) (by omega) (by omega) rfl ⟨fun z => absurd rfl z, fun _ => (badA_15 (nn_in ha (by omega) eM ⟨Or.inl rfl, ⟨fun z => absurd rfl z, fun _ => (badB_15 (nn_ex hb (by omega) eM ⟨Or.inr rfl, ⟨(fun z => absurd z (by decide)), fun _ => hp⟩⟩))⟩⟩))⟩)
    · obtain ⟨la, ka, la1, la2, la3, -⟩ := hP.2.2.2.2.2.2 ja ha
      have ma : M 14 ja = nI la := by rw [e14]; exact la1
      obtain ⟨lb, kb, lb1, lb2, lb3, -⟩ := hP.2.2.2.2.2.2 jb hb
      have mb : M 14 jb = nI lb := by rw [e14]; exact lb1
      have hlev : ∀ K : Int32 → Sg → Prop, K (nI (1 + max la lb)) S → wxP_levelOf K ρ S (nI 15) (nI ja) (nI jb) q := fun K hK => levelOf_15 (lvl_in ha (by omega) eN la1 (lvl_in hb (by omega) eN lb1 (by rw [lv_mx (by omega) (by omega)]; exact hK)))
      refine node_good (lv := (1 + max la lb)) (kd := 15) hI hP hR hF hV hT hm (by omega) (by omega) (by omega) (fun K hK => fits_15 (isN_in ha (by omega) eN ⟨(fun z => absurd z (by decide)), fun _ => (isN_in hb (by omega) eN ⟨(fun z => absurd z (by decide)), fun _ => hK⟩)⟩)) hlev (fun post hp67 => out_in (j := 15) (n := 23) (by omega) (by omega) rfl ⟨fun z => absurd rfl z, fun _ => (badA_15 (nn_in ha (by omega) eM ⟨Or.inl rfl, ⟨fun z => absurd rfl z, fun _ => (badB_15 (nn_in hb (by omega) eM ⟨Or.inl rfl, ⟨fun _ => ⟨fun _ => ⟨fun _ => (qa_15 ha (by omega) ma (by omega) (by omega) (qb_15 hb (by omega) mb (by omega) (by omega) (qx_15 (by rw [nI_1, show (max la lb) + 1 = (1 + max la lb) by omega]; exact hp67)))), (fun z => absurd z (by decide))⟩, (fun z => absurd z (by decide))⟩, fun z => absurd rfl z⟩⟩))⟩⟩))⟩) ?_
      intro P' e1 e2 e3 e4
      simp only [nOk]
      exact ⟨(by rw [e1]; exact ⟨ja, la, by omega, rfl, (e4 ja (by omega)).trans la1, la2, by omega⟩), (by rw [e2]; exact ⟨jb, lb, by omega, rfl, (e4 jb (by omega)).trans lb1, lb2, by omega⟩)⟩
theorem node_16 {ρ : Rh} {S : Sg} {M : Rg} (hI : Iv ρ S M) (a b q : Int32) : wxT_node (fun r ρ1 S1 => wxQ_node (fun r2 M1 => r = r2 ∧ Iv ρ1 S1 M1) M (nI 16) a b q) ρ S (nI 16) a b q 1 5 := by
  obtain ⟨c, lm, mk, lg, bg, dp, l, hP, hR, hF, hV, hT, hm⟩ := id hI
  have hn64 := hP.1.1
  have hc1 := hP.2.1.1
  have hc2 := hP.2.1.2.1
  have ec : ρ.2.2.1 7 0 = nI c := hP.2.1.2.2
  have eC : M 17 0 - 1 = nI (c - 1) := by
    rw [(hR.2.1.2.2.2.2.2.2.2 0 (by omega)).trans ec, show c = (c - 1) + 1 by omega]; exact nI_pred _
  have eN : ρ.2.2.1 7 1 = nI ρ.2.1 := hP.1.2
  have eM : M 17 1 = nI ρ.2.1 := (hR.2.1.2.2.2.2.2.2.2 1 (by omega)).trans eN
  have e14 : M 14 = ρ.2.2.1 4 := hR.2.1.2.2.2.2.1
  rcases ix_n a 4 (by omega) with ha | ⟨ja, ha, rfl⟩
  · exact node_bad hI (fun K hK => fits_16 (isV_ex ha ⟨fun _ => hK, fun z => absurd rfl z⟩)) (fun post hp => out_in (j := 16) (n := 23) (by omega) (by omega) rfl ⟨fun z => absurd rfl z, fun _ => (badA_16 (out_ex ha (by omega) (by omega) rfl ⟨Or.inr rfl, ⟨fun _ => hp, (fun z => absurd z (by decide))⟩⟩))⟩)
  · rcases ix_n b 4 (by omega) with hb | ⟨jb, hb, rfl⟩
    · exact node_bad hI (fun K hK => fits_16 (isV_in ha ⟨(fun z => absurd z (by decide)), fun _ => (isV_ex hb ⟨fun _ => hK, fun z => absurd rfl z⟩)⟩)) (fun post hp => out_in (j := 16) (n := 23) (by omega) (by omega) rfl ⟨fun z => absurd rfl z, fun _ => (badA_16 (out_in ha (by omega) rfl ⟨Or.inl rfl, ⟨fun z => absurd rfl z, fun _ => (badB_16 (out_ex hb (by omega) (by omega) rfl ⟨Or.inr rfl, ⟨(fun z => absurd z (by decide)), fun _ => hp⟩⟩))⟩⟩))⟩)
    · have hlev : ∀ K : Int32 → Sg → Prop, K (nI 1) S → wxP_levelOf K ρ S (nI 16) (nI ja) (nI jb) q := fun K hK => levelOf_16 hK
      refine node_good (lv := 1) (kd := 16) hI hP hR hF hV hT hm (by omega) (by omega) (by omega) (fun K hK => fits_16 (isV_in ha ⟨(fun z => absurd z (by decide)), fun _ => (isV_in hb ⟨(fun z => absurd z (by decide)), fun _ => hK⟩)⟩)) hlev (fun post hp67 => out_in (j := 16) (n := 23) (by omega) (by omega) rfl ⟨fun z => absurd rfl z, fun _ => (badA_16 (out_in ha (by omega) rfl ⟨Or.inl rfl, ⟨fun z => absurd rfl z, fun _ => (badB_16 (out_in hb (by omega) rfl ⟨Or.inl rfl, ⟨fun _ => ⟨fun _ => ⟨fun _ => (qz_16 (qy_16 (qx_16 (by rw [nI_1, show 0 + 1 = 1 by omega]; exact hp67)))), (fun z => absurd z (by decide))⟩, (fun z => absurd z (by decide))⟩, fun z => absurd rfl z⟩⟩))⟩⟩))⟩) ?_
      intro P' e1 e2 e3 e4
      simp only [nOk]
      exact ⟨(by rw [e1]; exact ⟨ja, ha, rfl⟩), (by rw [e2]; exact ⟨jb, hb, rfl⟩)⟩
theorem node_17 {ρ : Rh} {S : Sg} {M : Rg} (hI : Iv ρ S M) (a b q : Int32) : wxT_node (fun r ρ1 S1 => wxQ_node (fun r2 M1 => r = r2 ∧ Iv ρ1 S1 M1) M (nI 17) a b q) ρ S (nI 17) a b q 1 5 := by
  obtain ⟨c, lm, mk, lg, bg, dp, l, hP, hR, hF, hV, hT, hm⟩ := id hI
  have hn64 := hP.1.1
  have hc1 := hP.2.1.1
  have hc2 := hP.2.1.2.1
  have ec : ρ.2.2.1 7 0 = nI c := hP.2.1.2.2
  have eC : M 17 0 - 1 = nI (c - 1) := by
    rw [(hR.2.1.2.2.2.2.2.2.2 0 (by omega)).trans ec, show c = (c - 1) + 1 by omega]; exact nI_pred _
  have eN : ρ.2.2.1 7 1 = nI ρ.2.1 := hP.1.2
  have eM : M 17 1 = nI ρ.2.1 := (hR.2.1.2.2.2.2.2.2.2 1 (by omega)).trans eN
  have e14 : M 14 = ρ.2.2.1 4 := hR.2.1.2.2.2.2.1
  rcases ix_n a 4 (by omega) with ha | ⟨ja, ha, rfl⟩
  · exact node_bad hI (fun K hK => fits_17 (isV_ex ha ⟨fun _ => hK, fun z => absurd rfl z⟩)) (fun post hp => out_in (j := 17) (n := 23) (by omega) (by omega) rfl ⟨fun z => absurd rfl z, fun _ => (badA_17 (out_ex ha (by omega) (by omega) rfl ⟨Or.inr rfl, ⟨fun _ => hp, (fun z => absurd z (by decide))⟩⟩))⟩)
  · rcases ix_n b 5 (by omega) with hb | ⟨jb, hb, rfl⟩
    · exact node_bad hI (fun K hK => fits_17 (isV_in ha ⟨(fun z => absurd z (by decide)), fun _ => (I_ex hb hK)⟩)) (fun post hp => out_in (j := 17) (n := 23) (by omega) (by omega) rfl ⟨fun z => absurd rfl z, fun _ => (badA_17 (out_in ha (by omega) rfl ⟨Or.inl rfl, ⟨fun z => absurd rfl z, fun _ => (badB_17 (out_ex hb (by omega) (by omega) rfl ⟨Or.inr rfl, ⟨(fun z => absurd z (by decide)), fun _ => hp⟩⟩))⟩⟩))⟩)
    · have hlev : ∀ K : Int32 → Sg → Prop, K (nI 1) S → wxP_levelOf K ρ S (nI 17) (nI ja) (nI jb) q := fun K hK => levelOf_17 hK
      refine node_good (lv := 1) (kd := 17) hI hP hR hF hV hT hm (by omega) (by omega) (by omega) (fun K hK => fits_17 (isV_in ha ⟨(fun z => absurd z (by decide)), fun _ => (I_in hb hK)⟩)) hlev (fun post hp67 => out_in (j := 17) (n := 23) (by omega) (by omega) rfl ⟨fun z => absurd rfl z, fun _ => (badA_17 (out_in ha (by omega) rfl ⟨Or.inl rfl, ⟨fun z => absurd rfl z, fun _ => (badB_17 (out_in hb (by omega) rfl ⟨Or.inl rfl, ⟨fun _ => ⟨fun _ => ⟨fun _ => (qz_17 (qy_17 (qx_17 (by rw [nI_1, show 0 + 1 = 1 by omega]; exact hp67)))), (fun z => absurd z (by decide))⟩, (fun z => absurd z (by decide))⟩, fun z => absurd rfl z⟩⟩))⟩⟩))⟩) ?_
      intro P' e1 e2 e3 e4
      simp only [nOk]
      exact ⟨(by rw [e1]; exact ⟨ja, ha, rfl⟩), (by rw [e2]; exact ⟨jb, hb, rfl⟩)⟩
theorem node_18 {ρ : Rh} {S : Sg} {M : Rg} (hI : Iv ρ S M) (a b q : Int32) : wxT_node (fun r ρ1 S1 => wxQ_node (fun r2 M1 => r = r2 ∧ Iv ρ1 S1 M1) M (nI 18) a b q) ρ S (nI 18) a b q 1 5 := by
  obtain ⟨c, lm, mk, lg, bg, dp, l, hP, hR, hF, hV, hT, hm⟩ := id hI
  have hn64 := hP.1.1
  have hc1 := hP.2.1.1
  have hc2 := hP.2.1.2.1
  have ec : ρ.2.2.1 7 0 = nI c := hP.2.1.2.2
  have eC : M 17 0 - 1 = nI (c - 1) := by
    rw [(hR.2.1.2.2.2.2.2.2.2 0 (by omega)).trans ec, show c = (c - 1) + 1 by omega]; exact nI_pred _
  have eN : ρ.2.2.1 7 1 = nI ρ.2.1 := hP.1.2
  have eM : M 17 1 = nI ρ.2.1 := (hR.2.1.2.2.2.2.2.2.2 1 (by omega)).trans eN
  have e14 : M 14 = ρ.2.2.1 4 := hR.2.1.2.2.2.2.1
  rcases ix_n a c (by omega) with ha | ⟨ja, ha, rfl⟩
  · exact node_bad hI (fun K hK => fits_18 (isC_ex ha ec ⟨Or.inl rfl, hK⟩)) (fun post hp => out_in (j := 18) (n := 23) (by omega) (by omega) rfl ⟨fun z => absurd rfl z, fun _ => (badA_18 (out_ex ha (by omega) (by omega) eC ⟨Or.inr rfl, ⟨fun _ => hp, (fun z => absurd z (by decide))⟩⟩))⟩)
  · have hlev : ∀ K : Int32 → Sg → Prop, K (nI 1) S → wxP_levelOf K ρ S (nI 18) (nI ja) b q := fun K hK => levelOf_18 hK
    refine node_good (lv := 1) (kd := 18) hI hP hR hF hV hT hm (by omega) (by omega) (by omega) (fun K hK => fits_18 (isC_in ha (by omega) ec ⟨Or.inr rfl, hK⟩)) hlev (fun post hp67 => out_in (j := 18) (n := 23) (by omega) (by omega) rfl ⟨fun z => absurd rfl z, fun _ => (badA_18 (out_in ha (by omega) eC ⟨Or.inl rfl, ⟨fun z => absurd rfl z, fun _ => (badB_18 ⟨fun _ => ⟨fun _ => ⟨fun _ => (qz_18 (qy_18 (qx_18 (by rw [nI_1, show 0 + 1 = 1 by omega]; exact hp67)))), (fun z => absurd z (by decide))⟩, (fun z => absurd z (by decide))⟩, fun z => absurd rfl z⟩)⟩⟩))⟩) ?_
    intro P' e1 e2 e3 e4
    simp only [nOk]
    exact (by rw [e1]; exact ⟨ja, ha, rfl⟩)
theorem node_19 {ρ : Rh} {S : Sg} {M : Rg} (hI : Iv ρ S M) (a b q : Int32) : wxT_node (fun r ρ1 S1 => wxQ_node (fun r2 M1 => r = r2 ∧ Iv ρ1 S1 M1) M (nI 19) a b q) ρ S (nI 19) a b q 1 5 := by
  obtain ⟨c, lm, mk, lg, bg, dp, l, hP, hR, hF, hV, hT, hm⟩ := id hI
  have hn64 := hP.1.1
  have hc1 := hP.2.1.1
  have hc2 := hP.2.1.2.1
  have ec : ρ.2.2.1 7 0 = nI c := hP.2.1.2.2
  have eC : M 17 0 - 1 = nI (c - 1) := by
    rw [(hR.2.1.2.2.2.2.2.2.2 0 (by omega)).trans ec, show c = (c - 1) + 1 by omega]; exact nI_pred _
  have eN : ρ.2.2.1 7 1 = nI ρ.2.1 := hP.1.2
  have eM : M 17 1 = nI ρ.2.1 := (hR.2.1.2.2.2.2.2.2.2 1 (by omega)).trans eN
  have e14 : M 14 = ρ.2.2.1 4 := hR.2.1.2.2.2.2.1
  rcases ix_n a 4 (by omega) with ha | ⟨ja, ha, rfl⟩
  · exact node_bad hI (fun K hK => fits_19 (isV_ex ha ⟨Or.inl rfl, hK⟩)) (fun post hp => out_in (j := 19) (n := 23) (by omega) (by omega) rfl ⟨fun z => absurd rfl z, fun _ => (badA_19 (out_ex ha (by omega) (by omega) rfl ⟨Or.inr rfl, ⟨fun _ => hp, (fun z => absurd z (by decide))⟩⟩))⟩)
  · have hlev : ∀ K : Int32 → Sg → Prop, K (nI 1) S → wxP_levelOf K ρ S (nI 19) (nI ja) b q := fun K hK => levelOf_19 hK
    refine node_good (lv := 1) (kd := 19) hI hP hR hF hV hT hm (by omega) (by omega) (by omega) (fun K hK => fits_19 (isV_in ha ⟨Or.inr rfl, hK⟩)) hlev (fun post hp67 => out_in (j := 19) (n := 23) (by omega) (by omega) rfl ⟨fun z => absurd rfl z, fun _ => (badA_19 (out_in ha (by omega) rfl ⟨Or.inl rfl, ⟨fun z => absurd rfl z, fun _ => (badB_19 ⟨fun _ => ⟨fun _ => ⟨fun _ => (qz_19 (qy_19 (qx_19 (by rw [nI_1, show 0 + 1 = 1 by omega]; exact hp67)))), (fun z => absurd z (by decide))⟩, (fun z => absurd z (by decide))⟩, fun z => absurd rfl z⟩)⟩⟩))⟩) ?_
    intro P' e1 e2 e3 e4
    simp only [nOk]
    exact (by rw [e1]; exact ⟨ja, ha, rfl⟩)
theorem node_20 {ρ : Rh} {S : Sg} {M : Rg} (hI : Iv ρ S M) (a b q : Int32) : wxT_node (fun r ρ1 S1 => wxQ_node (fun r2 M1 => r = r2 ∧ Iv ρ1 S1 M1) M (nI 20) a b q) ρ S (nI 20) a b q 1 5 := by
  obtain ⟨c, lm, mk, lg, bg, dp, l, hP, hR, hF, hV, hT, hm⟩ := id hI
  have hn64 := hP.1.1
  have hc1 := hP.2.1.1
  have hc2 := hP.2.1.2.1
  have ec : ρ.2.2.1 7 0 = nI c := hP.2.1.2.2
  have eC : M 17 0 - 1 = nI (c - 1) := by
    rw [(hR.2.1.2.2.2.2.2.2.2 0 (by omega)).trans ec, show c = (c - 1) + 1 by omega]; exact nI_pred _
  have eN : ρ.2.2.1 7 1 = nI ρ.2.1 := hP.1.2
  have eM : M 17 1 = nI ρ.2.1 := (hR.2.1.2.2.2.2.2.2.2 1 (by omega)).trans eN
  have e14 : M 14 = ρ.2.2.1 4 := hR.2.1.2.2.2.2.1
  rcases ix_n a 2 (by omega) with ha | ⟨ja, ha, rfl⟩
  · exact node_bad hI (fun K hK => fits_20 (isM_ex ha ⟨fun _ => hK, fun z => absurd rfl z⟩)) (fun post hp => out_in (j := 20) (n := 23) (by omega) (by omega) rfl ⟨fun z => absurd rfl z, fun _ => (badA_20 (out_ex ha (by omega) (by omega) rfl ⟨Or.inr rfl, ⟨fun _ => hp, (fun z => absurd z (by decide))⟩⟩))⟩)
  · rcases ix_n b ρ.2.1 (by omega) with hb | ⟨jb, hb, rfl⟩
    · exact node_bad hI (fun K hK => fits_20 (isM_in ha ⟨(fun z => absurd z (by decide)), fun _ => (isN_ex hb eN ⟨fun _ => hK, fun z => absurd rfl z⟩)⟩)) (fun post hp => out_in (j := 20) (n := 23) (by omega) (by omega) rfl ⟨fun z => absurd rfl z, fun _ => (badA_20 (out_in ha (by omega) rfl ⟨Or.inl rfl, ⟨fun z => absurd rfl z, fun _ => (badB_20 (nn_ex hb (by omega) eM ⟨Or.inr rfl, ⟨(fun z => absurd z (by decide)), fun _ => hp⟩⟩))⟩⟩))⟩)
    · obtain ⟨lb, kb, lb1, lb2, lb3, -⟩ := hP.2.2.2.2.2.2 jb hb
      have mb : M 14 jb = nI lb := by rw [e14]; exact lb1
      have hlev : ∀ K : Int32 → Sg → Prop, K (nI (1 + lb)) S → wxP_levelOf K ρ S (nI 20) (nI ja) (nI jb) q := fun K hK => levelOf_20 (lvl_in hb (by omega) eN lb1 (by rw [nI_add1]; exact hK))
      refine node_good (lv := (1 + lb)) (kd := 20) hI hP hR hF hV hT hm (by omega) (by omega) (by omega) (fun K hK => fits_20 (isM_in ha ⟨(fun z => absurd z (by decide)), fun _ => (isN_in hb (by omega) eN ⟨(fun z => absurd z (by decide)), fun _ => hK⟩)⟩)) hlev (fun post hp67 => out_in (j := 20) (n := 23) (by omega) (by omega) rfl ⟨fun z => absurd rfl z, fun _ => (badA_20 (out_in ha (by omega) rfl ⟨Or.inl rfl, ⟨fun z => absurd rfl z, fun _ => (badB_20 (nn_in hb (by omega) eM ⟨Or.inl rfl, ⟨fun _ => ⟨fun _ => ⟨fun _ => (qz_20 (qb_20 hb (by omega) mb (by omega) (by omega) (qx_20 (by rw [nI_1, show (max 0 lb) + 1 = (1 + lb) by omega]; exact hp67)))), (fun z => absurd z (by decide))⟩, (fun z => absurd z (by decide))⟩, fun z => absurd rfl z⟩⟩))⟩⟩))⟩) ?_
      intro P' e1 e2 e3 e4
      simp only [nOk]
      exact ⟨(by rw [e1]; exact ⟨ja, ha, rfl⟩), (by rw [e2]; exact ⟨jb, lb, by omega, rfl, (e4 jb (by omega)).trans lb1, lb2, by omega⟩)⟩
theorem node_21 {ρ : Rh} {S : Sg} {M : Rg} (hI : Iv ρ S M) (a b q : Int32) : wxT_node (fun r ρ1 S1 => wxQ_node (fun r2 M1 => r = r2 ∧ Iv ρ1 S1 M1) M (nI 21) a b q) ρ S (nI 21) a b q 1 5 := by
  obtain ⟨c, lm, mk, lg, bg, dp, l, hP, hR, hF, hV, hT, hm⟩ := id hI
  have hn64 := hP.1.1
  have hc1 := hP.2.1.1
  have hc2 := hP.2.1.2.1
  have ec : ρ.2.2.1 7 0 = nI c := hP.2.1.2.2
  have eC : M 17 0 - 1 = nI (c - 1) := by
    rw [(hR.2.1.2.2.2.2.2.2.2 0 (by omega)).trans ec, show c = (c - 1) + 1 by omega]; exact nI_pred _
  have eN : ρ.2.2.1 7 1 = nI ρ.2.1 := hP.1.2
  have eM : M 17 1 = nI ρ.2.1 := (hR.2.1.2.2.2.2.2.2.2 1 (by omega)).trans eN
  have e14 : M 14 = ρ.2.2.1 4 := hR.2.1.2.2.2.2.1
  rcases ix_n a 2 (by omega) with ha | ⟨ja, ha, rfl⟩
  · exact node_bad hI (fun K hK => fits_21 (isM_ex ha ⟨Or.inl rfl, hK⟩)) (fun post hp => out_in (j := 21) (n := 23) (by omega) (by omega) rfl ⟨fun z => absurd rfl z, fun _ => (badA_21 (out_ex ha (by omega) (by omega) rfl ⟨Or.inr rfl, ⟨fun _ => hp, (fun z => absurd z (by decide))⟩⟩))⟩)
  · have hlev : ∀ K : Int32 → Sg → Prop, K (nI 1) S → wxP_levelOf K ρ S (nI 21) (nI ja) b q := fun K hK => levelOf_21 hK
    refine node_good (lv := 1) (kd := 21) hI hP hR hF hV hT hm (by omega) (by omega) (by omega) (fun K hK => fits_21 (isM_in ha ⟨Or.inr rfl, hK⟩)) hlev (fun post hp67 => out_in (j := 21) (n := 23) (by omega) (by omega) rfl ⟨fun z => absurd rfl z, fun _ => (badA_21 (out_in ha (by omega) rfl ⟨Or.inl rfl, ⟨fun z => absurd rfl z, fun _ => (badB_21 ⟨fun _ => ⟨fun _ => ⟨fun _ => (qz_21 (qy_21 (qx_21 (by rw [nI_1, show 0 + 1 = 1 by omega]; exact hp67)))), (fun z => absurd z (by decide))⟩, (fun z => absurd z (by decide))⟩, fun z => absurd rfl z⟩)⟩⟩))⟩) ?_
    intro P' e1 e2 e3 e4
    simp only [nOk]
    exact (by rw [e1]; exact ⟨ja, ha, rfl⟩)
theorem node_22 {ρ : Rh} {S : Sg} {M : Rg} (hI : Iv ρ S M) (a b q : Int32) : wxT_node (fun r ρ1 S1 => wxQ_node (fun r2 M1 => r = r2 ∧ Iv ρ1 S1 M1) M (nI 22) a b q) ρ S (nI 22) a b q 1 5 := by
  obtain ⟨c, lm, mk, lg, bg, dp, l, hP, hR, hF, hV, hT, hm⟩ := id hI
  have hn64 := hP.1.1
  have hc1 := hP.2.1.1
  have hc2 := hP.2.1.2.1
  have ec : ρ.2.2.1 7 0 = nI c := hP.2.1.2.2
  have eC : M 17 0 - 1 = nI (c - 1) := by
    rw [(hR.2.1.2.2.2.2.2.2.2 0 (by omega)).trans ec, show c = (c - 1) + 1 by omega]; exact nI_pred _
  have eN : ρ.2.2.1 7 1 = nI ρ.2.1 := hP.1.2
  have eM : M 17 1 = nI ρ.2.1 := (hR.2.1.2.2.2.2.2.2.2 1 (by omega)).trans eN
  have e14 : M 14 = ρ.2.2.1 4 := hR.2.1.2.2.2.2.1
  have hlev : ∀ K : Int32 → Sg → Prop, K (nI 1) S → wxP_levelOf K ρ S (nI 22) a b q := fun K hK => levelOf_22 hK
  refine node_good (lv := 1) (kd := 22) hI hP hR hF hV hT hm (by omega) (by omega) (by omega) (fun K hK => fits_22 hK) hlev (fun post hp67 => out_in (j := 22) (n := 23) (by omega) (by omega) rfl ⟨fun z => absurd rfl z, fun _ => (badA_22 ⟨fun z => absurd rfl z, fun _ => (badB_22 ⟨fun _ => ⟨fun _ => ⟨fun _ => (qz_22 (qy_22 (qx_22 (by rw [nI_1, show 0 + 1 = 1 by omega]; exact hp67)))), (fun z => absurd z (by decide))⟩, (fun z => absurd z (by decide))⟩, fun z => absurd rfl z⟩)⟩)⟩) ?_
  intro P' e1 e2 e3 e4
  exact trivial
theorem iv_node : ok_node Iv := by
  intro ρ S M x a b q hI
  rcases ix_n x 23 (by omega) with hx | ⟨kd, hkd, rfl⟩
  · refine node_bad hI (fun K hK => ?_) (fun post hp => out_ex hx (by omega) (by omega) rfl ⟨fun _ => hp, fun z => absurd z (by decide)⟩)
    have hx' : x.toInt < 0 ∨ 22 < x.toInt := by
      rw [Int32.lt_iff_toInt_lt, Int32.le_iff_toInt_le, nI_toInt (by omega)] at hx
      have : (0 : Int32).toInt = 0 := rfl
      omega
    have k : ∀ n : Nat, n ≤ 22 → ¬ x = nI n := fun n hn z => by rw [z, nI_toInt (by omega)] at hx'; omega
    exact ⟨fun _ => hK, fun z => absurd z (k 0 (by omega)), fun z => absurd z (k 1 (by omega)), fun z => absurd z (k 2 (by omega)), fun z => absurd z (k 3 (by omega)), fun z => absurd z (k 4 (by omega)), fun z => absurd z (k 5 (by omega)), fun z => absurd z (k 6 (by omega)), fun z => absurd z (k 7 (by omega)), fun z => absurd z (k 8 (by omega)), fun z => absurd z (k 9 (by omega)), fun z => absurd z (k 10 (by omega)), fun z => absurd z (k 11 (by omega)), fun z => absurd z (k 12 (by omega)), fun z => absurd z (k 13 (by omega)), fun z => absurd z (k 14 (by omega)), fun z => absurd z (k 15 (by omega)), fun z => absurd z (k 16 (by omega)), fun z => absurd z (k 17 (by omega)), fun z => absurd z (k 18 (by omega)), fun z => absurd z (k 19 (by omega)), fun z => absurd z (k 20 (by omega)), fun z => absurd z (k 21 (by omega)), fun z => absurd z (k 22 (by omega))⟩
  · match kd, hkd with
    | 0, _ => exact node_0 hI a b q
    | 1, _ => exact node_1 hI a b q
    | 2, _ => exact node_2 hI a b q
    | 3, _ => exact node_3 hI a b q
    | 4, _ => exact node_4 hI a b q
    | 5, _ => exact node_5 hI a b q
    | 6, _ => exact node_6 hI a b q
    | 7, _ => exact node_7 hI a b q
    | 8, _ => exact node_8 hI a b q
    | 9, _ => exact node_9 hI a b q
    | 10, _ => exact node_10 hI a b q
    | 11, _ => exact node_11 hI a b q
    | 12, _ => exact node_12 hI a b q
    | 13, _ => exact node_13 hI a b q
    | 14, _ => exact node_14 hI a b q
    | 15, _ => exact node_15 hI a b q
    | 16, _ => exact node_16 hI a b q
    | 17, _ => exact node_17 hI a b q
    | 18, _ => exact node_18 hI a b q
    | 19, _ => exact node_19 hI a b q
    | 20, _ => exact node_20 hI a b q
    | 21, _ => exact node_21 hI a b q
    | 22, _ => exact node_22 hI a b q
    | w + 23, h => exact absurd h (by omega)
