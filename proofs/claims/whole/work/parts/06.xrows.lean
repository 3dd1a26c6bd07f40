/-! rows of the abstract machine: lists, world -/
section XR
variable {y : XY} {pc : Nat} {lv : List (Option XV)} {st : List XV} {σ : XM} {kc ks : Nat} {Q : XRes → XM → Prop}
theorem x_pure {pc' : Nat} {st' : List XV}
    (hok : (∀ v ∈ st, x_ok σ.1.length v) → (∀ (k : Nat) (v : XV), lv[k]? = some (some v) → x_ok σ.1.length v) → ∀ v ∈ st', x_ok σ.1.length v)
    (hW : ∀ (p : Program) (l : Launch) (e : Env) (s : State) (m : MethodId) (args : Array Value) (below : List Frame) (meth : Method) (c : Code) (A : Nat → Prop) (aa : XAA) (H : Heap) (locs : List Loc) (ls : Array Slot) (Qw : State → Prop), x_C y p l s m args meth c A → (∀ v ∈ st, x_ok σ.1.length v) → x_L aa ls y.2.2.1 lv →
      W p l e y.2.2.2.2 s m args below meth c H locs kc ks Qw (F0 m pc' ls (st'.map (x_cv aa))) → W p l e y.2.2.2.2 s m args below meth c H locs kc ks Qw (F0 m pc ls (st.map (x_cv aa))))
    (k : x_A y pc' lv st' σ kc ks Q) : x_A y pc lv st σ kc ks Q := by
  intro h1 h2 h3 p l e s m args below meth c A D aa0 aa H locs ls hC ha hw hS hL
  exact hW p l e s m args below meth c A aa H locs ls _ hC h1 hL (k (hok h1 h2) h2 h3 p l e s m args below meth c A D aa0 aa H locs ls hC ha hw hS hL)
theorem x_cnI {n : Nat} {z : Int} {st : List XV} (h : x_r32 z) (t : ∀ w ∈ st, x_ok n w) : ∀ w ∈ xI z :: st, x_ok n w := List.forall_mem_cons.mpr ⟨h, t⟩
theorem x_cnL {n : Nat} {z : Int} {st : List XV} (h : x_r64 z) (t : ∀ w ∈ st, x_ok n w) : ∀ w ∈ xL z :: st, x_ok n w := List.forall_mem_cons.mpr ⟨h, t⟩
theorem x_hd {n : Nat} {v : XV} {st : List XV} (h : ∀ w ∈ v :: st, x_ok n w) : x_ok n v := h v List.mem_cons_self
theorem x_tl {n : Nat} {v : XV} {st : List XV} (h : ∀ w ∈ v :: st, x_ok n w) : ∀ w ∈ st, x_ok n w := fun w hw => h w (List.mem_cons_of_mem _ hw)
theorem x_cn {n : Nat} {v : XV} {st : List XV} (h : x_ok n v) (t : ∀ w ∈ st, x_ok n w) : ∀ w ∈ v :: st, x_ok n w := List.forall_mem_cons.mpr ⟨h, t⟩

theorem x_iconst {n : Int} (z : Int) (d : decode y.2.1 pc = .ok (.iconst n, 1)) (hz : Int32.ofInt n = Int32.ofInt z) (hr : x_r32 z) (k : x_A y (pc + 1) lv (xI z :: st) σ kc ks Q) : x_A y pc lv st σ kc ks Q :=
  x_pure (fun h1 _ => x_cnI hr h1) (fun p l e s m args below meth c A aa H locs ls Qw hC _ _ kk => lv_iconst hC.1 hC.2.1 d hz kk) k
theorem x_bipush {n : Int} (z : Int) (d : decode y.2.1 pc = .ok (.bipush n, 2)) (hz : (Int8.ofInt n).toInt32 = Int32.ofInt z) (hr : x_r32 z) (k : x_A y (pc + 2) lv (xI z :: st) σ kc ks Q) : x_A y pc lv st σ kc ks Q :=
  x_pure (fun h1 _ => x_cnI hr h1) (fun p l e s m args below meth c A aa H locs ls Qw hC _ _ kk => lv_bipush hC.1 hC.2.1 d hz kk) k
theorem x_sipush {n : Int} (z : Int) (d : decode y.2.1 pc = .ok (.sipush n, 3)) (hz : (Int16.ofInt n).toInt32 = Int32.ofInt z) (hr : x_r32 z) (k : x_A y (pc + 3) lv (xI z :: st) σ kc ks Q) : x_A y pc lv st σ kc ks Q :=
  x_pure (fun h1 _ => x_cnI hr h1) (fun p l e s m args below meth c A aa H locs ls Qw hC _ _ kk => lv_sipush hC.1 hC.2.1 d hz kk) k
theorem x_lconst {n : Fin 2} (z : Int) (d : decode y.2.1 pc = .ok (.lconst n, 1)) (hz : Int64.ofNat (n : Nat) = Int64.ofInt z) (hr : x_r64 z) (k : x_A y (pc + 1) lv (xL z :: st) σ kc ks Q) : x_A y pc lv st σ kc ks Q :=
  x_pure (fun h1 _ => x_cnL hr h1) (fun p l e s m args below meth c A aa H locs ls Qw hC _ _ kk => lv_lconst hC.1 hC.2.1 d hz kk) k
theorem x_ldc {index : Nat} (z : Int) (d : decode y.2.1 pc = .ok (.ldc index, 2)) (hw : Jvm.Cond.constant y.1.cls index (Int32.ofInt z) ∈ x_tbl) (hr : x_r32 z) (k : x_A y (pc + 2) lv (xI z :: st) σ kc ks Q) : x_A y pc lv st σ kc ks Q :=
  x_pure (fun h1 _ => x_cnI hr h1) (fun p l e s m args below meth c A aa H locs ls Qw hC _ _ kk => lv_ldc hC.1 hC.2.1 hC.2.2.2.2.1 (hC.2.2.2.2.2.1 _ hw) d kk) k
theorem x_ldcw {index : Nat} (z : Int) (d : decode y.2.1 pc = .ok (.ldc_w index, 3)) (hw : Jvm.Cond.constant y.1.cls index (Int32.ofInt z) ∈ x_tbl) (hr : x_r32 z) (k : x_A y (pc + 3) lv (xI z :: st) σ kc ks Q) : x_A y pc lv st σ kc ks Q :=
  x_pure (fun h1 _ => x_cnI hr h1) (fun p l e s m args below meth c A aa H locs ls Qw hC _ _ kk => lv_ldcw hC.1 hC.2.1 hC.2.2.2.2.1 (hC.2.2.2.2.2.1 _ hw) d kk) k
theorem x_ldc2 {index : Nat} (z : Int) (d : decode y.2.1 pc = .ok (.ldc2_w index, 3)) (hw : Jvm.Cond.constantLong y.1.cls index (Int64.ofInt z) ∈ x_tbl) (hr : x_r64 z) (k : x_A y (pc + 3) lv (xL z :: st) σ kc ks Q) : x_A y pc lv st σ kc ks Q :=
  x_pure (fun h1 _ => x_cnL hr h1) (fun p l e s m args below meth c A aa H locs ls Qw hC _ _ kk => lv_ldc2 hC.1 hC.2.1 hC.2.2.2.2.1 (hC.2.2.2.2.2.1 _ hw) d kk) k
theorem x_iload_n {j : Fin 4} {i : Nat} {z : Int} (d : decode y.2.1 pc = .ok (.iload_n j, 1)) (hi : (j : Nat) = i) (hv : lv[i]? = some (some (xI z))) (k : x_A y (pc + 1) lv (xI z :: st) σ kc ks Q) : x_A y pc lv st σ kc ks Q :=
  x_pure (fun h1 h2 => x_cn (h2 i _ hv) h1) (fun p l e s m args below meth c A aa H locs ls Qw hC _ hL kk => lv_iload_n hC.1 hC.2.1 d hi (hL.2.2 i _ hv) kk) k
theorem x_iload {i : Nat} {z : Int} (d : decode y.2.1 pc = .ok (.iload i, 2)) (hv : lv[i]? = some (some (xI z))) (k : x_A y (pc + 2) lv (xI z :: st) σ kc ks Q) : x_A y pc lv st σ kc ks Q :=
  x_pure (fun h1 h2 => x_cn (h2 i _ hv) h1) (fun p l e s m args below meth c A aa H locs ls Qw hC _ hL kk => lv_iload hC.1 hC.2.1 d (hL.2.2 i _ hv) kk) k
theorem x_lload_n {j : Fin 4} {i : Nat} {z : Int} (d : decode y.2.1 pc = .ok (.lload_n j, 1)) (hi : (j : Nat) = i) (hv : lv[i]? = some (some (xL z))) (k : x_A y (pc + 1) lv (xL z :: st) σ kc ks Q) : x_A y pc lv st σ kc ks Q :=
  x_pure (fun h1 h2 => x_cn (h2 i _ hv) h1) (fun p l e s m args below meth c A aa H locs ls Qw hC _ hL kk => lv_lload_n hC.1 hC.2.1 d hi (hL.2.2 i _ hv) kk) k
theorem x_lload {i : Nat} {z : Int} (d : decode y.2.1 pc = .ok (.lload i, 2)) (hv : lv[i]? = some (some (xL z))) (k : x_A y (pc + 2) lv (xL z :: st) σ kc ks Q) : x_A y pc lv st σ kc ks Q :=
  x_pure (fun h1 h2 => x_cn (h2 i _ hv) h1) (fun p l e s m args below meth c A aa H locs ls Qw hC _ hL kk => lv_lload hC.1 hC.2.1 d (hL.2.2 i _ hv) kk) k
theorem x_aload_n {j : Fin 4} {i : Nat} {r : Option Nat} (d : decode y.2.1 pc = .ok (.aload_n j, 1)) (hi : (j : Nat) = i) (hv : lv[i]? = some (some (xR r))) (k : x_A y (pc + 1) lv (xR r :: st) σ kc ks Q) : x_A y pc lv st σ kc ks Q := by
  cases r with
  | some q => exact x_pure (fun h1 h2 => x_cn (h2 i _ hv) h1) (fun p l e s m args below meth c A aa H locs ls Qw hC _ hL kk => lv_aload_n hC.1 hC.2.1 d hi (hL.2.2 i _ hv) kk) k
  | none => exact x_pure (fun h1 h2 => x_cn (h2 i _ hv) h1) (fun p l e s m args below meth c A aa H locs ls Qw hC _ hL kk => lv_aload_nN hC.1 hC.2.1 d hi (hL.2.2 i _ hv) kk) k
theorem x_aload {i : Nat} {r : Option Nat} (d : decode y.2.1 pc = .ok (.aload i, 2)) (hv : lv[i]? = some (some (xR r))) (k : x_A y (pc + 2) lv (xR r :: st) σ kc ks Q) : x_A y pc lv st σ kc ks Q := by
  cases r with
  | some q => exact x_pure (fun h1 h2 => x_cn (h2 i _ hv) h1) (fun p l e s m args below meth c A aa H locs ls Qw hC _ hL kk => lv_aload hC.1 hC.2.1 d (hL.2.2 i _ hv) kk) k
  | none => exact x_pure (fun h1 h2 => x_cn (h2 i _ hv) h1) (fun p l e s m args below meth c A aa H locs ls Qw hC _ hL kk => lv_aloadN hC.1 hC.2.1 d (hL.2.2 i _ hv) kk) k
theorem x_iadd {a b : Int} (d : decode y.2.1 pc = .ok (.iadd, 1)) (k : x_A y (pc + 1) lv (xI (w32 (a + b)) :: st) σ kc ks Q) : x_A y pc lv (xI b :: xI a :: st) σ kc ks Q :=
  x_pure (fun h1 _ => x_cnI (w32_r _) (x_tl (x_tl h1))) (fun p l e s m args below meth c A aa H locs ls Qw hC _ _ kk => lv_iadd (x := Int32.ofInt a) (y := Int32.ofInt b) hC.1 hC.2.1 d (by rw [i32_add]; exact kk)) k
theorem x_isub {a b : Int} (d : decode y.2.1 pc = .ok (.isub, 1)) (k : x_A y (pc + 1) lv (xI (w32 (a - b)) :: st) σ kc ks Q) : x_A y pc lv (xI b :: xI a :: st) σ kc ks Q :=
  x_pure (fun h1 _ => x_cnI (w32_r _) (x_tl (x_tl h1))) (fun p l e s m args below meth c A aa H locs ls Qw hC _ _ kk => lv_isub (x := Int32.ofInt a) (y := Int32.ofInt b) hC.1 hC.2.1 d (by rw [i32_sub]; exact kk)) k
theorem x_imul {a b : Int} (d : decode y.2.1 pc = .ok (.imul, 1)) (k : x_A y (pc + 1) lv (xI (w32 (a * b)) :: st) σ kc ks Q) : x_A y pc lv (xI b :: xI a :: st) σ kc ks Q :=
  x_pure (fun h1 _ => x_cnI (w32_r _) (x_tl (x_tl h1))) (fun p l e s m args below meth c A aa H locs ls Qw hC _ _ kk => lv_imul (x := Int32.ofInt a) (y := Int32.ofInt b) hC.1 hC.2.1 d (by rw [i32_mul]; exact kk)) k
theorem x_iand {a b : Int} (d : decode y.2.1 pc = .ok (.iand, 1)) (k : x_A y (pc + 1) lv (xI (x_and a b) :: st) σ kc ks Q) : x_A y pc lv (xI b :: xI a :: st) σ kc ks Q :=
  x_pure (fun h1 _ => x_cnI (i32_rng _) (x_tl (x_tl h1))) (fun p l e s m args below meth c A aa H locs ls Qw hC _ _ kk => lv_iand (x := Int32.ofInt a) (y := Int32.ofInt b) hC.1 hC.2.1 d (by have e9 : Int32.ofInt a &&& Int32.ofInt b = Int32.ofInt (x_and a b) := (Int32.ofInt_toInt _).symm; rw [e9]; exact kk)) k
theorem x_ior {a b : Int} (d : decode y.2.1 pc = .ok (.ior, 1)) (k : x_A y (pc + 1) lv (xI (x_or a b) :: st) σ kc ks Q) : x_A y pc lv (xI b :: xI a :: st) σ kc ks Q :=
  x_pure (fun h1 _ => x_cnI (i32_rng _) (x_tl (x_tl h1))) (fun p l e s m args below meth c A aa H locs ls Qw hC _ _ kk => lv_ior (x := Int32.ofInt a) (y := Int32.ofInt b) hC.1 hC.2.1 d (by have e9 : Int32.ofInt a ||| Int32.ofInt b = Int32.ofInt (x_or a b) := (Int32.ofInt_toInt _).symm; rw [e9]; exact kk)) k
theorem x_ixor {a b : Int} (d : decode y.2.1 pc = .ok (.ixor, 1)) (k : x_A y (pc + 1) lv (xI (x_xor a b) :: st) σ kc ks Q) : x_A y pc lv (xI b :: xI a :: st) σ kc ks Q :=
  x_pure (fun h1 _ => x_cnI (i32_rng _) (x_tl (x_tl h1))) (fun p l e s m args below meth c A aa H locs ls Qw hC _ _ kk => lv_ixor (x := Int32.ofInt a) (y := Int32.ofInt b) hC.1 hC.2.1 d (by have e9 : Int32.ofInt a ^^^ Int32.ofInt b = Int32.ofInt (x_xor a b) := (Int32.ofInt_toInt _).symm; rw [e9]; exact kk)) k
theorem x_ishl {a b : Int} (d : decode y.2.1 pc = .ok (.ishl, 1)) (k : x_A y (pc + 1) lv (xI (x_shl a b) :: st) σ kc ks Q) : x_A y pc lv (xI b :: xI a :: st) σ kc ks Q :=
  x_pure (fun h1 _ => x_cnI (i32_rng _) (x_tl (x_tl h1))) (fun p l e s m args below meth c A aa H locs ls Qw hC _ _ kk => lv_ishl (x := Int32.ofInt a) (y := Int32.ofInt b) hC.1 hC.2.1 d (by have e9 : Int32.ofInt a <<< (Int32.ofInt b &&& 31) = Int32.ofInt (x_shl a b) := (Int32.ofInt_toInt _).symm; rw [e9]; exact kk)) k
theorem x_ishr {a b : Int} (d : decode y.2.1 pc = .ok (.ishr, 1)) (k : x_A y (pc + 1) lv (xI (x_shr a b) :: st) σ kc ks Q) : x_A y pc lv (xI b :: xI a :: st) σ kc ks Q :=
  x_pure (fun h1 _ => x_cnI (i32_rng _) (x_tl (x_tl h1))) (fun p l e s m args below meth c A aa H locs ls Qw hC _ _ kk => lv_ishr (x := Int32.ofInt a) (y := Int32.ofInt b) hC.1 hC.2.1 d (by have e9 : Int32.ofInt a >>> (Int32.ofInt b &&& 31) = Int32.ofInt (x_shr a b) := (Int32.ofInt_toInt _).symm; rw [e9]; exact kk)) k
theorem x_iushr {a b : Int} (d : decode y.2.1 pc = .ok (.iushr, 1)) (k : x_A y (pc + 1) lv (xI (x_ushr a b) :: st) σ kc ks Q) : x_A y pc lv (xI b :: xI a :: st) σ kc ks Q :=
  x_pure (fun h1 _ => x_cnI (i32_rng _) (x_tl (x_tl h1))) (fun p l e s m args below meth c A aa H locs ls Qw hC _ _ kk => lv_iushr (x := Int32.ofInt a) (y := Int32.ofInt b) hC.1 hC.2.1 d (Int32.ofInt_toInt _).symm kk) k
theorem x_idiv {a b : Int} (d : decode y.2.1 pc = .ok (.idiv, 1)) (h0 : b ≠ 0) (k : x_A y (pc + 1) lv (xI (x_div a b) :: st) σ kc ks Q) : x_A y pc lv (xI b :: xI a :: st) σ kc ks Q :=
  x_pure (fun h1 _ => x_cnI (i32_rng _) (x_tl (x_tl h1))) (fun p l e s m args below meth c A aa H locs ls Qw hC h1 _ kk => lv_idiv (x := Int32.ofInt a) (y := Int32.ofInt b) hC.1 hC.2.1 d (fun z => h0 ((i32_eq (x_hd h1) x_r0).mp z)) (by have e9 : Int32.ofInt a / Int32.ofInt b = Int32.ofInt (x_div a b) := (Int32.ofInt_toInt _).symm; rw [e9]; exact kk)) k
theorem x_irem {a b : Int} (d : decode y.2.1 pc = .ok (.irem, 1)) (h0 : b ≠ 0) (k : x_A y (pc + 1) lv (xI (x_rem a b) :: st) σ kc ks Q) : x_A y pc lv (xI b :: xI a :: st) σ kc ks Q :=
  x_pure (fun h1 _ => x_cnI (i32_rng _) (x_tl (x_tl h1))) (fun p l e s m args below meth c A aa H locs ls Qw hC h1 _ kk => lv_irem (x := Int32.ofInt a) (y := Int32.ofInt b) hC.1 hC.2.1 d (fun z => h0 ((i32_eq (x_hd h1) x_r0).mp z)) (by have e9 : Int32.ofInt a - Int32.ofInt a / Int32.ofInt b * Int32.ofInt b = Int32.ofInt (x_rem a b) := (Int32.ofInt_toInt _).symm; rw [e9]; exact kk)) k
theorem x_ineg {a : Int} (d : decode y.2.1 pc = .ok (.ineg, 1)) (k : x_A y (pc + 1) lv (xI (w32 (-a)) :: st) σ kc ks Q) : x_A y pc lv (xI a :: st) σ kc ks Q :=
  x_pure (fun h1 _ => x_cnI (w32_r _) (x_tl h1)) (fun p l e s m args below meth c A aa H locs ls Qw hC _ _ kk => lv_ineg (x := Int32.ofInt a) hC.1 hC.2.1 d (by rw [i32_neg]; exact kk)) k
theorem x_i2l {a : Int} (d : decode y.2.1 pc = .ok (.i2l, 1)) (k : x_A y (pc + 1) lv (xL a :: st) σ kc ks Q) : x_A y pc lv (xI a :: st) σ kc ks Q :=
  x_pure (fun h1 _ => x_cnL (by have h : x_r32 a := x_hd h1; have h1 := h.1; have h2 := h.2; show x_r64 a; unfold x_r64; omega) (x_tl h1)) (fun p l e s m args below meth c A aa H locs ls Qw hC h1 _ kk => lv_i2l (x := Int32.ofInt a) hC.1 hC.2.1 d (i32_64 (x_hd h1)) kk) k
theorem x_l2i {a : Int} (d : decode y.2.1 pc = .ok (.l2i, 1)) (k : x_A y (pc + 1) lv (xI (w32 a) :: st) σ kc ks Q) : x_A y pc lv (xL a :: st) σ kc ks Q :=
  x_pure (fun h1 _ => x_cnI (w32_r _) (x_tl h1)) (fun p l e s m args below meth c A aa H locs ls Qw hC h1 _ kk => lv_l2i (x := Int64.ofInt a) hC.1 hC.2.1 d (i64_32 a) kk) k
theorem x_i2b_ {a : Int} (d : decode y.2.1 pc = .ok (.i2b, 1)) (k : x_A y (pc + 1) lv (xI (x_i2b a) :: st) σ kc ks Q) : x_A y pc lv (xI a :: st) σ kc ks Q :=
  x_pure (fun h1 _ => x_cnI (i32_rng _) (x_tl h1)) (fun p l e s m args below meth c A aa H locs ls Qw hC h1 _ kk => lv_i2b (x := Int32.ofInt a) hC.1 hC.2.1 d (Int32.ofInt_toInt _).symm kk) k
theorem x_i2s_ {a : Int} (d : decode y.2.1 pc = .ok (.i2s, 1)) (k : x_A y (pc + 1) lv (xI (x_i2s a) :: st) σ kc ks Q) : x_A y pc lv (xI a :: st) σ kc ks Q :=
  x_pure (fun h1 _ => x_cnI (i32_rng _) (x_tl h1)) (fun p l e s m args below meth c A aa H locs ls Qw hC h1 _ kk => lv_i2s (x := Int32.ofInt a) hC.1 hC.2.1 d (Int32.ofInt_toInt _).symm kk) k
theorem x_ladd {a b : Int} (d : decode y.2.1 pc = .ok (.ladd, 1)) (k : x_A y (pc + 1) lv (xL (w64 (a + b)) :: st) σ kc ks Q) : x_A y pc lv (xL b :: xL a :: st) σ kc ks Q :=
  x_pure (fun h1 _ => x_cnL (w64_r _) (x_tl (x_tl h1))) (fun p l e s m args below meth c A aa H locs ls Qw hC _ _ kk => lv_ladd (x := Int64.ofInt a) (y := Int64.ofInt b) hC.1 hC.2.1 d (by rw [i64_add]; exact kk)) k
theorem x_land_ {a b : Int} (d : decode y.2.1 pc = .ok (.land, 1)) (k : x_A y (pc + 1) lv (xL (x_land a b) :: st) σ kc ks Q) : x_A y pc lv (xL b :: xL a :: st) σ kc ks Q :=
  x_pure (fun h1 _ => x_cnL (i64_rng _) (x_tl (x_tl h1))) (fun p l e s m args below meth c A aa H locs ls Qw hC _ _ kk => lv_land (x := Int64.ofInt a) (y := Int64.ofInt b) hC.1 hC.2.1 d (by have e9 : Int64.ofInt a &&& Int64.ofInt b = Int64.ofInt (x_land a b) := (Int64.ofInt_toInt _).symm; rw [e9]; exact kk)) k
theorem x_lor_ {a b : Int} (d : decode y.2.1 pc = .ok (.lor, 1)) (k : x_A y (pc + 1) lv (xL (x_lor a b) :: st) σ kc ks Q) : x_A y pc lv (xL b :: xL a :: st) σ kc ks Q :=
  x_pure (fun h1 _ => x_cnL (i64_rng _) (x_tl (x_tl h1))) (fun p l e s m args below meth c A aa H locs ls Qw hC _ _ kk => lv_lor (x := Int64.ofInt a) (y := Int64.ofInt b) hC.1 hC.2.1 d (by have e9 : Int64.ofInt a ||| Int64.ofInt b = Int64.ofInt (x_lor a b) := (Int64.ofInt_toInt _).symm; rw [e9]; exact kk)) k
theorem x_lshl_ {a b : Int} (d : decode y.2.1 pc = .ok (.lshl, 1)) (k : x_A y (pc + 1) lv (xL (x_lshl a b) :: st) σ kc ks Q) : x_A y pc lv (xI b :: xL a :: st) σ kc ks Q :=
  x_pure (fun h1 _ => x_cnL (i64_rng _) (x_tl (x_tl h1))) (fun p l e s m args below meth c A aa H locs ls Qw hC _ _ kk => lv_lshl (x := Int64.ofInt a) (y := Int32.ofInt b) hC.1 hC.2.1 d (Int64.ofInt_toInt _).symm kk) k
theorem x_lshr_ {a b : Int} (d : decode y.2.1 pc = .ok (.lshr, 1)) (k : x_A y (pc + 1) lv (xL (x_lshr a b) :: st) σ kc ks Q) : x_A y pc lv (xI b :: xL a :: st) σ kc ks Q :=
  x_pure (fun h1 _ => x_cnL (i64_rng _) (x_tl (x_tl h1))) (fun p l e s m args below meth c A aa H locs ls Qw hC _ _ kk => lv_lshr (x := Int64.ofInt a) (y := Int32.ofInt b) hC.1 hC.2.1 d (Int64.ofInt_toInt _).symm kk) k
def x_c1 : XV → Bool
  | .inr (.inl _) => false
  | _ => true
theorem x_cat1 {aa : XAA} {v : XV} (h : x_c1 v = true) : (x_cv aa v).category = 1 := by
  rcases v with x | x | (_ | i)
  · rfl
  · cases h
  · rfl
  · rfl
theorem x_cat2 {aa : XAA} {v : XV} (h : x_c1 v = false) : (x_cv aa v).category = 2 := by
  rcases v with x | x | (_ | i)
  · cases h
  · rfl
  · cases h
  · cases h
theorem x_dup {v : XV} (d : decode y.2.1 pc = .ok (.dup, 1)) (hc : x_c1 v = true) (k : x_A y (pc + 1) lv (v :: v :: st) σ kc ks Q) : x_A y pc lv (v :: st) σ kc ks Q :=
  x_pure (fun h1 _ => x_cn (x_hd h1) h1) (fun p l e s m args below meth c A aa H locs ls Qw hC _ _ kk => lv_dup hC.1 hC.2.1 d (x_cat1 hc) kk) k
theorem x_dup2 {v u : XV} (d : decode y.2.1 pc = .ok (.dup2, 1)) (hv : x_c1 v = true) (hu : x_c1 u = true) (k : x_A y (pc + 1) lv (v :: u :: v :: u :: st) σ kc ks Q) : x_A y pc lv (v :: u :: st) σ kc ks Q :=
  x_pure (fun h1 _ => x_cn (x_hd h1) (x_cn (x_hd (x_tl h1)) h1)) (fun p l e s m args below meth c A aa H locs ls Qw hC _ _ kk => lv_dup2_11 hC.1 hC.2.1 d (x_cat1 hv) (x_cat1 hu) kk) k
theorem x_pop {v : XV} (d : decode y.2.1 pc = .ok (.pop, 1)) (hc : x_c1 v = true) (k : x_A y (pc + 1) lv st σ kc ks Q) : x_A y pc lv (v :: st) σ kc ks Q :=
  x_pure (fun h1 _ => x_tl h1) (fun p l e s m args below meth c A aa H locs ls Qw hC _ _ kk => lv_pop hC.1 hC.2.1 d (x_cat1 hc) kk) k
theorem x_pop2 {v : XV} (d : decode y.2.1 pc = .ok (.pop2, 1)) (hc : x_c1 v = false) (k : x_A y (pc + 1) lv st σ kc ks Q) : x_A y pc lv (v :: st) σ kc ks Q :=
  x_pure (fun h1 _ => x_tl h1) (fun p l e s m args below meth c A aa H locs ls Qw hC _ _ kk => lv_pop2_2 hC.1 hC.2.1 d (x_cat2 hc) kk) k
theorem x_goto {off : Int} (tgt : Nat) (d : decode y.2.1 pc = .ok (.goto off, 3)) (ht : (pc : Int) + off = (tgt : Int)) (k : x_A y tgt lv st σ kc ks Q) : x_A y pc lv st σ kc ks Q :=
  x_pure (fun h1 _ => h1) (fun p l e s m args below meth c A aa H locs ls Qw hC _ _ kk => lv_goto hC.1 hC.2.1 d ht kk) k
theorem x_if_eq {a : Int} {off : Int} (tgt : Nat) (d : decode y.2.1 pc = .ok (.ifCond .eq off, 3)) (ht : (pc : Int) + off = (tgt : Int)) (kt : a = 0 → x_A y tgt lv st σ kc ks Q) (kf : ¬ a = 0 → x_A y (pc + 3) lv st σ kc ks Q) : x_A y pc lv (xI a :: st) σ kc ks Q := by
  intro h1 h2 h3 p l e s m args below meth c A D aa0 aa H locs ls hC ha hw hS hL
  exact lv_if_eq (x := Int32.ofInt a) hC.1 hC.2.1 d ht (fun z => (kt ((i32_eq (x_hd h1) x_r0).mp z)) (x_tl h1) h2 h3 p l e s m args below meth c A D aa0 aa H locs ls hC ha hw hS hL) (fun z => (kf (fun q => z ((i32_eq (x_hd h1) x_r0).mpr q))) (x_tl h1) h2 h3 p l e s m args below meth c A D aa0 aa H locs ls hC ha hw hS hL)
theorem x_if_ne {a : Int} {off : Int} (tgt : Nat) (d : decode y.2.1 pc = .ok (.ifCond .ne off, 3)) (ht : (pc : Int) + off = (tgt : Int)) (kt : a ≠ 0 → x_A y tgt lv st σ kc ks Q) (kf : a = 0 → x_A y (pc + 3) lv st σ kc ks Q) : x_A y pc lv (xI a :: st) σ kc ks Q := by
  intro h1 h2 h3 p l e s m args below meth c A D aa0 aa H locs ls hC ha hw hS hL
  exact lv_if_ne (x := Int32.ofInt a) hC.1 hC.2.1 d ht (fun z => (kt (fun q => z ((i32_eq (x_hd h1) x_r0).mpr q))) (x_tl h1) h2 h3 p l e s m args below meth c A D aa0 aa H locs ls hC ha hw hS hL) (fun z => (kf ((i32_eq (x_hd h1) x_r0).mp z)) (x_tl h1) h2 h3 p l e s m args below meth c A D aa0 aa H locs ls hC ha hw hS hL)
theorem x_if_lt {a : Int} {off : Int} (tgt : Nat) (d : decode y.2.1 pc = .ok (.ifCond .lt off, 3)) (ht : (pc : Int) + off = (tgt : Int)) (kt : a < 0 → x_A y tgt lv st σ kc ks Q) (kf : ¬ a < 0 → x_A y (pc + 3) lv st σ kc ks Q) : x_A y pc lv (xI a :: st) σ kc ks Q := by
  intro h1 h2 h3 p l e s m args below meth c A D aa0 aa H locs ls hC ha hw hS hL
  exact lv_if_lt (x := Int32.ofInt a) hC.1 hC.2.1 d ht (fun z => (kt ((i32_lt (x_hd h1) x_r0).mp z)) (x_tl h1) h2 h3 p l e s m args below meth c A D aa0 aa H locs ls hC ha hw hS hL) (fun z => (kf (fun q => z ((i32_lt (x_hd h1) x_r0).mpr q))) (x_tl h1) h2 h3 p l e s m args below meth c A D aa0 aa H locs ls hC ha hw hS hL)
theorem x_if_ge {a : Int} {off : Int} (tgt : Nat) (d : decode y.2.1 pc = .ok (.ifCond .ge off, 3)) (ht : (pc : Int) + off = (tgt : Int)) (kt : 0 ≤ a → x_A y tgt lv st σ kc ks Q) (kf : ¬ 0 ≤ a → x_A y (pc + 3) lv st σ kc ks Q) : x_A y pc lv (xI a :: st) σ kc ks Q := by
  intro h1 h2 h3 p l e s m args below meth c A D aa0 aa H locs ls hC ha hw hS hL
  exact lv_if_ge (x := Int32.ofInt a) hC.1 hC.2.1 d ht (fun z => (kt ((i32_le x_r0 (x_hd h1)).mp z)) (x_tl h1) h2 h3 p l e s m args below meth c A D aa0 aa H locs ls hC ha hw hS hL) (fun z => (kf (fun q => z ((i32_le x_r0 (x_hd h1)).mpr q))) (x_tl h1) h2 h3 p l e s m args below meth c A D aa0 aa H locs ls hC ha hw hS hL)
theorem x_if_gt {a : Int} {off : Int} (tgt : Nat) (d : decode y.2.1 pc = .ok (.ifCond .gt off, 3)) (ht : (pc : Int) + off = (tgt : Int)) (kt : 0 < a → x_A y tgt lv st σ kc ks Q) (kf : ¬ 0 < a → x_A y (pc + 3) lv st σ kc ks Q) : x_A y pc lv (xI a :: st) σ kc ks Q := by
  intro h1 h2 h3 p l e s m args below meth c A D aa0 aa H locs ls hC ha hw hS hL
  exact lv_if_gt (x := Int32.ofInt a) hC.1 hC.2.1 d ht (fun z => (kt ((i32_lt x_r0 (x_hd h1)).mp z)) (x_tl h1) h2 h3 p l e s m args below meth c A D aa0 aa H locs ls hC ha hw hS hL) (fun z => (kf (fun q => z ((i32_lt x_r0 (x_hd h1)).mpr q))) (x_tl h1) h2 h3 p l e s m args below meth c A D aa0 aa H locs ls hC ha hw hS hL)
theorem x_if_le {a : Int} {off : Int} (tgt : Nat) (d : decode y.2.1 pc = .ok (.ifCond .le off, 3)) (ht : (pc : Int) + off = (tgt : Int)) (kt : a ≤ 0 → x_A y tgt lv st σ kc ks Q) (kf : ¬ a ≤ 0 → x_A y (pc + 3) lv st σ kc ks Q) : x_A y pc lv (xI a :: st) σ kc ks Q := by
  intro h1 h2 h3 p l e s m args below meth c A D aa0 aa H locs ls hC ha hw hS hL
  exact lv_if_le (x := Int32.ofInt a) hC.1 hC.2.1 d ht (fun z => (kt ((i32_le (x_hd h1) x_r0).mp z)) (x_tl h1) h2 h3 p l e s m args below meth c A D aa0 aa H locs ls hC ha hw hS hL) (fun z => (kf (fun q => z ((i32_le (x_hd h1) x_r0).mpr q))) (x_tl h1) h2 h3 p l e s m args below meth c A D aa0 aa H locs ls hC ha hw hS hL)
theorem x_icmp_eq {a b : Int} {off : Int} (tgt : Nat) (d : decode y.2.1 pc = .ok (.if_icmp .eq off, 3)) (ht : (pc : Int) + off = (tgt : Int)) (kt : a = b → x_A y tgt lv st σ kc ks Q) (kf : ¬ a = b → x_A y (pc + 3) lv st σ kc ks Q) : x_A y pc lv (xI b :: xI a :: st) σ kc ks Q := by
  intro h1 h2 h3 p l e s m args below meth c A D aa0 aa H locs ls hC ha hw hS hL
  exact lv_icmp_eq (x := Int32.ofInt a) (y := Int32.ofInt b) hC.1 hC.2.1 d ht (fun z => (kt ((i32_eq (x_hd (x_tl h1)) (x_hd h1)).mp z)) (x_tl (x_tl h1)) h2 h3 p l e s m args below meth c A D aa0 aa H locs ls hC ha hw hS hL) (fun z => (kf (fun q => z ((i32_eq (x_hd (x_tl h1)) (x_hd h1)).mpr q))) (x_tl (x_tl h1)) h2 h3 p l e s m args below meth c A D aa0 aa H locs ls hC ha hw hS hL)
theorem x_icmp_ne {a b : Int} {off : Int} (tgt : Nat) (d : decode y.2.1 pc = .ok (.if_icmp .ne off, 3)) (ht : (pc : Int) + off = (tgt : Int)) (kt : a ≠ b → x_A y tgt lv st σ kc ks Q) (kf : a = b → x_A y (pc + 3) lv st σ kc ks Q) : x_A y pc lv (xI b :: xI a :: st) σ kc ks Q := by
  intro h1 h2 h3 p l e s m args below meth c A D aa0 aa H locs ls hC ha hw hS hL
  exact lv_icmp_ne (x := Int32.ofInt a) (y := Int32.ofInt b) hC.1 hC.2.1 d ht (fun z => (kt (fun q => z ((i32_eq (x_hd (x_tl h1)) (x_hd h1)).mpr q))) (x_tl (x_tl h1)) h2 h3 p l e s m args below meth c A D aa0 aa H locs ls hC ha hw hS hL) (fun z => (kf ((i32_eq (x_hd (x_tl h1)) (x_hd h1)).mp z)) (x_tl (x_tl h1)) h2 h3 p l e s m args below meth c A D aa0 aa H locs ls hC ha hw hS hL)
theorem x_icmp_lt {a b : Int} {off : Int} (tgt : Nat) (d : decode y.2.1 pc = .ok (.if_icmp .lt off, 3)) (ht : (pc : Int) + off = (tgt : Int)) (kt : a < b → x_A y tgt lv st σ kc ks Q) (kf : ¬ a < b → x_A y (pc + 3) lv st σ kc ks Q) : x_A y pc lv (xI b :: xI a :: st) σ kc ks Q := by
  intro h1 h2 h3 p l e s m args below meth c A D aa0 aa H locs ls hC ha hw hS hL
  exact lv_icmp_lt (x := Int32.ofInt a) (y := Int32.ofInt b) hC.1 hC.2.1 d ht (fun z => (kt ((i32_lt (x_hd (x_tl h1)) (x_hd h1)).mp z)) (x_tl (x_tl h1)) h2 h3 p l e s m args below meth c A D aa0 aa H locs ls hC ha hw hS hL) (fun z => (kf (fun q => z ((i32_lt (x_hd (x_tl h1)) (x_hd h1)).mpr q))) (x_tl (x_tl h1)) h2 h3 p l e s m args below meth c A D aa0 aa H locs ls hC ha hw hS hL)
theorem x_icmp_ge {a b : Int} {off : Int} (tgt : Nat) (d : decode y.2.1 pc = .ok (.if_icmp .ge off, 3)) (ht : (pc : Int) + off = (tgt : Int)) (kt : b ≤ a → x_A y tgt lv st σ kc ks Q) (kf : ¬ b ≤ a → x_A y (pc + 3) lv st σ kc ks Q) : x_A y pc lv (xI b :: xI a :: st) σ kc ks Q := by
  intro h1 h2 h3 p l e s m args below meth c A D aa0 aa H locs ls hC ha hw hS hL
  exact lv_icmp_ge (x := Int32.ofInt a) (y := Int32.ofInt b) hC.1 hC.2.1 d ht (fun z => (kt ((i32_le (x_hd h1) (x_hd (x_tl h1))).mp z)) (x_tl (x_tl h1)) h2 h3 p l e s m args below meth c A D aa0 aa H locs ls hC ha hw hS hL) (fun z => (kf (fun q => z ((i32_le (x_hd h1) (x_hd (x_tl h1))).mpr q))) (x_tl (x_tl h1)) h2 h3 p l e s m args below meth c A D aa0 aa H locs ls hC ha hw hS hL)
theorem x_icmp_gt {a b : Int} {off : Int} (tgt : Nat) (d : decode y.2.1 pc = .ok (.if_icmp .gt off, 3)) (ht : (pc : Int) + off = (tgt : Int)) (kt : b < a → x_A y tgt lv st σ kc ks Q) (kf : ¬ b < a → x_A y (pc + 3) lv st σ kc ks Q) : x_A y pc lv (xI b :: xI a :: st) σ kc ks Q := by
  intro h1 h2 h3 p l e s m args below meth c A D aa0 aa H locs ls hC ha hw hS hL
  exact lv_icmp_gt (x := Int32.ofInt a) (y := Int32.ofInt b) hC.1 hC.2.1 d ht (fun z => (kt ((i32_lt (x_hd h1) (x_hd (x_tl h1))).mp z)) (x_tl (x_tl h1)) h2 h3 p l e s m args below meth c A D aa0 aa H locs ls hC ha hw hS hL) (fun z => (kf (fun q => z ((i32_lt (x_hd h1) (x_hd (x_tl h1))).mpr q))) (x_tl (x_tl h1)) h2 h3 p l e s m args below meth c A D aa0 aa H locs ls hC ha hw hS hL)
theorem x_icmp_le {a b : Int} {off : Int} (tgt : Nat) (d : decode y.2.1 pc = .ok (.if_icmp .le off, 3)) (ht : (pc : Int) + off = (tgt : Int)) (kt : a ≤ b → x_A y tgt lv st σ kc ks Q) (kf : ¬ a ≤ b → x_A y (pc + 3) lv st σ kc ks Q) : x_A y pc lv (xI b :: xI a :: st) σ kc ks Q := by
  intro h1 h2 h3 p l e s m args below meth c A D aa0 aa H locs ls hC ha hw hS hL
  exact lv_icmp_le (x := Int32.ofInt a) (y := Int32.ofInt b) hC.1 hC.2.1 d ht (fun z => (kt ((i32_le (x_hd (x_tl h1)) (x_hd h1)).mp z)) (x_tl (x_tl h1)) h2 h3 p l e s m args below meth c A D aa0 aa H locs ls hC ha hw hS hL) (fun z => (kf (fun q => z ((i32_le (x_hd (x_tl h1)) (x_hd h1)).mpr q))) (x_tl (x_tl h1)) h2 h3 p l e s m args below meth c A D aa0 aa H locs ls hC ha hw hS hL)
end XR
