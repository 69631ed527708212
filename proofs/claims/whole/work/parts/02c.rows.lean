/-! THE LOGIC, part 3: rows by program -/
section RI
variable {G : rn_G} {d : Nat} {M M' : rn_M} {pc : Nat} {ls st t : List Value} {σ : rn_S} {mi : Nat → Nat → Int32} {ml : Nat → Nat → Int64} {rf : Nat → Nat → Nat} {n : Nat} {κ : Nat × Nat} {Q : Option Value → rn_S → Prop}
theorem R_iadd {x y : Int32} (hd : decode M.2.1 pc = .ok (.iadd, 1)) (k : Run G d M (pc + 1) ls (.int (x + y) :: st) σ κ Q) : Run G d M pc ls (.int y :: .int x :: st) σ κ Q := by
  intro p e R s m args below meth c C CT ST Z h1 h2 hH H locs cells slots lsA hR hL hc hs
  exact lv_iadd C.1.1 C.1.2.1 hd (k p e R s m args below meth c C CT ST Z h1 h2 hH H locs cells slots lsA hR hL hc hs)
theorem R_isub {x y : Int32} (hd : decode M.2.1 pc = .ok (.isub, 1)) (k : Run G d M (pc + 1) ls (.int (x - y) :: st) σ κ Q) : Run G d M pc ls (.int y :: .int x :: st) σ κ Q := by
  intro p e R s m args below meth c C CT ST Z h1 h2 hH H locs cells slots lsA hR hL hc hs
  exact lv_isub C.1.1 C.1.2.1 hd (k p e R s m args below meth c C CT ST Z h1 h2 hH H locs cells slots lsA hR hL hc hs)
theorem R_imul {x y : Int32} (hd : decode M.2.1 pc = .ok (.imul, 1)) (k : Run G d M (pc + 1) ls (.int (x * y) :: st) σ κ Q) : Run G d M pc ls (.int y :: .int x :: st) σ κ Q := by
  intro p e R s m args below meth c C CT ST Z h1 h2 hH H locs cells slots lsA hR hL hc hs
  exact lv_imul C.1.1 C.1.2.1 hd (k p e R s m args below meth c C CT ST Z h1 h2 hH H locs cells slots lsA hR hL hc hs)
theorem R_iand {x y : Int32} (hd : decode M.2.1 pc = .ok (.iand, 1)) (k : Run G d M (pc + 1) ls (.int (x &&& y) :: st) σ κ Q) : Run G d M pc ls (.int y :: .int x :: st) σ κ Q := by
  intro p e R s m args below meth c C CT ST Z h1 h2 hH H locs cells slots lsA hR hL hc hs
  exact lv_iand C.1.1 C.1.2.1 hd (k p e R s m args below meth c C CT ST Z h1 h2 hH H locs cells slots lsA hR hL hc hs)
theorem R_ior {x y : Int32} (hd : decode M.2.1 pc = .ok (.ior, 1)) (k : Run G d M (pc + 1) ls (.int (x ||| y) :: st) σ κ Q) : Run G d M pc ls (.int y :: .int x :: st) σ κ Q := by
  intro p e R s m args below meth c C CT ST Z h1 h2 hH H locs cells slots lsA hR hL hc hs
  exact lv_ior C.1.1 C.1.2.1 hd (k p e R s m args below meth c C CT ST Z h1 h2 hH H locs cells slots lsA hR hL hc hs)
theorem R_ixor {x y : Int32} (hd : decode M.2.1 pc = .ok (.ixor, 1)) (k : Run G d M (pc + 1) ls (.int (x ^^^ y) :: st) σ κ Q) : Run G d M pc ls (.int y :: .int x :: st) σ κ Q := by
  intro p e R s m args below meth c C CT ST Z h1 h2 hH H locs cells slots lsA hR hL hc hs
  exact lv_ixor C.1.1 C.1.2.1 hd (k p e R s m args below meth c C CT ST Z h1 h2 hH H locs cells slots lsA hR hL hc hs)
theorem R_ishl {x y : Int32} (hd : decode M.2.1 pc = .ok (.ishl, 1)) (k : Run G d M (pc + 1) ls (.int (x <<< (y &&& 31)) :: st) σ κ Q) : Run G d M pc ls (.int y :: .int x :: st) σ κ Q := by
  intro p e R s m args below meth c C CT ST Z h1 h2 hH H locs cells slots lsA hR hL hc hs
  exact lv_ishl C.1.1 C.1.2.1 hd (k p e R s m args below meth c C CT ST Z h1 h2 hH H locs cells slots lsA hR hL hc hs)
theorem R_ishr {x y : Int32} (hd : decode M.2.1 pc = .ok (.ishr, 1)) (k : Run G d M (pc + 1) ls (.int (x >>> (y &&& 31)) :: st) σ κ Q) : Run G d M pc ls (.int y :: .int x :: st) σ κ Q := by
  intro p e R s m args below meth c C CT ST Z h1 h2 hH H locs cells slots lsA hR hL hc hs
  exact lv_ishr C.1.1 C.1.2.1 hd (k p e R s m args below meth c C CT ST Z h1 h2 hH H locs cells slots lsA hR hL hc hs)
theorem R_iushr {x y : Int32} (hd : decode M.2.1 pc = .ok (.iushr, 1)) (k : Run G d M (pc + 1) ls (.int (x.toUInt32 >>> (y.toUInt32 &&& Int32.toUInt32 31)).toInt32 :: st) σ κ Q) : Run G d M pc ls (.int y :: .int x :: st) σ κ Q := by
  intro p e R s m args below meth c C CT ST Z h1 h2 hH H locs cells slots lsA hR hL hc hs
  exact lv_iushr C.1.1 C.1.2.1 hd rfl (k p e R s m args below meth c C CT ST Z h1 h2 hH H locs cells slots lsA hR hL hc hs)
theorem R_idiv {x y : Int32} (hd : decode M.2.1 pc = .ok (.idiv, 1)) (hne : ¬ y = 0) (k : Run G d M (pc + 1) ls (.int (x / y) :: st) σ κ Q) : Run G d M pc ls (.int y :: .int x :: st) σ κ Q := by
  intro p e R s m args below meth c C CT ST Z h1 h2 hH H locs cells slots lsA hR hL hc hs
  exact lv_idiv C.1.1 C.1.2.1 hd hne (k p e R s m args below meth c C CT ST Z h1 h2 hH H locs cells slots lsA hR hL hc hs)
theorem R_irem {x y : Int32} (hd : decode M.2.1 pc = .ok (.irem, 1)) (hne : ¬ y = 0) (k : Run G d M (pc + 1) ls (.int (x - x / y * y) :: st) σ κ Q) : Run G d M pc ls (.int y :: .int x :: st) σ κ Q := by
  intro p e R s m args below meth c C CT ST Z h1 h2 hH H locs cells slots lsA hR hL hc hs
  exact lv_irem C.1.1 C.1.2.1 hd hne (k p e R s m args below meth c C CT ST Z h1 h2 hH H locs cells slots lsA hR hL hc hs)
theorem R_ineg {x : Int32} (hd : decode M.2.1 pc = .ok (.ineg, 1)) (k : Run G d M (pc + 1) ls (.int (-x) :: st) σ κ Q) : Run G d M pc ls (.int x :: st) σ κ Q := by
  intro p e R s m args below meth c C CT ST Z h1 h2 hH H locs cells slots lsA hR hL hc hs
  exact lv_ineg C.1.1 C.1.2.1 hd (k p e R s m args below meth c C CT ST Z h1 h2 hH H locs cells slots lsA hR hL hc hs)
theorem R_i2l {x : Int32} (hd : decode M.2.1 pc = .ok (.i2l, 1)) (k : Run G d M (pc + 1) ls (.long x.toInt64 :: st) σ κ Q) : Run G d M pc ls (.int x :: st) σ κ Q := by
  intro p e R s m args below meth c C CT ST Z h1 h2 hH H locs cells slots lsA hR hL hc hs
  exact lv_i2l C.1.1 C.1.2.1 hd rfl (k p e R s m args below meth c C CT ST Z h1 h2 hH H locs cells slots lsA hR hL hc hs)
theorem R_l2i {x : Int64} (hd : decode M.2.1 pc = .ok (.l2i, 1)) (k : Run G d M (pc + 1) ls (.int x.toInt32 :: st) σ κ Q) : Run G d M pc ls (.long x :: st) σ κ Q := by
  intro p e R s m args below meth c C CT ST Z h1 h2 hH H locs cells slots lsA hR hL hc hs
  exact lv_l2i C.1.1 C.1.2.1 hd rfl (k p e R s m args below meth c C CT ST Z h1 h2 hH H locs cells slots lsA hR hL hc hs)
theorem R_i2b {x : Int32} (hd : decode M.2.1 pc = .ok (.i2b, 1)) (k : Run G d M (pc + 1) ls (.int x.toInt8.toInt32 :: st) σ κ Q) : Run G d M pc ls (.int x :: st) σ κ Q := by
  intro p e R s m args below meth c C CT ST Z h1 h2 hH H locs cells slots lsA hR hL hc hs
  exact lv_i2b C.1.1 C.1.2.1 hd rfl (k p e R s m args below meth c C CT ST Z h1 h2 hH H locs cells slots lsA hR hL hc hs)
theorem R_i2s {x : Int32} (hd : decode M.2.1 pc = .ok (.i2s, 1)) (k : Run G d M (pc + 1) ls (.int x.toInt16.toInt32 :: st) σ κ Q) : Run G d M pc ls (.int x :: st) σ κ Q := by
  intro p e R s m args below meth c C CT ST Z h1 h2 hH H locs cells slots lsA hR hL hc hs
  exact lv_i2s C.1.1 C.1.2.1 hd rfl (k p e R s m args below meth c C CT ST Z h1 h2 hH H locs cells slots lsA hR hL hc hs)
theorem R_i2c {x : Int32} (hd : decode M.2.1 pc = .ok (.i2c, 1)) (k : Run G d M (pc + 1) ls (.int (x.toUInt32 % 65536).toInt32 :: st) σ κ Q) : Run G d M pc ls (.int x :: st) σ κ Q := by
  intro p e R s m args below meth c C CT ST Z h1 h2 hH H locs cells slots lsA hR hL hc hs
  exact lv_i2c C.1.1 C.1.2.1 hd rfl (k p e R s m args below meth c C CT ST Z h1 h2 hH H locs cells slots lsA hR hL hc hs)
theorem R_lshl {x : Int64} {y : Int32} (hd : decode M.2.1 pc = .ok (.lshl, 1)) (k : Run G d M (pc + 1) ls (.long (x <<< (y.toInt64 &&& 63)) :: st) σ κ Q) : Run G d M pc ls (.int y :: .long x :: st) σ κ Q := by
  intro p e R s m args below meth c C CT ST Z h1 h2 hH H locs cells slots lsA hR hL hc hs
  exact lv_lshl C.1.1 C.1.2.1 hd rfl (k p e R s m args below meth c C CT ST Z h1 h2 hH H locs cells slots lsA hR hL hc hs)
theorem R_land {x y : Int64} (hd : decode M.2.1 pc = .ok (.land, 1)) (k : Run G d M (pc + 1) ls (.long (x &&& y) :: st) σ κ Q) : Run G d M pc ls (.long y :: .long x :: st) σ κ Q := by
  intro p e R s m args below meth c C CT ST Z h1 h2 hH H locs cells slots lsA hR hL hc hs
  exact lv_land C.1.1 C.1.2.1 hd (k p e R s m args below meth c C CT ST Z h1 h2 hH H locs cells slots lsA hR hL hc hs)
theorem R_lor {x y : Int64} (hd : decode M.2.1 pc = .ok (.lor, 1)) (k : Run G d M (pc + 1) ls (.long (x ||| y) :: st) σ κ Q) : Run G d M pc ls (.long y :: .long x :: st) σ κ Q := by
  intro p e R s m args below meth c C CT ST Z h1 h2 hH H locs cells slots lsA hR hL hc hs
  exact lv_lor C.1.1 C.1.2.1 hd (k p e R s m args below meth c C CT ST Z h1 h2 hH H locs cells slots lsA hR hL hc hs)
theorem R_lcmp {x y : Int64} (hd : decode M.2.1 pc = .ok (.lcmp, 1)) (k : Run G d M (pc + 1) ls (.int (lg_cmp x y) :: st) σ κ Q) : Run G d M pc ls (.long y :: .long x :: st) σ κ Q := by
  intro p e R s m args below meth c C CT ST Z h1 h2 hH H locs cells slots lsA hR hL hc hs
  exact W.lcmp C.1.1 C.1.2.1 hd (k p e R s m args below meth c C CT ST Z h1 h2 hH H locs cells slots lsA hR hL hc hs)
theorem R_iconst {a : Int} {v : Int32} (hd : decode M.2.1 pc = .ok (.iconst a, 1)) (hv : Int32.ofInt a = v) (k : Run G d M (pc + 1) ls (.int v :: st) σ κ Q) : Run G d M pc ls st σ κ Q := by
  intro p e R s m args below meth c C CT ST Z h1 h2 hH H locs cells slots lsA hR hL hc hs
  exact lv_iconst C.1.1 C.1.2.1 hd hv (k p e R s m args below meth c C CT ST Z h1 h2 hH H locs cells slots lsA hR hL hc hs)
theorem R_bipush {a : Int} {v : Int32} (hd : decode M.2.1 pc = .ok (.bipush a, 2)) (hv : (Int8.ofInt a).toInt32 = v) (k : Run G d M (pc + 2) ls (.int v :: st) σ κ Q) : Run G d M pc ls st σ κ Q := by
  intro p e R s m args below meth c C CT ST Z h1 h2 hH H locs cells slots lsA hR hL hc hs
  exact lv_bipush C.1.1 C.1.2.1 hd hv (k p e R s m args below meth c C CT ST Z h1 h2 hH H locs cells slots lsA hR hL hc hs)
theorem R_sipush {a : Int} {v : Int32} (hd : decode M.2.1 pc = .ok (.sipush a, 3)) (hv : (Int16.ofInt a).toInt32 = v) (k : Run G d M (pc + 3) ls (.int v :: st) σ κ Q) : Run G d M pc ls st σ κ Q := by
  intro p e R s m args below meth c C CT ST Z h1 h2 hH H locs cells slots lsA hR hL hc hs
  exact lv_sipush C.1.1 C.1.2.1 hd hv (k p e R s m args below meth c C CT ST Z h1 h2 hH H locs cells slots lsA hR hL hc hs)
theorem R_lconst {a : Fin 2} {v : Int64} (hd : decode M.2.1 pc = .ok (.lconst a, 1)) (hv : Int64.ofNat (a : Nat) = v) (k : Run G d M (pc + 1) ls (.long v :: st) σ κ Q) : Run G d M pc ls st σ κ Q := by
  intro p e R s m args below meth c C CT ST Z h1 h2 hH H locs cells slots lsA hR hL hc hs
  exact lv_lconst C.1.1 C.1.2.1 hd hv (k p e R s m args below meth c C CT ST Z h1 h2 hH H locs cells slots lsA hR hL hc hs)
theorem R_ldc {idx : Nat} {v : Int32} (hd : decode M.2.1 pc = .ok (.ldc idx, 2)) (hw : Cond.constant M.1.cls idx v ∈ rn_WS) (k : Run G d M (pc + 2) ls (.int v :: st) σ κ Q) : Run G d M pc ls st σ κ Q := by
  intro p e R s m args below meth c C CT ST Z h1 h2 hH H locs cells slots lsA hR hL hc hs
  exact lv_ldc C.1.1 C.1.2.1 C.1.2.2.2.1 (C.1.2.2.2.2 _ hw) hd (k p e R s m args below meth c C CT ST Z h1 h2 hH H locs cells slots lsA hR hL hc hs)
theorem R_ldcw {idx : Nat} {v : Int32} (hd : decode M.2.1 pc = .ok (.ldc_w idx, 3)) (hw : Cond.constant M.1.cls idx v ∈ rn_WS) (k : Run G d M (pc + 3) ls (.int v :: st) σ κ Q) : Run G d M pc ls st σ κ Q := by
  intro p e R s m args below meth c C CT ST Z h1 h2 hH H locs cells slots lsA hR hL hc hs
  exact lv_ldcw C.1.1 C.1.2.1 C.1.2.2.2.1 (C.1.2.2.2.2 _ hw) hd (k p e R s m args below meth c C CT ST Z h1 h2 hH H locs cells slots lsA hR hL hc hs)
theorem R_ldc2 {idx : Nat} {v : Int64} (hd : decode M.2.1 pc = .ok (.ldc2_w idx, 3)) (hw : Cond.constantLong M.1.cls idx v ∈ rn_WS) (k : Run G d M (pc + 3) ls (.long v :: st) σ κ Q) : Run G d M pc ls st σ κ Q := by
  intro p e R s m args below meth c C CT ST Z h1 h2 hH H locs cells slots lsA hR hL hc hs
  exact lv_ldc2 C.1.1 C.1.2.1 C.1.2.2.2.1 (C.1.2.2.2.2 _ hw) hd (k p e R s m args below meth c C CT ST Z h1 h2 hH H locs cells slots lsA hR hL hc hs)
theorem R_ldcS {i : Nat} (hd : decode M.2.1 pc = .ok (.ldc (rn_sk i), 2)) (hi : i < 6) (hown : M.1.cls = RX5) (k : Run G d M (pc + 2) ls (.ref (1000 + (10 + i)) :: st) σ κ Q) : Run G d M pc ls st σ κ Q := by
  intro p e R s m args below meth c C CT ST Z h1 h2 hH H locs cells slots lsA hR hL hc hs
  have hcv := rn_cv_far (G := G) (r := 10 + i) (by omega)
  have k2 := k p e R s m args below meth c C CT ST Z h1 h2 hH H locs cells slots lsA hR hL hc hs
  rw [List.map_cons, hcv] at k2
  exact va_ldcS C.1.1 C.1.2.1 (by rw [← hown]; exact C.1.2.2.2.1) (C.2.2.1.2.2.2.1 i hi) hd k2
theorem R_dup {v : Value} (hd : decode M.2.1 pc = .ok (.dup, 1)) (hv : v.category = 1) (k : Run G d M (pc + 1) ls (v :: v :: st) σ κ Q) : Run G d M pc ls (v :: st) σ κ Q := by
  intro p e R s m args below meth c C CT ST Z h1 h2 hH H locs cells slots lsA hR hL hc hs
  exact lv_dup C.1.1 C.1.2.1 hd ((rn_cv_cat G v).trans hv) (k p e R s m args below meth c C CT ST Z h1 h2 hH H locs cells slots lsA hR hL hc hs)
theorem R_pop {v : Value} (hd : decode M.2.1 pc = .ok (.pop, 1)) (hv : v.category = 1) (k : Run G d M (pc + 1) ls st σ κ Q) : Run G d M pc ls (v :: st) σ κ Q := by
  intro p e R s m args below meth c C CT ST Z h1 h2 hH H locs cells slots lsA hR hL hc hs
  exact lv_pop C.1.1 C.1.2.1 hd ((rn_cv_cat G v).trans hv) (k p e R s m args below meth c C CT ST Z h1 h2 hH H locs cells slots lsA hR hL hc hs)
theorem R_dup2 {v w : Value} (hd : decode M.2.1 pc = .ok (.dup2, 1)) (hv : v.category = 1) (hw : w.category = 1) (k : Run G d M (pc + 1) ls (v :: w :: v :: w :: st) σ κ Q) : Run G d M pc ls (v :: w :: st) σ κ Q := by
  intro p e R s m args below meth c C CT ST Z h1 h2 hH H locs cells slots lsA hR hL hc hs
  exact lv_dup2_11 C.1.1 C.1.2.1 hd ((rn_cv_cat G v).trans hv) ((rn_cv_cat G w).trans hw) (k p e R s m args below meth c C CT ST Z h1 h2 hH H locs cells slots lsA hR hL hc hs)
theorem il_0 {x : Int32} (hd : decode M.2.1 pc = .ok (.iload_n 0, 1)) (k : Run G d M (pc + 1) (.int x :: t) (.int x :: st) σ κ Q) : Run G d M pc (.int x :: t) st σ κ Q := by
  intro p e R s m args below meth c C CT ST Z h1 h2 hH H locs cells slots lsA hR hL hc hs
  exact lv_iload_n C.1.1 C.1.2.1 hd rfl (hL.at (i := 0) (v := .int x) rfl (fun e => by cases e)) (k p e R s m args below meth c C CT ST Z h1 h2 hH H locs cells slots lsA hR hL hc hs)
theorem ll_0 {x : Int64} (hd : decode M.2.1 pc = .ok (.lload_n 0, 1)) (k : Run G d M (pc + 1) (.long x :: t) (.long x :: st) σ κ Q) : Run G d M pc (.long x :: t) st σ κ Q := by
  intro p e R s m args below meth c C CT ST Z h1 h2 hH H locs cells slots lsA hR hL hc hs
  exact lv_lload_n C.1.1 C.1.2.1 hd rfl (hL.at (i := 0) (v := .long x) rfl (fun e => by cases e)) (k p e R s m args below meth c C CT ST Z h1 h2 hH H locs cells slots lsA hR hL hc hs)
theorem al_0 {x : Nat} (hd : decode M.2.1 pc = .ok (.aload_n 0, 1)) (k : Run G d M (pc + 1) (.ref x :: t) (.ref x :: st) σ κ Q) : Run G d M pc (.ref x :: t) st σ κ Q := by
  intro p e R s m args below meth c C CT ST Z h1 h2 hH H locs cells slots lsA hR hL hc hs
  have hl := hL.at (i := 0) (v := .ref x) rfl (fun e => by cases e)
  have k2 := k p e R s m args below meth c C CT ST Z h1 h2 hH H locs cells slots lsA hR hL hc hs
  rw [List.map_cons] at k2
  unfold rn_cv at hl
  change W _ _ _ _ _ _ _ _ _ _ _ _ _ _ _ (F0 m (pc + 1) lsA (va_rf (rn_o G x) :: st.map (rn_cv G))) at k2
  dsimp only at hl
  cases hx : rn_o G x with
  | none => rw [hx] at hl k2; exact lv_aload_nN C.1.1 C.1.2.1 hd rfl hl k2
  | some y => rw [hx] at hl k2; exact lv_aload_n C.1.1 C.1.2.1 hd rfl hl k2
theorem is_0 {w0 : Value} {x : Int32} (hd : decode M.2.1 pc = .ok (.istore_n 0, 1)) (k : Run G d M (pc + 1) (.int x :: t) st σ κ Q) : Run G d M pc (w0 :: t) (.int x :: st) σ κ Q := by
  intro p e R s m args below meth c C CT ST Z h1 h2 hH H locs cells slots lsA hR hL hc hs
  refine lv_istore_n C.1.1 C.1.2.1 hd rfl hL.2 (by rw [← hL.1]; first | (simp; done) | (show 3 < _; simp)) rfl (fun ls2 hl2 => ?_)
  exact k p e R s m args below meth c C CT ST Z h1 h2 hH H locs cells slots ls2 hR (hL.st (i := 0) (v := .int x) (by simp) (fun j w hj hw => by omega) (fun e => by cases e) hl2) hc hs
theorem as_0 {w0 : Value} {x : Nat} (hd : decode M.2.1 pc = .ok (.astore_n 0, 1)) (k : Run G d M (pc + 1) (.ref x :: t) st σ κ Q) : Run G d M pc (w0 :: t) (.ref x :: st) σ κ Q := by
  intro p e R s m args below meth c C CT ST Z h1 h2 hH H locs cells slots lsA hR hL hc hs
  have key : ∀ ls2 : Array Slot, lv_has ls2 M.2.2.1 ((0, rn_cv G (.ref x)) :: (rn_ll G (w0 :: t)).filter (fun q => !(q.1 == 0) && !(q.1 + 1 == 0 && q.2.category == 2))) → W p (rn_l G) e R s m args below meth c H locs cells slots Z (F0 m (pc + 1) ls2 (st.map (rn_cv G))) := fun ls2 hl2 => k p e R s m args below meth c C CT ST Z h1 h2 hH H locs cells slots ls2 hR (hL.st (i := 0) (v := .ref x) (by simp) (fun j w hj hw => by omega) (fun e => by cases e) hl2) hc hs
  show W _ _ _ _ _ _ _ _ _ _ _ _ _ _ _ (F0 m pc lsA (va_rf (rn_o G x) :: st.map (rn_cv G)))
  have key2 : ∀ ls2 : Array Slot, lv_has ls2 M.2.2.1 ((0, va_rf (rn_o G x)) :: _) → _ := key
  cases hx : rn_o G x with
  | none => rw [hx] at key2; exact lv_astore_nN C.1.1 C.1.2.1 hd rfl hL.2 (by rw [← hL.1]; first | (simp; done) | (show 3 < _; simp)) rfl key2
  | some y => rw [hx] at key2; exact lv_astore_n C.1.1 C.1.2.1 hd rfl hL.2 (by rw [← hL.1]; first | (simp; done) | (show 3 < _; simp)) rfl key2
theorem ii_0 {a : Int} {x v : Int32} (hd : decode M.2.1 pc = .ok (.iinc 0 a, 3)) (hv : x + Int32.ofInt a = v) (k : Run G d M (pc + 3) (.int v :: t) st σ κ Q) : Run G d M pc (.int x :: t) st σ κ Q := by
  intro p e R s m args below meth c C CT ST Z h1 h2 hH H locs cells slots lsA hR hL hc hs
  obtain ⟨kk, hk⟩ := List.getElem?_of_mem ((rn_ll_mem (G := G) (q := (0, .int x))).mpr ⟨.int x, rfl, (fun e => by cases e), rfl⟩ : (0, Value.int x) ∈ rn_ll G (.int x :: t))
  refine lv_iinc (i := 0) C.1.1 C.1.2.1 hd hL.2 hk hv (by rw [← hL.1]; first | (simp; done) | (show 3 < _; simp)) rfl (fun ls2 hl2 => ?_)
  exact k p e R s m args below meth c C CT ST Z h1 h2 hH H locs cells slots ls2 hR (hL.st (i := 0) (v := .int v) (by simp) (fun j w hj hw => by omega) (fun e => by cases e) hl2) hc hs
theorem il_1 {v0 : Value} {x : Int32} (hd : decode M.2.1 pc = .ok (.iload_n 1, 1)) (k : Run G d M (pc + 1) (v0 :: .int x :: t) (.int x :: st) σ κ Q) : Run G d M pc (v0 :: .int x :: t) st σ κ Q := by
  intro p e R s m args below meth c C CT ST Z h1 h2 hH H locs cells slots lsA hR hL hc hs
  exact lv_iload_n C.1.1 C.1.2.1 hd rfl (hL.at (i := 1) (v := .int x) rfl (fun e => by cases e)) (k p e R s m args below meth c C CT ST Z h1 h2 hH H locs cells slots lsA hR hL hc hs)
theorem ll_1 {v0 : Value} {x : Int64} (hd : decode M.2.1 pc = .ok (.lload_n 1, 1)) (k : Run G d M (pc + 1) (v0 :: .long x :: t) (.long x :: st) σ κ Q) : Run G d M pc (v0 :: .long x :: t) st σ κ Q := by
  intro p e R s m args below meth c C CT ST Z h1 h2 hH H locs cells slots lsA hR hL hc hs
  exact lv_lload_n C.1.1 C.1.2.1 hd rfl (hL.at (i := 1) (v := .long x) rfl (fun e => by cases e)) (k p e R s m args below meth c C CT ST Z h1 h2 hH H locs cells slots lsA hR hL hc hs)
theorem al_1 {v0 : Value} {x : Nat} (hd : decode M.2.1 pc = .ok (.aload_n 1, 1)) (k : Run G d M (pc + 1) (v0 :: .ref x :: t) (.ref x :: st) σ κ Q) : Run G d M pc (v0 :: .ref x :: t) st σ κ Q := by
  intro p e R s m args below meth c C CT ST Z h1 h2 hH H locs cells slots lsA hR hL hc hs
  have hl := hL.at (i := 1) (v := .ref x) rfl (fun e => by cases e)
  have k2 := k p e R s m args below meth c C CT ST Z h1 h2 hH H locs cells slots lsA hR hL hc hs
  rw [List.map_cons] at k2
  unfold rn_cv at hl
  change W _ _ _ _ _ _ _ _ _ _ _ _ _ _ _ (F0 m (pc + 1) lsA (va_rf (rn_o G x) :: st.map (rn_cv G))) at k2
  dsimp only at hl
  cases hx : rn_o G x with
  | none => rw [hx] at hl k2; exact lv_aload_nN C.1.1 C.1.2.1 hd rfl hl k2
  | some y => rw [hx] at hl k2; exact lv_aload_n C.1.1 C.1.2.1 hd rfl hl k2
theorem is_1 {v0 : Value} {w0 : Value} {x : Int32} (hd : decode M.2.1 pc = .ok (.istore_n 1, 1)) (hp : v0.category = 1) (k : Run G d M (pc + 1) (v0 :: .int x :: t) st σ κ Q) : Run G d M pc (v0 :: w0 :: t) (.int x :: st) σ κ Q := by
  intro p e R s m args below meth c C CT ST Z h1 h2 hH H locs cells slots lsA hR hL hc hs
  refine lv_istore_n C.1.1 C.1.2.1 hd rfl hL.2 (by rw [← hL.1]; first | (simp; done) | (show 3 < _; simp)) rfl (fun ls2 hl2 => ?_)
  exact k p e R s m args below meth c C CT ST Z h1 h2 hH H locs cells slots ls2 hR (hL.st (i := 1) (v := .int x) (by simp) (fun j w hj hw => by (obtain rfl : j = 0 := (by omega)); cases hw; exact hp) (fun e => by cases e) hl2) hc hs
theorem as_1 {v0 : Value} {w0 : Value} {x : Nat} (hd : decode M.2.1 pc = .ok (.astore_n 1, 1)) (hp : v0.category = 1) (k : Run G d M (pc + 1) (v0 :: .ref x :: t) st σ κ Q) : Run G d M pc (v0 :: w0 :: t) (.ref x :: st) σ κ Q := by
  intro p e R s m args below meth c C CT ST Z h1 h2 hH H locs cells slots lsA hR hL hc hs
  have key : ∀ ls2 : Array Slot, lv_has ls2 M.2.2.1 ((1, rn_cv G (.ref x)) :: (rn_ll G (v0 :: w0 :: t)).filter (fun q => !(q.1 == 1) && !(q.1 + 1 == 1 && q.2.category == 2))) → W p (rn_l G) e R s m args below meth c H locs cells slots Z (F0 m (pc + 1) ls2 (st.map (rn_cv G))) := fun ls2 hl2 => k p e R s m args below meth c C CT ST Z h1 h2 hH H locs cells slots ls2 hR (hL.st (i := 1) (v := .ref x) (by simp) (fun j w hj hw => by (obtain rfl : j = 0 := (by omega)); cases hw; exact hp) (fun e => by cases e) hl2) hc hs
  show W _ _ _ _ _ _ _ _ _ _ _ _ _ _ _ (F0 m pc lsA (va_rf (rn_o G x) :: st.map (rn_cv G)))
  have key2 : ∀ ls2 : Array Slot, lv_has ls2 M.2.2.1 ((1, va_rf (rn_o G x)) :: _) → _ := key
  cases hx : rn_o G x with
  | none => rw [hx] at key2; exact lv_astore_nN C.1.1 C.1.2.1 hd rfl hL.2 (by rw [← hL.1]; first | (simp; done) | (show 3 < _; simp)) rfl key2
  | some y => rw [hx] at key2; exact lv_astore_n C.1.1 C.1.2.1 hd rfl hL.2 (by rw [← hL.1]; first | (simp; done) | (show 3 < _; simp)) rfl key2
theorem ii_1 {v0 : Value} {a : Int} {x v : Int32} (hd : decode M.2.1 pc = .ok (.iinc 1 a, 3)) (hp : v0.category = 1) (hv : x + Int32.ofInt a = v) (k : Run G d M (pc + 3) (v0 :: .int v :: t) st σ κ Q) : Run G d M pc (v0 :: .int x :: t) st σ κ Q := by
  intro p e R s m args below meth c C CT ST Z h1 h2 hH H locs cells slots lsA hR hL hc hs
  obtain ⟨kk, hk⟩ := List.getElem?_of_mem ((rn_ll_mem (G := G) (q := (1, .int x))).mpr ⟨.int x, rfl, (fun e => by cases e), rfl⟩ : (1, Value.int x) ∈ rn_ll G (v0 :: .int x :: t))
  refine lv_iinc (i := 1) C.1.1 C.1.2.1 hd hL.2 hk hv (by rw [← hL.1]; first | (simp; done) | (show 3 < _; simp)) rfl (fun ls2 hl2 => ?_)
  exact k p e R s m args below meth c C CT ST Z h1 h2 hH H locs cells slots ls2 hR (hL.st (i := 1) (v := .int v) (by simp) (fun j w hj hw => by (obtain rfl : j = 0 := (by omega)); cases hw; exact hp) (fun e => by cases e) hl2) hc hs
theorem il_2 {v0 v1 : Value} {x : Int32} (hd : decode M.2.1 pc = .ok (.iload_n 2, 1)) (k : Run G d M (pc + 1) (v0 :: v1 :: .int x :: t) (.int x :: st) σ κ Q) : Run G d M pc (v0 :: v1 :: .int x :: t) st σ κ Q := by
  intro p e R s m args below meth c C CT ST Z h1 h2 hH H locs cells slots lsA hR hL hc hs
  exact lv_iload_n C.1.1 C.1.2.1 hd rfl (hL.at (i := 2) (v := .int x) rfl (fun e => by cases e)) (k p e R s m args below meth c C CT ST Z h1 h2 hH H locs cells slots lsA hR hL hc hs)
theorem ll_2 {v0 v1 : Value} {x : Int64} (hd : decode M.2.1 pc = .ok (.lload_n 2, 1)) (k : Run G d M (pc + 1) (v0 :: v1 :: .long x :: t) (.long x :: st) σ κ Q) : Run G d M pc (v0 :: v1 :: .long x :: t) st σ κ Q := by
  intro p e R s m args below meth c C CT ST Z h1 h2 hH H locs cells slots lsA hR hL hc hs
  exact lv_lload_n C.1.1 C.1.2.1 hd rfl (hL.at (i := 2) (v := .long x) rfl (fun e => by cases e)) (k p e R s m args below meth c C CT ST Z h1 h2 hH H locs cells slots lsA hR hL hc hs)
theorem al_2 {v0 v1 : Value} {x : Nat} (hd : decode M.2.1 pc = .ok (.aload_n 2, 1)) (k : Run G d M (pc + 1) (v0 :: v1 :: .ref x :: t) (.ref x :: st) σ κ Q) : Run G d M pc (v0 :: v1 :: .ref x :: t) st σ κ Q := by
  intro p e R s m args below meth c C CT ST Z h1 h2 hH H locs cells slots lsA hR hL hc hs
  have hl := hL.at (i := 2) (v := .ref x) rfl (fun e => by cases e)
  have k2 := k p e R s m args below meth c C CT ST Z h1 h2 hH H locs cells slots lsA hR hL hc hs
  rw [List.map_cons] at k2
  unfold rn_cv at hl
  change W _ _ _ _ _ _ _ _ _ _ _ _ _ _ _ (F0 m (pc + 1) lsA (va_rf (rn_o G x) :: st.map (rn_cv G))) at k2
  dsimp only at hl
  cases hx : rn_o G x with
  | none => rw [hx] at hl k2; exact lv_aload_nN C.1.1 C.1.2.1 hd rfl hl k2
  | some y => rw [hx] at hl k2; exact lv_aload_n C.1.1 C.1.2.1 hd rfl hl k2
theorem is_2 {v0 v1 : Value} {w0 : Value} {x : Int32} (hd : decode M.2.1 pc = .ok (.istore_n 2, 1)) (hp : v1.category = 1) (k : Run G d M (pc + 1) (v0 :: v1 :: .int x :: t) st σ κ Q) : Run G d M pc (v0 :: v1 :: w0 :: t) (.int x :: st) σ κ Q := by
  intro p e R s m args below meth c C CT ST Z h1 h2 hH H locs cells slots lsA hR hL hc hs
  refine lv_istore_n C.1.1 C.1.2.1 hd rfl hL.2 (by rw [← hL.1]; first | (simp; done) | (show 3 < _; simp)) rfl (fun ls2 hl2 => ?_)
  exact k p e R s m args below meth c C CT ST Z h1 h2 hH H locs cells slots ls2 hR (hL.st (i := 2) (v := .int x) (by simp) (fun j w hj hw => by (obtain rfl : j = 1 := (by omega)); cases hw; exact hp) (fun e => by cases e) hl2) hc hs
theorem as_2 {v0 v1 : Value} {w0 : Value} {x : Nat} (hd : decode M.2.1 pc = .ok (.astore_n 2, 1)) (hp : v1.category = 1) (k : Run G d M (pc + 1) (v0 :: v1 :: .ref x :: t) st σ κ Q) : Run G d M pc (v0 :: v1 :: w0 :: t) (.ref x :: st) σ κ Q := by
  intro p e R s m args below meth c C CT ST Z h1 h2 hH H locs cells slots lsA hR hL hc hs
  have key : ∀ ls2 : Array Slot, lv_has ls2 M.2.2.1 ((2, rn_cv G (.ref x)) :: (rn_ll G (v0 :: v1 :: w0 :: t)).filter (fun q => !(q.1 == 2) && !(q.1 + 1 == 2 && q.2.category == 2))) → W p (rn_l G) e R s m args below meth c H locs cells slots Z (F0 m (pc + 1) ls2 (st.map (rn_cv G))) := fun ls2 hl2 => k p e R s m args below meth c C CT ST Z h1 h2 hH H locs cells slots ls2 hR (hL.st (i := 2) (v := .ref x) (by simp) (fun j w hj hw => by (obtain rfl : j = 1 := (by omega)); cases hw; exact hp) (fun e => by cases e) hl2) hc hs
  show W _ _ _ _ _ _ _ _ _ _ _ _ _ _ _ (F0 m pc lsA (va_rf (rn_o G x) :: st.map (rn_cv G)))
  have key2 : ∀ ls2 : Array Slot, lv_has ls2 M.2.2.1 ((2, va_rf (rn_o G x)) :: _) → _ := key
  cases hx : rn_o G x with
  | none => rw [hx] at key2; exact lv_astore_nN C.1.1 C.1.2.1 hd rfl hL.2 (by rw [← hL.1]; first | (simp; done) | (show 3 < _; simp)) rfl key2
  | some y => rw [hx] at key2; exact lv_astore_n C.1.1 C.1.2.1 hd rfl hL.2 (by rw [← hL.1]; first | (simp; done) | (show 3 < _; simp)) rfl key2
theorem ii_2 {v0 v1 : Value} {a : Int} {x v : Int32} (hd : decode M.2.1 pc = .ok (.iinc 2 a, 3)) (hp : v1.category = 1) (hv : x + Int32.ofInt a = v) (k : Run G d M (pc + 3) (v0 :: v1 :: .int v :: t) st σ κ Q) : Run G d M pc (v0 :: v1 :: .int x :: t) st σ κ Q := by
  intro p e R s m args below meth c C CT ST Z h1 h2 hH H locs cells slots lsA hR hL hc hs
  obtain ⟨kk, hk⟩ := List.getElem?_of_mem ((rn_ll_mem (G := G) (q := (2, .int x))).mpr ⟨.int x, rfl, (fun e => by cases e), rfl⟩ : (2, Value.int x) ∈ rn_ll G (v0 :: v1 :: .int x :: t))
  refine lv_iinc (i := 2) C.1.1 C.1.2.1 hd hL.2 hk hv (by rw [← hL.1]; first | (simp; done) | (show 3 < _; simp)) rfl (fun ls2 hl2 => ?_)
  exact k p e R s m args below meth c C CT ST Z h1 h2 hH H locs cells slots ls2 hR (hL.st (i := 2) (v := .int v) (by simp) (fun j w hj hw => by (obtain rfl : j = 1 := (by omega)); cases hw; exact hp) (fun e => by cases e) hl2) hc hs
theorem il_3 {v0 v1 v2 : Value} {x : Int32} (hd : decode M.2.1 pc = .ok (.iload_n 3, 1)) (k : Run G d M (pc + 1) (v0 :: v1 :: v2 :: .int x :: t) (.int x :: st) σ κ Q) : Run G d M pc (v0 :: v1 :: v2 :: .int x :: t) st σ κ Q := by
  intro p e R s m args below meth c C CT ST Z h1 h2 hH H locs cells slots lsA hR hL hc hs
  exact lv_iload_n C.1.1 C.1.2.1 hd rfl (hL.at (i := 3) (v := .int x) rfl (fun e => by cases e)) (k p e R s m args below meth c C CT ST Z h1 h2 hH H locs cells slots lsA hR hL hc hs)
theorem ll_3 {v0 v1 v2 : Value} {x : Int64} (hd : decode M.2.1 pc = .ok (.lload_n 3, 1)) (k : Run G d M (pc + 1) (v0 :: v1 :: v2 :: .long x :: t) (.long x :: st) σ κ Q) : Run G d M pc (v0 :: v1 :: v2 :: .long x :: t) st σ κ Q := by
  intro p e R s m args below meth c C CT ST Z h1 h2 hH H locs cells slots lsA hR hL hc hs
  exact lv_lload_n C.1.1 C.1.2.1 hd rfl (hL.at (i := 3) (v := .long x) rfl (fun e => by cases e)) (k p e R s m args below meth c C CT ST Z h1 h2 hH H locs cells slots lsA hR hL hc hs)
theorem al_3 {v0 v1 v2 : Value} {x : Nat} (hd : decode M.2.1 pc = .ok (.aload_n 3, 1)) (k : Run G d M (pc + 1) (v0 :: v1 :: v2 :: .ref x :: t) (.ref x :: st) σ κ Q) : Run G d M pc (v0 :: v1 :: v2 :: .ref x :: t) st σ κ Q := by
  intro p e R s m args below meth c C CT ST Z h1 h2 hH H locs cells slots lsA hR hL hc hs
  have hl := hL.at (i := 3) (v := .ref x) rfl (fun e => by cases e)
  have k2 := k p e R s m args below meth c C CT ST Z h1 h2 hH H locs cells slots lsA hR hL hc hs
  rw [List.map_cons] at k2
  unfold rn_cv at hl
  change W _ _ _ _ _ _ _ _ _ _ _ _ _ _ _ (F0 m (pc + 1) lsA (va_rf (rn_o G x) :: st.map (rn_cv G))) at k2
  dsimp only at hl
  cases hx : rn_o G x with
  | none => rw [hx] at hl k2; exact lv_aload_nN C.1.1 C.1.2.1 hd rfl hl k2
  | some y => rw [hx] at hl k2; exact lv_aload_n C.1.1 C.1.2.1 hd rfl hl k2
theorem is_3 {v0 v1 v2 : Value} {w0 : Value} {x : Int32} (hd : decode M.2.1 pc = .ok (.istore_n 3, 1)) (hp : v2.category = 1) (k : Run G d M (pc + 1) (v0 :: v1 :: v2 :: .int x :: t) st σ κ Q) : Run G d M pc (v0 :: v1 :: v2 :: w0 :: t) (.int x :: st) σ κ Q := by
  intro p e R s m args below meth c C CT ST Z h1 h2 hH H locs cells slots lsA hR hL hc hs
  refine lv_istore_n C.1.1 C.1.2.1 hd rfl hL.2 (by rw [← hL.1]; first | (simp; done) | (show 3 < _; simp)) rfl (fun ls2 hl2 => ?_)
  exact k p e R s m args below meth c C CT ST Z h1 h2 hH H locs cells slots ls2 hR (hL.st (i := 3) (v := .int x) (by simp) (fun j w hj hw => by (obtain rfl : j = 2 := (by omega)); cases hw; exact hp) (fun e => by cases e) hl2) hc hs
theorem as_3 {v0 v1 v2 : Value} {w0 : Value} {x : Nat} (hd : decode M.2.1 pc = .ok (.astore_n 3, 1)) (hp : v2.category = 1) (k : Run G d M (pc + 1) (v0 :: v1 :: v2 :: .ref x :: t) st σ κ Q) : Run G d M pc (v0 :: v1 :: v2 :: w0 :: t) (.ref x :: st) σ κ Q := by
  intro p e R s m args below meth c C CT ST Z h1 h2 hH H locs cells slots lsA hR hL hc hs
  have key : ∀ ls2 : Array Slot, lv_has ls2 M.2.2.1 ((3, rn_cv G (.ref x)) :: (rn_ll G (v0 :: v1 :: v2 :: w0 :: t)).filter (fun q => !(q.1 == 3) && !(q.1 + 1 == 3 && q.2.category == 2))) → W p (rn_l G) e R s m args below meth c H locs cells slots Z (F0 m (pc + 1) ls2 (st.map (rn_cv G))) := fun ls2 hl2 => k p e R s m args below meth c C CT ST Z h1 h2 hH H locs cells slots ls2 hR (hL.st (i := 3) (v := .ref x) (by simp) (fun j w hj hw => by (obtain rfl : j = 2 := (by omega)); cases hw; exact hp) (fun e => by cases e) hl2) hc hs
  show W _ _ _ _ _ _ _ _ _ _ _ _ _ _ _ (F0 m pc lsA (va_rf (rn_o G x) :: st.map (rn_cv G)))
  have key2 : ∀ ls2 : Array Slot, lv_has ls2 M.2.2.1 ((3, va_rf (rn_o G x)) :: _) → _ := key
  cases hx : rn_o G x with
  | none => rw [hx] at key2; exact lv_astore_nN C.1.1 C.1.2.1 hd rfl hL.2 (by rw [← hL.1]; first | (simp; done) | (show 3 < _; simp)) rfl key2
  | some y => rw [hx] at key2; exact lv_astore_n C.1.1 C.1.2.1 hd rfl hL.2 (by rw [← hL.1]; first | (simp; done) | (show 3 < _; simp)) rfl key2
theorem ii_3 {v0 v1 v2 : Value} {a : Int} {x v : Int32} (hd : decode M.2.1 pc = .ok (.iinc 3 a, 3)) (hp : v2.category = 1) (hv : x + Int32.ofInt a = v) (k : Run G d M (pc + 3) (v0 :: v1 :: v2 :: .int v :: t) st σ κ Q) : Run G d M pc (v0 :: v1 :: v2 :: .int x :: t) st σ κ Q := by
  intro p e R s m args below meth c C CT ST Z h1 h2 hH H locs cells slots lsA hR hL hc hs
  obtain ⟨kk, hk⟩ := List.getElem?_of_mem ((rn_ll_mem (G := G) (q := (3, .int x))).mpr ⟨.int x, rfl, (fun e => by cases e), rfl⟩ : (3, Value.int x) ∈ rn_ll G (v0 :: v1 :: v2 :: .int x :: t))
  refine lv_iinc (i := 3) C.1.1 C.1.2.1 hd hL.2 hk hv (by rw [← hL.1]; first | (simp; done) | (show 3 < _; simp)) rfl (fun ls2 hl2 => ?_)
  exact k p e R s m args below meth c C CT ST Z h1 h2 hH H locs cells slots ls2 hR (hL.st (i := 3) (v := .int v) (by simp) (fun j w hj hw => by (obtain rfl : j = 2 := (by omega)); cases hw; exact hp) (fun e => by cases e) hl2) hc hs
theorem il_4 {v0 v1 v2 v3 : Value} {x : Int32} (hd : decode M.2.1 pc = .ok (.iload 4, 2)) (k : Run G d M (pc + 2) (v0 :: v1 :: v2 :: v3 :: .int x :: t) (.int x :: st) σ κ Q) : Run G d M pc (v0 :: v1 :: v2 :: v3 :: .int x :: t) st σ κ Q := by
  intro p e R s m args below meth c C CT ST Z h1 h2 hH H locs cells slots lsA hR hL hc hs
  exact lv_iload C.1.1 C.1.2.1 hd (hL.at (i := 4) (v := .int x) rfl (fun e => by cases e)) (k p e R s m args below meth c C CT ST Z h1 h2 hH H locs cells slots lsA hR hL hc hs)
theorem ll_4 {v0 v1 v2 v3 : Value} {x : Int64} (hd : decode M.2.1 pc = .ok (.lload 4, 2)) (k : Run G d M (pc + 2) (v0 :: v1 :: v2 :: v3 :: .long x :: t) (.long x :: st) σ κ Q) : Run G d M pc (v0 :: v1 :: v2 :: v3 :: .long x :: t) st σ κ Q := by
  intro p e R s m args below meth c C CT ST Z h1 h2 hH H locs cells slots lsA hR hL hc hs
  exact lv_lload C.1.1 C.1.2.1 hd (hL.at (i := 4) (v := .long x) rfl (fun e => by cases e)) (k p e R s m args below meth c C CT ST Z h1 h2 hH H locs cells slots lsA hR hL hc hs)
theorem al_4 {v0 v1 v2 v3 : Value} {x : Nat} (hd : decode M.2.1 pc = .ok (.aload 4, 2)) (k : Run G d M (pc + 2) (v0 :: v1 :: v2 :: v3 :: .ref x :: t) (.ref x :: st) σ κ Q) : Run G d M pc (v0 :: v1 :: v2 :: v3 :: .ref x :: t) st σ κ Q := by
  intro p e R s m args below meth c C CT ST Z h1 h2 hH H locs cells slots lsA hR hL hc hs
  have hl := hL.at (i := 4) (v := .ref x) rfl (fun e => by cases e)
  have k2 := k p e R s m args below meth c C CT ST Z h1 h2 hH H locs cells slots lsA hR hL hc hs
  rw [List.map_cons] at k2
  unfold rn_cv at hl
  change W _ _ _ _ _ _ _ _ _ _ _ _ _ _ _ (F0 m (pc + 2) lsA (va_rf (rn_o G x) :: st.map (rn_cv G))) at k2
  dsimp only at hl
  cases hx : rn_o G x with
  | none => rw [hx] at hl k2; exact lv_aloadN C.1.1 C.1.2.1 hd hl k2
  | some y => rw [hx] at hl k2; exact lv_aload C.1.1 C.1.2.1 hd hl k2
theorem is_4 {v0 v1 v2 v3 : Value} {w0 : Value} {x : Int32} (hd : decode M.2.1 pc = .ok (.istore 4, 2)) (hp : v3.category = 1) (k : Run G d M (pc + 2) (v0 :: v1 :: v2 :: v3 :: .int x :: t) st σ κ Q) : Run G d M pc (v0 :: v1 :: v2 :: v3 :: w0 :: t) (.int x :: st) σ κ Q := by
  intro p e R s m args below meth c C CT ST Z h1 h2 hH H locs cells slots lsA hR hL hc hs
  refine lv_istore C.1.1 C.1.2.1 hd hL.2 (by rw [← hL.1]; first | (simp; done) | (show 3 < _; simp)) rfl (fun ls2 hl2 => ?_)
  exact k p e R s m args below meth c C CT ST Z h1 h2 hH H locs cells slots ls2 hR (hL.st (i := 4) (v := .int x) (by simp) (fun j w hj hw => by (obtain rfl : j = 3 := (by omega)); cases hw; exact hp) (fun e => by cases e) hl2) hc hs
theorem as_4 {v0 v1 v2 v3 : Value} {w0 : Value} {x : Nat} (hd : decode M.2.1 pc = .ok (.astore 4, 2)) (hp : v3.category = 1) (k : Run G d M (pc + 2) (v0 :: v1 :: v2 :: v3 :: .ref x :: t) st σ κ Q) : Run G d M pc (v0 :: v1 :: v2 :: v3 :: w0 :: t) (.ref x :: st) σ κ Q := by
  intro p e R s m args below meth c C CT ST Z h1 h2 hH H locs cells slots lsA hR hL hc hs
  have key : ∀ ls2 : Array Slot, lv_has ls2 M.2.2.1 ((4, rn_cv G (.ref x)) :: (rn_ll G (v0 :: v1 :: v2 :: v3 :: w0 :: t)).filter (fun q => !(q.1 == 4) && !(q.1 + 1 == 4 && q.2.category == 2))) → W p (rn_l G) e R s m args below meth c H locs cells slots Z (F0 m (pc + 2) ls2 (st.map (rn_cv G))) := fun ls2 hl2 => k p e R s m args below meth c C CT ST Z h1 h2 hH H locs cells slots ls2 hR (hL.st (i := 4) (v := .ref x) (by simp) (fun j w hj hw => by (obtain rfl : j = 3 := (by omega)); cases hw; exact hp) (fun e => by cases e) hl2) hc hs
  show W _ _ _ _ _ _ _ _ _ _ _ _ _ _ _ (F0 m pc lsA (va_rf (rn_o G x) :: st.map (rn_cv G)))
  have key2 : ∀ ls2 : Array Slot, lv_has ls2 M.2.2.1 ((4, va_rf (rn_o G x)) :: _) → _ := key
  cases hx : rn_o G x with
  | none => rw [hx] at key2; exact lv_astoreN C.1.1 C.1.2.1 hd hL.2 (by rw [← hL.1]; first | (simp; done) | (show 3 < _; simp)) rfl key2
  | some y => rw [hx] at key2; exact lv_astore C.1.1 C.1.2.1 hd hL.2 (by rw [← hL.1]; first | (simp; done) | (show 3 < _; simp)) rfl key2
theorem ii_4 {v0 v1 v2 v3 : Value} {a : Int} {x v : Int32} (hd : decode M.2.1 pc = .ok (.iinc 4 a, 3)) (hp : v3.category = 1) (hv : x + Int32.ofInt a = v) (k : Run G d M (pc + 3) (v0 :: v1 :: v2 :: v3 :: .int v :: t) st σ κ Q) : Run G d M pc (v0 :: v1 :: v2 :: v3 :: .int x :: t) st σ κ Q := by
  intro p e R s m args below meth c C CT ST Z h1 h2 hH H locs cells slots lsA hR hL hc hs
  obtain ⟨kk, hk⟩ := List.getElem?_of_mem ((rn_ll_mem (G := G) (q := (4, .int x))).mpr ⟨.int x, rfl, (fun e => by cases e), rfl⟩ : (4, Value.int x) ∈ rn_ll G (v0 :: v1 :: v2 :: v3 :: .int x :: t))
  refine lv_iinc (i := 4) C.1.1 C.1.2.1 hd hL.2 hk hv (by rw [← hL.1]; first | (simp; done) | (show 3 < _; simp)) rfl (fun ls2 hl2 => ?_)
  exact k p e R s m args below meth c C CT ST Z h1 h2 hH H locs cells slots ls2 hR (hL.st (i := 4) (v := .int v) (by simp) (fun j w hj hw => by (obtain rfl : j = 3 := (by omega)); cases hw; exact hp) (fun e => by cases e) hl2) hc hs
theorem il_5 {v0 v1 v2 v3 v4 : Value} {x : Int32} (hd : decode M.2.1 pc = .ok (.iload 5, 2)) (k : Run G d M (pc + 2) (v0 :: v1 :: v2 :: v3 :: v4 :: .int x :: t) (.int x :: st) σ κ Q) : Run G d M pc (v0 :: v1 :: v2 :: v3 :: v4 :: .int x :: t) st σ κ Q := by
  intro p e R s m args below meth c C CT ST Z h1 h2 hH H locs cells slots lsA hR hL hc hs
  exact lv_iload C.1.1 C.1.2.1 hd (hL.at (i := 5) (v := .int x) rfl (fun e => by cases e)) (k p e R s m args below meth c C CT ST Z h1 h2 hH H locs cells slots lsA hR hL hc hs)
theorem ll_5 {v0 v1 v2 v3 v4 : Value} {x : Int64} (hd : decode M.2.1 pc = .ok (.lload 5, 2)) (k : Run G d M (pc + 2) (v0 :: v1 :: v2 :: v3 :: v4 :: .long x :: t) (.long x :: st) σ κ Q) : Run G d M pc (v0 :: v1 :: v2 :: v3 :: v4 :: .long x :: t) st σ κ Q := by
  intro p e R s m args below meth c C CT ST Z h1 h2 hH H locs cells slots lsA hR hL hc hs
  exact lv_lload C.1.1 C.1.2.1 hd (hL.at (i := 5) (v := .long x) rfl (fun e => by cases e)) (k p e R s m args below meth c C CT ST Z h1 h2 hH H locs cells slots lsA hR hL hc hs)
theorem al_5 {v0 v1 v2 v3 v4 : Value} {x : Nat} (hd : decode M.2.1 pc = .ok (.aload 5, 2)) (k : Run G d M (pc + 2) (v0 :: v1 :: v2 :: v3 :: v4 :: .ref x :: t) (.ref x :: st) σ κ Q) : Run G d M pc (v0 :: v1 :: v2 :: v3 :: v4 :: .ref x :: t) st σ κ Q := by
  intro p e R s m args below meth c C CT ST Z h1 h2 hH H locs cells slots lsA hR hL hc hs
  have hl := hL.at (i := 5) (v := .ref x) rfl (fun e => by cases e)
  have k2 := k p e R s m args below meth c C CT ST Z h1 h2 hH H locs cells slots lsA hR hL hc hs
  rw [List.map_cons] at k2
  unfold rn_cv at hl
  change W _ _ _ _ _ _ _ _ _ _ _ _ _ _ _ (F0 m (pc + 2) lsA (va_rf (rn_o G x) :: st.map (rn_cv G))) at k2
  dsimp only at hl
  cases hx : rn_o G x with
  | none => rw [hx] at hl k2; exact lv_aloadN C.1.1 C.1.2.1 hd hl k2
  | some y => rw [hx] at hl k2; exact lv_aload C.1.1 C.1.2.1 hd hl k2
theorem is_5 {v0 v1 v2 v3 v4 : Value} {w0 : Value} {x : Int32} (hd : decode M.2.1 pc = .ok (.istore 5, 2)) (hp : v4.category = 1) (k : Run G d M (pc + 2) (v0 :: v1 :: v2 :: v3 :: v4 :: .int x :: t) st σ κ Q) : Run G d M pc (v0 :: v1 :: v2 :: v3 :: v4 :: w0 :: t) (.int x :: st) σ κ Q := by
  intro p e R s m args below meth c C CT ST Z h1 h2 hH H locs cells slots lsA hR hL hc hs
  refine lv_istore C.1.1 C.1.2.1 hd hL.2 (by rw [← hL.1]; first | (simp; done) | (show 3 < _; simp)) rfl (fun ls2 hl2 => ?_)
  exact k p e R s m args below meth c C CT ST Z h1 h2 hH H locs cells slots ls2 hR (hL.st (i := 5) (v := .int x) (by simp) (fun j w hj hw => by (obtain rfl : j = 4 := (by omega)); cases hw; exact hp) (fun e => by cases e) hl2) hc hs
theorem as_5 {v0 v1 v2 v3 v4 : Value} {w0 : Value} {x : Nat} (hd : decode M.2.1 pc = .ok (.astore 5, 2)) (hp : v4.category = 1) (k : Run G d M (pc + 2) (v0 :: v1 :: v2 :: v3 :: v4 :: .ref x :: t) st σ κ Q) : Run G d M pc (v0 :: v1 :: v2 :: v3 :: v4 :: w0 :: t) (.ref x :: st) σ κ Q := by
  intro p e R s m args below meth c C CT ST Z h1 h2 hH H locs cells slots lsA hR hL hc hs
  have key : ∀ ls2 : Array Slot, lv_has ls2 M.2.2.1 ((5, rn_cv G (.ref x)) :: (rn_ll G (v0 :: v1 :: v2 :: v3 :: v4 :: w0 :: t)).filter (fun q => !(q.1 == 5) && !(q.1 + 1 == 5 && q.2.category == 2))) → W p (rn_l G) e R s m args below meth c H locs cells slots Z (F0 m (pc + 2) ls2 (st.map (rn_cv G))) := fun ls2 hl2 => k p e R s m args below meth c C CT ST Z h1 h2 hH H locs cells slots ls2 hR (hL.st (i := 5) (v := .ref x) (by simp) (fun j w hj hw => by (obtain rfl : j = 4 := (by omega)); cases hw; exact hp) (fun e => by cases e) hl2) hc hs
  show W _ _ _ _ _ _ _ _ _ _ _ _ _ _ _ (F0 m pc lsA (va_rf (rn_o G x) :: st.map (rn_cv G)))
  have key2 : ∀ ls2 : Array Slot, lv_has ls2 M.2.2.1 ((5, va_rf (rn_o G x)) :: _) → _ := key
  cases hx : rn_o G x with
  | none => rw [hx] at key2; exact lv_astoreN C.1.1 C.1.2.1 hd hL.2 (by rw [← hL.1]; first | (simp; done) | (show 3 < _; simp)) rfl key2
  | some y => rw [hx] at key2; exact lv_astore C.1.1 C.1.2.1 hd hL.2 (by rw [← hL.1]; first | (simp; done) | (show 3 < _; simp)) rfl key2
theorem ii_5 {v0 v1 v2 v3 v4 : Value} {a : Int} {x v : Int32} (hd : decode M.2.1 pc = .ok (.iinc 5 a, 3)) (hp : v4.category = 1) (hv : x + Int32.ofInt a = v) (k : Run G d M (pc + 3) (v0 :: v1 :: v2 :: v3 :: v4 :: .int v :: t) st σ κ Q) : Run G d M pc (v0 :: v1 :: v2 :: v3 :: v4 :: .int x :: t) st σ κ Q := by
  intro p e R s m args below meth c C CT ST Z h1 h2 hH H locs cells slots lsA hR hL hc hs
  obtain ⟨kk, hk⟩ := List.getElem?_of_mem ((rn_ll_mem (G := G) (q := (5, .int x))).mpr ⟨.int x, rfl, (fun e => by cases e), rfl⟩ : (5, Value.int x) ∈ rn_ll G (v0 :: v1 :: v2 :: v3 :: v4 :: .int x :: t))
  refine lv_iinc (i := 5) C.1.1 C.1.2.1 hd hL.2 hk hv (by rw [← hL.1]; first | (simp; done) | (show 3 < _; simp)) rfl (fun ls2 hl2 => ?_)
  exact k p e R s m args below meth c C CT ST Z h1 h2 hH H locs cells slots ls2 hR (hL.st (i := 5) (v := .int v) (by simp) (fun j w hj hw => by (obtain rfl : j = 4 := (by omega)); cases hw; exact hp) (fun e => by cases e) hl2) hc hs
theorem il_6 {v0 v1 v2 v3 v4 v5 : Value} {x : Int32} (hd : decode M.2.1 pc = .ok (.iload 6, 2)) (k : Run G d M (pc + 2) (v0 :: v1 :: v2 :: v3 :: v4 :: v5 :: .int x :: t) (.int x :: st) σ κ Q) : Run G d M pc (v0 :: v1 :: v2 :: v3 :: v4 :: v5 :: .int x :: t) st σ κ Q := by
  intro p e R s m args below meth c C CT ST Z h1 h2 hH H locs cells slots lsA hR hL hc hs
  exact lv_iload C.1.1 C.1.2.1 hd (hL.at (i := 6) (v := .int x) rfl (fun e => by cases e)) (k p e R s m args below meth c C CT ST Z h1 h2 hH H locs cells slots lsA hR hL hc hs)
theorem ll_6 {v0 v1 v2 v3 v4 v5 : Value} {x : Int64} (hd : decode M.2.1 pc = .ok (.lload 6, 2)) (k : Run G d M (pc + 2) (v0 :: v1 :: v2 :: v3 :: v4 :: v5 :: .long x :: t) (.long x :: st) σ κ Q) : Run G d M pc (v0 :: v1 :: v2 :: v3 :: v4 :: v5 :: .long x :: t) st σ κ Q := by
  intro p e R s m args below meth c C CT ST Z h1 h2 hH H locs cells slots lsA hR hL hc hs
  exact lv_lload C.1.1 C.1.2.1 hd (hL.at (i := 6) (v := .long x) rfl (fun e => by cases e)) (k p e R s m args below meth c C CT ST Z h1 h2 hH H locs cells slots lsA hR hL hc hs)
theorem al_6 {v0 v1 v2 v3 v4 v5 : Value} {x : Nat} (hd : decode M.2.1 pc = .ok (.aload 6, 2)) (k : Run G d M (pc + 2) (v0 :: v1 :: v2 :: v3 :: v4 :: v5 :: .ref x :: t) (.ref x :: st) σ κ Q) : Run G d M pc (v0 :: v1 :: v2 :: v3 :: v4 :: v5 :: .ref x :: t) st σ κ Q := by
  intro p e R s m args below meth c C CT ST Z h1 h2 hH H locs cells slots lsA hR hL hc hs
  have hl := hL.at (i := 6) (v := .ref x) rfl (fun e => by cases e)
  have k2 := k p e R s m args below meth c C CT ST Z h1 h2 hH H locs cells slots lsA hR hL hc hs
  rw [List.map_cons] at k2
  unfold rn_cv at hl
  change W _ _ _ _ _ _ _ _ _ _ _ _ _ _ _ (F0 m (pc + 2) lsA (va_rf (rn_o G x) :: st.map (rn_cv G))) at k2
  dsimp only at hl
  cases hx : rn_o G x with
  | none => rw [hx] at hl k2; exact lv_aloadN C.1.1 C.1.2.1 hd hl k2
  | some y => rw [hx] at hl k2; exact lv_aload C.1.1 C.1.2.1 hd hl k2
theorem is_6 {v0 v1 v2 v3 v4 v5 : Value} {w0 : Value} {x : Int32} (hd : decode M.2.1 pc = .ok (.istore 6, 2)) (hp : v5.category = 1) (k : Run G d M (pc + 2) (v0 :: v1 :: v2 :: v3 :: v4 :: v5 :: .int x :: t) st σ κ Q) : Run G d M pc (v0 :: v1 :: v2 :: v3 :: v4 :: v5 :: w0 :: t) (.int x :: st) σ κ Q := by
  intro p e R s m args below meth c C CT ST Z h1 h2 hH H locs cells slots lsA hR hL hc hs
  refine lv_istore C.1.1 C.1.2.1 hd hL.2 (by rw [← hL.1]; first | (simp; done) | (show 3 < _; simp)) rfl (fun ls2 hl2 => ?_)
  exact k p e R s m args below meth c C CT ST Z h1 h2 hH H locs cells slots ls2 hR (hL.st (i := 6) (v := .int x) (by simp) (fun j w hj hw => by (obtain rfl : j = 5 := (by omega)); cases hw; exact hp) (fun e => by cases e) hl2) hc hs
theorem as_6 {v0 v1 v2 v3 v4 v5 : Value} {w0 : Value} {x : Nat} (hd : decode M.2.1 pc = .ok (.astore 6, 2)) (hp : v5.category = 1) (k : Run G d M (pc + 2) (v0 :: v1 :: v2 :: v3 :: v4 :: v5 :: .ref x :: t) st σ κ Q) : Run G d M pc (v0 :: v1 :: v2 :: v3 :: v4 :: v5 :: w0 :: t) (.ref x :: st) σ κ Q := by
  intro p e R s m args below meth c C CT ST Z h1 h2 hH H locs cells slots lsA hR hL hc hs
  have key : ∀ ls2 : Array Slot, lv_has ls2 M.2.2.1 ((6, rn_cv G (.ref x)) :: (rn_ll G (v0 :: v1 :: v2 :: v3 :: v4 :: v5 :: w0 :: t)).filter (fun q => !(q.1 == 6) && !(q.1 + 1 == 6 && q.2.category == 2))) → W p (rn_l G) e R s m args below meth c H locs cells slots Z (F0 m (pc + 2) ls2 (st.map (rn_cv G))) := fun ls2 hl2 => k p e R s m args below meth c C CT ST Z h1 h2 hH H locs cells slots ls2 hR (hL.st (i := 6) (v := .ref x) (by simp) (fun j w hj hw => by (obtain rfl : j = 5 := (by omega)); cases hw; exact hp) (fun e => by cases e) hl2) hc hs
  show W _ _ _ _ _ _ _ _ _ _ _ _ _ _ _ (F0 m pc lsA (va_rf (rn_o G x) :: st.map (rn_cv G)))
  have key2 : ∀ ls2 : Array Slot, lv_has ls2 M.2.2.1 ((6, va_rf (rn_o G x)) :: _) → _ := key
  cases hx : rn_o G x with
  | none => rw [hx] at key2; exact lv_astoreN C.1.1 C.1.2.1 hd hL.2 (by rw [← hL.1]; first | (simp; done) | (show 3 < _; simp)) rfl key2
  | some y => rw [hx] at key2; exact lv_astore C.1.1 C.1.2.1 hd hL.2 (by rw [← hL.1]; first | (simp; done) | (show 3 < _; simp)) rfl key2
theorem ii_6 {v0 v1 v2 v3 v4 v5 : Value} {a : Int} {x v : Int32} (hd : decode M.2.1 pc = .ok (.iinc 6 a, 3)) (hp : v5.category = 1) (hv : x + Int32.ofInt a = v) (k : Run G d M (pc + 3) (v0 :: v1 :: v2 :: v3 :: v4 :: v5 :: .int v :: t) st σ κ Q) : Run G d M pc (v0 :: v1 :: v2 :: v3 :: v4 :: v5 :: .int x :: t) st σ κ Q := by
  intro p e R s m args below meth c C CT ST Z h1 h2 hH H locs cells slots lsA hR hL hc hs
  obtain ⟨kk, hk⟩ := List.getElem?_of_mem ((rn_ll_mem (G := G) (q := (6, .int x))).mpr ⟨.int x, rfl, (fun e => by cases e), rfl⟩ : (6, Value.int x) ∈ rn_ll G (v0 :: v1 :: v2 :: v3 :: v4 :: v5 :: .int x :: t))
  refine lv_iinc (i := 6) C.1.1 C.1.2.1 hd hL.2 hk hv (by rw [← hL.1]; first | (simp; done) | (show 3 < _; simp)) rfl (fun ls2 hl2 => ?_)
  exact k p e R s m args below meth c C CT ST Z h1 h2 hH H locs cells slots ls2 hR (hL.st (i := 6) (v := .int v) (by simp) (fun j w hj hw => by (obtain rfl : j = 5 := (by omega)); cases hw; exact hp) (fun e => by cases e) hl2) hc hs
theorem il_7 {v0 v1 v2 v3 v4 v5 v6 : Value} {x : Int32} (hd : decode M.2.1 pc = .ok (.iload 7, 2)) (k : Run G d M (pc + 2) (v0 :: v1 :: v2 :: v3 :: v4 :: v5 :: v6 :: .int x :: t) (.int x :: st) σ κ Q) : Run G d M pc (v0 :: v1 :: v2 :: v3 :: v4 :: v5 :: v6 :: .int x :: t) st σ κ Q := by
  intro p e R s m args below meth c C CT ST Z h1 h2 hH H locs cells slots lsA hR hL hc hs
  exact lv_iload C.1.1 C.1.2.1 hd (hL.at (i := 7) (v := .int x) rfl (fun e => by cases e)) (k p e R s m args below meth c C CT ST Z h1 h2 hH H locs cells slots lsA hR hL hc hs)
theorem ll_7 {v0 v1 v2 v3 v4 v5 v6 : Value} {x : Int64} (hd : decode M.2.1 pc = .ok (.lload 7, 2)) (k : Run G d M (pc + 2) (v0 :: v1 :: v2 :: v3 :: v4 :: v5 :: v6 :: .long x :: t) (.long x :: st) σ κ Q) : Run G d M pc (v0 :: v1 :: v2 :: v3 :: v4 :: v5 :: v6 :: .long x :: t) st σ κ Q := by
  intro p e R s m args below meth c C CT ST Z h1 h2 hH H locs cells slots lsA hR hL hc hs
  exact lv_lload C.1.1 C.1.2.1 hd (hL.at (i := 7) (v := .long x) rfl (fun e => by cases e)) (k p e R s m args below meth c C CT ST Z h1 h2 hH H locs cells slots lsA hR hL hc hs)
theorem al_7 {v0 v1 v2 v3 v4 v5 v6 : Value} {x : Nat} (hd : decode M.2.1 pc = .ok (.aload 7, 2)) (k : Run G d M (pc + 2) (v0 :: v1 :: v2 :: v3 :: v4 :: v5 :: v6 :: .ref x :: t) (.ref x :: st) σ κ Q) : Run G d M pc (v0 :: v1 :: v2 :: v3 :: v4 :: v5 :: v6 :: .ref x :: t) st σ κ Q := by
  intro p e R s m args below meth c C CT ST Z h1 h2 hH H locs cells slots lsA hR hL hc hs
  have hl := hL.at (i := 7) (v := .ref x) rfl (fun e => by cases e)
  have k2 := k p e R s m args below meth c C CT ST Z h1 h2 hH H locs cells slots lsA hR hL hc hs
  rw [List.map_cons] at k2
  unfold rn_cv at hl
  change W _ _ _ _ _ _ _ _ _ _ _ _ _ _ _ (F0 m (pc + 2) lsA (va_rf (rn_o G x) :: st.map (rn_cv G))) at k2
  dsimp only at hl
  cases hx : rn_o G x with
  | none => rw [hx] at hl k2; exact lv_aloadN C.1.1 C.1.2.1 hd hl k2
  | some y => rw [hx] at hl k2; exact lv_aload C.1.1 C.1.2.1 hd hl k2
theorem is_7 {v0 v1 v2 v3 v4 v5 v6 : Value} {w0 : Value} {x : Int32} (hd : decode M.2.1 pc = .ok (.istore 7, 2)) (hp : v6.category = 1) (k : Run G d M (pc + 2) (v0 :: v1 :: v2 :: v3 :: v4 :: v5 :: v6 :: .int x :: t) st σ κ Q) : Run G d M pc (v0 :: v1 :: v2 :: v3 :: v4 :: v5 :: v6 :: w0 :: t) (.int x :: st) σ κ Q := by
  intro p e R s m args below meth c C CT ST Z h1 h2 hH H locs cells slots lsA hR hL hc hs
  refine lv_istore C.1.1 C.1.2.1 hd hL.2 (by rw [← hL.1]; first | (simp; done) | (show 3 < _; simp)) rfl (fun ls2 hl2 => ?_)
  exact k p e R s m args below meth c C CT ST Z h1 h2 hH H locs cells slots ls2 hR (hL.st (i := 7) (v := .int x) (by simp) (fun j w hj hw => by (obtain rfl : j = 6 := (by omega)); cases hw; exact hp) (fun e => by cases e) hl2) hc hs
theorem as_7 {v0 v1 v2 v3 v4 v5 v6 : Value} {w0 : Value} {x : Nat} (hd : decode M.2.1 pc = .ok (.astore 7, 2)) (hp : v6.category = 1) (k : Run G d M (pc + 2) (v0 :: v1 :: v2 :: v3 :: v4 :: v5 :: v6 :: .ref x :: t) st σ κ Q) : Run G d M pc (v0 :: v1 :: v2 :: v3 :: v4 :: v5 :: v6 :: w0 :: t) (.ref x :: st) σ κ Q := by
  intro p e R s m args below meth c C CT ST Z h1 h2 hH H locs cells slots lsA hR hL hc hs
  have key : ∀ ls2 : Array Slot, lv_has ls2 M.2.2.1 ((7, rn_cv G (.ref x)) :: (rn_ll G (v0 :: v1 :: v2 :: v3 :: v4 :: v5 :: v6 :: w0 :: t)).filter (fun q => !(q.1 == 7) && !(q.1 + 1 == 7 && q.2.category == 2))) → W p (rn_l G) e R s m args below meth c H locs cells slots Z (F0 m (pc + 2) ls2 (st.map (rn_cv G))) := fun ls2 hl2 => k p e R s m args below meth c C CT ST Z h1 h2 hH H locs cells slots ls2 hR (hL.st (i := 7) (v := .ref x) (by simp) (fun j w hj hw => by (obtain rfl : j = 6 := (by omega)); cases hw; exact hp) (fun e => by cases e) hl2) hc hs
  show W _ _ _ _ _ _ _ _ _ _ _ _ _ _ _ (F0 m pc lsA (va_rf (rn_o G x) :: st.map (rn_cv G)))
  have key2 : ∀ ls2 : Array Slot, lv_has ls2 M.2.2.1 ((7, va_rf (rn_o G x)) :: _) → _ := key
  cases hx : rn_o G x with
  | none => rw [hx] at key2; exact lv_astoreN C.1.1 C.1.2.1 hd hL.2 (by rw [← hL.1]; first | (simp; done) | (show 3 < _; simp)) rfl key2
  | some y => rw [hx] at key2; exact lv_astore C.1.1 C.1.2.1 hd hL.2 (by rw [← hL.1]; first | (simp; done) | (show 3 < _; simp)) rfl key2
theorem ii_7 {v0 v1 v2 v3 v4 v5 v6 : Value} {a : Int} {x v : Int32} (hd : decode M.2.1 pc = .ok (.iinc 7 a, 3)) (hp : v6.category = 1) (hv : x + Int32.ofInt a = v) (k : Run G d M (pc + 3) (v0 :: v1 :: v2 :: v3 :: v4 :: v5 :: v6 :: .int v :: t) st σ κ Q) : Run G d M pc (v0 :: v1 :: v2 :: v3 :: v4 :: v5 :: v6 :: .int x :: t) st σ κ Q := by
  intro p e R s m args below meth c C CT ST Z h1 h2 hH H locs cells slots lsA hR hL hc hs
  obtain ⟨kk, hk⟩ := List.getElem?_of_mem ((rn_ll_mem (G := G) (q := (7, .int x))).mpr ⟨.int x, rfl, (fun e => by cases e), rfl⟩ : (7, Value.int x) ∈ rn_ll G (v0 :: v1 :: v2 :: v3 :: v4 :: v5 :: v6 :: .int x :: t))
  refine lv_iinc (i := 7) C.1.1 C.1.2.1 hd hL.2 hk hv (by rw [← hL.1]; first | (simp; done) | (show 3 < _; simp)) rfl (fun ls2 hl2 => ?_)
  exact k p e R s m args below meth c C CT ST Z h1 h2 hH H locs cells slots ls2 hR (hL.st (i := 7) (v := .int v) (by simp) (fun j w hj hw => by (obtain rfl : j = 6 := (by omega)); cases hw; exact hp) (fun e => by cases e) hl2) hc hs
theorem il_8 {v0 v1 v2 v3 v4 v5 v6 v7 : Value} {x : Int32} (hd : decode M.2.1 pc = .ok (.iload 8, 2)) (k : Run G d M (pc + 2) (v0 :: v1 :: v2 :: v3 :: v4 :: v5 :: v6 :: v7 :: .int x :: t) (.int x :: st) σ κ Q) : Run G d M pc (v0 :: v1 :: v2 :: v3 :: v4 :: v5 :: v6 :: v7 :: .int x :: t) st σ κ Q := by
  intro p e R s m args below meth c C CT ST Z h1 h2 hH H locs cells slots lsA hR hL hc hs
  exact lv_iload C.1.1 C.1.2.1 hd (hL.at (i := 8) (v := .int x) rfl (fun e => by cases e)) (k p e R s m args below meth c C CT ST Z h1 h2 hH H locs cells slots lsA hR hL hc hs)
theorem ll_8 {v0 v1 v2 v3 v4 v5 v6 v7 : Value} {x : Int64} (hd : decode M.2.1 pc = .ok (.lload 8, 2)) (k : Run G d M (pc + 2) (v0 :: v1 :: v2 :: v3 :: v4 :: v5 :: v6 :: v7 :: .long x :: t) (.long x :: st) σ κ Q) : Run G d M pc (v0 :: v1 :: v2 :: v3 :: v4 :: v5 :: v6 :: v7 :: .long x :: t) st σ κ Q := by
  intro p e R s m args below meth c C CT ST Z h1 h2 hH H locs cells slots lsA hR hL hc hs
  exact lv_lload C.1.1 C.1.2.1 hd (hL.at (i := 8) (v := .long x) rfl (fun e => by cases e)) (k p e R s m args below meth c C CT ST Z h1 h2 hH H locs cells slots lsA hR hL hc hs)
theorem al_8 {v0 v1 v2 v3 v4 v5 v6 v7 : Value} {x : Nat} (hd : decode M.2.1 pc = .ok (.aload 8, 2)) (k : Run G d M (pc + 2) (v0 :: v1 :: v2 :: v3 :: v4 :: v5 :: v6 :: v7 :: .ref x :: t) (.ref x :: st) σ κ Q) : Run G d M pc (v0 :: v1 :: v2 :: v3 :: v4 :: v5 :: v6 :: v7 :: .ref x :: t) st σ κ Q := by
  intro p e R s m args below meth c C CT ST Z h1 h2 hH H locs cells slots lsA hR hL hc hs
  have hl := hL.at (i := 8) (v := .ref x) rfl (fun e => by cases e)
  have k2 := k p e R s m args below meth c C CT ST Z h1 h2 hH H locs cells slots lsA hR hL hc hs
  rw [List.map_cons] at k2
  unfold rn_cv at hl
  change W _ _ _ _ _ _ _ _ _ _ _ _ _ _ _ (F0 m (pc + 2) lsA (va_rf (rn_o G x) :: st.map (rn_cv G))) at k2
  dsimp only at hl
  cases hx : rn_o G x with
  | none => rw [hx] at hl k2; exact lv_aloadN C.1.1 C.1.2.1 hd hl k2
  | some y => rw [hx] at hl k2; exact lv_aload C.1.1 C.1.2.1 hd hl k2
theorem is_8 {v0 v1 v2 v3 v4 v5 v6 v7 : Value} {w0 : Value} {x : Int32} (hd : decode M.2.1 pc = .ok (.istore 8, 2)) (hp : v7.category = 1) (k : Run G d M (pc + 2) (v0 :: v1 :: v2 :: v3 :: v4 :: v5 :: v6 :: v7 :: .int x :: t) st σ κ Q) : Run G d M pc (v0 :: v1 :: v2 :: v3 :: v4 :: v5 :: v6 :: v7 :: w0 :: t) (.int x :: st) σ κ Q := by
  intro p e R s m args below meth c C CT ST Z h1 h2 hH H locs cells slots lsA hR hL hc hs
  refine lv_istore C.1.1 C.1.2.1 hd hL.2 (by rw [← hL.1]; first | (simp; done) | (show 3 < _; simp)) rfl (fun ls2 hl2 => ?_)
  exact k p e R s m args below meth c C CT ST Z h1 h2 hH H locs cells slots ls2 hR (hL.st (i := 8) (v := .int x) (by simp) (fun j w hj hw => by (obtain rfl : j = 7 := (by omega)); cases hw; exact hp) (fun e => by cases e) hl2) hc hs
theorem as_8 {v0 v1 v2 v3 v4 v5 v6 v7 : Value} {w0 : Value} {x : Nat} (hd : decode M.2.1 pc = .ok (.astore 8, 2)) (hp : v7.category = 1) (k : Run G d M (pc + 2) (v0 :: v1 :: v2 :: v3 :: v4 :: v5 :: v6 :: v7 :: .ref x :: t) st σ κ Q) : Run G d M pc (v0 :: v1 :: v2 :: v3 :: v4 :: v5 :: v6 :: v7 :: w0 :: t) (.ref x :: st) σ κ Q := by
  intro p e R s m args below meth c C CT ST Z h1 h2 hH H locs cells slots lsA hR hL hc hs
  have key : ∀ ls2 : Array Slot, lv_has ls2 M.2.2.1 ((8, rn_cv G (.ref x)) :: (rn_ll G (v0 :: v1 :: v2 :: v3 :: v4 :: v5 :: v6 :: v7 :: w0 :: t)).filter (fun q => !(q.1 == 8) && !(q.1 + 1 == 8 && q.2.category == 2))) → W p (rn_l G) e R s m args below meth c H locs cells slots Z (F0 m (pc + 2) ls2 (st.map (rn_cv G))) := fun ls2 hl2 => k p e R s m args below meth c C CT ST Z h1 h2 hH H locs cells slots ls2 hR (hL.st (i := 8) (v := .ref x) (by simp) (fun j w hj hw => by (obtain rfl : j = 7 := (by omega)); cases hw; exact hp) (fun e => by cases e) hl2) hc hs
  show W _ _ _ _ _ _ _ _ _ _ _ _ _ _ _ (F0 m pc lsA (va_rf (rn_o G x) :: st.map (rn_cv G)))
  have key2 : ∀ ls2 : Array Slot, lv_has ls2 M.2.2.1 ((8, va_rf (rn_o G x)) :: _) → _ := key
  cases hx : rn_o G x with
  | none => rw [hx] at key2; exact lv_astoreN C.1.1 C.1.2.1 hd hL.2 (by rw [← hL.1]; first | (simp; done) | (show 3 < _; simp)) rfl key2
  | some y => rw [hx] at key2; exact lv_astore C.1.1 C.1.2.1 hd hL.2 (by rw [← hL.1]; first | (simp; done) | (show 3 < _; simp)) rfl key2
theorem ii_8 {v0 v1 v2 v3 v4 v5 v6 v7 : Value} {a : Int} {x v : Int32} (hd : decode M.2.1 pc = .ok (.iinc 8 a, 3)) (hp : v7.category = 1) (hv : x + Int32.ofInt a = v) (k : Run G d M (pc + 3) (v0 :: v1 :: v2 :: v3 :: v4 :: v5 :: v6 :: v7 :: .int v :: t) st σ κ Q) : Run G d M pc (v0 :: v1 :: v2 :: v3 :: v4 :: v5 :: v6 :: v7 :: .int x :: t) st σ κ Q := by
  intro p e R s m args below meth c C CT ST Z h1 h2 hH H locs cells slots lsA hR hL hc hs
  obtain ⟨kk, hk⟩ := List.getElem?_of_mem ((rn_ll_mem (G := G) (q := (8, .int x))).mpr ⟨.int x, rfl, (fun e => by cases e), rfl⟩ : (8, Value.int x) ∈ rn_ll G (v0 :: v1 :: v2 :: v3 :: v4 :: v5 :: v6 :: v7 :: .int x :: t))
  refine lv_iinc (i := 8) C.1.1 C.1.2.1 hd hL.2 hk hv (by rw [← hL.1]; first | (simp; done) | (show 3 < _; simp)) rfl (fun ls2 hl2 => ?_)
  exact k p e R s m args below meth c C CT ST Z h1 h2 hH H locs cells slots ls2 hR (hL.st (i := 8) (v := .int v) (by simp) (fun j w hj hw => by (obtain rfl : j = 7 := (by omega)); cases hw; exact hp) (fun e => by cases e) hl2) hc hs
theorem il_9 {v0 v1 v2 v3 v4 v5 v6 v7 v8 : Value} {x : Int32} (hd : decode M.2.1 pc = .ok (.iload 9, 2)) (k : Run G d M (pc + 2) (v0 :: v1 :: v2 :: v3 :: v4 :: v5 :: v6 :: v7 :: v8 :: .int x :: t) (.int x :: st) σ κ Q) : Run G d M pc (v0 :: v1 :: v2 :: v3 :: v4 :: v5 :: v6 :: v7 :: v8 :: .int x :: t) st σ κ Q := by
  intro p e R s m args below meth c C CT ST Z h1 h2 hH H locs cells slots lsA hR hL hc hs
  exact lv_iload C.1.1 C.1.2.1 hd (hL.at (i := 9) (v := .int x) rfl (fun e => by cases e)) (k p e R s m args below meth c C CT ST Z h1 h2 hH H locs cells slots lsA hR hL hc hs)
theorem ll_9 {v0 v1 v2 v3 v4 v5 v6 v7 v8 : Value} {x : Int64} (hd : decode M.2.1 pc = .ok (.lload 9, 2)) (k : Run G d M (pc + 2) (v0 :: v1 :: v2 :: v3 :: v4 :: v5 :: v6 :: v7 :: v8 :: .long x :: t) (.long x :: st) σ κ Q) : Run G d M pc (v0 :: v1 :: v2 :: v3 :: v4 :: v5 :: v6 :: v7 :: v8 :: .long x :: t) st σ κ Q := by
  intro p e R s m args below meth c C CT ST Z h1 h2 hH H locs cells slots lsA hR hL hc hs
  exact lv_lload C.1.1 C.1.2.1 hd (hL.at (i := 9) (v := .long x) rfl (fun e => by cases e)) (k p e R s m args below meth c C CT ST Z h1 h2 hH H locs cells slots lsA hR hL hc hs)
theorem al_9 {v0 v1 v2 v3 v4 v5 v6 v7 v8 : Value} {x : Nat} (hd : decode M.2.1 pc = .ok (.aload 9, 2)) (k : Run G d M (pc + 2) (v0 :: v1 :: v2 :: v3 :: v4 :: v5 :: v6 :: v7 :: v8 :: .ref x :: t) (.ref x :: st) σ κ Q) : Run G d M pc (v0 :: v1 :: v2 :: v3 :: v4 :: v5 :: v6 :: v7 :: v8 :: .ref x :: t) st σ κ Q := by
  intro p e R s m args below meth c C CT ST Z h1 h2 hH H locs cells slots lsA hR hL hc hs
  have hl := hL.at (i := 9) (v := .ref x) rfl (fun e => by cases e)
  have k2 := k p e R s m args below meth c C CT ST Z h1 h2 hH H locs cells slots lsA hR hL hc hs
  rw [List.map_cons] at k2
  unfold rn_cv at hl
  change W _ _ _ _ _ _ _ _ _ _ _ _ _ _ _ (F0 m (pc + 2) lsA (va_rf (rn_o G x) :: st.map (rn_cv G))) at k2
  dsimp only at hl
  cases hx : rn_o G x with
  | none => rw [hx] at hl k2; exact lv_aloadN C.1.1 C.1.2.1 hd hl k2
  | some y => rw [hx] at hl k2; exact lv_aload C.1.1 C.1.2.1 hd hl k2
theorem is_9 {v0 v1 v2 v3 v4 v5 v6 v7 v8 : Value} {w0 : Value} {x : Int32} (hd : decode M.2.1 pc = .ok (.istore 9, 2)) (hp : v8.category = 1) (k : Run G d M (pc + 2) (v0 :: v1 :: v2 :: v3 :: v4 :: v5 :: v6 :: v7 :: v8 :: .int x :: t) st σ κ Q) : Run G d M pc (v0 :: v1 :: v2 :: v3 :: v4 :: v5 :: v6 :: v7 :: v8 :: w0 :: t) (.int x :: st) σ κ Q := by
  intro p e R s m args below meth c C CT ST Z h1 h2 hH H locs cells slots lsA hR hL hc hs
  refine lv_istore C.1.1 C.1.2.1 hd hL.2 (by rw [← hL.1]; first | (simp; done) | (show 3 < _; simp)) rfl (fun ls2 hl2 => ?_)
  exact k p e R s m args below meth c C CT ST Z h1 h2 hH H locs cells slots ls2 hR (hL.st (i := 9) (v := .int x) (by simp) (fun j w hj hw => by (obtain rfl : j = 8 := (by omega)); cases hw; exact hp) (fun e => by cases e) hl2) hc hs
theorem as_9 {v0 v1 v2 v3 v4 v5 v6 v7 v8 : Value} {w0 : Value} {x : Nat} (hd : decode M.2.1 pc = .ok (.astore 9, 2)) (hp : v8.category = 1) (k : Run G d M (pc + 2) (v0 :: v1 :: v2 :: v3 :: v4 :: v5 :: v6 :: v7 :: v8 :: .ref x :: t) st σ κ Q) : Run G d M pc (v0 :: v1 :: v2 :: v3 :: v4 :: v5 :: v6 :: v7 :: v8 :: w0 :: t) (.ref x :: st) σ κ Q := by
  intro p e R s m args below meth c C CT ST Z h1 h2 hH H locs cells slots lsA hR hL hc hs
  have key : ∀ ls2 : Array Slot, lv_has ls2 M.2.2.1 ((9, rn_cv G (.ref x)) :: (rn_ll G (v0 :: v1 :: v2 :: v3 :: v4 :: v5 :: v6 :: v7 :: v8 :: w0 :: t)).filter (fun q => !(q.1 == 9) && !(q.1 + 1 == 9 && q.2.category == 2))) → W p (rn_l G) e R s m args below meth c H locs cells slots Z (F0 m (pc + 2) ls2 (st.map (rn_cv G))) := fun ls2 hl2 => k p e R s m args below meth c C CT ST Z h1 h2 hH H locs cells slots ls2 hR (hL.st (i := 9) (v := .ref x) (by simp) (fun j w hj hw => by (obtain rfl : j = 8 := (by omega)); cases hw; exact hp) (fun e => by cases e) hl2) hc hs
  show W _ _ _ _ _ _ _ _ _ _ _ _ _ _ _ (F0 m pc lsA (va_rf (rn_o G x) :: st.map (rn_cv G)))
  have key2 : ∀ ls2 : Array Slot, lv_has ls2 M.2.2.1 ((9, va_rf (rn_o G x)) :: _) → _ := key
  cases hx : rn_o G x with
  | none => rw [hx] at key2; exact lv_astoreN C.1.1 C.1.2.1 hd hL.2 (by rw [← hL.1]; first | (simp; done) | (show 3 < _; simp)) rfl key2
  | some y => rw [hx] at key2; exact lv_astore C.1.1 C.1.2.1 hd hL.2 (by rw [← hL.1]; first | (simp; done) | (show 3 < _; simp)) rfl key2
theorem ii_9 {v0 v1 v2 v3 v4 v5 v6 v7 v8 : Value} {a : Int} {x v : Int32} (hd : decode M.2.1 pc = .ok (.iinc 9 a, 3)) (hp : v8.category = 1) (hv : x + Int32.ofInt a = v) (k : Run G d M (pc + 3) (v0 :: v1 :: v2 :: v3 :: v4 :: v5 :: v6 :: v7 :: v8 :: .int v :: t) st σ κ Q) : Run G d M pc (v0 :: v1 :: v2 :: v3 :: v4 :: v5 :: v6 :: v7 :: v8 :: .int x :: t) st σ κ Q := by
  intro p e R s m args below meth c C CT ST Z h1 h2 hH H locs cells slots lsA hR hL hc hs
  obtain ⟨kk, hk⟩ := List.getElem?_of_mem ((rn_ll_mem (G := G) (q := (9, .int x))).mpr ⟨.int x, rfl, (fun e => by cases e), rfl⟩ : (9, Value.int x) ∈ rn_ll G (v0 :: v1 :: v2 :: v3 :: v4 :: v5 :: v6 :: v7 :: v8 :: .int x :: t))
  refine lv_iinc (i := 9) C.1.1 C.1.2.1 hd hL.2 hk hv (by rw [← hL.1]; first | (simp; done) | (show 3 < _; simp)) rfl (fun ls2 hl2 => ?_)
  exact k p e R s m args below meth c C CT ST Z h1 h2 hH H locs cells slots ls2 hR (hL.st (i := 9) (v := .int v) (by simp) (fun j w hj hw => by (obtain rfl : j = 8 := (by omega)); cases hw; exact hp) (fun e => by cases e) hl2) hc hs
theorem il_10 {v0 v1 v2 v3 v4 v5 v6 v7 v8 v9 : Value} {x : Int32} (hd : decode M.2.1 pc = .ok (.iload 10, 2)) (k : Run G d M (pc + 2) (v0 :: v1 :: v2 :: v3 :: v4 :: v5 :: v6 :: v7 :: v8 :: v9 :: .int x :: t) (.int x :: st) σ κ Q) : Run G d M pc (v0 :: v1 :: v2 :: v3 :: v4 :: v5 :: v6 :: v7 :: v8 :: v9 :: .int x :: t) st σ κ Q := by
  intro p e R s m args below meth c C CT ST Z h1 h2 hH H locs cells slots lsA hR hL hc hs
  exact lv_iload C.1.1 C.1.2.1 hd (hL.at (i := 10) (v := .int x) rfl (fun e => by cases e)) (k p e R s m args below meth c C CT ST Z h1 h2 hH H locs cells slots lsA hR hL hc hs)
theorem ll_10 {v0 v1 v2 v3 v4 v5 v6 v7 v8 v9 : Value} {x : Int64} (hd : decode M.2.1 pc = .ok (.lload 10, 2)) (k : Run G d M (pc + 2) (v0 :: v1 :: v2 :: v3 :: v4 :: v5 :: v6 :: v7 :: v8 :: v9 :: .long x :: t) (.long x :: st) σ κ Q) : Run G d M pc (v0 :: v1 :: v2 :: v3 :: v4 :: v5 :: v6 :: v7 :: v8 :: v9 :: .long x :: t) st σ κ Q := by
  intro p e R s m args below meth c C CT ST Z h1 h2 hH H locs cells slots lsA hR hL hc hs
  exact lv_lload C.1.1 C.1.2.1 hd (hL.at (i := 10) (v := .long x) rfl (fun e => by cases e)) (k p e R s m args below meth c C CT ST Z h1 h2 hH H locs cells slots lsA hR hL hc hs)
theorem al_10 {v0 v1 v2 v3 v4 v5 v6 v7 v8 v9 : Value} {x : Nat} (hd : decode M.2.1 pc = .ok (.aload 10, 2)) (k : Run G d M (pc + 2) (v0 :: v1 :: v2 :: v3 :: v4 :: v5 :: v6 :: v7 :: v8 :: v9 :: .ref x :: t) (.ref x :: st) σ κ Q) : Run G d M pc (v0 :: v1 :: v2 :: v3 :: v4 :: v5 :: v6 :: v7 :: v8 :: v9 :: .ref x :: t) st σ κ Q := by
  intro p e R s m args below meth c C CT ST Z h1 h2 hH H locs cells slots lsA hR hL hc hs
  have hl := hL.at (i := 10) (v := .ref x) rfl (fun e => by cases e)
  have k2 := k p e R s m args below meth c C CT ST Z h1 h2 hH H locs cells slots lsA hR hL hc hs
  rw [List.map_cons] at k2
  unfold rn_cv at hl
  change W _ _ _ _ _ _ _ _ _ _ _ _ _ _ _ (F0 m (pc + 2) lsA (va_rf (rn_o G x) :: st.map (rn_cv G))) at k2
  dsimp only at hl
  cases hx : rn_o G x with
  | none => rw [hx] at hl k2; exact lv_aloadN C.1.1 C.1.2.1 hd hl k2
  | some y => rw [hx] at hl k2; exact lv_aload C.1.1 C.1.2.1 hd hl k2
theorem is_10 {v0 v1 v2 v3 v4 v5 v6 v7 v8 v9 : Value} {w0 : Value} {x : Int32} (hd : decode M.2.1 pc = .ok (.istore 10, 2)) (hp : v9.category = 1) (k : Run G d M (pc + 2) (v0 :: v1 :: v2 :: v3 :: v4 :: v5 :: v6 :: v7 :: v8 :: v9 :: .int x :: t) st σ κ Q) : Run G d M pc (v0 :: v1 :: v2 :: v3 :: v4 :: v5 :: v6 :: v7 :: v8 :: v9 :: w0 :: t) (.int x :: st) σ κ Q := by
  intro p e R s m args below meth c C CT ST Z h1 h2 hH H locs cells slots lsA hR hL hc hs
  refine lv_istore C.1.1 C.1.2.1 hd hL.2 (by rw [← hL.1]; first | (simp; done) | (show 3 < _; simp)) rfl (fun ls2 hl2 => ?_)
  exact k p e R s m args below meth c C CT ST Z h1 h2 hH H locs cells slots ls2 hR (hL.st (i := 10) (v := .int x) (by simp) (fun j w hj hw => by (obtain rfl : j = 9 := (by omega)); cases hw; exact hp) (fun e => by cases e) hl2) hc hs
theorem as_10 {v0 v1 v2 v3 v4 v5 v6 v7 v8 v9 : Value} {w0 : Value} {x : Nat} (hd : decode M.2.1 pc = .ok (.astore 10, 2)) (hp : v9.category = 1) (k : Run G d M (pc + 2) (v0 :: v1 :: v2 :: v3 :: v4 :: v5 :: v6 :: v7 :: v8 :: v9 :: .ref x :: t) st σ κ Q) : Run G d M pc (v0 :: v1 :: v2 :: v3 :: v4 :: v5 :: v6 :: v7 :: v8 :: v9 :: w0 :: t) (.ref x :: st) σ κ Q := by
  intro p e R s m args below meth c C CT ST Z h1 h2 hH H locs cells slots lsA hR hL hc hs
  have key : ∀ ls2 : Array Slot, lv_has ls2 M.2.2.1 ((10, rn_cv G (.ref x)) :: (rn_ll G (v0 :: v1 :: v2 :: v3 :: v4 :: v5 :: v6 :: v7 :: v8 :: v9 :: w0 :: t)).filter (fun q => !(q.1 == 10) && !(q.1 + 1 == 10 && q.2.category == 2))) → W p (rn_l G) e R s m args below meth c H locs cells slots Z (F0 m (pc + 2) ls2 (st.map (rn_cv G))) := fun ls2 hl2 => k p e R s m args below meth c C CT ST Z h1 h2 hH H locs cells slots ls2 hR (hL.st (i := 10) (v := .ref x) (by simp) (fun j w hj hw => by (obtain rfl : j = 9 := (by omega)); cases hw; exact hp) (fun e => by cases e) hl2) hc hs
  show W _ _ _ _ _ _ _ _ _ _ _ _ _ _ _ (F0 m pc lsA (va_rf (rn_o G x) :: st.map (rn_cv G)))
  have key2 : ∀ ls2 : Array Slot, lv_has ls2 M.2.2.1 ((10, va_rf (rn_o G x)) :: _) → _ := key
  cases hx : rn_o G x with
  | none => rw [hx] at key2; exact lv_astoreN C.1.1 C.1.2.1 hd hL.2 (by rw [← hL.1]; first | (simp; done) | (show 3 < _; simp)) rfl key2
  | some y => rw [hx] at key2; exact lv_astore C.1.1 C.1.2.1 hd hL.2 (by rw [← hL.1]; first | (simp; done) | (show 3 < _; simp)) rfl key2
theorem ii_10 {v0 v1 v2 v3 v4 v5 v6 v7 v8 v9 : Value} {a : Int} {x v : Int32} (hd : decode M.2.1 pc = .ok (.iinc 10 a, 3)) (hp : v9.category = 1) (hv : x + Int32.ofInt a = v) (k : Run G d M (pc + 3) (v0 :: v1 :: v2 :: v3 :: v4 :: v5 :: v6 :: v7 :: v8 :: v9 :: .int v :: t) st σ κ Q) : Run G d M pc (v0 :: v1 :: v2 :: v3 :: v4 :: v5 :: v6 :: v7 :: v8 :: v9 :: .int x :: t) st σ κ Q := by
  intro p e R s m args below meth c C CT ST Z h1 h2 hH H locs cells slots lsA hR hL hc hs
  obtain ⟨kk, hk⟩ := List.getElem?_of_mem ((rn_ll_mem (G := G) (q := (10, .int x))).mpr ⟨.int x, rfl, (fun e => by cases e), rfl⟩ : (10, Value.int x) ∈ rn_ll G (v0 :: v1 :: v2 :: v3 :: v4 :: v5 :: v6 :: v7 :: v8 :: v9 :: .int x :: t))
  refine lv_iinc (i := 10) C.1.1 C.1.2.1 hd hL.2 hk hv (by rw [← hL.1]; first | (simp; done) | (show 3 < _; simp)) rfl (fun ls2 hl2 => ?_)
  exact k p e R s m args below meth c C CT ST Z h1 h2 hH H locs cells slots ls2 hR (hL.st (i := 10) (v := .int v) (by simp) (fun j w hj hw => by (obtain rfl : j = 9 := (by omega)); cases hw; exact hp) (fun e => by cases e) hl2) hc hs
theorem il_11 {v0 v1 v2 v3 v4 v5 v6 v7 v8 v9 v10 : Value} {x : Int32} (hd : decode M.2.1 pc = .ok (.iload 11, 2)) (k : Run G d M (pc + 2) (v0 :: v1 :: v2 :: v3 :: v4 :: v5 :: v6 :: v7 :: v8 :: v9 :: v10 :: .int x :: t) (.int x :: st) σ κ Q) : Run G d M pc (v0 :: v1 :: v2 :: v3 :: v4 :: v5 :: v6 :: v7 :: v8 :: v9 :: v10 :: .int x :: t) st σ κ Q := by
  intro p e R s m args below meth c C CT ST Z h1 h2 hH H locs cells slots lsA hR hL hc hs
  exact lv_iload C.1.1 C.1.2.1 hd (hL.at (i := 11) (v := .int x) rfl (fun e => by cases e)) (k p e R s m args below meth c C CT ST Z h1 h2 hH H locs cells slots lsA hR hL hc hs)
theorem ll_11 {v0 v1 v2 v3 v4 v5 v6 v7 v8 v9 v10 : Value} {x : Int64} (hd : decode M.2.1 pc = .ok (.lload 11, 2)) (k : Run G d M (pc + 2) (v0 :: v1 :: v2 :: v3 :: v4 :: v5 :: v6 :: v7 :: v8 :: v9 :: v10 :: .long x :: t) (.long x :: st) σ κ Q) : Run G d M pc (v0 :: v1 :: v2 :: v3 :: v4 :: v5 :: v6 :: v7 :: v8 :: v9 :: v10 :: .long x :: t) st σ κ Q := by
  intro p e R s m args below meth c C CT ST Z h1 h2 hH H locs cells slots lsA hR hL hc hs
  exact lv_lload C.1.1 C.1.2.1 hd (hL.at (i := 11) (v := .long x) rfl (fun e => by cases e)) (k p e R s m args below meth c C CT ST Z h1 h2 hH H locs cells slots lsA hR hL hc hs)
theorem al_11 {v0 v1 v2 v3 v4 v5 v6 v7 v8 v9 v10 : Value} {x : Nat} (hd : decode M.2.1 pc = .ok (.aload 11, 2)) (k : Run G d M (pc + 2) (v0 :: v1 :: v2 :: v3 :: v4 :: v5 :: v6 :: v7 :: v8 :: v9 :: v10 :: .ref x :: t) (.ref x :: st) σ κ Q) : Run G d M pc (v0 :: v1 :: v2 :: v3 :: v4 :: v5 :: v6 :: v7 :: v8 :: v9 :: v10 :: .ref x :: t) st σ κ Q := by
  intro p e R s m args below meth c C CT ST Z h1 h2 hH H locs cells slots lsA hR hL hc hs
  have hl := hL.at (i := 11) (v := .ref x) rfl (fun e => by cases e)
  have k2 := k p e R s m args below meth c C CT ST Z h1 h2 hH H locs cells slots lsA hR hL hc hs
  rw [List.map_cons] at k2
  unfold rn_cv at hl
  change W _ _ _ _ _ _ _ _ _ _ _ _ _ _ _ (F0 m (pc + 2) lsA (va_rf (rn_o G x) :: st.map (rn_cv G))) at k2
  dsimp only at hl
  cases hx : rn_o G x with
  | none => rw [hx] at hl k2; exact lv_aloadN C.1.1 C.1.2.1 hd hl k2
  | some y => rw [hx] at hl k2; exact lv_aload C.1.1 C.1.2.1 hd hl k2
theorem is_11 {v0 v1 v2 v3 v4 v5 v6 v7 v8 v9 v10 : Value} {w0 : Value} {x : Int32} (hd : decode M.2.1 pc = .ok (.istore 11, 2)) (hp : v10.category = 1) (k : Run G d M (pc + 2) (v0 :: v1 :: v2 :: v3 :: v4 :: v5 :: v6 :: v7 :: v8 :: v9 :: v10 :: .int x :: t) st σ κ Q) : Run G d M pc (v0 :: v1 :: v2 :: v3 :: v4 :: v5 :: v6 :: v7 :: v8 :: v9 :: v10 :: w0 :: t) (.int x :: st) σ κ Q := by
  intro p e R s m args below meth c C CT ST Z h1 h2 hH H locs cells slots lsA hR hL hc hs
  refine lv_istore C.1.1 C.1.2.1 hd hL.2 (by rw [← hL.1]; first | (simp; done) | (show 3 < _; simp)) rfl (fun ls2 hl2 => ?_)
  exact k p e R s m args below meth c C CT ST Z h1 h2 hH H locs cells slots ls2 hR (hL.st (i := 11) (v := .int x) (by simp) (fun j w hj hw => by (obtain rfl : j = 10 := (by omega)); cases hw; exact hp) (fun e => by cases e) hl2) hc hs
theorem as_11 {v0 v1 v2 v3 v4 v5 v6 v7 v8 v9 v10 : Value} {w0 : Value} {x : Nat} (hd : decode M.2.1 pc = .ok (.astore 11, 2)) (hp : v10.category = 1) (k : Run G d M (pc + 2) (v0 :: v1 :: v2 :: v3 :: v4 :: v5 :: v6 :: v7 :: v8 :: v9 :: v10 :: .ref x :: t) st σ κ Q) : Run G d M pc (v0 :: v1 :: v2 :: v3 :: v4 :: v5 :: v6 :: v7 :: v8 :: v9 :: v10 :: w0 :: t) (.ref x :: st) σ κ Q := by
  intro p e R s m args below meth c C CT ST Z h1 h2 hH H locs cells slots lsA hR hL hc hs
  have key : ∀ ls2 : Array Slot, lv_has ls2 M.2.2.1 ((11, rn_cv G (.ref x)) :: (rn_ll G (v0 :: v1 :: v2 :: v3 :: v4 :: v5 :: v6 :: v7 :: v8 :: v9 :: v10 :: w0 :: t)).filter (fun q => !(q.1 == 11) && !(q.1 + 1 == 11 && q.2.category == 2))) → W p (rn_l G) e R s m args below meth c H locs cells slots Z (F0 m (pc + 2) ls2 (st.map (rn_cv G))) := fun ls2 hl2 => k p e R s m args below meth c C CT ST Z h1 h2 hH H locs cells slots ls2 hR (hL.st (i := 11) (v := .ref x) (by simp) (fun j w hj hw => by (obtain rfl : j = 10 := (by omega)); cases hw; exact hp) (fun e => by cases e) hl2) hc hs
  show W _ _ _ _ _ _ _ _ _ _ _ _ _ _ _ (F0 m pc lsA (va_rf (rn_o G x) :: st.map (rn_cv G)))
  have key2 : ∀ ls2 : Array Slot, lv_has ls2 M.2.2.1 ((11, va_rf (rn_o G x)) :: _) → _ := key
  cases hx : rn_o G x with
  | none => rw [hx] at key2; exact lv_astoreN C.1.1 C.1.2.1 hd hL.2 (by rw [← hL.1]; first | (simp; done) | (show 3 < _; simp)) rfl key2
  | some y => rw [hx] at key2; exact lv_astore C.1.1 C.1.2.1 hd hL.2 (by rw [← hL.1]; first | (simp; done) | (show 3 < _; simp)) rfl key2
theorem ii_11 {v0 v1 v2 v3 v4 v5 v6 v7 v8 v9 v10 : Value} {a : Int} {x v : Int32} (hd : decode M.2.1 pc = .ok (.iinc 11 a, 3)) (hp : v10.category = 1) (hv : x + Int32.ofInt a = v) (k : Run G d M (pc + 3) (v0 :: v1 :: v2 :: v3 :: v4 :: v5 :: v6 :: v7 :: v8 :: v9 :: v10 :: .int v :: t) st σ κ Q) : Run G d M pc (v0 :: v1 :: v2 :: v3 :: v4 :: v5 :: v6 :: v7 :: v8 :: v9 :: v10 :: .int x :: t) st σ κ Q := by
  intro p e R s m args below meth c C CT ST Z h1 h2 hH H locs cells slots lsA hR hL hc hs
  obtain ⟨kk, hk⟩ := List.getElem?_of_mem ((rn_ll_mem (G := G) (q := (11, .int x))).mpr ⟨.int x, rfl, (fun e => by cases e), rfl⟩ : (11, Value.int x) ∈ rn_ll G (v0 :: v1 :: v2 :: v3 :: v4 :: v5 :: v6 :: v7 :: v8 :: v9 :: v10 :: .int x :: t))
  refine lv_iinc (i := 11) C.1.1 C.1.2.1 hd hL.2 hk hv (by rw [← hL.1]; first | (simp; done) | (show 3 < _; simp)) rfl (fun ls2 hl2 => ?_)
  exact k p e R s m args below meth c C CT ST Z h1 h2 hH H locs cells slots ls2 hR (hL.st (i := 11) (v := .int v) (by simp) (fun j w hj hw => by (obtain rfl : j = 10 := (by omega)); cases hw; exact hp) (fun e => by cases e) hl2) hc hs
theorem il_12 {v0 v1 v2 v3 v4 v5 v6 v7 v8 v9 v10 v11 : Value} {x : Int32} (hd : decode M.2.1 pc = .ok (.iload 12, 2)) (k : Run G d M (pc + 2) (v0 :: v1 :: v2 :: v3 :: v4 :: v5 :: v6 :: v7 :: v8 :: v9 :: v10 :: v11 :: .int x :: t) (.int x :: st) σ κ Q) : Run G d M pc (v0 :: v1 :: v2 :: v3 :: v4 :: v5 :: v6 :: v7 :: v8 :: v9 :: v10 :: v11 :: .int x :: t) st σ κ Q := by
  intro p e R s m args below meth c C CT ST Z h1 h2 hH H locs cells slots lsA hR hL hc hs
  exact lv_iload C.1.1 C.1.2.1 hd (hL.at (i := 12) (v := .int x) rfl (fun e => by cases e)) (k p e R s m args below meth c C CT ST Z h1 h2 hH H locs cells slots lsA hR hL hc hs)
theorem ll_12 {v0 v1 v2 v3 v4 v5 v6 v7 v8 v9 v10 v11 : Value} {x : Int64} (hd : decode M.2.1 pc = .ok (.lload 12, 2)) (k : Run G d M (pc + 2) (v0 :: v1 :: v2 :: v3 :: v4 :: v5 :: v6 :: v7 :: v8 :: v9 :: v10 :: v11 :: .long x :: t) (.long x :: st) σ κ Q) : Run G d M pc (v0 :: v1 :: v2 :: v3 :: v4 :: v5 :: v6 :: v7 :: v8 :: v9 :: v10 :: v11 :: .long x :: t) st σ κ Q := by
  intro p e R s m args below meth c C CT ST Z h1 h2 hH H locs cells slots lsA hR hL hc hs
  exact lv_lload C.1.1 C.1.2.1 hd (hL.at (i := 12) (v := .long x) rfl (fun e => by cases e)) (k p e R s m args below meth c C CT ST Z h1 h2 hH H locs cells slots lsA hR hL hc hs)
theorem al_12 {v0 v1 v2 v3 v4 v5 v6 v7 v8 v9 v10 v11 : Value} {x : Nat} (hd : decode M.2.1 pc = .ok (.aload 12, 2)) (k : Run G d M (pc + 2) (v0 :: v1 :: v2 :: v3 :: v4 :: v5 :: v6 :: v7 :: v8 :: v9 :: v10 :: v11 :: .ref x :: t) (.ref x :: st) σ κ Q) : Run G d M pc (v0 :: v1 :: v2 :: v3 :: v4 :: v5 :: v6 :: v7 :: v8 :: v9 :: v10 :: v11 :: .ref x :: t) st σ κ Q := by
  intro p e R s m args below meth c C CT ST Z h1 h2 hH H locs cells slots lsA hR hL hc hs
  have hl := hL.at (i := 12) (v := .ref x) rfl (fun e => by cases e)
  have k2 := k p e R s m args below meth c C CT ST Z h1 h2 hH H locs cells slots lsA hR hL hc hs
  rw [List.map_cons] at k2
  unfold rn_cv at hl
  change W _ _ _ _ _ _ _ _ _ _ _ _ _ _ _ (F0 m (pc + 2) lsA (va_rf (rn_o G x) :: st.map (rn_cv G))) at k2
  dsimp only at hl
  cases hx : rn_o G x with
  | none => rw [hx] at hl k2; exact lv_aloadN C.1.1 C.1.2.1 hd hl k2
  | some y => rw [hx] at hl k2; exact lv_aload C.1.1 C.1.2.1 hd hl k2
theorem is_12 {v0 v1 v2 v3 v4 v5 v6 v7 v8 v9 v10 v11 : Value} {w0 : Value} {x : Int32} (hd : decode M.2.1 pc = .ok (.istore 12, 2)) (hp : v11.category = 1) (k : Run G d M (pc + 2) (v0 :: v1 :: v2 :: v3 :: v4 :: v5 :: v6 :: v7 :: v8 :: v9 :: v10 :: v11 :: .int x :: t) st σ κ Q) : Run G d M pc (v0 :: v1 :: v2 :: v3 :: v4 :: v5 :: v6 :: v7 :: v8 :: v9 :: v10 :: v11 :: w0 :: t) (.int x :: st) σ κ Q := by
  intro p e R s m args below meth c C CT ST Z h1 h2 hH H locs cells slots lsA hR hL hc hs
  refine lv_istore C.1.1 C.1.2.1 hd hL.2 (by rw [← hL.1]; first | (simp; done) | (show 3 < _; simp)) rfl (fun ls2 hl2 => ?_)
  exact k p e R s m args below meth c C CT ST Z h1 h2 hH H locs cells slots ls2 hR (hL.st (i := 12) (v := .int x) (by simp) (fun j w hj hw => by (obtain rfl : j = 11 := (by omega)); cases hw; exact hp) (fun e => by cases e) hl2) hc hs
theorem as_12 {v0 v1 v2 v3 v4 v5 v6 v7 v8 v9 v10 v11 : Value} {w0 : Value} {x : Nat} (hd : decode M.2.1 pc = .ok (.astore 12, 2)) (hp : v11.category = 1) (k : Run G d M (pc + 2) (v0 :: v1 :: v2 :: v3 :: v4 :: v5 :: v6 :: v7 :: v8 :: v9 :: v10 :: v11 :: .ref x :: t) st σ κ Q) : Run G d M pc (v0 :: v1 :: v2 :: v3 :: v4 :: v5 :: v6 :: v7 :: v8 :: v9 :: v10 :: v11 :: w0 :: t) (.ref x :: st) σ κ Q := by
  intro p e R s m args below meth c C CT ST Z h1 h2 hH H locs cells slots lsA hR hL hc hs
  have key : ∀ ls2 : Array Slot, lv_has ls2 M.2.2.1 ((12, rn_cv G (.ref x)) :: (rn_ll G (v0 :: v1 :: v2 :: v3 :: v4 :: v5 :: v6 :: v7 :: v8 :: v9 :: v10 :: v11 :: w0 :: t)).filter (fun q => !(q.1 == 12) && !(q.1 + 1 == 12 && q.2.category == 2))) → W p (rn_l G) e R s m args below meth c H locs cells slots Z (F0 m (pc + 2) ls2 (st.map (rn_cv G))) := fun ls2 hl2 => k p e R s m args below meth c C CT ST Z h1 h2 hH H locs cells slots ls2 hR (hL.st (i := 12) (v := .ref x) (by simp) (fun j w hj hw => by (obtain rfl : j = 11 := (by omega)); cases hw; exact hp) (fun e => by cases e) hl2) hc hs
  show W _ _ _ _ _ _ _ _ _ _ _ _ _ _ _ (F0 m pc lsA (va_rf (rn_o G x) :: st.map (rn_cv G)))
  have key2 : ∀ ls2 : Array Slot, lv_has ls2 M.2.2.1 ((12, va_rf (rn_o G x)) :: _) → _ := key
  cases hx : rn_o G x with
  | none => rw [hx] at key2; exact lv_astoreN C.1.1 C.1.2.1 hd hL.2 (by rw [← hL.1]; first | (simp; done) | (show 3 < _; simp)) rfl key2
  | some y => rw [hx] at key2; exact lv_astore C.1.1 C.1.2.1 hd hL.2 (by rw [← hL.1]; first | (simp; done) | (show 3 < _; simp)) rfl key2
theorem ii_12 {v0 v1 v2 v3 v4 v5 v6 v7 v8 v9 v10 v11 : Value} {a : Int} {x v : Int32} (hd : decode M.2.1 pc = .ok (.iinc 12 a, 3)) (hp : v11.category = 1) (hv : x + Int32.ofInt a = v) (k : Run G d M (pc + 3) (v0 :: v1 :: v2 :: v3 :: v4 :: v5 :: v6 :: v7 :: v8 :: v9 :: v10 :: v11 :: .int v :: t) st σ κ Q) : Run G d M pc (v0 :: v1 :: v2 :: v3 :: v4 :: v5 :: v6 :: v7 :: v8 :: v9 :: v10 :: v11 :: .int x :: t) st σ κ Q := by
  intro p e R s m args below meth c C CT ST Z h1 h2 hH H locs cells slots lsA hR hL hc hs
  obtain ⟨kk, hk⟩ := List.getElem?_of_mem ((rn_ll_mem (G := G) (q := (12, .int x))).mpr ⟨.int x, rfl, (fun e => by cases e), rfl⟩ : (12, Value.int x) ∈ rn_ll G (v0 :: v1 :: v2 :: v3 :: v4 :: v5 :: v6 :: v7 :: v8 :: v9 :: v10 :: v11 :: .int x :: t))
  refine lv_iinc (i := 12) C.1.1 C.1.2.1 hd hL.2 hk hv (by rw [← hL.1]; first | (simp; done) | (show 3 < _; simp)) rfl (fun ls2 hl2 => ?_)
  exact k p e R s m args below meth c C CT ST Z h1 h2 hH H locs cells slots ls2 hR (hL.st (i := 12) (v := .int v) (by simp) (fun j w hj hw => by (obtain rfl : j = 11 := (by omega)); cases hw; exact hp) (fun e => by cases e) hl2) hc hs
theorem il_13 {v0 v1 v2 v3 v4 v5 v6 v7 v8 v9 v10 v11 v12 : Value} {x : Int32} (hd : decode M.2.1 pc = .ok (.iload 13, 2)) (k : Run G d M (pc + 2) (v0 :: v1 :: v2 :: v3 :: v4 :: v5 :: v6 :: v7 :: v8 :: v9 :: v10 :: v11 :: v12 :: .int x :: t) (.int x :: st) σ κ Q) : Run G d M pc (v0 :: v1 :: v2 :: v3 :: v4 :: v5 :: v6 :: v7 :: v8 :: v9 :: v10 :: v11 :: v12 :: .int x :: t) st σ κ Q := by
  intro p e R s m args below meth c C CT ST Z h1 h2 hH H locs cells slots lsA hR hL hc hs
  exact lv_iload C.1.1 C.1.2.1 hd (hL.at (i := 13) (v := .int x) rfl (fun e => by cases e)) (k p e R s m args below meth c C CT ST Z h1 h2 hH H locs cells slots lsA hR hL hc hs)
theorem ll_13 {v0 v1 v2 v3 v4 v5 v6 v7 v8 v9 v10 v11 v12 : Value} {x : Int64} (hd : decode M.2.1 pc = .ok (.lload 13, 2)) (k : Run G d M (pc + 2) (v0 :: v1 :: v2 :: v3 :: v4 :: v5 :: v6 :: v7 :: v8 :: v9 :: v10 :: v11 :: v12 :: .long x :: t) (.long x :: st) σ κ Q) : Run G d M pc (v0 :: v1 :: v2 :: v3 :: v4 :: v5 :: v6 :: v7 :: v8 :: v9 :: v10 :: v11 :: v12 :: .long x :: t) st σ κ Q := by
  intro p e R s m args below meth c C CT ST Z h1 h2 hH H locs cells slots lsA hR hL hc hs
  exact lv_lload C.1.1 C.1.2.1 hd (hL.at (i := 13) (v := .long x) rfl (fun e => by cases e)) (k p e R s m args below meth c C CT ST Z h1 h2 hH H locs cells slots lsA hR hL hc hs)
theorem al_13 {v0 v1 v2 v3 v4 v5 v6 v7 v8 v9 v10 v11 v12 : Value} {x : Nat} (hd : decode M.2.1 pc = .ok (.aload 13, 2)) (k : Run G d M (pc + 2) (v0 :: v1 :: v2 :: v3 :: v4 :: v5 :: v6 :: v7 :: v8 :: v9 :: v10 :: v11 :: v12 :: .ref x :: t) (.ref x :: st) σ κ Q) : Run G d M pc (v0 :: v1 :: v2 :: v3 :: v4 :: v5 :: v6 :: v7 :: v8 :: v9 :: v10 :: v11 :: v12 :: .ref x :: t) st σ κ Q := by
  intro p e R s m args below meth c C CT ST Z h1 h2 hH H locs cells slots lsA hR hL hc hs
  have hl := hL.at (i := 13) (v := .ref x) rfl (fun e => by cases e)
  have k2 := k p e R s m args below meth c C CT ST Z h1 h2 hH H locs cells slots lsA hR hL hc hs
  rw [List.map_cons] at k2
  unfold rn_cv at hl
  change W _ _ _ _ _ _ _ _ _ _ _ _ _ _ _ (F0 m (pc + 2) lsA (va_rf (rn_o G x) :: st.map (rn_cv G))) at k2
  dsimp only at hl
  cases hx : rn_o G x with
  | none => rw [hx] at hl k2; exact lv_aloadN C.1.1 C.1.2.1 hd hl k2
  | some y => rw [hx] at hl k2; exact lv_aload C.1.1 C.1.2.1 hd hl k2
theorem is_13 {v0 v1 v2 v3 v4 v5 v6 v7 v8 v9 v10 v11 v12 : Value} {w0 : Value} {x : Int32} (hd : decode M.2.1 pc = .ok (.istore 13, 2)) (hp : v12.category = 1) (k : Run G d M (pc + 2) (v0 :: v1 :: v2 :: v3 :: v4 :: v5 :: v6 :: v7 :: v8 :: v9 :: v10 :: v11 :: v12 :: .int x :: t) st σ κ Q) : Run G d M pc (v0 :: v1 :: v2 :: v3 :: v4 :: v5 :: v6 :: v7 :: v8 :: v9 :: v10 :: v11 :: v12 :: w0 :: t) (.int x :: st) σ κ Q := by
  intro p e R s m args below meth c C CT ST Z h1 h2 hH H locs cells slots lsA hR hL hc hs
  refine lv_istore C.1.1 C.1.2.1 hd hL.2 (by rw [← hL.1]; first | (simp; done) | (show 3 < _; simp)) rfl (fun ls2 hl2 => ?_)
  exact k p e R s m args below meth c C CT ST Z h1 h2 hH H locs cells slots ls2 hR (hL.st (i := 13) (v := .int x) (by simp) (fun j w hj hw => by (obtain rfl : j = 12 := (by omega)); cases hw; exact hp) (fun e => by cases e) hl2) hc hs
theorem as_13 {v0 v1 v2 v3 v4 v5 v6 v7 v8 v9 v10 v11 v12 : Value} {w0 : Value} {x : Nat} (hd : decode M.2.1 pc = .ok (.astore 13, 2)) (hp : v12.category = 1) (k : Run G d M (pc + 2) (v0 :: v1 :: v2 :: v3 :: v4 :: v5 :: v6 :: v7 :: v8 :: v9 :: v10 :: v11 :: v12 :: .ref x :: t) st σ κ Q) : Run G d M pc (v0 :: v1 :: v2 :: v3 :: v4 :: v5 :: v6 :: v7 :: v8 :: v9 :: v10 :: v11 :: v12 :: w0 :: t) (.ref x :: st) σ κ Q := by
  intro p e R s m args below meth c C CT ST Z h1 h2 hH H locs cells slots lsA hR hL hc hs
  have key : ∀ ls2 : Array Slot, lv_has ls2 M.2.2.1 ((13, rn_cv G (.ref x)) :: (rn_ll G (v0 :: v1 :: v2 :: v3 :: v4 :: v5 :: v6 :: v7 :: v8 :: v9 :: v10 :: v11 :: v12 :: w0 :: t)).filter (fun q => !(q.1 == 13) && !(q.1 + 1 == 13 && q.2.category == 2))) → W p (rn_l G) e R s m args below meth c H locs cells slots Z (F0 m (pc + 2) ls2 (st.map (rn_cv G))) := fun ls2 hl2 => k p e R s m args below meth c C CT ST Z h1 h2 hH H locs cells slots ls2 hR (hL.st (i := 13) (v := .ref x) (by simp) (fun j w hj hw => by (obtain rfl : j = 12 := (by omega)); cases hw; exact hp) (fun e => by cases e) hl2) hc hs
  show W _ _ _ _ _ _ _ _ _ _ _ _ _ _ _ (F0 m pc lsA (va_rf (rn_o G x) :: st.map (rn_cv G)))
  have key2 : ∀ ls2 : Array Slot, lv_has ls2 M.2.2.1 ((13, va_rf (rn_o G x)) :: _) → _ := key
  cases hx : rn_o G x with
  | none => rw [hx] at key2; exact lv_astoreN C.1.1 C.1.2.1 hd hL.2 (by rw [← hL.1]; first | (simp; done) | (show 3 < _; simp)) rfl key2
  | some y => rw [hx] at key2; exact lv_astore C.1.1 C.1.2.1 hd hL.2 (by rw [← hL.1]; first | (simp; done) | (show 3 < _; simp)) rfl key2
theorem ii_13 {v0 v1 v2 v3 v4 v5 v6 v7 v8 v9 v10 v11 v12 : Value} {a : Int} {x v : Int32} (hd : decode M.2.1 pc = .ok (.iinc 13 a, 3)) (hp : v12.category = 1) (hv : x + Int32.ofInt a = v) (k : Run G d M (pc + 3) (v0 :: v1 :: v2 :: v3 :: v4 :: v5 :: v6 :: v7 :: v8 :: v9 :: v10 :: v11 :: v12 :: .int v :: t) st σ κ Q) : Run G d M pc (v0 :: v1 :: v2 :: v3 :: v4 :: v5 :: v6 :: v7 :: v8 :: v9 :: v10 :: v11 :: v12 :: .int x :: t) st σ κ Q := by
  intro p e R s m args below meth c C CT ST Z h1 h2 hH H locs cells slots lsA hR hL hc hs
  obtain ⟨kk, hk⟩ := List.getElem?_of_mem ((rn_ll_mem (G := G) (q := (13, .int x))).mpr ⟨.int x, rfl, (fun e => by cases e), rfl⟩ : (13, Value.int x) ∈ rn_ll G (v0 :: v1 :: v2 :: v3 :: v4 :: v5 :: v6 :: v7 :: v8 :: v9 :: v10 :: v11 :: v12 :: .int x :: t))
  refine lv_iinc (i := 13) C.1.1 C.1.2.1 hd hL.2 hk hv (by rw [← hL.1]; first | (simp; done) | (show 3 < _; simp)) rfl (fun ls2 hl2 => ?_)
  exact k p e R s m args below meth c C CT ST Z h1 h2 hH H locs cells slots ls2 hR (hL.st (i := 13) (v := .int v) (by simp) (fun j w hj hw => by (obtain rfl : j = 12 := (by omega)); cases hw; exact hp) (fun e => by cases e) hl2) hc hs
theorem R_if_eq {x : Int32} {off : Int} {tgt : Nat} (hd : decode M.2.1 pc = .ok (.ifCond .eq off, 3)) (ht : (pc : Int) + off = (tgt : Int)) (kt : x = 0 → Run G d M tgt ls st σ κ Q) (kf : ¬ x = 0 → Run G d M (pc + 3) ls st σ κ Q) : Run G d M pc ls (.int x :: st) σ κ Q := by
  intro p e R s m args below meth c C CT ST Z h1 h2 hH H locs cells slots lsA hR hL hc hs
  exact lv_if_eq C.1.1 C.1.2.1 hd ht (fun q => kt q p e R s m args below meth c C CT ST Z h1 h2 hH H locs cells slots lsA hR hL hc hs) (fun q => kf q p e R s m args below meth c C CT ST Z h1 h2 hH H locs cells slots lsA hR hL hc hs)
theorem R_icmp_eq {x y : Int32} {off : Int} {tgt : Nat} (hd : decode M.2.1 pc = .ok (.if_icmp .eq off, 3)) (ht : (pc : Int) + off = (tgt : Int)) (kt : x = y → Run G d M tgt ls st σ κ Q) (kf : ¬ x = y → Run G d M (pc + 3) ls st σ κ Q) : Run G d M pc ls (.int y :: .int x :: st) σ κ Q := by
  intro p e R s m args below meth c C CT ST Z h1 h2 hH H locs cells slots lsA hR hL hc hs
  exact lv_icmp_eq C.1.1 C.1.2.1 hd ht (fun q => kt q p e R s m args below meth c C CT ST Z h1 h2 hH H locs cells slots lsA hR hL hc hs) (fun q => kf q p e R s m args below meth c C CT ST Z h1 h2 hH H locs cells slots lsA hR hL hc hs)
theorem R_if_ne {x : Int32} {off : Int} {tgt : Nat} (hd : decode M.2.1 pc = .ok (.ifCond .ne off, 3)) (ht : (pc : Int) + off = (tgt : Int)) (kt : ¬ x = 0 → Run G d M tgt ls st σ κ Q) (kf : x = 0 → Run G d M (pc + 3) ls st σ κ Q) : Run G d M pc ls (.int x :: st) σ κ Q := by
  intro p e R s m args below meth c C CT ST Z h1 h2 hH H locs cells slots lsA hR hL hc hs
  exact lv_if_ne C.1.1 C.1.2.1 hd ht (fun q => kt q p e R s m args below meth c C CT ST Z h1 h2 hH H locs cells slots lsA hR hL hc hs) (fun q => kf q p e R s m args below meth c C CT ST Z h1 h2 hH H locs cells slots lsA hR hL hc hs)
theorem R_icmp_ne {x y : Int32} {off : Int} {tgt : Nat} (hd : decode M.2.1 pc = .ok (.if_icmp .ne off, 3)) (ht : (pc : Int) + off = (tgt : Int)) (kt : ¬ x = y → Run G d M tgt ls st σ κ Q) (kf : x = y → Run G d M (pc + 3) ls st σ κ Q) : Run G d M pc ls (.int y :: .int x :: st) σ κ Q := by
  intro p e R s m args below meth c C CT ST Z h1 h2 hH H locs cells slots lsA hR hL hc hs
  exact lv_icmp_ne C.1.1 C.1.2.1 hd ht (fun q => kt q p e R s m args below meth c C CT ST Z h1 h2 hH H locs cells slots lsA hR hL hc hs) (fun q => kf q p e R s m args below meth c C CT ST Z h1 h2 hH H locs cells slots lsA hR hL hc hs)
theorem R_if_lt {x : Int32} {off : Int} {tgt : Nat} (hd : decode M.2.1 pc = .ok (.ifCond .lt off, 3)) (ht : (pc : Int) + off = (tgt : Int)) (kt : x < 0 → Run G d M tgt ls st σ κ Q) (kf : ¬ x < 0 → Run G d M (pc + 3) ls st σ κ Q) : Run G d M pc ls (.int x :: st) σ κ Q := by
  intro p e R s m args below meth c C CT ST Z h1 h2 hH H locs cells slots lsA hR hL hc hs
  exact lv_if_lt C.1.1 C.1.2.1 hd ht (fun q => kt q p e R s m args below meth c C CT ST Z h1 h2 hH H locs cells slots lsA hR hL hc hs) (fun q => kf q p e R s m args below meth c C CT ST Z h1 h2 hH H locs cells slots lsA hR hL hc hs)
theorem R_icmp_lt {x y : Int32} {off : Int} {tgt : Nat} (hd : decode M.2.1 pc = .ok (.if_icmp .lt off, 3)) (ht : (pc : Int) + off = (tgt : Int)) (kt : x < y → Run G d M tgt ls st σ κ Q) (kf : ¬ x < y → Run G d M (pc + 3) ls st σ κ Q) : Run G d M pc ls (.int y :: .int x :: st) σ κ Q := by
  intro p e R s m args below meth c C CT ST Z h1 h2 hH H locs cells slots lsA hR hL hc hs
  exact lv_icmp_lt C.1.1 C.1.2.1 hd ht (fun q => kt q p e R s m args below meth c C CT ST Z h1 h2 hH H locs cells slots lsA hR hL hc hs) (fun q => kf q p e R s m args below meth c C CT ST Z h1 h2 hH H locs cells slots lsA hR hL hc hs)
theorem R_if_ge {x : Int32} {off : Int} {tgt : Nat} (hd : decode M.2.1 pc = .ok (.ifCond .ge off, 3)) (ht : (pc : Int) + off = (tgt : Int)) (kt : 0 ≤ x → Run G d M tgt ls st σ κ Q) (kf : ¬ 0 ≤ x → Run G d M (pc + 3) ls st σ κ Q) : Run G d M pc ls (.int x :: st) σ κ Q := by
  intro p e R s m args below meth c C CT ST Z h1 h2 hH H locs cells slots lsA hR hL hc hs
  exact lv_if_ge C.1.1 C.1.2.1 hd ht (fun q => kt q p e R s m args below meth c C CT ST Z h1 h2 hH H locs cells slots lsA hR hL hc hs) (fun q => kf q p e R s m args below meth c C CT ST Z h1 h2 hH H locs cells slots lsA hR hL hc hs)
theorem R_icmp_ge {x y : Int32} {off : Int} {tgt : Nat} (hd : decode M.2.1 pc = .ok (.if_icmp .ge off, 3)) (ht : (pc : Int) + off = (tgt : Int)) (kt : y ≤ x → Run G d M tgt ls st σ κ Q) (kf : ¬ y ≤ x → Run G d M (pc + 3) ls st σ κ Q) : Run G d M pc ls (.int y :: .int x :: st) σ κ Q := by
  intro p e R s m args below meth c C CT ST Z h1 h2 hH H locs cells slots lsA hR hL hc hs
  exact lv_icmp_ge C.1.1 C.1.2.1 hd ht (fun q => kt q p e R s m args below meth c C CT ST Z h1 h2 hH H locs cells slots lsA hR hL hc hs) (fun q => kf q p e R s m args below meth c C CT ST Z h1 h2 hH H locs cells slots lsA hR hL hc hs)
theorem R_if_gt {x : Int32} {off : Int} {tgt : Nat} (hd : decode M.2.1 pc = .ok (.ifCond .gt off, 3)) (ht : (pc : Int) + off = (tgt : Int)) (kt : 0 < x → Run G d M tgt ls st σ κ Q) (kf : ¬ 0 < x → Run G d M (pc + 3) ls st σ κ Q) : Run G d M pc ls (.int x :: st) σ κ Q := by
  intro p e R s m args below meth c C CT ST Z h1 h2 hH H locs cells slots lsA hR hL hc hs
  exact lv_if_gt C.1.1 C.1.2.1 hd ht (fun q => kt q p e R s m args below meth c C CT ST Z h1 h2 hH H locs cells slots lsA hR hL hc hs) (fun q => kf q p e R s m args below meth c C CT ST Z h1 h2 hH H locs cells slots lsA hR hL hc hs)
theorem R_icmp_gt {x y : Int32} {off : Int} {tgt : Nat} (hd : decode M.2.1 pc = .ok (.if_icmp .gt off, 3)) (ht : (pc : Int) + off = (tgt : Int)) (kt : y < x → Run G d M tgt ls st σ κ Q) (kf : ¬ y < x → Run G d M (pc + 3) ls st σ κ Q) : Run G d M pc ls (.int y :: .int x :: st) σ κ Q := by
  intro p e R s m args below meth c C CT ST Z h1 h2 hH H locs cells slots lsA hR hL hc hs
  exact lv_icmp_gt C.1.1 C.1.2.1 hd ht (fun q => kt q p e R s m args below meth c C CT ST Z h1 h2 hH H locs cells slots lsA hR hL hc hs) (fun q => kf q p e R s m args below meth c C CT ST Z h1 h2 hH H locs cells slots lsA hR hL hc hs)
theorem R_if_le {x : Int32} {off : Int} {tgt : Nat} (hd : decode M.2.1 pc = .ok (.ifCond .le off, 3)) (ht : (pc : Int) + off = (tgt : Int)) (kt : x ≤ 0 → Run G d M tgt ls st σ κ Q) (kf : ¬ x ≤ 0 → Run G d M (pc + 3) ls st σ κ Q) : Run G d M pc ls (.int x :: st) σ κ Q := by
  intro p e R s m args below meth c C CT ST Z h1 h2 hH H locs cells slots lsA hR hL hc hs
  exact lv_if_le C.1.1 C.1.2.1 hd ht (fun q => kt q p e R s m args below meth c C CT ST Z h1 h2 hH H locs cells slots lsA hR hL hc hs) (fun q => kf q p e R s m args below meth c C CT ST Z h1 h2 hH H locs cells slots lsA hR hL hc hs)
theorem R_icmp_le {x y : Int32} {off : Int} {tgt : Nat} (hd : decode M.2.1 pc = .ok (.if_icmp .le off, 3)) (ht : (pc : Int) + off = (tgt : Int)) (kt : x ≤ y → Run G d M tgt ls st σ κ Q) (kf : ¬ x ≤ y → Run G d M (pc + 3) ls st σ κ Q) : Run G d M pc ls (.int y :: .int x :: st) σ κ Q := by
  intro p e R s m args below meth c C CT ST Z h1 h2 hH H locs cells slots lsA hR hL hc hs
  exact lv_icmp_le C.1.1 C.1.2.1 hd ht (fun q => kt q p e R s m args below meth c C CT ST Z h1 h2 hH H locs cells slots lsA hR hL hc hs) (fun q => kf q p e R s m args below meth c C CT ST Z h1 h2 hH H locs cells slots lsA hR hL hc hs)
theorem R_goto {off : Int} {tgt : Nat} (hd : decode M.2.1 pc = .ok (.goto off, 3)) (ht : (pc : Int) + off = (tgt : Int)) (k : Run G d M tgt ls st σ κ Q) : Run G d M pc ls st σ κ Q := by
  intro p e R s m args below meth c C CT ST Z h1 h2 hH H locs cells slots lsA hR hL hc hs
  exact lv_goto C.1.1 C.1.2.1 hd ht (k p e R s m args below meth c C CT ST Z h1 h2 hH H locs cells slots lsA hR hL hc hs)
theorem R_tswO {dflt lo hi : Int} {offs : Array Int} {len : Nat} {x : Int32} {tgt : Nat} (hd : decode M.2.1 pc = .ok (.tableswitch dflt lo hi offs, len)) (h : x.toInt < lo ∨ hi < x.toInt) (ht : (pc : Int) + dflt = (tgt : Int)) (k : Run G d M tgt ls st σ κ Q) : Run G d M pc ls (.int x :: st) σ κ Q := by
  intro p e R s m args below meth c C CT ST Z h1 h2 hH H locs cells slots lsA hR hL hc hs
  exact lv_tableOut C.1.1 C.1.2.1 hd h ht (k p e R s m args below meth c C CT ST Z h1 h2 hH H locs cells slots lsA hR hL hc hs)
theorem R_tswI {dflt lo hi : Int} {offs : Array Int} {len : Nat} {x : Int32} {off : Int} {tgt : Nat} (hd : decode M.2.1 pc = .ok (.tableswitch dflt lo hi offs, len)) (v : Int32) (hx : x = v) (g1 : ¬ v.toInt < lo) (g2 : ¬ hi < v.toInt) (ho : offs[(v.toInt - lo).toNat]? = some off) (ht : (pc : Int) + off = (tgt : Int)) (k : Run G d M tgt ls st σ κ Q) : Run G d M pc ls (.int x :: st) σ κ Q := by
  subst hx
  intro p e R s m args below meth c C CT ST Z h1 h2 hH H locs cells slots lsA hR hL hc hs
  exact lv_tableIn C.1.1 C.1.2.1 hd g1 g2 ho ht (k p e R s m args below meth c C CT ST Z h1 h2 hH H locs cells slots lsA hR hL hc hs)
theorem R_lsw {dflt : Int} {ps : Array (Int × Int)} {len : Nat} {x : Int32} {off : Int} {tgt : Nat} (hd : decode M.2.1 pc = .ok (.lookupswitch dflt ps, len)) (hp : (ps.toList.zip (ps.toList.drop 1)).all (fun (a, next) => a.1 < next.1) = true) (ho : Op.lookupswitch.offset ps.toList dflt x.toInt = off) (ht : (pc : Int) + off = (tgt : Int)) (k : Run G d M tgt ls st σ κ Q) : Run G d M pc ls (.int x :: st) σ κ Q := by
  intro p e R s m args below meth c C CT ST Z h1 h2 hH H locs cells slots lsA hR hL hc hs
  exact lv_lookup C.1.1 C.1.2.1 hd hp ho ht (k p e R s m args below meth c C CT ST Z h1 h2 hH H locs cells slots lsA hR hL hc hs)
theorem R_ireturn {x : Int32} (hd : decode M.2.1 pc = .ok (.ireturn, 1)) (hok : ∃ ty, M.2.2.2 = some ty ∧ narrow ty (.int x) = .int x) (hq : Q (some (.int x)) σ) : Run G d M pc ls [.int x] σ κ Q := by
  intro p e R s m args below meth c C CT ST Z h1 h2 hH H locs cells slots lsA hR hL hc hs
  exact hH (some (.int x)) σ pc H locs cells slots lsA hR (by omega) (by omega) hq hok hd
theorem R_lreturn {x : Int64} (hd : decode M.2.1 pc = .ok (.lreturn, 1)) (hok : M.2.2.2 = some .long) (hq : Q (some (.long x)) σ) : Run G d M pc ls [.long x] σ κ Q := by
  intro p e R s m args below meth c C CT ST Z h1 h2 hH H locs cells slots lsA hR hL hc hs
  exact hH (some (.long x)) σ pc H locs cells slots lsA hR (by omega) (by omega) hq hok hd
theorem R_return (hd : decode M.2.1 pc = .ok (.return_, 1)) (hok : M.2.2.2 = none) (hq : Q (none) σ) : Run G d M pc ls [] σ κ Q := by
  intro p e R s m args below meth c C CT ST Z h1 h2 hH H locs cells slots lsA hR hL hc hs
  exact hH (none) σ pc H locs cells slots lsA hR (by omega) (by omega) hq hok hd
end RI
