section M
variable {d : Nat} {own : String} {cc : ByteArray} {nL : Nat} {ret : Option FieldType} {Q : Option Value → m_H → Prop} {pc : Nat} {ls : List (Option Value)} {st : List Value} {Hp : m_H}

theorem g_iconst {n : Int} {v : Int32} (hd : decode cc pc = .ok (.iconst n, 1)) (hv : Int32.ofInt n = v) (k : G d own cc nL ret Q (pc + 1) ls (.int v :: st) Hp) : G d own cc nL ret Q pc ls st Hp := by
  intro p l e s m args below meth c D α τ H locs lsM hAt hL hP hS hJ
  exact lv_iconst hAt.1 hAt.2.1 hd hv (k p l e s m args below meth c D α τ H locs lsM hAt hL hP hS hJ)

theorem g_bipush {n : Int} {v : Int32} (hd : decode cc pc = .ok (.bipush n, 2)) (hv : (Int8.ofInt n).toInt32 = v) (k : G d own cc nL ret Q (pc + 2) ls (.int v :: st) Hp) : G d own cc nL ret Q pc ls st Hp := by
  intro p l e s m args below meth c D α τ H locs lsM hAt hL hP hS hJ
  exact lv_bipush hAt.1 hAt.2.1 hd hv (k p l e s m args below meth c D α τ H locs lsM hAt hL hP hS hJ)

theorem g_sipush {n : Int} {v : Int32} (hd : decode cc pc = .ok (.sipush n, 3)) (hv : (Int16.ofInt n).toInt32 = v) (k : G d own cc nL ret Q (pc + 3) ls (.int v :: st) Hp) : G d own cc nL ret Q pc ls st Hp := by
  intro p l e s m args below meth c D α τ H locs lsM hAt hL hP hS hJ
  exact lv_sipush hAt.1 hAt.2.1 hd hv (k p l e s m args below meth c D α τ H locs lsM hAt hL hP hS hJ)

theorem g_lconst {n : Fin 2} {v : Int64} (hd : decode cc pc = .ok (.lconst n, 1)) (hv : Int64.ofNat (n : Nat) = v) (k : G d own cc nL ret Q (pc + 1) ls (.long v :: st) Hp) : G d own cc nL ret Q pc ls st Hp := by
  intro p l e s m args below meth c D α τ H locs lsM hAt hL hP hS hJ
  exact lv_lconst hAt.1 hAt.2.1 hd hv (k p l e s m args below meth c D α τ H locs lsM hAt hL hP hS hJ)

theorem g_iload_n {n : Fin 4} {i : Nat} {x : Int32} (hd : decode cc pc = .ok (.iload_n n, 1)) (hi : (n : Nat) = i) (hl : ls[i]? = some (some (.int x))) (k : G d own cc nL ret Q (pc + 1) ls (.int x :: st) Hp) : G d own cc nL ret Q pc ls st Hp := by
  intro p l e s m args below meth c D α τ H locs lsM hAt hL hP hS hJ
  exact lv_iload_n hAt.1 hAt.2.1 hd hi (hL.2.2 _ _ hl) (k p l e s m args below meth c D α τ H locs lsM hAt hL hP hS hJ)

theorem g_iload {i : Nat} {x : Int32} (hd : decode cc pc = .ok (.iload i, 2)) (hl : ls[i]? = some (some (.int x))) (k : G d own cc nL ret Q (pc + 2) ls (.int x :: st) Hp) : G d own cc nL ret Q pc ls st Hp := by
  intro p l e s m args below meth c D α τ H locs lsM hAt hL hP hS hJ
  exact lv_iload hAt.1 hAt.2.1 hd (hL.2.2 _ _ hl) (k p l e s m args below meth c D α τ H locs lsM hAt hL hP hS hJ)

theorem g_lload_n {n : Fin 4} {i : Nat} {x : Int64} (hd : decode cc pc = .ok (.lload_n n, 1)) (hi : (n : Nat) = i) (hl : ls[i]? = some (some (.long x))) (k : G d own cc nL ret Q (pc + 1) ls (.long x :: st) Hp) : G d own cc nL ret Q pc ls st Hp := by
  intro p l e s m args below meth c D α τ H locs lsM hAt hL hP hS hJ
  exact lv_lload_n hAt.1 hAt.2.1 hd hi (hL.2.2 _ _ hl) (k p l e s m args below meth c D α τ H locs lsM hAt hL hP hS hJ)

theorem g_lload {i : Nat} {x : Int64} (hd : decode cc pc = .ok (.lload i, 2)) (hl : ls[i]? = some (some (.long x))) (k : G d own cc nL ret Q (pc + 2) ls (.long x :: st) Hp) : G d own cc nL ret Q pc ls st Hp := by
  intro p l e s m args below meth c D α τ H locs lsM hAt hL hP hS hJ
  exact lv_lload hAt.1 hAt.2.1 hd (hL.2.2 _ _ hl) (k p l e s m args below meth c D α τ H locs lsM hAt hL hP hS hJ)

theorem g_aload_n {n : Fin 4} {i : Nat} {x : Nat} (hd : decode cc pc = .ok (.aload_n n, 1)) (hi : (n : Nat) = i) (hl : ls[i]? = some (some (.ref x))) (k : G d own cc nL ret Q (pc + 1) ls (.ref x :: st) Hp) : G d own cc nL ret Q pc ls st Hp := by
  intro p l e s m args below meth c D α τ H locs lsM hAt hL hP hS hJ
  exact lv_aload_n hAt.1 hAt.2.1 hd hi (hL.2.2 _ _ hl) (k p l e s m args below meth c D α τ H locs lsM hAt hL hP hS hJ)

theorem g_aload {i : Nat} {x : Nat} (hd : decode cc pc = .ok (.aload i, 2)) (hl : ls[i]? = some (some (.ref x))) (k : G d own cc nL ret Q (pc + 2) ls (.ref x :: st) Hp) : G d own cc nL ret Q pc ls st Hp := by
  intro p l e s m args below meth c D α τ H locs lsM hAt hL hP hS hJ
  exact lv_aload hAt.1 hAt.2.1 hd (hL.2.2 _ _ hl) (k p l e s m args below meth c D α τ H locs lsM hAt hL hP hS hJ)

theorem g_istore_n {n : Fin 4} {i : Nat} {x : Int32} (hd : decode cc pc = .ok (.istore_n n, 1)) (hi : (n : Nat) = i) (hn : i < nL) (k : G d own cc nL ret Q (pc + 1) (m_st1 ls i (.int x)) st Hp) : G d own cc nL ret Q pc ls (.int x :: st) Hp := by
  intro p l e s m args below meth c D α τ H locs lsM hAt hL hP hS hJ
  exact lv_istore_n hAt.1 hAt.2.1 hd hi (m_as_has hL) hn rfl (fun ls' h' => k p l e s m args below meth c D α τ H locs ls' hAt (m_L_st1 (v := .int x) h') hP hS hJ)

theorem g_istore {i : Nat} {x : Int32} (hd : decode cc pc = .ok (.istore i, 2)) (hn : i < nL) (k : G d own cc nL ret Q (pc + 2) (m_st1 ls i (.int x)) st Hp) : G d own cc nL ret Q pc ls (.int x :: st) Hp := by
  intro p l e s m args below meth c D α τ H locs lsM hAt hL hP hS hJ
  exact lv_istore hAt.1 hAt.2.1 hd (m_as_has hL) hn rfl (fun ls' h' => k p l e s m args below meth c D α τ H locs ls' hAt (m_L_st1 (v := .int x) h') hP hS hJ)

theorem g_lstore_n {n : Fin 4} {i : Nat} {x : Int64} (hd : decode cc pc = .ok (.lstore_n n, 1)) (hi : (n : Nat) = i) (hn : i + 1 < nL) (k : G d own cc nL ret Q (pc + 1) (m_st2 ls i (.long x)) st Hp) : G d own cc nL ret Q pc ls (.long x :: st) Hp := by
  intro p l e s m args below meth c D α τ H locs lsM hAt hL hP hS hJ
  exact lv_lstore_n hAt.1 hAt.2.1 hd hi (m_as_has hL) hn rfl (fun ls' h' => k p l e s m args below meth c D α τ H locs ls' hAt (m_L_st2 (v := .long x) h') hP hS hJ)

theorem g_lstore {i : Nat} {x : Int64} (hd : decode cc pc = .ok (.lstore i, 2)) (hn : i + 1 < nL) (k : G d own cc nL ret Q (pc + 2) (m_st2 ls i (.long x)) st Hp) : G d own cc nL ret Q pc ls (.long x :: st) Hp := by
  intro p l e s m args below meth c D α τ H locs lsM hAt hL hP hS hJ
  exact lv_lstore hAt.1 hAt.2.1 hd (m_as_has hL) hn rfl (fun ls' h' => k p l e s m args below meth c D α τ H locs ls' hAt (m_L_st2 (v := .long x) h') hP hS hJ)

theorem g_astore_n {n : Fin 4} {i : Nat} {x : Nat} (hd : decode cc pc = .ok (.astore_n n, 1)) (hi : (n : Nat) = i) (hn : i < nL) (k : G d own cc nL ret Q (pc + 1) (m_st1 ls i (.ref x)) st Hp) : G d own cc nL ret Q pc ls (.ref x :: st) Hp := by
  intro p l e s m args below meth c D α τ H locs lsM hAt hL hP hS hJ
  exact lv_astore_n hAt.1 hAt.2.1 hd hi (m_as_has hL) hn rfl (fun ls' h' => k p l e s m args below meth c D α τ H locs ls' hAt (m_L_st1 (v := .ref x) h') hP hS hJ)

theorem g_astore {i : Nat} {x : Nat} (hd : decode cc pc = .ok (.astore i, 2)) (hn : i < nL) (k : G d own cc nL ret Q (pc + 2) (m_st1 ls i (.ref x)) st Hp) : G d own cc nL ret Q pc ls (.ref x :: st) Hp := by
  intro p l e s m args below meth c D α τ H locs lsM hAt hL hP hS hJ
  exact lv_astore hAt.1 hAt.2.1 hd (m_as_has hL) hn rfl (fun ls' h' => k p l e s m args below meth c D α τ H locs ls' hAt (m_L_st1 (v := .ref x) h') hP hS hJ)

theorem g_iinc {i : Nat} {n : Int} {x v : Int32} (hd : decode cc pc = .ok (.iinc i n, 3)) (hl : ls[i]? = some (some (.int x))) (hv : x + Int32.ofInt n = v) (hn : i < nL) (k : G d own cc nL ret Q (pc + 3) (m_st1 ls i (.int v)) st Hp) : G d own cc nL ret Q pc ls st Hp := by
  intro p l e s m args below meth c D α τ H locs lsM hAt hL hP hS hJ
  obtain ⟨q, hq⟩ := List.getElem?_of_mem (m_as_mem (α := α).mpr ⟨_, hl, rfl⟩)
  exact lv_iinc (x := x) hAt.1 hAt.2.1 hd (m_as_has hL) hq hv hn rfl (fun ls' h' => k p l e s m args below meth c D α τ H locs ls' hAt (m_L_st1 (v := .int v) h') hP hS hJ)

theorem g_iadd {x y : Int32} (hd : decode cc pc = .ok (.iadd, 1)) (k : G d own cc nL ret Q (pc + 1) ls (.int (x + y) :: st) Hp) : G d own cc nL ret Q pc ls (.int y :: .int x :: st) Hp := by
  intro p l e s m args below meth c D α τ H locs lsM hAt hL hP hS hJ
  exact lv_iadd hAt.1 hAt.2.1 hd (k p l e s m args below meth c D α τ H locs lsM hAt hL hP hS hJ)

theorem g_isub {x y : Int32} (hd : decode cc pc = .ok (.isub, 1)) (k : G d own cc nL ret Q (pc + 1) ls (.int (x - y) :: st) Hp) : G d own cc nL ret Q pc ls (.int y :: .int x :: st) Hp := by
  intro p l e s m args below meth c D α τ H locs lsM hAt hL hP hS hJ
  exact lv_isub hAt.1 hAt.2.1 hd (k p l e s m args below meth c D α τ H locs lsM hAt hL hP hS hJ)

theorem g_imul {x y : Int32} (hd : decode cc pc = .ok (.imul, 1)) (k : G d own cc nL ret Q (pc + 1) ls (.int (x * y) :: st) Hp) : G d own cc nL ret Q pc ls (.int y :: .int x :: st) Hp := by
  intro p l e s m args below meth c D α τ H locs lsM hAt hL hP hS hJ
  exact lv_imul hAt.1 hAt.2.1 hd (k p l e s m args below meth c D α τ H locs lsM hAt hL hP hS hJ)

theorem g_iand {x y : Int32} (hd : decode cc pc = .ok (.iand, 1)) (k : G d own cc nL ret Q (pc + 1) ls (.int (x &&& y) :: st) Hp) : G d own cc nL ret Q pc ls (.int y :: .int x :: st) Hp := by
  intro p l e s m args below meth c D α τ H locs lsM hAt hL hP hS hJ
  exact lv_iand hAt.1 hAt.2.1 hd (k p l e s m args below meth c D α τ H locs lsM hAt hL hP hS hJ)

theorem g_ior {x y : Int32} (hd : decode cc pc = .ok (.ior, 1)) (k : G d own cc nL ret Q (pc + 1) ls (.int (x ||| y) :: st) Hp) : G d own cc nL ret Q pc ls (.int y :: .int x :: st) Hp := by
  intro p l e s m args below meth c D α τ H locs lsM hAt hL hP hS hJ
  exact lv_ior hAt.1 hAt.2.1 hd (k p l e s m args below meth c D α τ H locs lsM hAt hL hP hS hJ)

theorem g_ixor {x y : Int32} (hd : decode cc pc = .ok (.ixor, 1)) (k : G d own cc nL ret Q (pc + 1) ls (.int (x ^^^ y) :: st) Hp) : G d own cc nL ret Q pc ls (.int y :: .int x :: st) Hp := by
  intro p l e s m args below meth c D α τ H locs lsM hAt hL hP hS hJ
  exact lv_ixor hAt.1 hAt.2.1 hd (k p l e s m args below meth c D α τ H locs lsM hAt hL hP hS hJ)

theorem g_ishl {x y : Int32} (hd : decode cc pc = .ok (.ishl, 1)) (k : G d own cc nL ret Q (pc + 1) ls (.int (x <<< (y &&& 31)) :: st) Hp) : G d own cc nL ret Q pc ls (.int y :: .int x :: st) Hp := by
  intro p l e s m args below meth c D α τ H locs lsM hAt hL hP hS hJ
  exact lv_ishl hAt.1 hAt.2.1 hd (k p l e s m args below meth c D α τ H locs lsM hAt hL hP hS hJ)

theorem g_ishr {x y : Int32} (hd : decode cc pc = .ok (.ishr, 1)) (k : G d own cc nL ret Q (pc + 1) ls (.int (x >>> (y &&& 31)) :: st) Hp) : G d own cc nL ret Q pc ls (.int y :: .int x :: st) Hp := by
  intro p l e s m args below meth c D α τ H locs lsM hAt hL hP hS hJ
  exact lv_ishr hAt.1 hAt.2.1 hd (k p l e s m args below meth c D α τ H locs lsM hAt hL hP hS hJ)

theorem g_iushr {x y : Int32} (hd : decode cc pc = .ok (.iushr, 1)) (k : G d own cc nL ret Q (pc + 1) ls (.int ((x.toUInt32 >>> (y.toUInt32 &&& Int32.toUInt32 31)).toInt32) :: st) Hp) : G d own cc nL ret Q pc ls (.int y :: .int x :: st) Hp := by
  intro p l e s m args below meth c D α τ H locs lsM hAt hL hP hS hJ
  exact lv_iushr hAt.1 hAt.2.1 hd rfl (k p l e s m args below meth c D α τ H locs lsM hAt hL hP hS hJ)

theorem g_ladd {x y : Int64} (hd : decode cc pc = .ok (.ladd, 1)) (k : G d own cc nL ret Q (pc + 1) ls (.long (x + y) :: st) Hp) : G d own cc nL ret Q pc ls (.long y :: .long x :: st) Hp := by
  intro p l e s m args below meth c D α τ H locs lsM hAt hL hP hS hJ
  exact lv_ladd hAt.1 hAt.2.1 hd (k p l e s m args below meth c D α τ H locs lsM hAt hL hP hS hJ)

theorem g_lsub {x y : Int64} (hd : decode cc pc = .ok (.lsub, 1)) (k : G d own cc nL ret Q (pc + 1) ls (.long (x - y) :: st) Hp) : G d own cc nL ret Q pc ls (.long y :: .long x :: st) Hp := by
  intro p l e s m args below meth c D α τ H locs lsM hAt hL hP hS hJ
  exact lv_lsub hAt.1 hAt.2.1 hd (k p l e s m args below meth c D α τ H locs lsM hAt hL hP hS hJ)

theorem g_lmul {x y : Int64} (hd : decode cc pc = .ok (.lmul, 1)) (k : G d own cc nL ret Q (pc + 1) ls (.long (x * y) :: st) Hp) : G d own cc nL ret Q pc ls (.long y :: .long x :: st) Hp := by
  intro p l e s m args below meth c D α τ H locs lsM hAt hL hP hS hJ
  exact lv_lmul hAt.1 hAt.2.1 hd (k p l e s m args below meth c D α τ H locs lsM hAt hL hP hS hJ)

theorem g_land {x y : Int64} (hd : decode cc pc = .ok (.land, 1)) (k : G d own cc nL ret Q (pc + 1) ls (.long (x &&& y) :: st) Hp) : G d own cc nL ret Q pc ls (.long y :: .long x :: st) Hp := by
  intro p l e s m args below meth c D α τ H locs lsM hAt hL hP hS hJ
  exact lv_land hAt.1 hAt.2.1 hd (k p l e s m args below meth c D α τ H locs lsM hAt hL hP hS hJ)

theorem g_lor {x y : Int64} (hd : decode cc pc = .ok (.lor, 1)) (k : G d own cc nL ret Q (pc + 1) ls (.long (x ||| y) :: st) Hp) : G d own cc nL ret Q pc ls (.long y :: .long x :: st) Hp := by
  intro p l e s m args below meth c D α τ H locs lsM hAt hL hP hS hJ
  exact lv_lor hAt.1 hAt.2.1 hd (k p l e s m args below meth c D α τ H locs lsM hAt hL hP hS hJ)

theorem g_lxor {x y : Int64} (hd : decode cc pc = .ok (.lxor, 1)) (k : G d own cc nL ret Q (pc + 1) ls (.long (x ^^^ y) :: st) Hp) : G d own cc nL ret Q pc ls (.long y :: .long x :: st) Hp := by
  intro p l e s m args below meth c D α τ H locs lsM hAt hL hP hS hJ
  exact lv_lxor hAt.1 hAt.2.1 hd (k p l e s m args below meth c D α τ H locs lsM hAt hL hP hS hJ)

theorem g_idiv {x y : Int32} (hd : decode cc pc = .ok (.idiv, 1)) (hne : ¬ y = 0) (k : G d own cc nL ret Q (pc + 1) ls (.int (x / y) :: st) Hp) : G d own cc nL ret Q pc ls (.int y :: .int x :: st) Hp := by
  intro p l e s m args below meth c D α τ H locs lsM hAt hL hP hS hJ
  exact lv_idiv hAt.1 hAt.2.1 hd hne (k p l e s m args below meth c D α τ H locs lsM hAt hL hP hS hJ)

theorem g_irem {x y : Int32} (hd : decode cc pc = .ok (.irem, 1)) (hne : ¬ y = 0) (k : G d own cc nL ret Q (pc + 1) ls (.int (x - x / y * y) :: st) Hp) : G d own cc nL ret Q pc ls (.int y :: .int x :: st) Hp := by
  intro p l e s m args below meth c D α τ H locs lsM hAt hL hP hS hJ
  exact lv_irem hAt.1 hAt.2.1 hd hne (k p l e s m args below meth c D α τ H locs lsM hAt hL hP hS hJ)

theorem g_ldiv {x y : Int64} (hd : decode cc pc = .ok (.ldiv, 1)) (hne : ¬ y = 0) (k : G d own cc nL ret Q (pc + 1) ls (.long (x / y) :: st) Hp) : G d own cc nL ret Q pc ls (.long y :: .long x :: st) Hp := by
  intro p l e s m args below meth c D α τ H locs lsM hAt hL hP hS hJ
  exact lv_ldiv hAt.1 hAt.2.1 hd hne (k p l e s m args below meth c D α τ H locs lsM hAt hL hP hS hJ)

theorem g_lrem {x y : Int64} (hd : decode cc pc = .ok (.lrem, 1)) (hne : ¬ y = 0) (k : G d own cc nL ret Q (pc + 1) ls (.long (x - x / y * y) :: st) Hp) : G d own cc nL ret Q pc ls (.long y :: .long x :: st) Hp := by
  intro p l e s m args below meth c D α τ H locs lsM hAt hL hP hS hJ
  exact lv_lrem hAt.1 hAt.2.1 hd hne (k p l e s m args below meth c D α τ H locs lsM hAt hL hP hS hJ)

theorem g_ineg {x : Int32} (hd : decode cc pc = .ok (.ineg, 1)) (k : G d own cc nL ret Q (pc + 1) ls (.int (-x) :: st) Hp) : G d own cc nL ret Q pc ls (.int x :: st) Hp := by
  intro p l e s m args below meth c D α τ H locs lsM hAt hL hP hS hJ
  exact lv_ineg hAt.1 hAt.2.1 hd (k p l e s m args below meth c D α τ H locs lsM hAt hL hP hS hJ)

theorem g_lshl {x : Int64} {y : Int32} (hd : decode cc pc = .ok (.lshl, 1)) (k : G d own cc nL ret Q (pc + 1) ls (.long (x <<< (y.toInt64 &&& 63)) :: st) Hp) : G d own cc nL ret Q pc ls (.int y :: .long x :: st) Hp := by
  intro p l e s m args below meth c D α τ H locs lsM hAt hL hP hS hJ
  exact lv_lshl hAt.1 hAt.2.1 hd rfl (k p l e s m args below meth c D α τ H locs lsM hAt hL hP hS hJ)

theorem g_lushr {x : Int64} {y : Int32} (hd : decode cc pc = .ok (.lushr, 1)) (k : G d own cc nL ret Q (pc + 1) ls (.long ((x.toUInt64 >>> (y.toInt64.toUInt64 &&& Int64.toUInt64 63)).toInt64) :: st) Hp) : G d own cc nL ret Q pc ls (.int y :: .long x :: st) Hp := by
  intro p l e s m args below meth c D α τ H locs lsM hAt hL hP hS hJ
  exact lv_lushr hAt.1 hAt.2.1 hd rfl (k p l e s m args below meth c D α τ H locs lsM hAt hL hP hS hJ)

theorem g_i2l {x : Int32} (hd : decode cc pc = .ok (.i2l, 1)) (k : G d own cc nL ret Q (pc + 1) ls (.long x.toInt64 :: st) Hp) : G d own cc nL ret Q pc ls (.int x :: st) Hp := by
  intro p l e s m args below meth c D α τ H locs lsM hAt hL hP hS hJ
  exact lv_i2l hAt.1 hAt.2.1 hd rfl (k p l e s m args below meth c D α τ H locs lsM hAt hL hP hS hJ)

theorem g_l2i {x : Int64} (hd : decode cc pc = .ok (.l2i, 1)) (k : G d own cc nL ret Q (pc + 1) ls (.int x.toInt32 :: st) Hp) : G d own cc nL ret Q pc ls (.long x :: st) Hp := by
  intro p l e s m args below meth c D α τ H locs lsM hAt hL hP hS hJ
  exact lv_l2i hAt.1 hAt.2.1 hd rfl (k p l e s m args below meth c D α τ H locs lsM hAt hL hP hS hJ)

theorem g_i2c {x : Int32} (hd : decode cc pc = .ok (.i2c, 1)) (k : G d own cc nL ret Q (pc + 1) ls (.int (x.toUInt32 % 65536).toInt32 :: st) Hp) : G d own cc nL ret Q pc ls (.int x :: st) Hp := by
  intro p l e s m args below meth c D α τ H locs lsM hAt hL hP hS hJ
  exact lv_i2c hAt.1 hAt.2.1 hd rfl (k p l e s m args below meth c D α τ H locs lsM hAt hL hP hS hJ)

theorem g_lcmp {x y : Int64} (hd : decode cc pc = .ok (.lcmp, 1)) (k : G d own cc nL ret Q (pc + 1) ls (.int (lg_cmp x y) :: st) Hp) : G d own cc nL ret Q pc ls (.long y :: .long x :: st) Hp := by
  intro p l e s m args below meth c D α τ H locs lsM hAt hL hP hS hJ
  exact W.lcmp hAt.1 hAt.2.1 hd (k p l e s m args below meth c D α τ H locs lsM hAt hL hP hS hJ)

theorem g_dup {v : Value} (hd : decode cc pc = .ok (.dup, 1)) (hv : v.category = 1) (k : G d own cc nL ret Q (pc + 1) ls (v :: v :: st) Hp) : G d own cc nL ret Q pc ls (v :: st) Hp := by
  intro p l e s m args below meth c D α τ H locs lsM hAt hL hP hS hJ
  exact lv_dup hAt.1 hAt.2.1 hd ((m_v_cat α v).trans hv) (k p l e s m args below meth c D α τ H locs lsM hAt hL hP hS hJ)

theorem g_pop {v : Value} (hd : decode cc pc = .ok (.pop, 1)) (hv : v.category = 1) (k : G d own cc nL ret Q (pc + 1) ls st Hp) : G d own cc nL ret Q pc ls (v :: st) Hp := by
  intro p l e s m args below meth c D α τ H locs lsM hAt hL hP hS hJ
  exact lv_pop hAt.1 hAt.2.1 hd ((m_v_cat α v).trans hv) (k p l e s m args below meth c D α τ H locs lsM hAt hL hP hS hJ)

theorem g_dup2 {v w : Value} (hd : decode cc pc = .ok (.dup2, 1)) (hv : v.category = 1) (hw : w.category = 1) (k : G d own cc nL ret Q (pc + 1) ls (v :: w :: v :: w :: st) Hp) : G d own cc nL ret Q pc ls (v :: w :: st) Hp := by
  intro p l e s m args below meth c D α τ H locs lsM hAt hL hP hS hJ
  exact lv_dup2_11 hAt.1 hAt.2.1 hd ((m_v_cat α v).trans hv) ((m_v_cat α w).trans hw) (k p l e s m args below meth c D α τ H locs lsM hAt hL hP hS hJ)

theorem g_goto {off : Int} {tgt : Nat} (hd : decode cc pc = .ok (.goto off, 3)) (ht : (pc : Int) + off = (tgt : Int)) (k : G d own cc nL ret Q tgt ls st Hp) : G d own cc nL ret Q pc ls st Hp := by
  intro p l e s m args below meth c D α τ H locs lsM hAt hL hP hS hJ
  exact lv_goto hAt.1 hAt.2.1 hd ht (k p l e s m args below meth c D α τ H locs lsM hAt hL hP hS hJ)

theorem g_ifnull {a : Nat} {off : Int} (hd : decode cc pc = .ok (.ifnull off, 3)) (k : G d own cc nL ret Q (pc + 3) ls st Hp) : G d own cc nL ret Q pc ls (.ref a :: st) Hp := by
  intro p l e s m args below meth c D α τ H locs lsM hAt hL hP hS hJ
  exact lv_ifnull hAt.1 hAt.2.1 hd (k p l e s m args below meth c D α τ H locs lsM hAt hL hP hS hJ)

theorem g_ifnonnull {a : Nat} {off : Int} {tgt : Nat} (hd : decode cc pc = .ok (.ifnonnull off, 3)) (ht : (pc : Int) + off = (tgt : Int)) (k : G d own cc nL ret Q tgt ls st Hp) : G d own cc nL ret Q pc ls (.ref a :: st) Hp := by
  intro p l e s m args below meth c D α τ H locs lsM hAt hL hP hS hJ
  exact lv_ifnonnull hAt.1 hAt.2.1 hd ht (k p l e s m args below meth c D α τ H locs lsM hAt hL hP hS hJ)

theorem g_if_eq {x : Int32} {off : Int} {tgt : Nat} (hd : decode cc pc = .ok (.ifCond .eq off, 3)) (ht : (pc : Int) + off = (tgt : Int)) (kt : x = 0 → G d own cc nL ret Q tgt ls st Hp) (kf : ¬ x = 0 → G d own cc nL ret Q (pc + 3) ls st Hp) : G d own cc nL ret Q pc ls (.int x :: st) Hp := by
  intro p l e s m args below meth c D α τ H locs lsM hAt hL hP hS hJ
  exact lv_if_eq hAt.1 hAt.2.1 hd ht (fun h => kt h p l e s m args below meth c D α τ H locs lsM hAt hL hP hS hJ) (fun h => kf h p l e s m args below meth c D α τ H locs lsM hAt hL hP hS hJ)

theorem g_icmp_eq {x y : Int32} {off : Int} {tgt : Nat} (hd : decode cc pc = .ok (.if_icmp .eq off, 3)) (ht : (pc : Int) + off = (tgt : Int)) (kt : x = y → G d own cc nL ret Q tgt ls st Hp) (kf : ¬ x = y → G d own cc nL ret Q (pc + 3) ls st Hp) : G d own cc nL ret Q pc ls (.int y :: .int x :: st) Hp := by
  intro p l e s m args below meth c D α τ H locs lsM hAt hL hP hS hJ
  exact lv_icmp_eq hAt.1 hAt.2.1 hd ht (fun h => kt h p l e s m args below meth c D α τ H locs lsM hAt hL hP hS hJ) (fun h => kf h p l e s m args below meth c D α τ H locs lsM hAt hL hP hS hJ)

theorem g_if_ne {x : Int32} {off : Int} {tgt : Nat} (hd : decode cc pc = .ok (.ifCond .ne off, 3)) (ht : (pc : Int) + off = (tgt : Int)) (kt : ¬ x = 0 → G d own cc nL ret Q tgt ls st Hp) (kf : x = 0 → G d own cc nL ret Q (pc + 3) ls st Hp) : G d own cc nL ret Q pc ls (.int x :: st) Hp := by
  intro p l e s m args below meth c D α τ H locs lsM hAt hL hP hS hJ
  exact lv_if_ne hAt.1 hAt.2.1 hd ht (fun h => kt h p l e s m args below meth c D α τ H locs lsM hAt hL hP hS hJ) (fun h => kf h p l e s m args below meth c D α τ H locs lsM hAt hL hP hS hJ)

theorem g_icmp_ne {x y : Int32} {off : Int} {tgt : Nat} (hd : decode cc pc = .ok (.if_icmp .ne off, 3)) (ht : (pc : Int) + off = (tgt : Int)) (kt : ¬ x = y → G d own cc nL ret Q tgt ls st Hp) (kf : x = y → G d own cc nL ret Q (pc + 3) ls st Hp) : G d own cc nL ret Q pc ls (.int y :: .int x :: st) Hp := by
  intro p l e s m args below meth c D α τ H locs lsM hAt hL hP hS hJ
  exact lv_icmp_ne hAt.1 hAt.2.1 hd ht (fun h => kt h p l e s m args below meth c D α τ H locs lsM hAt hL hP hS hJ) (fun h => kf h p l e s m args below meth c D α τ H locs lsM hAt hL hP hS hJ)

theorem g_if_lt {x : Int32} {off : Int} {tgt : Nat} (hd : decode cc pc = .ok (.ifCond .lt off, 3)) (ht : (pc : Int) + off = (tgt : Int)) (kt : x < 0 → G d own cc nL ret Q tgt ls st Hp) (kf : ¬ x < 0 → G d own cc nL ret Q (pc + 3) ls st Hp) : G d own cc nL ret Q pc ls (.int x :: st) Hp := by
  intro p l e s m args below meth c D α τ H locs lsM hAt hL hP hS hJ
  exact lv_if_lt hAt.1 hAt.2.1 hd ht (fun h => kt h p l e s m args below meth c D α τ H locs lsM hAt hL hP hS hJ) (fun h => kf h p l e s m args below meth c D α τ H locs lsM hAt hL hP hS hJ)

theorem g_icmp_lt {x y : Int32} {off : Int} {tgt : Nat} (hd : decode cc pc = .ok (.if_icmp .lt off, 3)) (ht : (pc : Int) + off = (tgt : Int)) (kt : x < y → G d own cc nL ret Q tgt ls st Hp) (kf : ¬ x < y → G d own cc nL ret Q (pc + 3) ls st Hp) : G d own cc nL ret Q pc ls (.int y :: .int x :: st) Hp := by
  intro p l e s m args below meth c D α τ H locs lsM hAt hL hP hS hJ
  exact lv_icmp_lt hAt.1 hAt.2.1 hd ht (fun h => kt h p l e s m args below meth c D α τ H locs lsM hAt hL hP hS hJ) (fun h => kf h p l e s m args below meth c D α τ H locs lsM hAt hL hP hS hJ)

theorem g_if_ge {x : Int32} {off : Int} {tgt : Nat} (hd : decode cc pc = .ok (.ifCond .ge off, 3)) (ht : (pc : Int) + off = (tgt : Int)) (kt : 0 ≤ x → G d own cc nL ret Q tgt ls st Hp) (kf : ¬ 0 ≤ x → G d own cc nL ret Q (pc + 3) ls st Hp) : G d own cc nL ret Q pc ls (.int x :: st) Hp := by
  intro p l e s m args below meth c D α τ H locs lsM hAt hL hP hS hJ
  exact lv_if_ge hAt.1 hAt.2.1 hd ht (fun h => kt h p l e s m args below meth c D α τ H locs lsM hAt hL hP hS hJ) (fun h => kf h p l e s m args below meth c D α τ H locs lsM hAt hL hP hS hJ)

theorem g_icmp_ge {x y : Int32} {off : Int} {tgt : Nat} (hd : decode cc pc = .ok (.if_icmp .ge off, 3)) (ht : (pc : Int) + off = (tgt : Int)) (kt : y ≤ x → G d own cc nL ret Q tgt ls st Hp) (kf : ¬ y ≤ x → G d own cc nL ret Q (pc + 3) ls st Hp) : G d own cc nL ret Q pc ls (.int y :: .int x :: st) Hp := by
  intro p l e s m args below meth c D α τ H locs lsM hAt hL hP hS hJ
  exact lv_icmp_ge hAt.1 hAt.2.1 hd ht (fun h => kt h p l e s m args below meth c D α τ H locs lsM hAt hL hP hS hJ) (fun h => kf h p l e s m args below meth c D α τ H locs lsM hAt hL hP hS hJ)

theorem g_if_gt {x : Int32} {off : Int} {tgt : Nat} (hd : decode cc pc = .ok (.ifCond .gt off, 3)) (ht : (pc : Int) + off = (tgt : Int)) (kt : 0 < x → G d own cc nL ret Q tgt ls st Hp) (kf : ¬ 0 < x → G d own cc nL ret Q (pc + 3) ls st Hp) : G d own cc nL ret Q pc ls (.int x :: st) Hp := by
  intro p l e s m args below meth c D α τ H locs lsM hAt hL hP hS hJ
  exact lv_if_gt hAt.1 hAt.2.1 hd ht (fun h => kt h p l e s m args below meth c D α τ H locs lsM hAt hL hP hS hJ) (fun h => kf h p l e s m args below meth c D α τ H locs lsM hAt hL hP hS hJ)

theorem g_icmp_gt {x y : Int32} {off : Int} {tgt : Nat} (hd : decode cc pc = .ok (.if_icmp .gt off, 3)) (ht : (pc : Int) + off = (tgt : Int)) (kt : y < x → G d own cc nL ret Q tgt ls st Hp) (kf : ¬ y < x → G d own cc nL ret Q (pc + 3) ls st Hp) : G d own cc nL ret Q pc ls (.int y :: .int x :: st) Hp := by
  intro p l e s m args below meth c D α τ H locs lsM hAt hL hP hS hJ
  exact lv_icmp_gt hAt.1 hAt.2.1 hd ht (fun h => kt h p l e s m args below meth c D α τ H locs lsM hAt hL hP hS hJ) (fun h => kf h p l e s m args below meth c D α τ H locs lsM hAt hL hP hS hJ)

theorem g_if_le {x : Int32} {off : Int} {tgt : Nat} (hd : decode cc pc = .ok (.ifCond .le off, 3)) (ht : (pc : Int) + off = (tgt : Int)) (kt : x ≤ 0 → G d own cc nL ret Q tgt ls st Hp) (kf : ¬ x ≤ 0 → G d own cc nL ret Q (pc + 3) ls st Hp) : G d own cc nL ret Q pc ls (.int x :: st) Hp := by
  intro p l e s m args below meth c D α τ H locs lsM hAt hL hP hS hJ
  exact lv_if_le hAt.1 hAt.2.1 hd ht (fun h => kt h p l e s m args below meth c D α τ H locs lsM hAt hL hP hS hJ) (fun h => kf h p l e s m args below meth c D α τ H locs lsM hAt hL hP hS hJ)

theorem g_icmp_le {x y : Int32} {off : Int} {tgt : Nat} (hd : decode cc pc = .ok (.if_icmp .le off, 3)) (ht : (pc : Int) + off = (tgt : Int)) (kt : x ≤ y → G d own cc nL ret Q tgt ls st Hp) (kf : ¬ x ≤ y → G d own cc nL ret Q (pc + 3) ls st Hp) : G d own cc nL ret Q pc ls (.int y :: .int x :: st) Hp := by
  intro p l e s m args below meth c D α τ H locs lsM hAt hL hP hS hJ
  exact lv_icmp_le hAt.1 hAt.2.1 hd ht (fun h => kt h p l e s m args below meth c D α τ H locs lsM hAt hL hP hS hJ) (fun h => kf h p l e s m args below meth c D α τ H locs lsM hAt hL hP hS hJ)

theorem g_tableIn {dflt lo hi : Int} {offs : Array Int} {len : Nat} {x : Int32} {off : Int} {tgt : Nat} (hd : decode cc pc = .ok (.tableswitch dflt lo hi offs, len)) (h1 : ¬ x.toInt < lo) (h2 : ¬ hi < x.toInt) (ho : offs[(x.toInt - lo).toNat]? = some off) (ht : (pc : Int) + off = (tgt : Int)) (k : G d own cc nL ret Q tgt ls st Hp) : G d own cc nL ret Q pc ls (.int x :: st) Hp := by
  intro p l e s m args below meth c D α τ H locs lsM hAt hL hP hS hJ
  exact lv_tableIn hAt.1 hAt.2.1 hd h1 h2 ho ht (k p l e s m args below meth c D α τ H locs lsM hAt hL hP hS hJ)
theorem g_tableOut {dflt lo hi : Int} {offs : Array Int} {len : Nat} {x : Int32} {tgt : Nat} (hd : decode cc pc = .ok (.tableswitch dflt lo hi offs, len)) (h : x.toInt < lo ∨ hi < x.toInt) (ht : (pc : Int) + dflt = (tgt : Int)) (k : G d own cc nL ret Q tgt ls st Hp) : G d own cc nL ret Q pc ls (.int x :: st) Hp := by
  intro p l e s m args below meth c D α τ H locs lsM hAt hL hP hS hJ
  exact lv_tableOut hAt.1 hAt.2.1 hd h ht (k p l e s m args below meth c D α τ H locs lsM hAt hL hP hS hJ)
theorem g_lookup {dflt : Int} {ps : Array (Int × Int)} {len : Nat} {x : Int32} {off : Int} {tgt : Nat} (hd : decode cc pc = .ok (.lookupswitch dflt ps, len)) (hp : (ps.toList.zip (ps.toList.drop 1)).all (fun (a, next) => a.1 < next.1) = true) (ho : Op.lookupswitch.offset ps.toList dflt x.toInt = off) (ht : (pc : Int) + off = (tgt : Int)) (k : G d own cc nL ret Q tgt ls st Hp) : G d own cc nL ret Q pc ls (.int x :: st) Hp := by
  intro p l e s m args below meth c D α τ H locs lsM hAt hL hP hS hJ
  exact lv_lookup hAt.1 hAt.2.1 hd hp ho ht (k p l e s m args below meth c D α τ H locs lsM hAt hL hP hS hJ)

theorem g_loc {ls' : List (Option Value)} (h : ∀ (i : Nat) (v : Value), ls'[i]? = some (some v) → ls[i]? = some (some v)) (k : G d own cc nL ret Q pc ls' st Hp) : G d own cc nL ret Q pc ls st Hp := by
  intro p l e s m args below meth c D α τ H locs lsM hAt hL hP hS hJ
  exact k p l e s m args below meth c D α τ H locs lsM hAt ⟨hL.1, hL.2.1, fun i v hv => hL.2.2 i v (h i v hv)⟩ hP hS hJ
theorem g_post {Q' : Option Value → m_H → Prop} (h : ∀ r Hp', Q' r Hp' → Q r Hp') (k : G d own cc nL ret Q' pc ls st Hp) : G d own cc nL ret Q pc ls st Hp := by
  intro p l e s m args below meth c D α τ H locs lsM hAt hL hP hS hJ
  intro T hT X
  obtain ⟨t, a, o, b1, b2, ⟨r, Hp', q1, q2, q3⟩, b4⟩ := k p l e s m args below meth c D α τ H locs lsM hAt hL hP hS hJ T hT X
  exact ⟨t, a, o, b1, b2, ⟨r, Hp', q1, h _ _ q2, q3⟩, b4⟩

theorem g_iald {a N : Nat} {f : Nat → Int32} {i : Int32} (hd : decode cc pc = .ok (.iaload, 1)) (ha : m_ar Hp a = some (N, f)) (hin : vp_in i N) (k : G d own cc nL ret Q (pc + 1) ls (.int (f i.toNatClampNeg) :: st) Hp) : G d own cc nL ret Q pc ls (.int i :: .ref a :: st) Hp := by
  intro p l e s m args below meth c D α τ H locs lsM hAt hL hP hS hJ
  have hRo := hAt.2.2.2.2.2.2.2.2.1
  have kk := (k p l e s m args below meth c D α τ H locs lsM hAt hL hP hS hJ)
  unfold m_ar at ha
  split at ha
  · rename_i h0
    subst h0
    cases ha
    exact va_ti hAt.1 hAt.2.1 hRo.1.2 hS hin rfl hd kk
  · split at ha
    · rename_i h0
      subst h0
      cases ha
      exact va_ti hAt.1 hAt.2.1 hRo.2.1.2 hS hin rfl hd kk
    · split at ha
      · rename_i h0
        subst h0
        cases ha
        exact va_ti hAt.1 hAt.2.1 hRo.2.2.1.2 hS hin rfl hd kk
      · split at ha
        · rename_i n g hg
          cases ha
          have hlt := m_lt hJ hg (by intro z; cases z)
          exact va_iald hAt.1 hAt.2.1 hAt.2.2.2.2.2.2.2.1 hP a 0 (cA := τ .int) (by rw [m_w_at hlt, hg]; rfl) rfl hin hd kk
        · cases ha
theorem g_ilen {a N : Nat} {f : Nat → Int32} {v : Int32} (hd : decode cc pc = .ok (.arraylength, 1)) (ha : m_ar Hp a = some (N, f)) (hv : Int32.ofNat N = v) (k : G d own cc nL ret Q (pc + 1) ls (.int v :: st) Hp) : G d own cc nL ret Q pc ls (.ref a :: st) Hp := by
  intro p l e s m args below meth c D α τ H locs lsM hAt hL hP hS hJ
  have hRo := hAt.2.2.2.2.2.2.2.2.1
  have kk := (k p l e s m args below meth c D α τ H locs lsM hAt hL hP hS hJ)
  unfold m_ar at ha
  split at ha
  · rename_i h0
    subst h0
    cases ha
    exact va_tlen hAt.1 hAt.2.1 hRo.1.2 hS hv hd kk
  · split at ha
    · rename_i h0
      subst h0
      cases ha
      exact va_tlen hAt.1 hAt.2.1 hRo.2.1.2 hS hv hd kk
    · split at ha
      · rename_i h0
        subst h0
        cases ha
        exact va_tlen hAt.1 hAt.2.1 hRo.2.2.1.2 hS hv hd kk
      · split at ha
        · rename_i n g hg
          cases ha
          have hlt := m_lt hJ hg (by intro z; cases z)
          exact va_alen hAt.1 hAt.2.1 hAt.2.2.2.2.2.2.2.1 hP a 0 (cA := τ .int) (x := (N, .inl f)) (by rw [m_w_at hlt, hg]; rfl) (ty := .int) rfl hv hd kk
        · cases ha
theorem g_llen {a : Nat} {x : vp_A} {v : Int32} (hd : decode cc pc = .ok (.arraylength, 1)) (ha : Hp a = .inl (.long, x)) (hv : Int32.ofNat x.1 = v) (k : G d own cc nL ret Q (pc + 1) ls (.int v :: st) Hp) : G d own cc nL ret Q pc ls (.ref a :: st) Hp := by
  intro p l e s m args below meth c D α τ H locs lsM hAt hL hP hS hJ
  have hlt := m_lt hJ ha (by intro z; cases z)
  exact va_alen hAt.1 hAt.2.1 hAt.2.2.2.2.2.2.2.1 hP a 1 (cA := τ .long) (x := x) (by rw [m_w_at hlt, ha]; rfl) (ty := .long) rfl hv hd (k p l e s m args below meth c D α τ H locs lsM hAt hL hP hS hJ)
theorem g_lald {a N : Nat} {f : Nat → Int64} {i : Int32} (hd : decode cc pc = .ok (.laload, 1)) (ha : Hp a = .inl (.long, (N, .inr (.inl f)))) (hin : vp_in i N) (k : G d own cc nL ret Q (pc + 1) ls (.long (f i.toNatClampNeg) :: st) Hp) : G d own cc nL ret Q pc ls (.int i :: .ref a :: st) Hp := by
  intro p l e s m args below meth c D α τ H locs lsM hAt hL hP hS hJ
  have hlt := m_lt hJ ha (by intro z; cases z)
  exact va_lald hAt.1 hAt.2.1 hAt.2.2.2.2.2.2.2.1 hP a 1 (cA := τ .long) (by rw [m_w_at hlt, ha]; rfl) rfl hin hd (k p l e s m args below meth c D α τ H locs lsM hAt hL hP hS hJ)
theorem g_zald {a N : Nat} {f : Nat → Int32} {i : Int32} (hd : decode cc pc = .ok (.baload, 1)) (ha : Hp a = .inl (.boolean, (N, .inl f))) (hin : vp_in i N) (k : G d own cc nL ret Q (pc + 1) ls (.int (f i.toNatClampNeg) :: st) Hp) : G d own cc nL ret Q pc ls (.int i :: .ref a :: st) Hp := by
  intro p l e s m args below meth c D α τ H locs lsM hAt hL hP hS hJ
  have hlt := m_lt hJ ha (by intro z; cases z)
  exact va_zald hAt.1 hAt.2.1 hAt.2.2.2.2.2.2.2.1 hP a 2 (cA := τ .boolean) (by rw [m_w_at hlt, ha]; rfl) rfl hin hd (k p l e s m args below meth c D α τ H locs lsM hAt hL hP hS hJ)

theorem g_iast {a N : Nat} {f : Nat → Int32} {i : Int32} {x : Int32} (hd : decode cc pc = .ok (.iastore, 1)) (ha : Hp a = .inl (.int, (N, (.inl f)))) (hin : vp_in i N) (k : G d own cc nL ret Q (pc + 1) ls st (m_set Hp a (.inl (.int, (N, (.inl (upd f i.toNatClampNeg x))))))) : G d own cc nL ret Q pc ls (.int x :: .int i :: .ref a :: st) Hp := by
  intro p l e s m args below meth c D α τ H locs lsM hAt hL hP hS hJ
  have hlt := m_lt hJ ha (by intro z; cases z)
  refine va_iast hAt.1 hAt.2.1 hAt.2.2.2.2.2.2.2.1 hP (m_D hAt.2.2.2.2.2.2.2.2.2) hS a 0 (cA := τ .int) (by rw [m_w_at hlt, ha]; rfl) rfl hin hd (fun H1 locs1 hP1 hD1 hS1 => ?_)
  exact k p l e s m args below meth c D α τ H1 locs1 lsM hAt hL ((m_w_set (x := (.inl (.int, (N, (.inl (upd f i.toNatClampNeg x)))) : m_E)) hlt) ▸ hP1) hS1 (m_jk_set hJ hlt)

theorem g_last {a N : Nat} {f : Nat → Int64} {i : Int32} {x : Int64} (hd : decode cc pc = .ok (.lastore, 1)) (ha : Hp a = .inl (.long, (N, (.inr (.inl f))))) (hin : vp_in i N) (k : G d own cc nL ret Q (pc + 1) ls st (m_set Hp a (.inl (.long, (N, (.inr (.inl (vp_updL f i.toNatClampNeg x)))))))) : G d own cc nL ret Q pc ls (.long x :: .int i :: .ref a :: st) Hp := by
  intro p l e s m args below meth c D α τ H locs lsM hAt hL hP hS hJ
  have hlt := m_lt hJ ha (by intro z; cases z)
  refine va_last hAt.1 hAt.2.1 hAt.2.2.2.2.2.2.2.1 hP (m_D hAt.2.2.2.2.2.2.2.2.2) hS a 1 (cA := τ .long) (by rw [m_w_at hlt, ha]; rfl) rfl hin hd (fun H1 locs1 hP1 hD1 hS1 => ?_)
  exact k p l e s m args below meth c D α τ H1 locs1 lsM hAt hL ((m_w_set (x := (.inl (.long, (N, (.inr (.inl (vp_updL f i.toNatClampNeg x))))) : m_E)) hlt) ▸ hP1) hS1 (m_jk_set hJ hlt)

theorem g_zast {a N : Nat} {f : Nat → Int32} {i : Int32} {x : Int32} (hd : decode cc pc = .ok (.bastore, 1)) (ha : Hp a = .inl (.boolean, (N, (.inl f)))) (hin : vp_in i N) (k : G d own cc nL ret Q (pc + 1) ls st (m_set Hp a (.inl (.boolean, (N, (.inl (upd f i.toNatClampNeg (vp_nar .boolean x)))))))) : G d own cc nL ret Q pc ls (.int x :: .int i :: .ref a :: st) Hp := by
  intro p l e s m args below meth c D α τ H locs lsM hAt hL hP hS hJ
  have hlt := m_lt hJ ha (by intro z; cases z)
  refine va_zast hAt.1 hAt.2.1 hAt.2.2.2.2.2.2.2.1 hP (m_D hAt.2.2.2.2.2.2.2.2.2) hS a 2 (cA := τ .boolean) (by rw [m_w_at hlt, ha]; rfl) rfl hin hd (fun H1 locs1 hP1 hD1 hS1 => ?_)
  exact k p l e s m args below meth c D α τ H1 locs1 lsM hAt hL ((m_w_set (x := (.inl (.boolean, (N, (.inl (upd f i.toNatClampNeg (vp_nar .boolean x))))) : m_E)) hlt) ▸ hP1) hS1 (m_jk_set hJ hlt)

/-- a field that the code of a class names by a place of its pool -/
def FL (own : String) (idx ci kf : Nat) : Prop := ∃ (C : String) (T : u_T) (N : Nat), m_cl[ci]? = some (C, T, N) ∧ kf < N ∧ (∀ w ∈ u_ws C T N, w ∈ m_T) ∧ (T kf).1 = C ∧ (Cond.fieldLink own idx C (T kf).2.1 (T kf).2.2.1 ∈ m_T ∨ ∃ host, Cond.fieldLinkNest own idx C (T kf).2.1 (T kf).2.2.1 host ∈ m_N)
def FW (own : String) (idx ci kf : Nat) (ty : FieldType) : Prop := ∃ (C : String) (T : u_T) (N : Nat) (ty0 : Nat → FieldType), m_cl[ci]? = some (C, T, N) ∧ kf < N ∧ (∀ w ∈ u_ws C T N, w ∈ m_T) ∧ (T kf).1 = C ∧ (Cond.fieldLink own idx C (T kf).2.1 (T kf).2.2.1 ∈ m_T ∨ ∃ host, Cond.fieldLinkNest own idx C (T kf).2.1 (T kf).2.2.1 host ∈ m_N) ∧
  (∀ k, k < N → parseFieldDescriptor (T k).2.2.1 = some (ty0 k)) ∧ (∀ a, a < N → ∀ b, b < N → a ≠ b → (T a).2.1 ≠ (T b).2.1) ∧ (T kf).2.2.2 = false ∧ parseFieldDescriptor (T kf).2.2.1 = some ty
theorem g_get {idx ci kf a : Nat} {fs : List Value} {v : Value} (hd : decode cc pc = .ok (.getfield idx, 3)) (hf : FL own idx ci kf) (ho : Hp a = .inr (ci, fs)) (hv : fs[kf]? = some v) (k : G d own cc nL ret Q (pc + 3) ls (v :: st) Hp) : G d own cc nL ret Q pc ls (.ref a :: st) Hp := by
  intro p l e s m args below meth c D α τ H locs lsM hAt hL hP hS hJ
  obtain ⟨C, T, N, hc, hk, hin, hT1, hl⟩ := hf
  have hlt : a < m_NW := m_lt hJ ho (by rintro z; cases z; rcases List.getElem?_eq_some_iff.mp hc with ⟨q, -⟩; exact absurd q (by decide))
  have hts := hAt.2.2.2.2.2.1
  have he : (m_w α τ Hp)[a]? = some (α a, .inr (ci, fs.map (m_v α))) := by rw [m_w_at hlt, ho]; rfl
  have hv' : (fs.map (m_v α))[kf]? = some (m_v α v) := by rw [List.getElem?_map, hv]; rfl
  have hsm : ∀ x, s.fieldFound? (T kf).1 (T kf).2.1 (T kf).2.2.1 = some x → s.fieldFound? C (T kf).2.1 (T kf).2.2.1 = some x := fun x h => by rw [← hT1]; exact h
  rcases hl with hl | ⟨host, hl⟩
  · exact va_get hAt.1 hAt.2.1 hts hin hAt.2.2.2.2.1 hAt.2.2.2.2.2.2.2.1 hP a he hc kf hk (hts _ hl) hsm hv' hd (k p l e s m args below meth c D α τ H locs lsM hAt hL hP hS hJ)
  · exact va_getN hAt.1 hAt.2.1 hts hin hAt.2.2.2.2.1 hAt.2.2.2.2.2.2.2.1 hP a he hc kf hk (va_Nw.use rfl (hAt.2.2.2.2.2.2.2.2.1.2.2.2.2.2 _ hl)) hsm hv' hd (k p l e s m args below meth c D α τ H locs lsM hAt hL hP hS hJ)
theorem g_put {idx ci kf a : Nat} {ty : FieldType} {fs : List Value} {v : Value} (hd : decode cc pc = .ok (.putfield idx, 3)) (hf : FW own idx ci kf ty) (ho : Hp a = .inr (ci, fs)) (hr : ∀ α, m_v α v = v) (hn : narrow ty v = v) (hfit : fits ty v = true) (hlen : kf < fs.length) (k : G d own cc nL ret Q (pc + 3) ls st (m_set Hp a (.inr (ci, fs.set kf v)))) : G d own cc nL ret Q pc ls (v :: .ref a :: st) Hp := by
  intro p l e s m args below meth c D α τ H locs lsM hAt hL hP hS hJ
  obtain ⟨C, T, N, ty0, hc, hk, hin, hT1, hl, hty, hnm, hfin, hdd⟩ := hf
  have hlt : a < m_NW := m_lt hJ ho (by rintro z; cases z; rcases List.getElem?_eq_some_iff.mp hc with ⟨q, -⟩; exact absurd q (by decide))
  have hts := hAt.2.2.2.2.2.1
  have he : (m_w α τ Hp)[a]? = some (α a, .inr (ci, fs.map (m_v α))) := by rw [m_w_at hlt, ho]; rfl
  have hsm : ∀ x, s.fieldFound? (T kf).1 (T kf).2.1 (T kf).2.2.1 = some x → s.fieldFound? C (T kf).2.1 (T kf).2.2.1 = some x := fun x h => by rw [← hT1]; exact h
  have hw : (m_w α τ Hp).set a (α a, .inr (ci, (fs.map (m_v α)).set kf (m_v α v))) = m_w α τ (m_set Hp a (.inr (ci, fs.set kf v))) := by
    rw [← m_w_set (x := (.inr (ci, fs.set kf v) : m_E)) hlt]
    show _ = (m_w α τ Hp).set a (α a, .inr (ci, (fs.set kf v).map (m_v α)))
    rw [List.map_set]
  have hn' : narrow ty (m_v α v) = m_v α v := by rw [hr]; exact hn
  have hfit' : fits ty (m_v α v) = true := by rw [hr]; exact hfit
  have kk : ∀ (H1 : Heap) (locs1 : List Loc), va_P D m_cl ((m_w α τ Hp).set a (α a, .inr (ci, (fs.map (m_v α)).set kf (m_v α v)))) H1 → va_D (m_A α) ((m_w α τ Hp).set a (α a, .inr (ci, (fs.map (m_v α)).set kf (m_v α v)))) → va_S (m_A α) s.heap H1 locs1 → W p l e (m_rm d) s m args below meth c H1 locs1 0 0 (MQ below (m_Q D α τ Q) args s 0 0 (m_A α)) (F0 m (pc + 3) lsM (st.map (m_v α))) := fun H1 locs1 hP1 hD1 hS1 => k p l e s m args below meth c D α τ H1 locs1 lsM hAt hL (hw ▸ hP1) hS1 (m_jk_set hJ hlt)
  rcases hl with hl | ⟨host, hl⟩
  · exact va_put hAt.1 hAt.2.1 hts hin ty0 hty hnm hAt.2.2.2.2.1 hAt.2.2.2.2.2.2.2.1 hP (m_D hAt.2.2.2.2.2.2.2.2.2) hS a he hc kf hk (hts _ hl) hsm hfin hdd hn' hfit' (by rw [List.length_map]; exact hlen) hd kk
  · exact va_putN hAt.1 hAt.2.1 hts hin ty0 hty hnm hAt.2.2.2.2.1 hAt.2.2.2.2.2.2.2.1 hP (m_D hAt.2.2.2.2.2.2.2.2.2) hS a he hc kf hk (va_Nw.use rfl (hAt.2.2.2.2.2.2.2.2.1.2.2.2.2.2 _ hl)) hsm hfin hdd hn' hfit' (by rw [List.length_map]; exact hlen) hd kk
theorem g_puti {idx ci kf a : Nat} {fs : List Value} {x : Int32} (hd : decode cc pc = .ok (.putfield idx, 3)) (hf : FW own idx ci kf .int) (ho : Hp a = .inr (ci, fs)) (hlen : kf < fs.length) (k : G d own cc nL ret Q (pc + 3) ls st (m_set Hp a (.inr (ci, fs.set kf (.int x))))) : G d own cc nL ret Q pc ls (.int x :: .ref a :: st) Hp :=
  g_put hd hf ho (fun _ => rfl) rfl rfl hlen k
theorem g_putl {idx ci kf a : Nat} {fs : List Value} {x : Int64} (hd : decode cc pc = .ok (.putfield idx, 3)) (hf : FW own idx ci kf .long) (ho : Hp a = .inr (ci, fs)) (hlen : kf < fs.length) (k : G d own cc nL ret Q (pc + 3) ls st (m_set Hp a (.inr (ci, fs.set kf (.long x))))) : G d own cc nL ret Q pc ls (.long x :: .ref a :: st) Hp :=
  g_put hd hf ho (fun _ => rfl) rfl rfl hlen k
theorem g_putz {idx ci kf a : Nat} {fs : List Value} {x : Int32} (hd : decode cc pc = .ok (.putfield idx, 3)) (hf : FW own idx ci kf .boolean) (ho : Hp a = .inr (ci, fs)) (hx : x = 0 ∨ x = 1) (hlen : kf < fs.length) (k : G d own cc nL ret Q (pc + 3) ls st (m_set Hp a (.inr (ci, fs.set kf (.int x))))) : G d own cc nL ret Q pc ls (.int x :: .ref a :: st) Hp := by
  rcases hx with rfl | rfl
  · exact g_put hd hf ho (fun _ => rfl) (by decide +kernel) (by decide +kernel) hlen k
  · exact g_put hd hf ho (fun _ => rfl) (by decide +kernel) (by decide +kernel) hlen k

theorem g_ldc {idx : Nat} {v : Int32} (hd : decode cc pc = .ok (.ldc idx, 2)) (hc : Cond.constant own idx v ∈ m_T) (k : G d own cc nL ret Q (pc + 2) ls (.int v :: st) Hp) : G d own cc nL ret Q pc ls st Hp := by
  intro p l e s m args below meth c D α τ H locs lsM hAt hL hP hS hJ
  exact lv_ldc hAt.1 hAt.2.1 hAt.2.2.2.2.1 (hAt.2.2.2.2.2.1 _ hc) hd (k p l e s m args below meth c D α τ H locs lsM hAt hL hP hS hJ)
theorem g_ldc2 {idx : Nat} {v : Int64} (hd : decode cc pc = .ok (.ldc2_w idx, 3)) (hc : Cond.constantLong own idx v ∈ m_T) (k : G d own cc nL ret Q (pc + 3) ls (.long v :: st) Hp) : G d own cc nL ret Q pc ls st Hp := by
  intro p l e s m args below meth c D α τ H locs lsM hAt hL hP hS hJ
  exact lv_ldc2 hAt.1 hAt.2.1 hAt.2.2.2.2.1 (hAt.2.2.2.2.2.1 _ hc) hd (k p l e s m args below meth c D α τ H locs lsM hAt hL hP hS hJ)
theorem g_ldcS {idx i : Nat} {tx : String} (hd : decode cc pc = .ok (.ldc idx, 2)) (hi : i < 5) (hs : m_so i = (own, idx, tx)) (k : G d own cc nL ret Q (pc + 2) ls (.ref (2000 + i) :: st) Hp) : G d own cc nL ret Q pc ls st Hp := by
  intro p l e s m args below meth c D α τ H locs lsM hAt hL hP hS hJ
  have h := hAt.2.2.2.2.2.2.2.2.1.2.2.2.2.1 i hi
  rw [hs] at h
  exact va_ldcS hAt.1 hAt.2.1 hAt.2.2.2.2.1 h hd (k p l e s m args below meth c D α τ H locs lsM hAt hL hP hS hJ)
theorem g_gets {idx a : Nat} {n : String} (hd : decode cc pc = .ok (.getstatic idx, 3)) (hl : Cond.fieldLink own idx RX6 n "[I" ∈ m_T) (hn : (n = "USUAL" ∧ a = 1000) ∨ (n = "LOWEST" ∧ a = 1001) ∨ (n = "HIGHEST" ∧ a = 1002)) (k : G d own cc nL ret Q (pc + 3) ls (.ref a :: st) Hp) : G d own cc nL ret Q pc ls st Hp := by
  intro p l e s m args below meth c D α τ H locs lsM hAt hL hP hS hJ
  have hRo := hAt.2.2.2.2.2.2.2.2.1
  have hl' := hAt.2.2.2.2.2.1 _ hl
  rcases hn with ⟨rfl, rfl⟩ | ⟨rfl, rfl⟩ | ⟨rfl, rfl⟩
  · exact va_gets hAt.1 hAt.2.1 hRo.1.1 hS hAt.2.2.2.2.1 hl' (fun _ h => h) hd (k p l e s m args below meth c D α τ H locs lsM hAt hL hP hS hJ)
  · exact va_gets hAt.1 hAt.2.1 hRo.2.1.1 hS hAt.2.2.2.2.1 hl' (fun _ h => h) hd (k p l e s m args below meth c D α τ H locs lsM hAt hL hP hS hJ)
  · exact va_gets hAt.1 hAt.2.1 hRo.2.2.1.1 hS hAt.2.2.2.2.1 hl' (fun _ h => h) hd (k p l e s m args below meth c D α τ H locs lsM hAt hL hP hS hJ)

theorem g_iret {x : Int32} (hd : decode cc pc = .ok (.ireturn, 1)) (hq : Q (some (.int x)) Hp) : G d own cc nL (some .int) Q pc ls [.int x] Hp := by
  intro p l e s m args below meth c D α τ H locs lsM hAt hL hP hS hJ
  exact W.iret hAt.1 hAt.2.1 hAt.2.2.2.1 (fun t ht hw => ⟨some (.int x), Hp, rfl, hq, hJ, ht ▸ hP, hS.F ht⟩) hS.2.2 hd hAt.2.2.2.2.2.2.1

theorem g_lret {x : Int64} (hd : decode cc pc = .ok (.lreturn, 1)) (hq : Q (some (.long x)) Hp) : G d own cc nL (some .long) Q pc ls [.long x] Hp := by
  intro p l e s m args below meth c D α τ H locs lsM hAt hL hP hS hJ
  exact W.lret hAt.1 hAt.2.1 hAt.2.2.2.1 (fun t ht hw => ⟨some (.long x), Hp, rfl, hq, hJ, ht ▸ hP, hS.F ht⟩) hS.2.2 hd hAt.2.2.2.2.2.2.1

theorem g_vret (hd : decode cc pc = .ok (.return_, 1)) (hq : Q none Hp) : G d own cc nL none Q pc ls [] Hp := by
  intro p l e s m args below meth c D α τ H locs lsM hAt hL hP hS hJ
  exact W.vret hAt.1 hAt.2.1 hAt.2.2.2.1 (fun t ht hw => ⟨none, Hp, rfl, hq, hJ, ht ▸ hP, hS.F ht⟩) hS.2.2 hd hAt.2.2.2.2.2.2.1

theorem g_zret {x : Int32} (hx : x = 0 ∨ x = 1) (hd : decode cc pc = .ok (.ireturn, 1)) (hq : Q (some (.int x)) Hp) : G d own cc nL (some .boolean) Q pc ls [.int x] Hp := by
  intro p l e s m args below meth c D α τ H locs lsM hAt hL hP hS hJ
  exact W.zret hAt.1 hAt.2.1 hAt.2.2.2.1 (by rcases hx with rfl | rfl <;> decide +kernel) (fun t ht hw => ⟨some (.int x), Hp, rfl, hq, hJ, ht ▸ hP, hS.F ht⟩) hS.2.2 hd hAt.2.2.2.2.2.2.1

theorem g_aret {C : String} {a : Nat} (hd : decode cc pc = .ok (.areturn, 1)) (hq : Q (some (.ref a)) Hp) : G d own cc nL (some (.object C)) Q pc ls [.ref a] Hp := by
  intro p l e s m args below meth c D α τ H locs lsM hAt hL hP hS hJ
  exact W.aret hAt.1 hAt.2.1 hAt.2.2.2.1 (Or.inl ⟨C, rfl⟩) (Or.inr ⟨α a, rfl⟩) (fun t ht hw => ⟨some (.ref a), Hp, rfl, hq, hJ, ht ▸ hP, hS.F ht⟩) hS.2.2 hd hAt.2.2.2.2.2.2.1

theorem g_max {idx : Nat} {x y : Int32} (hd : decode cc pc = .ok (.invokestatic idx, 3)) (h1 : Cond.methodLink own idx Lib.Math.max.name ∈ m_T) (h2 : Cond.static Lib.Math.max.name ∈ m_T) (h3 : Cond.initialized "java/lang/Math" ∈ m_T) (h4 : Cond.code Lib.Math.max.name Lib.Math.max.code 2 (some .int) ∈ m_T) (hdp : 1 ≤ d) (hr : (st.map fun v => v.category).sum ≤ 20) (k : G d own cc nL ret Q (pc + 3) ls (.int (if x < y then y else x) :: st) Hp) : G d own cc nL ret Q pc ls (.int y :: .int x :: st) Hp := by
  intro p l e s m args below meth c D α τ H locs lsM hAt hL hP hS hJ
  have hts := hAt.2.2.2.2.2.1
  exact va_mmax hAt.1 hAt.2.1 (hAt.2.2.1.trans hL.1.symm) hAt.2.2.2.2.1 (hts _ h1) (hts _ h2) (hts _ h3) (hts _ h4) hdp (by rw [m_cat_sum]; show _ ≤ 40 * d + 20; omega) (Nat.le_refl 0 |> fun _ => Nat.zero_le _) (Nat.zero_le _) hd (k p l e s m args below meth c D α τ H locs lsM hAt hL hP hS hJ)

theorem g_min {idx : Nat} {x y : Int32} (hd : decode cc pc = .ok (.invokestatic idx, 3)) (h1 : Cond.methodLink own idx Lib.Math.min.name ∈ m_T) (h2 : Cond.static Lib.Math.min.name ∈ m_T) (h3 : Cond.initialized "java/lang/Math" ∈ m_T) (h4 : Cond.code Lib.Math.min.name Lib.Math.min.code 2 (some .int) ∈ m_T) (hdp : 1 ≤ d) (hr : (st.map fun v => v.category).sum ≤ 20) (k : G d own cc nL ret Q (pc + 3) ls (.int (if y < x then y else x) :: st) Hp) : G d own cc nL ret Q pc ls (.int y :: .int x :: st) Hp := by
  intro p l e s m args below meth c D α τ H locs lsM hAt hL hP hS hJ
  have hts := hAt.2.2.2.2.2.1
  exact va_mmin hAt.1 hAt.2.1 (hAt.2.2.1.trans hL.1.symm) hAt.2.2.2.2.1 (hts _ h1) (hts _ h2) (hts _ h3) (hts _ h4) hdp (by rw [m_cat_sum]; show _ ≤ 40 * d + 20; omega) (Nat.le_refl 0 |> fun _ => Nat.zero_le _) (Nat.zero_le _) hd (k p l e s m args below meth c D α τ H locs lsM hAt hL hP hS hJ)

theorem g_maxl {idx : Nat} {x y : Int64} (hd : decode cc pc = .ok (.invokestatic idx, 3)) (h1 : Cond.methodLink own idx Lib.MathLoose.max_long.x ∈ m_T) (h2 : Cond.static Lib.MathLoose.max_long.x ∈ m_T) (h3 : Cond.initialized "java/lang/Math" ∈ m_T) (h4 : Cond.code Lib.MathLoose.max_long.x Lib.MathLoose.max_long.code 4 (some .long) ∈ m_T) (hdp : 1 ≤ d) (hr : (st.map fun v => v.category).sum ≤ 20) (k : G d own cc nL ret Q (pc + 3) ls (.long (if y < x then x else y) :: st) Hp) : G d own cc nL ret Q pc ls (.long y :: .long x :: st) Hp := by
  intro p l e s m args below meth c D α τ H locs lsM hAt hL hP hS hJ
  have hts := hAt.2.2.2.2.2.1
  exact va_mmax_long hAt.1 hAt.2.1 (hAt.2.2.1.trans hL.1.symm) hAt.2.2.2.2.1 (hts _ h1) (hts _ h2) (hts _ h3) (hts _ h4) hdp (by rw [m_cat_sum]; show _ ≤ 40 * d + 20; omega) (Nat.le_refl 0 |> fun _ => Nat.zero_le _) (Nat.zero_le _) hd (k p l e s m args below meth c D α τ H locs lsM hAt hL hP hS hJ)

theorem g_minl {idx : Nat} {x y : Int64} (hd : decode cc pc = .ok (.invokestatic idx, 3)) (h1 : Cond.methodLink own idx Lib.MathLoose.min_long.x ∈ m_T) (h2 : Cond.static Lib.MathLoose.min_long.x ∈ m_T) (h3 : Cond.initialized "java/lang/Math" ∈ m_T) (h4 : Cond.code Lib.MathLoose.min_long.x Lib.MathLoose.min_long.code 4 (some .long) ∈ m_T) (hdp : 1 ≤ d) (hr : (st.map fun v => v.category).sum ≤ 20) (k : G d own cc nL ret Q (pc + 3) ls (.long (if y < x then y else x) :: st) Hp) : G d own cc nL ret Q pc ls (.long y :: .long x :: st) Hp := by
  intro p l e s m args below meth c D α τ H locs lsM hAt hL hP hS hJ
  have hts := hAt.2.2.2.2.2.1
  exact va_mmin_long hAt.1 hAt.2.1 (hAt.2.2.1.trans hL.1.symm) hAt.2.2.2.2.1 (hts _ h1) (hts _ h2) (hts _ h3) (hts _ h4) hdp (by rw [m_cat_sum]; show _ ≤ 40 * d + 20; omega) (Nat.le_refl 0 |> fun _ => Nat.zero_le _) (Nat.zero_le _) hd (k p l e s m args below meth c D α τ H locs lsM hAt hL hP hS hJ)

/-- a call that the code of a class names by a place of its pool -/
def CL (own : String) (idx : Nat) (y : MethodName) : Prop := Cond.methodLink own idx y ∈ m_T ∨ ∃ host, Cond.methodLinkNest own idx y host ∈ m_N
def CY (y : MethodName) (cc : ByteArray) (nL : Nat) (ret : Option FieldType) (n : Nat) : Prop := Cond.initialized y.cls ∈ m_T ∧ Cond.code y cc nL ret ∈ m_T ∧ (y.cls ≠ "java/lang/invoke/MethodHandle" ∧ y.cls ≠ "java/lang/invoke/VarHandle" ∧ (parseMethodDescriptor y.desc).map (fun q => q.parameters.length) = some n) ∧ nL ≤ 20
def CS (own : String) (idx : Nat) (y : MethodName) (cc : ByteArray) (nL : Nat) (ret : Option FieldType) (n : Nat) : Prop := CL own idx y ∧ CY y cc nL ret n ∧ Cond.static y ∈ m_T
def CV (own : String) (idx : Nat) (y : MethodName) (cc : ByteArray) (nL : Nat) (ret : Option FieldType) (n ci : Nat) : Prop := CL own idx y ∧ CY y cc nL ret n ∧ Cond.instanceMethod y ∈ m_T ∧ Cond.selects y.cls y y ∈ m_T ∧ ∃ q, m_cl[ci]? = some q ∧ q.1 = y.cls

theorem g_callS {idx d' n : Nat} {y : MethodName} {cc' : ByteArray} {nL' : Nat} {ret' : Option FieldType} {as rest : List Value} {Q' : Option Value → m_H → Prop} (hd : decode cc pc = .ok (.invokestatic idx, 3)) (hL0 : CS own idx y cc' nL' ret' n) (hC : Con d' y cc' nL' ret' as Hp Q') (hdd : d' + 1 ≤ d) (hn : as.length = n) (hst : st = as.reverse ++ rest) (hr : (rest.map fun v => v.category).sum ≤ 8) (k : ∀ r Hp', Q' r Hp' → G d own cc nL ret Q (pc + 3) ls (r.toList ++ rest) Hp') : G d own cc nL ret Q pc ls st Hp := by
  obtain ⟨hlink, ⟨HI, HC, ⟨hy1, hy2, hy3⟩, hnl⟩, hstat⟩ := hL0
  intro p l e s m args below meth c D α τ H locs lsM hAt hL hP hS hJ
  obtain ⟨hx, hb, hml, hrt, ho, hts, hlk, hK, hRo, hi⟩ := id hAt
  have hM := hC l D α τ hi
  have hin' : Cond.code y cc' nL' ret' ∈ m_T := HC
  have hini : (Cond.initialized y.cls).before args s = true := hts _ HI
  have hK8 : Back l (m_rm d) p e below s args y 3 8 (PreOf (m_rm d) 0 0 (m_Pc D α τ as Hp)) (PostOf (m_Q D α τ Q') 0 0 (m_A α)) := back_of (bytes := cc') (maxL := nL') (ret := ret') hM m_blind rfl rfl (by show d' + 1 ≤ d; exact hdd) (by show 8 + (nL' + 11) + (40 * d' + 20) ≤ 40 * d + 20; omega) (pay_in hts (m_goodIn hin')) List.mem_cons_self (fun a' U hW => word_at hW (Or.inl (by first | rfl | simp [Cond.onTables, Cond.keeps, Cond.steady])) hini)
  subst hst
  intro T hT X
  have hpre : ∀ vm₁, s.WarmedH vm₁ → PreOf (m_rm d) 0 0 (m_Pc D α τ as Hp) ⟨T.setVm vm₁, locs, 0, 0⟩ (as.map (m_v α)).toArray := fun vm₁ hW₁ => by
    refine ⟨Nat.le_refl _, Nat.le_refl _, rfl, hJ, hT ▸ hP, va_K.moved (u := s) (U := T.setVm vm₁) hW₁.alike hK, ?_⟩
    have h1 : m_Ro α (m_A α) s T.heap := hRo.kept (fun q h2 h3 => by rw [hT]; exact hS.2.1 q h2 h3)
    exact m_Ro.warm (U := T.setVm vm₁) hW₁ h1
  have hlen : ∀ sig, parseMethodDescriptor y.desc = some sig → (as.map (m_v α)).length = sig.parameters.length := fun sig h => by
    rw [h] at hy3
    rw [List.length_map, hn]
    exact (Option.some.inj hy3).symm
  have hstk : (F0 m pc lsM ((as.reverse ++ rest).map (m_v α))).stack = (as.map (m_v α)).reverse ++ rest.map (m_v α) := by
    show (as.reverse ++ rest).map (m_v α) = _
    rw [List.map_append, List.map_reverse]
  have hW : 2 * (F0 m pc lsM ((as.reverse ++ rest).map (m_v α))).monitorRoom + ((rest.map (m_v α)).map fun v => v.category).sum ≤ 8 := lv_room (by rw [m_cat_sum]; exact hr)
  rcases hlink with hlink | ⟨host, hlink⟩
  · obtain ⟨v, vm₁, ⟨U', l2, c2, s2⟩, hW₁, X', ⟨g', mk, t, L, e1, e2, hq, h1, hL2, h2, h3⟩, st'⟩ := callS X hx (bytes := cc') (maxL := nL') (ret := ret') ho (hts _ hlink) (hts _ hstat) hini (hts _ hin') ⟨hy1, hy2⟩ hK8 (g := F0 m pc lsM ((as.reverse ++ rest).map (m_v α))) rfl (hL.1.trans hml.symm) (argsL := as.map (m_v α)) (rest := rest.map (m_v α)) hlen hstk hW (by rw [hb]; exact hd) hpre
    dsimp only [Pt.U, Pt.locs, Pt.cells, Pt.slots] at X' e1 e2 h1 h2 h3 st'
    subst h1; subst h2; subst h3
    obtain ⟨r, Hp', hv, hQ', hJ', hP', hz, hF⟩ := hq
    cases hv
    have hz' : H.size ≤ U'.heap.size := by rw [e1, ← hT]; exact hz
    have hF' : ∀ q, q < H.size → ¬ m_A α q → U'.heap[q]? = H[q]? := fun q a1 a2 => by
      have a3 := hF q (by show q < T.heap.size; rw [hT]; exact a1) a2
      rw [e1, a3]
      show T.heap[q]? = H[q]?
      rw [hT]
    have hS' : va_S (m_A α) s.heap U'.heap (locs ++ L) := ⟨Nat.le_trans hS.1 hz', fun q a1 a2 => (hF' q (Nat.lt_of_lt_of_le a1 hS.1) a2).trans (hS.2.1 q a1 a2), fun q hq => by
      rcases List.mem_append.mp hq with h | h
      · exact hS.2.2 q h
      · exact hL2 q h⟩
    obtain ⟨t2, a1, b1⟩ := k r Hp' hQ' p l e s m args below meth c D α τ U'.heap (locs ++ L) lsM hAt hL (e1 ▸ hP') hS' hJ' U' rfl X'
    refine ⟨t2, st' t2 ?_, b1⟩
    have e3 : ((r.toList ++ rest).map (m_v α)) = (r.map (m_v α)).toList ++ rest.map (m_v α) := by cases r <;> simp
    rw [e3] at a1
    exact a1
  · obtain ⟨v, vm₁, ⟨U', l2, c2, s2⟩, hW₁, X', ⟨g', mk, t, L, e1, e2, hq, h1, hL2, h2, h3⟩, st'⟩ := va_callSN X hx (bytes := cc') (maxL := nL') (ret := ret') ho (va_Nw.use rfl (hRo.2.2.2.2.2 _ hlink)) (hts _ hstat) hini (hts _ hin') ⟨hy1, hy2⟩ hK8 (g := F0 m pc lsM ((as.reverse ++ rest).map (m_v α))) rfl (hL.1.trans hml.symm) (argsL := as.map (m_v α)) (rest := rest.map (m_v α)) hlen hstk hW (by rw [hb]; exact hd) hpre
    dsimp only [Pt.U, Pt.locs, Pt.cells, Pt.slots] at X' e1 e2 h1 h2 h3 st'
    subst h1; subst h2; subst h3
    obtain ⟨r, Hp', hv, hQ', hJ', hP', hz, hF⟩ := hq
    cases hv
    have hz' : H.size ≤ U'.heap.size := by rw [e1, ← hT]; exact hz
    have hF' : ∀ q, q < H.size → ¬ m_A α q → U'.heap[q]? = H[q]? := fun q a1 a2 => by
      have a3 := hF q (by show q < T.heap.size; rw [hT]; exact a1) a2
      rw [e1, a3]
      show T.heap[q]? = H[q]?
      rw [hT]
    have hS' : va_S (m_A α) s.heap U'.heap (locs ++ L) := ⟨Nat.le_trans hS.1 hz', fun q a1 a2 => (hF' q (Nat.lt_of_lt_of_le a1 hS.1) a2).trans (hS.2.1 q a1 a2), fun q hq => by
      rcases List.mem_append.mp hq with h | h
      · exact hS.2.2 q h
      · exact hL2 q h⟩
    obtain ⟨t2, a1, b1⟩ := k r Hp' hQ' p l e s m args below meth c D α τ U'.heap (locs ++ L) lsM hAt hL (e1 ▸ hP') hS' hJ' U' rfl X'
    refine ⟨t2, st' t2 ?_, b1⟩
    have e3 : ((r.toList ++ rest).map (m_v α)) = (r.map (m_v α)).toList ++ rest.map (m_v α) := by cases r <;> simp
    rw [e3] at a1
    exact a1


theorem g_callV {idx d' n : Nat} {y : MethodName} {cc' : ByteArray} {nL' : Nat} {ret' : Option FieldType} {as rest : List Value} {Q' : Option Value → m_H → Prop} {ci a : Nat} {fs : List Value} {as' : List Value} (hd : decode cc pc = .ok (.invokevirtual idx, 3)) (hL0 : CV own idx y cc' nL' ret' n ci) (ho1 : Hp a = .inr (ci, fs)) (has : as = .ref a :: as') (hC : Con d' y cc' nL' ret' as Hp Q') (hdd : d' + 1 ≤ d) (hn : as'.length = n) (hst : st = as'.reverse ++ .ref a :: rest) (hr : (rest.map fun v => v.category).sum ≤ 8) (k : ∀ r Hp', Q' r Hp' → G d own cc nL ret Q (pc + 3) ls (r.toList ++ rest) Hp') : G d own cc nL ret Q pc ls st Hp := by
  obtain ⟨hlink, ⟨HI, HC, ⟨hy1, hy2, hy3⟩, hnl⟩, hinst, hsel, q0, hq0, hq1⟩ := hL0
  intro p l e s m args below meth c D α τ H locs lsM hAt hL hP hS hJ
  obtain ⟨hx, hb, hml, hrt, ho, hts, hlk, hK, hRo, hi⟩ := id hAt
  have hM := hC l D α τ hi
  have hin' : Cond.code y cc' nL' ret' ∈ m_T := HC
  have hini : (Cond.initialized y.cls).before args s = true := hts _ HI
  have hK8 : Back l (m_rm d) p e below s args y 3 8 (PreOf (m_rm d) 0 0 (m_Pc D α τ as Hp)) (PostOf (m_Q D α τ Q') 0 0 (m_A α)) := back_of (bytes := cc') (maxL := nL') (ret := ret') hM m_blind rfl rfl (by show d' + 1 ≤ d; exact hdd) (by show 8 + (nL' + 11) + (40 * d' + 20) ≤ 40 * d + 20; omega) (pay_in hts (m_goodIn hin')) List.mem_cons_self (fun a' U hW => word_at hW (Or.inl (by first | rfl | simp [Cond.onTables, Cond.keeps, Cond.steady])) hini)
  subst hst
  intro T hT X
  have hpre : ∀ vm₁, s.WarmedH vm₁ → PreOf (m_rm d) 0 0 (m_Pc D α τ as Hp) ⟨T.setVm vm₁, locs, 0, 0⟩ (as.map (m_v α)).toArray := fun vm₁ hW₁ => by
    refine ⟨Nat.le_refl _, Nat.le_refl _, rfl, hJ, hT ▸ hP, va_K.moved (u := s) (U := T.setVm vm₁) hW₁.alike hK, ?_⟩
    have h1 : m_Ro α (m_A α) s T.heap := hRo.kept (fun q h2 h3 => by rw [hT]; exact hS.2.1 q h2 h3)
    exact m_Ro.warm (U := T.setVm vm₁) hW₁ h1
  subst has
  have hlt : a < m_NW := m_lt hJ ho1 (by rintro z; cases z; rcases List.getElem?_eq_some_iff.mp hq0 with ⟨q, -⟩; exact absurd q (by decide))
  have he : (m_w α τ Hp)[a]? = some (α a, .inr (ci, fs.map (m_v α))) := by rw [m_w_at hlt, ho1]; rfl
  obtain ⟨cellB, hc1, hc2, hc3⟩ := va_recv hK hP hq0 he
  rw [hq1] at hc3
  have hlen : ∀ sig, parseMethodDescriptor y.desc = some sig → (as'.map (m_v α)).length = sig.parameters.length := fun sig h => by
    rw [h] at hy3
    rw [List.length_map, hn]
    exact (Option.some.inj hy3).symm
  have hstk : (F0 m pc lsM ((as'.reverse ++ .ref a :: rest).map (m_v α))).stack = (as'.map (m_v α)).reverse ++ .ref (α a) :: rest.map (m_v α) := by
    show (as'.reverse ++ .ref a :: rest).map (m_v α) = _
    rw [List.map_append, List.map_reverse]
    rfl
  have hW : 2 * (F0 m pc lsM ((as'.reverse ++ .ref a :: rest).map (m_v α))).monitorRoom + ((rest.map (m_v α)).map fun v => v.category).sum ≤ 8 := lv_room (by rw [m_cat_sum]; exact hr)
  rcases hlink with hlink | ⟨host, hlink⟩
  · obtain ⟨v, vm₁, ⟨U', l2, c2, s2⟩, hW₁, X', ⟨g', mk, t, L, e1, e2, hq, h1, hL2, h2, h3⟩, st'⟩ := callV X hx (C := y.cls) (bytes := cc') (maxL := nL') (ret := ret') ho (hts _ hlink) (hts _ hinst) (hts _ hsel) (hts _ hin') ⟨hy1, hy2⟩ hK8 (b := α a) (cellB := cellB) (by rw [hT]; exact hc1) hc2 hc3 (g := F0 m pc lsM ((as'.reverse ++ .ref a :: rest).map (m_v α))) rfl (hL.1.trans hml.symm) (argsL := as'.map (m_v α)) (rest := rest.map (m_v α)) hlen hstk hW (by rw [hb]; exact hd) hpre
    dsimp only [Pt.U, Pt.locs, Pt.cells, Pt.slots] at X' e1 e2 h1 h2 h3 st'
    subst h1; subst h2; subst h3
    obtain ⟨r, Hp', hv, hQ', hJ', hP', hz, hF⟩ := hq
    cases hv
    have hz' : H.size ≤ U'.heap.size := by rw [e1, ← hT]; exact hz
    have hF' : ∀ q, q < H.size → ¬ m_A α q → U'.heap[q]? = H[q]? := fun q a1 a2 => by
      have a3 := hF q (by show q < T.heap.size; rw [hT]; exact a1) a2
      rw [e1, a3]
      show T.heap[q]? = H[q]?
      rw [hT]
    have hS' : va_S (m_A α) s.heap U'.heap (locs ++ L) := ⟨Nat.le_trans hS.1 hz', fun q a1 a2 => (hF' q (Nat.lt_of_lt_of_le a1 hS.1) a2).trans (hS.2.1 q a1 a2), fun q hq => by
      rcases List.mem_append.mp hq with h | h
      · exact hS.2.2 q h
      · exact hL2 q h⟩
    obtain ⟨t2, a1, b1⟩ := k r Hp' hQ' p l e s m args below meth c D α τ U'.heap (locs ++ L) lsM hAt hL (e1 ▸ hP') hS' hJ' U' rfl X'
    refine ⟨t2, st' t2 ?_, b1⟩
    have e3 : ((r.toList ++ rest).map (m_v α)) = (r.map (m_v α)).toList ++ rest.map (m_v α) := by cases r <;> simp
    rw [e3] at a1
    exact a1
  · obtain ⟨v, vm₁, ⟨U', l2, c2, s2⟩, hW₁, X', ⟨g', mk, t, L, e1, e2, hq, h1, hL2, h2, h3⟩, st'⟩ := va_callVN X hx (C := y.cls) (bytes := cc') (maxL := nL') (ret := ret') ho (va_Nw.use rfl (hRo.2.2.2.2.2 _ hlink)) (hts _ hinst) (hts _ hsel) (hts _ hin') ⟨hy1, hy2⟩ hK8 (b := α a) (cellB := cellB) (by rw [hT]; exact hc1) hc2 hc3 (g := F0 m pc lsM ((as'.reverse ++ .ref a :: rest).map (m_v α))) rfl (hL.1.trans hml.symm) (argsL := as'.map (m_v α)) (rest := rest.map (m_v α)) hlen hstk hW (by rw [hb]; exact hd) hpre
    dsimp only [Pt.U, Pt.locs, Pt.cells, Pt.slots] at X' e1 e2 h1 h2 h3 st'
    subst h1; subst h2; subst h3
    obtain ⟨r, Hp', hv, hQ', hJ', hP', hz, hF⟩ := hq
    cases hv
    have hz' : H.size ≤ U'.heap.size := by rw [e1, ← hT]; exact hz
    have hF' : ∀ q, q < H.size → ¬ m_A α q → U'.heap[q]? = H[q]? := fun q a1 a2 => by
      have a3 := hF q (by show q < T.heap.size; rw [hT]; exact a1) a2
      rw [e1, a3]
      show T.heap[q]? = H[q]?
      rw [hT]
    have hS' : va_S (m_A α) s.heap U'.heap (locs ++ L) := ⟨Nat.le_trans hS.1 hz', fun q a1 a2 => (hF' q (Nat.lt_of_lt_of_le a1 hS.1) a2).trans (hS.2.1 q a1 a2), fun q hq => by
      rcases List.mem_append.mp hq with h | h
      · exact hS.2.2 q h
      · exact hL2 q h⟩
    obtain ⟨t2, a1, b1⟩ := k r Hp' hQ' p l e s m args below meth c D α τ U'.heap (locs ++ L) lsM hAt hL (e1 ▸ hP') hS' hJ' U' rfl X'
    refine ⟨t2, st' t2 ?_, b1⟩
    have e3 : ((r.toList ++ rest).map (m_v α)) = (r.map (m_v α)).toList ++ rest.map (m_v α) := by cases r <;> simp
    rw [e3] at a1
    exact a1

end M
