/-! THE LAW: its own frame, over the same world. The script is the id 5000 -/
def R_law : String := "MuleSeasonsLaw"
def lw_P (b : Addr) (xs : List Int32) (args : Array Value) (s : State) : Prop := args = #[.ref b] ∧ s.IntsAt b xs ∧ xs.length ≤ 3584 ∧ (Jvm.Cond.and given_1 narrow_1).before args s = true
def lw_Q (_ : Array Value) (s : State) (o : Outcome) (t : State) : Prop := o = .returned (some (.int 1)) ∧ Framed s o t [] 601024 7293034
def lw_Z (below : List Frame) (a : Array Value) (s : State) : State → Prop := fun t => ∃ o, t.status = .running ∧ Ended t below o ∧ lw_Q a s o t
theorem lw_ret {p : Program} {l : Launch} {e : Env} {s : State} {m : MethodId} {below : List Frame} {meth : Method} {c : Code} {b : Nat} (hx : p.tables.exec = Jvm.exec) (hb : c.code = code) (hr : meth.sig.returnType = ret) (hlocks : meth.locks = false) {pc : Nat} {H : Heap} {ls : Array Slot} (hdg : decode code pc = .ok (.ireturn, 1)) : W p l e room_1 s m #[Value.ref b] below meth c H [] 601024 7293034 (lw_Z below #[Value.ref b] s) (F0 m pc ls [.int 1]) := by
  intro T hT X
  obtain ⟨fs, hret, hrun, hended, hW, hframe⟩ := X.leave (v := some (.int 1)) (hlocks := hlocks) (fun h => by rw [hr] at h; cases h)
  have hmeth' : T.vm.method? m = some meth := X.method'
  refine ⟨T.setFrames fs, ?_, .returned (some (.int 1)), hrun, hended, rfl, ⟨_, rfl⟩, hW, hframe⟩
  jvm_step X.here [X.here.top, hx, hb, hdg, hmeth', hr, ret, narrow_b1]
  (try refine ⟨rfl, ?_⟩); (try refine ⟨rfl, ?_⟩)
  first | (intro acts; rw [hret _ acts rfl rfl rfl]) | rw [hret _ _ rfl rfl rfl]
  exact Steps.refl _
def lw_At (p : Program) (s : State) (m : MethodId) (meth : Method) (c : Code) (b L : Nat) (xs : Nat → Int32) : Prop :=
  p.tables.exec = Jvm.exec ∧ c.code = code ∧ meth.sig.returnType = ret ∧ c.maxLocals = 7 ∧ s.vm.findClass R_law = some m.cls ∧ (∀ w ∈ lw_tbl, w.before #[Value.ref b] s = true) ∧ va_X b L xs s s.heap ∧ b < s.heap.size ∧ meth.locks = false ∧ (Jvm.Cond.and given_1 narrow_1).before #[Value.ref b] s = true
def LZ (p : Program) (l : Launch) (s : State) (m : MethodId) (args : Array Value) (meth : Method) (c : Code) (α : Nat → Nat) (b L : Nat) (xs : Nat → Int32) : Prop := l.flags = flags0 ∧ args = #[Value.ref b] ∧ lw_At p s m meth c b L xs ∧ α 5000 = b ∧ (∀ i, i < m_NW → s.heap.size ≤ α i) ∧ L ≤ 3584
/-- from this frame of the law: its end, true -/
def GL (cells slots b L : Nat) (xs : Nat → Int32) (pc : Nat) (ls : List (Option Value)) (st : List Value) (Hp : m_H) : Prop :=
  ∀ (p : Program) (l : Launch) (e : Env) (s : State) (m : MethodId) (args : Array Value) (below : List Frame) (meth : Method) (c : Code) (D : va_G) (α : Nat → Nat) (τ : FieldType → ClassId) (H : Heap) (locs : List Loc) (lsM : Array Slot),
    m_At p s m args meth c RL code 7 ret D α τ → m_L α lsM 7 ls → va_P D m_cl (m_w α τ Hp) H → va_S (m_A α) s.heap H locs → m_jk Hp → LZ p l s m args meth c α b L xs →
      W p l e room_1 s m args below meth c H locs cells slots (lw_Z below args s) (F0 m pc lsM (st.map (m_v α)))
section GLR
variable {cells slots b L : Nat} {xs : Nat → Int32} {pc : Nat} {ls : List (Option Value)} {st : List Value} {Hp : m_H}
theorem l_iconst {n : Int} {v : Int32} (hd : decode code pc = .ok (.iconst n, 1)) (hv : Int32.ofInt n = v) (k : GL cells slots b L xs (pc + 1) ls (.int v :: st) Hp) : GL cells slots b L xs pc ls st Hp := by
  intro p l e s m args below meth c D α τ H locs lsM hAt hL hP hS hJ hZ
  exact lv_iconst hAt.1 hAt.2.1 hd hv (k p l e s m args below meth c D α τ H locs lsM hAt hL hP hS hJ hZ)
theorem l_bipush {n : Int} {v : Int32} (hd : decode code pc = .ok (.bipush n, 2)) (hv : (Int8.ofInt n).toInt32 = v) (k : GL cells slots b L xs (pc + 2) ls (.int v :: st) Hp) : GL cells slots b L xs pc ls st Hp := by
  intro p l e s m args below meth c D α τ H locs lsM hAt hL hP hS hJ hZ
  exact lv_bipush hAt.1 hAt.2.1 hd hv (k p l e s m args below meth c D α τ H locs lsM hAt hL hP hS hJ hZ)
theorem l_iload {i : Nat} {x : Int32} (hd : decode code pc = .ok (.iload i, 2)) (hl : ls[i]? = some (some (.int x))) (k : GL cells slots b L xs (pc + 2) ls (.int x :: st) Hp) : GL cells slots b L xs pc ls st Hp := by
  intro p l e s m args below meth c D α τ H locs lsM hAt hL hP hS hJ hZ
  exact lv_iload hAt.1 hAt.2.1 hd (hL.2.2 _ _ hl) (k p l e s m args below meth c D α τ H locs lsM hAt hL hP hS hJ hZ)
theorem l_aload_n {n : Fin 4} {i : Nat} {x : Nat} (hd : decode code pc = .ok (.aload_n n, 1)) (hi : (n : Nat) = i) (hl : ls[i]? = some (some (.ref x))) (k : GL cells slots b L xs (pc + 1) ls (.ref x :: st) Hp) : GL cells slots b L xs pc ls st Hp := by
  intro p l e s m args below meth c D α τ H locs lsM hAt hL hP hS hJ hZ
  exact lv_aload_n hAt.1 hAt.2.1 hd hi (hL.2.2 _ _ hl) (k p l e s m args below meth c D α τ H locs lsM hAt hL hP hS hJ hZ)
theorem l_istore {i : Nat} {x : Int32} (hd : decode code pc = .ok (.istore i, 2)) (hn : i < 7) (k : GL cells slots b L xs (pc + 2) (m_st1 ls i (.int x)) st Hp) : GL cells slots b L xs pc ls (.int x :: st) Hp := by
  intro p l e s m args below meth c D α τ H locs lsM hAt hL hP hS hJ hZ
  exact lv_istore hAt.1 hAt.2.1 hd (m_as_has hL) hn rfl (fun ls' h' => k p l e s m args below meth c D α τ H locs ls' hAt (m_L_st1 (v := .int x) h') hP hS hJ hZ)
theorem l_iinc {i : Nat} {n : Int} {x v : Int32} (hd : decode code pc = .ok (.iinc i n, 3)) (hl : ls[i]? = some (some (.int x))) (hv : x + Int32.ofInt n = v) (hn : i < 7) (k : GL cells slots b L xs (pc + 3) (m_st1 ls i (.int v)) st Hp) : GL cells slots b L xs pc ls st Hp := by
  intro p l e s m args below meth c D α τ H locs lsM hAt hL hP hS hJ hZ
  obtain ⟨q, hq⟩ := List.getElem?_of_mem (m_as_mem (α := α).mpr ⟨_, hl, rfl⟩)
  exact lv_iinc (x := x) hAt.1 hAt.2.1 hd (m_as_has hL) hq hv hn rfl (fun ls' h' => k p l e s m args below meth c D α τ H locs ls' hAt (m_L_st1 (v := .int v) h') hP hS hJ hZ)
theorem l_iadd {x y : Int32} (hd : decode code pc = .ok (.iadd, 1)) (k : GL cells slots b L xs (pc + 1) ls (.int (x + y) :: st) Hp) : GL cells slots b L xs pc ls (.int y :: .int x :: st) Hp := by
  intro p l e s m args below meth c D α τ H locs lsM hAt hL hP hS hJ hZ
  exact lv_iadd hAt.1 hAt.2.1 hd (k p l e s m args below meth c D α τ H locs lsM hAt hL hP hS hJ hZ)
theorem l_isub {x y : Int32} (hd : decode code pc = .ok (.isub, 1)) (k : GL cells slots b L xs (pc + 1) ls (.int (x - y) :: st) Hp) : GL cells slots b L xs pc ls (.int y :: .int x :: st) Hp := by
  intro p l e s m args below meth c D α τ H locs lsM hAt hL hP hS hJ hZ
  exact lv_isub hAt.1 hAt.2.1 hd (k p l e s m args below meth c D α τ H locs lsM hAt hL hP hS hJ hZ)
theorem l_iand {x y : Int32} (hd : decode code pc = .ok (.iand, 1)) (k : GL cells slots b L xs (pc + 1) ls (.int (x &&& y) :: st) Hp) : GL cells slots b L xs pc ls (.int y :: .int x :: st) Hp := by
  intro p l e s m args below meth c D α τ H locs lsM hAt hL hP hS hJ hZ
  exact lv_iand hAt.1 hAt.2.1 hd (k p l e s m args below meth c D α τ H locs lsM hAt hL hP hS hJ hZ)
theorem l_lshl {x : Int64} {y : Int32} (hd : decode code pc = .ok (.lshl, 1)) (k : GL cells slots b L xs (pc + 1) ls (.long (x <<< (y.toInt64 &&& 63)) :: st) Hp) : GL cells slots b L xs pc ls (.int y :: .long x :: st) Hp := by
  intro p l e s m args below meth c D α τ H locs lsM hAt hL hP hS hJ hZ
  exact lv_lshl hAt.1 hAt.2.1 hd rfl (k p l e s m args below meth c D α τ H locs lsM hAt hL hP hS hJ hZ)
theorem l_land {x y : Int64} (hd : decode code pc = .ok (.land, 1)) (k : GL cells slots b L xs (pc + 1) ls (.long (x &&& y) :: st) Hp) : GL cells slots b L xs pc ls (.long y :: .long x :: st) Hp := by
  intro p l e s m args below meth c D α τ H locs lsM hAt hL hP hS hJ hZ
  exact lv_land hAt.1 hAt.2.1 hd (k p l e s m args below meth c D α τ H locs lsM hAt hL hP hS hJ hZ)
theorem l_lor {x y : Int64} (hd : decode code pc = .ok (.lor, 1)) (k : GL cells slots b L xs (pc + 1) ls (.long (x ||| y) :: st) Hp) : GL cells slots b L xs pc ls (.long y :: .long x :: st) Hp := by
  intro p l e s m args below meth c D α τ H locs lsM hAt hL hP hS hJ hZ
  exact lv_lor hAt.1 hAt.2.1 hd (k p l e s m args below meth c D α τ H locs lsM hAt hL hP hS hJ hZ)
theorem l_i2l {x : Int32} (hd : decode code pc = .ok (.i2l, 1)) (k : GL cells slots b L xs (pc + 1) ls (.long x.toInt64 :: st) Hp) : GL cells slots b L xs pc ls (.int x :: st) Hp := by
  intro p l e s m args below meth c D α τ H locs lsM hAt hL hP hS hJ hZ
  exact lv_i2l hAt.1 hAt.2.1 hd rfl (k p l e s m args below meth c D α τ H locs lsM hAt hL hP hS hJ hZ)
theorem l_lcmp {x y : Int64} (hd : decode code pc = .ok (.lcmp, 1)) (k : GL cells slots b L xs (pc + 1) ls (.int (lg_cmp x y) :: st) Hp) : GL cells slots b L xs pc ls (.long y :: .long x :: st) Hp := by
  intro p l e s m args below meth c D α τ H locs lsM hAt hL hP hS hJ hZ
  exact W.lcmp hAt.1 hAt.2.1 hd (k p l e s m args below meth c D α τ H locs lsM hAt hL hP hS hJ hZ)
theorem l_dup {v : Value} (hd : decode code pc = .ok (.dup, 1)) (hv : v.category = 1) (k : GL cells slots b L xs (pc + 1) ls (v :: v :: st) Hp) : GL cells slots b L xs pc ls (v :: st) Hp := by
  intro p l e s m args below meth c D α τ H locs lsM hAt hL hP hS hJ hZ
  exact lv_dup hAt.1 hAt.2.1 hd ((m_v_cat α v).trans hv) (k p l e s m args below meth c D α τ H locs lsM hAt hL hP hS hJ hZ)
theorem l_goto {off : Int} {tgt : Nat} (hd : decode code pc = .ok (.goto off, 3)) (ht : (pc : Int) + off = (tgt : Int)) (k : GL cells slots b L xs tgt ls st Hp) : GL cells slots b L xs pc ls st Hp := by
  intro p l e s m args below meth c D α τ H locs lsM hAt hL hP hS hJ hZ
  exact lv_goto hAt.1 hAt.2.1 hd ht (k p l e s m args below meth c D α τ H locs lsM hAt hL hP hS hJ hZ)
theorem l_if_eq {x : Int32} {off : Int} {tgt : Nat} (hd : decode code pc = .ok (.ifCond .eq off, 3)) (ht : (pc : Int) + off = (tgt : Int)) (kt : x = 0 → GL cells slots b L xs tgt ls st Hp) (kf : ¬ x = 0 → GL cells slots b L xs (pc + 3) ls st Hp) : GL cells slots b L xs pc ls (.int x :: st) Hp := by
  intro p l e s m args below meth c D α τ H locs lsM hAt hL hP hS hJ hZ
  exact lv_if_eq hAt.1 hAt.2.1 hd ht (fun h => kt h p l e s m args below meth c D α τ H locs lsM hAt hL hP hS hJ hZ) (fun h => kf h p l e s m args below meth c D α τ H locs lsM hAt hL hP hS hJ hZ)
theorem l_if_ne {x : Int32} {off : Int} {tgt : Nat} (hd : decode code pc = .ok (.ifCond .ne off, 3)) (ht : (pc : Int) + off = (tgt : Int)) (kt : ¬ x = 0 → GL cells slots b L xs tgt ls st Hp) (kf : x = 0 → GL cells slots b L xs (pc + 3) ls st Hp) : GL cells slots b L xs pc ls (.int x :: st) Hp := by
  intro p l e s m args below meth c D α τ H locs lsM hAt hL hP hS hJ hZ
  exact lv_if_ne hAt.1 hAt.2.1 hd ht (fun h => kt h p l e s m args below meth c D α τ H locs lsM hAt hL hP hS hJ hZ) (fun h => kf h p l e s m args below meth c D α τ H locs lsM hAt hL hP hS hJ hZ)
theorem l_icmp_eq {x y : Int32} {off : Int} {tgt : Nat} (hd : decode code pc = .ok (.if_icmp .eq off, 3)) (ht : (pc : Int) + off = (tgt : Int)) (kt : x = y → GL cells slots b L xs tgt ls st Hp) (kf : ¬ x = y → GL cells slots b L xs (pc + 3) ls st Hp) : GL cells slots b L xs pc ls (.int y :: .int x :: st) Hp := by
  intro p l e s m args below meth c D α τ H locs lsM hAt hL hP hS hJ hZ
  exact lv_icmp_eq hAt.1 hAt.2.1 hd ht (fun h => kt h p l e s m args below meth c D α τ H locs lsM hAt hL hP hS hJ hZ) (fun h => kf h p l e s m args below meth c D α τ H locs lsM hAt hL hP hS hJ hZ)
theorem l_icmp_ne {x y : Int32} {off : Int} {tgt : Nat} (hd : decode code pc = .ok (.if_icmp .ne off, 3)) (ht : (pc : Int) + off = (tgt : Int)) (kt : ¬ x = y → GL cells slots b L xs tgt ls st Hp) (kf : x = y → GL cells slots b L xs (pc + 3) ls st Hp) : GL cells slots b L xs pc ls (.int y :: .int x :: st) Hp := by
  intro p l e s m args below meth c D α τ H locs lsM hAt hL hP hS hJ hZ
  exact lv_icmp_ne hAt.1 hAt.2.1 hd ht (fun h => kt h p l e s m args below meth c D α τ H locs lsM hAt hL hP hS hJ hZ) (fun h => kf h p l e s m args below meth c D α τ H locs lsM hAt hL hP hS hJ hZ)
theorem l_icmp_gt {x y : Int32} {off : Int} {tgt : Nat} (hd : decode code pc = .ok (.if_icmp .gt off, 3)) (ht : (pc : Int) + off = (tgt : Int)) (kt : y < x → GL cells slots b L xs tgt ls st Hp) (kf : ¬ y < x → GL cells slots b L xs (pc + 3) ls st Hp) : GL cells slots b L xs pc ls (.int y :: .int x :: st) Hp := by
  intro p l e s m args below meth c D α τ H locs lsM hAt hL hP hS hJ hZ
  exact lv_icmp_gt hAt.1 hAt.2.1 hd ht (fun h => kt h p l e s m args below meth c D α τ H locs lsM hAt hL hP hS hJ hZ) (fun h => kf h p l e s m args below meth c D α τ H locs lsM hAt hL hP hS hJ hZ)
theorem l_tableIn {dflt lo hi : Int} {offs : Array Int} {len : Nat} {x : Int32} {off : Int} {tgt : Nat} (hd : decode code pc = .ok (.tableswitch dflt lo hi offs, len)) (h1 : ¬ x.toInt < lo) (h2 : ¬ hi < x.toInt) (ho : offs[(x.toInt - lo).toNat]? = some off) (ht : (pc : Int) + off = (tgt : Int)) (k : GL cells slots b L xs tgt ls st Hp) : GL cells slots b L xs pc ls (.int x :: st) Hp := by
  intro p l e s m args below meth c D α τ H locs lsM hAt hL hP hS hJ hZ
  exact lv_tableIn hAt.1 hAt.2.1 hd h1 h2 ho ht (k p l e s m args below meth c D α τ H locs lsM hAt hL hP hS hJ hZ)
theorem l_tableOut {dflt lo hi : Int} {offs : Array Int} {len : Nat} {x : Int32} {tgt : Nat} (hd : decode code pc = .ok (.tableswitch dflt lo hi offs, len)) (h : x.toInt < lo ∨ hi < x.toInt) (ht : (pc : Int) + dflt = (tgt : Int)) (k : GL cells slots b L xs tgt ls st Hp) : GL cells slots b L xs pc ls (.int x :: st) Hp := by
  intro p l e s m args below meth c D α τ H locs lsM hAt hL hP hS hJ hZ
  exact lv_tableOut hAt.1 hAt.2.1 hd h ht (k p l e s m args below meth c D α τ H locs lsM hAt hL hP hS hJ hZ)
theorem l_loc {ls' : List (Option Value)} (h : ∀ (i : Nat) (v : Value), ls'[i]? = some (some v) → ls[i]? = some (some v)) (k : GL cells slots b L xs pc ls' st Hp) : GL cells slots b L xs pc ls st Hp := by
  intro p l e s m args below meth c D α τ H locs lsM hAt hL hP hS hJ hZ
  exact k p l e s m args below meth c D α τ H locs lsM hAt ⟨hL.1, hL.2.1, fun i v hv => hL.2.2 i v (h i v hv)⟩ hP hS hJ hZ
theorem l_lald {a N : Nat} {f : Nat → Int64} {i : Int32} (hd : decode code pc = .ok (.laload, 1)) (ha : Hp a = .inl (.long, (N, .inr (.inl f)))) (hin : vp_in i N) (k : GL cells slots b L xs (pc + 1) ls (.long (f i.toNatClampNeg) :: st) Hp) : GL cells slots b L xs pc ls (.int i :: .ref a :: st) Hp := by
  intro p l e s m args below meth c D α τ H locs lsM hAt hL hP hS hJ hZ
  have hlt := m_lt hJ ha (by intro z; cases z)
  exact va_lald hAt.1 hAt.2.1 hAt.2.2.2.2.2.2.2.1 hP a 1 (cA := τ .long) (by rw [m_w_at hlt, ha]; rfl) rfl hin hd (k p l e s m args below meth c D α τ H locs lsM hAt hL hP hS hJ hZ)
theorem l_ldc2 {idx : Nat} {v : Int64} (hd : decode code pc = .ok (.ldc2_w idx, 3)) (hc : Cond.constantLong RL idx v ∈ m_T) (k : GL cells slots b L xs (pc + 3) ls (.long v :: st) Hp) : GL cells slots b L xs pc ls st Hp := by
  intro p l e s m args below meth c D α τ H locs lsM hAt hL hP hS hJ hZ
  exact lv_ldc2 hAt.1 hAt.2.1 hAt.2.2.2.2.1 (hAt.2.2.2.2.2.1 _ hc) hd (k p l e s m args below meth c D α τ H locs lsM hAt hL hP hS hJ hZ)
theorem l_ic_0 (hd : decode code pc = .ok (.iconst (0), 1)) (k : GL cells slots b L xs (pc + 1) ls (.int (0) :: st) Hp) : GL cells slots b L xs pc ls st Hp := l_iconst hd (by decide) k
theorem l_ic_1 (hd : decode code pc = .ok (.iconst (1), 1)) (k : GL cells slots b L xs (pc + 1) ls (.int (1) :: st) Hp) : GL cells slots b L xs pc ls st Hp := l_iconst hd (by decide) k
theorem l_ic_2 (hd : decode code pc = .ok (.iconst (2), 1)) (k : GL cells slots b L xs (pc + 1) ls (.int (2) :: st) Hp) : GL cells slots b L xs pc ls st Hp := l_iconst hd (by decide) k
theorem l_ic_3 (hd : decode code pc = .ok (.iconst (3), 1)) (k : GL cells slots b L xs (pc + 1) ls (.int (3) :: st) Hp) : GL cells slots b L xs pc ls st Hp := l_iconst hd (by decide) k
theorem l_ic_4 (hd : decode code pc = .ok (.iconst (4), 1)) (k : GL cells slots b L xs (pc + 1) ls (.int (4) :: st) Hp) : GL cells slots b L xs pc ls st Hp := l_iconst hd (by decide) k
theorem l_ic_5 (hd : decode code pc = .ok (.iconst (5), 1)) (k : GL cells slots b L xs (pc + 1) ls (.int (5) :: st) Hp) : GL cells slots b L xs pc ls st Hp := l_iconst hd (by decide) k
theorem l_sub {Hp2 : m_H} (h : Hp = Hp2) (K : GL cells slots b L xs pc ls st Hp2) : GL cells slots b L xs pc ls st Hp := by
  rw [h]
  exact K
theorem l_Ab {p : Program} {l : Launch} {s : State} {m : MethodId} {args : Array Value} {meth : Method} {c : Code} {α : Nat → Nat} (hZ : LZ p l s m args meth c α b L xs) : ¬ m_A α b := fun ⟨k, k1, k2⟩ => by
  obtain ⟨-, -, hC, -, h3, -⟩ := hZ
  have h4 := h3 k k1
  have h5 := hC.2.2.2.2.2.2.2.1
  omega
theorem l_sld {i : Int32} (hd : decode code pc = .ok (.iaload, 1)) (hin : vp_in i L) (k : GL cells slots b L xs (pc + 1) ls (.int (xs i.toNatClampNeg) :: st) Hp) : GL cells slots b L xs pc ls (.int i :: .ref 5000 :: st) Hp := by
  intro p l e s m args below meth c D α τ H locs lsM hAt hL hP hS hJ hZ
  have hA := l_Ab hZ
  obtain ⟨-, -, hC, h2, -, -⟩ := id hZ
  show W p l e room_1 s m args below meth c H locs cells slots (lw_Z below args s) (F0 m pc lsM (.int i :: .ref (α 5000) :: st.map (m_v α)))
  rw [h2]
  exact va_sld hAt.1 hAt.2.1 hC.2.2.2.2.2.2.1 hC.2.2.2.2.2.2.2.1 hA hS hin hd (k p l e s m args below meth c D α τ H locs lsM hAt hL hP hS hJ hZ)
theorem l_slen (hd : decode code pc = .ok (.arraylength, 1)) (k : GL cells slots b L xs (pc + 1) ls (.int (Int32.ofNat L) :: st) Hp) : GL cells slots b L xs pc ls (.ref 5000 :: st) Hp := by
  intro p l e s m args below meth c D α τ H locs lsM hAt hL hP hS hJ hZ
  have hA := l_Ab hZ
  obtain ⟨-, -, hC, h2, -, -⟩ := id hZ
  show W p l e room_1 s m args below meth c H locs cells slots (lw_Z below args s) (F0 m pc lsM (.ref (α 5000) :: st.map (m_v α)))
  rw [h2]
  exact va_slen hAt.1 hAt.2.1 hC.2.2.2.2.2.2.1 hC.2.2.2.2.2.2.2.1 hA hS hd (k p l e s m args below meth c D α τ H locs lsM hAt hL hP hS hJ hZ)
theorem l_wide {k n : Nat} (h1 : cells ≤ k) (h2 : slots ≤ n) (K : GL k n b L xs pc ls st Hp) : GL cells slots b L xs pc ls st Hp := by
  intro p l e s m args below meth c D α τ H locs lsM hAt hL hP hS hJ hZ
  exact W.widen h1 h2 (K p l e s m args below meth c D α τ H locs lsM hAt hL hP hS hJ hZ)
theorem l_ret (hc : cells ≤ 601024) (hs : slots ≤ 7293034) (hd : decode code pc = .ok (.ireturn, 1)) : GL cells slots b L xs pc ls [.int 1] Hp := by
  intro p l e s m args below meth c D α τ H locs lsM hAt hL hP hS hJ hZ
  obtain ⟨-, rfl, hC, -, h3, -⟩ := hZ
  refine va_forget (fun q hq => ?_) ?_
  · obtain ⟨k, k1, k2⟩ := hS.2.2 q hq
    rw [k2]
    exact h3 k k1
  refine W.widen (k := 601024) (n := 7293034) hc hs ?_
  exact lw_ret hAt.1 hAt.2.1 hC.2.2.1 hC.2.2.2.2.2.2.2.2.1 hd
theorem l_callV {idx d' n : Nat} {y : MethodName} {cc' : ByteArray} {nL' : Nat} {ret' : Option FieldType} {as rest : List Value} {Q' : Option Value → m_H → Prop} {ci a : Nat} {fs : List Value} {as' : List Value} (hd : decode code pc = .ok (.invokevirtual idx, 3)) (hL0 : CV RL idx y cc' nL' ret' n ci) (ho1 : Hp a = .inr (ci, fs)) (has : as = .ref a :: as') (hC : Con d' y cc' nL' ret' as Hp Q') (hdd : d' ≤ 40) (hcc : cells ≤ 601024) (hss : slots ≤ 7293034) (hn : as'.length = n) (hst : st = as'.reverse ++ .ref a :: rest) (hr : (rest.map fun v => v.category).sum ≤ 8) (k : ∀ r Hp', Q' r Hp' → GL cells slots b L xs (pc + 3) ls (r.toList ++ rest) Hp') : GL cells slots b L xs pc ls st Hp := by
  obtain ⟨hlink, ⟨HI, HC, ⟨hy1, hy2, hy3⟩, hnl⟩, hinst, hsel, q0, hq0, hq1⟩ := hL0
  intro p l e s m args below meth c D α τ H locs lsM hAt hL hP hS hJ hZ
  obtain ⟨hx, hb, hml, hrt, ho, hts, hlk, hK, hRo, hi⟩ := id hAt
  have hM := hC l D α τ hi
  have hin' : Cond.code y cc' nL' ret' ∈ m_T := HC
  have hini : (Cond.initialized y.cls).before args s = true := hts _ HI
  have hK8 : Back l room_1 p e below s args y 3 8 (PreOf room_1 0 0 (m_Pc D α τ as Hp)) (PostOf (m_Q D α τ Q') 0 0 (m_A α)) := back_of (bytes := cc') (maxL := nL') (ret := ret') hM m_blind rfl rfl (by show d' + 1 ≤ 2048; omega) (by show 8 + (nL' + 11) + (40 * d' + 20) ≤ 84000; omega) (pay_in hts (m_goodIn hin')) List.mem_cons_self (fun a' U hW => word_at hW (Or.inl (by first | rfl | simp [Cond.onTables, Cond.keeps, Cond.steady])) hini)
  subst hst
  intro T hT X
  have hpre : ∀ vm₁, s.WarmedH vm₁ → PreOf room_1 0 0 (m_Pc D α τ as Hp) ⟨T.setVm vm₁, locs, cells, slots⟩ (as.map (m_v α)).toArray := fun vm₁ hW₁ => by
    refine ⟨hcc, hss, rfl, hJ, hT ▸ hP, va_K.moved (u := s) (U := T.setVm vm₁) hW₁.alike hK, ?_⟩
    have h1 : m_Ro α (m_A α) s T.heap := hRo.kept (fun q h2 h3 => by rw [hT]; exact hS.2.1 q h2 h3)
    exact m_Ro.warm (U := T.setVm vm₁) hW₁ h1
  subst has
  have hlt : a < m_NW := m_lt hJ ho1 (by rintro z; cases z; rcases List.getElem?_eq_some_iff.mp hq0 with ⟨q, -⟩; exact absurd q (by decide))
  have he : (m_w α τ Hp)[a]? = some (α a, .inr (ci, fs.map (m_v α))) := by rw [m_w_at hlt, ho1]; rfl
  obtain ⟨cellB, hc1, hc2, hc3⟩ := va_recv hK hP hq0 he
  rw [hq1] at hc3
  have hlen : ∀ sig, parseMethodDescriptor y.desc = some sig → (as'.map (m_v α)).length = sig.parameters.length := fun sig h => by
    rw [h] at hy3
    rw [List.length_map, hn]
    exact (Option.some.inj hy3).symm
  have hstk : (F0 m pc lsM ((as'.reverse ++ .ref a :: rest).map (m_v α))).stack = (as'.map (m_v α)).reverse ++ .ref (α a) :: rest.map (m_v α) := by
    show (as'.reverse ++ .ref a :: rest).map (m_v α) = _
    rw [List.map_append, List.map_reverse]
    rfl
  have hW : 2 * (F0 m pc lsM ((as'.reverse ++ .ref a :: rest).map (m_v α))).monitorRoom + ((rest.map (m_v α)).map fun v => v.category).sum ≤ 8 := lv_room (by rw [m_cat_sum]; exact hr)
  rcases hlink with hlink | ⟨host, hlink⟩
  · obtain ⟨v, vm₁, ⟨U', l2, c2, s2⟩, hW₁, X', ⟨g', mk, t, L, e1, e2, hq, h1, hL2, h2, h3⟩, st'⟩ := callV X hx (C := y.cls) (bytes := cc') (maxL := nL') (ret := ret') ho (hts _ hlink) (hts _ hinst) (hts _ hsel) (hts _ hin') ⟨hy1, hy2⟩ hK8 (b := α a) (cellB := cellB) (by rw [hT]; exact hc1) hc2 hc3 (g := F0 m pc lsM ((as'.reverse ++ .ref a :: rest).map (m_v α))) rfl (hL.1.trans hml.symm) (argsL := as'.map (m_v α)) (rest := rest.map (m_v α)) hlen hstk hW (by rw [hb]; exact hd) hpre
    dsimp only [Pt.U, Pt.locs, Pt.cells, Pt.slots] at X' e1 e2 h1 h2 h3 st'
    subst h1; subst h2; subst h3
    obtain ⟨r, Hp', hv, hQ', hJ', hP', hz, hF⟩ := hq
    cases hv
    have hz' : H.size ≤ U'.heap.size := by rw [e1, ← hT]; exact hz
    have hF' : ∀ q, q < H.size → ¬ m_A α q → U'.heap[q]? = H[q]? := fun q a1 a2 => by
      have a3 := hF q (by show q < T.heap.size; rw [hT]; exact a1) a2
      rw [e1, a3]
      show T.heap[q]? = H[q]?
      rw [hT]
    have hS' : va_S (m_A α) s.heap U'.heap (locs ++ L) := ⟨Nat.le_trans hS.1 hz', fun q a1 a2 => (hF' q (Nat.lt_of_lt_of_le a1 hS.1) a2).trans (hS.2.1 q a1 a2), fun q hq => by
      rcases List.mem_append.mp hq with h | h
      · exact hS.2.2 q h
      · exact hL2 q h⟩
    obtain ⟨t2, a1, b1⟩ := k r Hp' hQ' p l e s m args below meth c D α τ U'.heap (locs ++ L) lsM hAt hL (e1 ▸ hP') hS' hJ' hZ U' rfl X'
    refine ⟨t2, st' t2 ?_, b1⟩
    have e3 : ((r.toList ++ rest).map (m_v α)) = (r.map (m_v α)).toList ++ rest.map (m_v α) := by cases r <;> simp
    rw [e3] at a1
    exact a1
  · obtain ⟨v, vm₁, ⟨U', l2, c2, s2⟩, hW₁, X', ⟨g', mk, t, L, e1, e2, hq, h1, hL2, h2, h3⟩, st'⟩ := va_callVN X hx (C := y.cls) (bytes := cc') (maxL := nL') (ret := ret') ho (va_Nw.use rfl (hRo.2.2.2.2.2 _ hlink)) (hts _ hinst) (hts _ hsel) (hts _ hin') ⟨hy1, hy2⟩ hK8 (b := α a) (cellB := cellB) (by rw [hT]; exact hc1) hc2 hc3 (g := F0 m pc lsM ((as'.reverse ++ .ref a :: rest).map (m_v α))) rfl (hL.1.trans hml.symm) (argsL := as'.map (m_v α)) (rest := rest.map (m_v α)) hlen hstk hW (by rw [hb]; exact hd) hpre
    dsimp only [Pt.U, Pt.locs, Pt.cells, Pt.slots] at X' e1 e2 h1 h2 h3 st'
    subst h1; subst h2; subst h3
    obtain ⟨r, Hp', hv, hQ', hJ', hP', hz, hF⟩ := hq
    cases hv
    have hz' : H.size ≤ U'.heap.size := by rw [e1, ← hT]; exact hz
    have hF' : ∀ q, q < H.size → ¬ m_A α q → U'.heap[q]? = H[q]? := fun q a1 a2 => by
      have a3 := hF q (by show q < T.heap.size; rw [hT]; exact a1) a2
      rw [e1, a3]
      show T.heap[q]? = H[q]?
      rw [hT]
    have hS' : va_S (m_A α) s.heap U'.heap (locs ++ L) := ⟨Nat.le_trans hS.1 hz', fun q a1 a2 => (hF' q (Nat.lt_of_lt_of_le a1 hS.1) a2).trans (hS.2.1 q a1 a2), fun q hq => by
      rcases List.mem_append.mp hq with h | h
      · exact hS.2.2 q h
      · exact hL2 q h⟩
    obtain ⟨t2, a1, b1⟩ := k r Hp' hQ' p l e s m args below meth c D α τ U'.heap (locs ++ L) lsM hAt hL (e1 ▸ hP') hS' hJ' hZ U' rfl X'
    refine ⟨t2, st' t2 ?_, b1⟩
    have e3 : ((r.toList ++ rest).map (m_v α)) = (r.map (m_v α)).toList ++ rest.map (m_v α) := by cases r <;> simp
    rw [e3] at a1
    exact a1
end GLR
