/-! NoSuchElementException: thrown (as the kit's vx_throwS, which is for the place 7) -/
def x_NSE : String := "java/util/NoSuchElementException"
def x_RTE : String := "java/lang/RuntimeException"
def x_EXC : String := "java/lang/Exception"
theorem x_at_pl : (xw_at RX10 162 x_NSE x_RTE [x_EXC] 13 prog_27_method_4_code).filter vx_no = ([177, 1248, 1257, 1259, 1262, 1264, 1249, 1250, 187, 188, 1251, 1256, 1260, 1280, 1238, 1281, 1240, 1282, 1242, 1252, 1254, 1244, 1276, 1277, 1279, 1244, 1267, 1268, 1269, 1270, 1230, 1270, 1271, 1272, 1273, 1232, 1273, 1274, 1275, 1276, 1234, 1266, 1227, 1228, 1235, 1236, 1237, 1239, 1241, 1243, 1247, 1246, 1245] : List Nat).filterMap (fun i => lw_tbl[i]?) := by decide +kernel
def x_D : List Cond := [.declares (Bundle.initS x_RTE), .declares (Bundle.initS x_EXC), .declares (Bundle.initS Bundle.tN), .castable x_NSE x_NSE]
theorem x_D_ot : ∀ w ∈ x_D, w.onTables = true := by decide +kernel
theorem x_D_warm {s U : State} (hW : s.WarmedH U.vm) (h : ∀ w ∈ x_D, va_Nw w s) : ∀ w ∈ x_D, va_Nw w U := by
  intro w hw
  have h2 := h w hw
  rcases List.mem_cons.mp hw with rfl | hw
  · exact va_Nw.warmD hW h2
  rcases List.mem_cons.mp hw with rfl | hw
  · exact va_Nw.warmD hW h2
  rcases List.mem_cons.mp hw with rfl | hw
  · exact va_Nw.warmD hW h2
  rcases List.mem_cons.mp hw with rfl | hw
  · exact va_Nw.warmC hW h2
  cases hw
theorem x_at_nb : ((xw_at RX10 162 x_NSE x_RTE [x_EXC] 13 prog_27_method_4_code).filter vx_no).filter (fun w => !goodWord w) = x_D := by decide +kernel
theorem x_at_oa : ((xw_at RX10 162 x_NSE x_RTE [x_EXC] 13 prog_27_method_4_code).filter vx_no).all vx_ot = true := by decide +kernel
theorem x_at_T {s : State} {args : Array Value} (hT : ∀ w ∈ m_T, w.before args s = true) (hD : ∀ w ∈ x_D, va_Nw w s) : ∀ w ∈ (xw_at RX10 162 x_NSE x_RTE [x_EXC] 13 prog_27_method_4_code).filter vx_no, w.before args s = true := by
  intro w hw
  by_cases g : goodWord w = true
  · rw [x_at_pl] at hw
    obtain ⟨i, -, hi⟩ := List.mem_filterMap.mp hw
    exact hT w (m_T_of i hi g)
  · have h1 : w ∈ ((xw_at RX10 162 x_NSE x_RTE [x_EXC] 13 prog_27_method_4_code).filter vx_no).filter (fun w => !goodWord w) := by
      refine List.mem_filter.mpr ⟨hw, ?_⟩
      show (!goodWord w) = true
      cases hg : goodWord w
      · rfl
      · exact absurd hg g
    rw [x_at_nb] at h1
    exact va_Nw.use (x_D_ot w h1) (hD w h1)
theorem x_at_ot : ∀ w ∈ Cond.classLink RX10 158 x_NSE :: Cond.initialized x_NSE :: (xw_at RX10 162 x_NSE x_RTE [x_EXC] 13 prog_27_method_4_code).filter vx_no, vx_ot w = true := by
  intro w hw
  rcases List.mem_cons.mp hw with rfl | hw
  · rfl
  rcases List.mem_cons.mp hw with rfl | hw
  · rfl
  exact List.all_eq_true.mp x_at_oa w hw
section XT
variable {p : Program} {l : Launch} {e : Env} {R : Room} {s : State} {m : MethodId} {args : Array Value} {below : List Frame} {meth : Method} {c : Code} {H : Heap} {locs : List Loc} {cells slots : Nat}
variable {mc ms : Nat} {free : Addr → Prop} {ls : Array Slot} {rest : List Value} {Qc : Array Value → State → Outcome → State → Prop} {XC : String → State → State → Prop}
set_option maxHeartbeats 4000000 in
theorem x_throw {cc : ByteArray} {pc sa : Nat} {A : Nat → Prop} (hexec : p.tables.exec = Jvm.exec) (hb : c.code = cc) (hl : l.stackTraces = false)
    (hown : s.vm.findClass RX10 = some m.cls) (hT0 : ∀ w ∈ m_T, w.before args s = true) (hD4 : ∀ w ∈ x_D, va_Nw w s) (hstr : vk_R RX10 160 "no such crop" sa s)
    (hU : vx_Zq Bundle.tN "UNASSIGNED_STACK" Bundle.steD A s s.heap) (hN : vx_Zq Bundle.tN "SUPPRESSED_SENTINEL" Bundle.listD A s s.heap) (hS : va_S A s.heap H locs) (hsize : ls.size = c.maxLocals)
    (d0 : decode cc pc = .ok (.new 158, 3)) (d3 : decode cc (pc + 3) = .ok (.dup, 1)) (d4 : decode cc (pc + 4) = .ok (.ldc 160, 2)) (d6 : decode cc (pc + 6) = .ok (.invokespecial 162, 3)) (d9 : decode cc (pc + 9) = .ok (.athrow, 1))
    (hout : ∀ x ∈ c.exceptionTable.toList, covers x (pc + 9) = false)
    (hRframes : 5 < R.frames) (hRlocals : (rest.map fun v => v.category).sum + (13 * 3 + 43) ≤ R.locals) (hRcells : cells + 1 ≤ R.cells) (hRslots : slots + 6 ≤ R.slots) (hlocks : meth.locks = false)
    (hx : ∀ t : State, s.vm.Alike t.vm → H.size ≤ t.heap.size → (∀ q : Nat, q < H.size → t.heap[q]? = H[q]?) → XC x_NSE s t)
    (hf : ∀ z ∈ locs, free z.base) (hc : cells + 1 ≤ mc) (hs : slots + 6 ≤ ms) :
    W p l e R s m args below meth c H locs cells slots (vx_MQ below Qc XC args s mc ms free) (F0 m pc ls rest) := by
  intro T hT X
  have hk : (Cond.classLink RX10 158 x_NSE).before args s = true := hT0 _ (m_T_5 108 (by decide +kernel) (by decide +kernel))
  have hini : (Cond.initialized x_NSE).before args s = true := hT0 _ (m_T_1 22 (by decide +kernel) (by decide +kernel))
  have hat : ∀ w ∈ (xw_at RX10 162 x_NSE x_RTE [x_EXC] 13 prog_27_method_4_code).filter vx_no, w.before args s = true := x_at_T hT0 hD4
  have htr : e.platform.stackTraces = false := (show e.platform.stackTraces = l.stackTraces by rw [X.admits.platform]).trans hl
  have Y := vx_rebase X (R' := { frames := R.frames, locals := R.locals, cells := 1, slots := 6 }) (Nat.le_refl _) (Nat.le_refl _) hRcells hRslots
  obtain ⟨s', hA⟩ : ∃ z, z = (T.setVm s.vm).setFrames (.invoking m args :: below) := ⟨_, rfl⟩
  rw [← hA] at Y
  have hvm : s'.vm = s.vm := by rw [hA]; rfl
  have hhp : s'.heap = H := by rw [hA]; exact hT
  have hW0 : s.WarmedH s'.vm := by rw [hvm]; exact State.WarmedH.refl s
  have hat' : ∀ w ∈ (xw_at RX10 162 x_NSE x_RTE [x_EXC] 13 prog_27_method_4_code).filter vx_no, w.before args s' = true := fun w hw => vx_ot_at hW0 hvm.symm (x_at_ot w (List.mem_cons_of_mem _ (List.mem_cons_of_mem _ hw))) (hat w hw)
  have hk' : (Cond.classLink RX10 158 x_NSE).before args s' = true := vx_ot_at hW0 hvm.symm (x_at_ot _ List.mem_cons_self) hk
  have hini' : (Cond.initialized x_NSE).before args s' = true := vx_ot_at hW0 hvm.symm (x_at_ot _ (List.mem_cons_of_mem _ List.mem_cons_self)) hini
  have hU' : vx_Zq Bundle.tN "UNASSIGNED_STACK" Bundle.steD A s' s'.heap := by rw [hhp]; exact vx_Zq.moved hW0.alike (hU.kept hS.2.1)
  have hN' : vx_Zq Bundle.tN "SUPPRESSED_SENTINEL" Bundle.listD A s' s'.heap := by rw [hhp]; exact vx_Zq.moved hW0.alike (hN.kept hS.2.1)
  have h : ∀ w ∈ (xw_at RX10 162 x_NSE x_RTE [x_EXC] 13 prog_27_method_4_code), w.before args s' = true := vx_own hat' (vx_isRefq hU'.1) (vx_isRefq hN'.1) hU'.2.word hN'.2.word
  have hown' : s'.vm.findClass RX10 = some m.cls := by rw [hvm]; exact hown
  have hins : (Cond.instantiable x_NSE 6).before args s' = true := h _ (xw_sub5 1 rfl)
  obtain ⟨vm₁, cX, kX, hfX, hkX, -, -, X₁, st1⟩ := Y.newCold hexec (own := RX10) (C := x_NSE) (index := 158) (n := 6) hown' hk' hins hini'
    (g := F0 m pc ls rest) rfl (by rw [hb]; exact d0) (Nat.le_refl _) (Nat.le_refl _)
  generalize hT1 : (T.setVm vm₁).pushCell { cls := cX, slots := kX.instanceTypes.map defaultValue, vm := .none } = T1 at X₁ st1
  have hcat : (Value.ref T.heap.size).category = 1 := rfl
  have hcellA : T1.heap[T.heap.size]? = some (freshCell cX kX) := by rw [← hT1]; exact State.heap_pushCell_size _ _
  have d3' : decode c.code (pc + 3) = .ok (.dup, 1) := by rw [hb]; exact d3
  have d4' : decode c.code (pc + 4) = .ok (.ldc 160, 2) := by rw [hb]; exact d4
  have hstr' : vk_R RX10 160 "no such crop" sa s' := vk_R.warm hW0 hstr
  obtain ⟨U, hsteps, hrun, hend, hW, hsame, ce, hce, hov, hoc⟩ := xw_ctor X₁ hexec htr (own := RX10) (cls := x_NSE) (Y := x_RTE) (r := [x_EXC]) (ic := 162) (ix := 13) (rx := prog_27_method_4_code) (by decide +kernel) (by decide +kernel) (by decide +kernel) (by decide +kernel) hown' (by decide +kernel) (by decide +kernel) (by decide +kernel) h (fun x hx => nomatch hx) hfX hkX hcellA (by rw [hhp, hT]; exact Nat.le_refl _) (msg := .ref sa) rfl
    (g := { method := m, pc := pc + 6, locals := ls, stack := .ref sa :: .ref T.heap.size :: .ref T.heap.size :: rest, locked := none }) rfl hsize rfl rfl (rest := rest) rfl
    (by rw [hb]; exact d6) (by rw [hb]; exact d9) hout (by show 1 + 4 < R.frames; omega) (by
      show 2 * 0 + ((Value.ref T.heap.size :: rest).map fun v => v.category).sum + (13 * (1 + 2) + 42) ≤ R.locals
      simp only [List.map_cons, List.sum_cons, hcat]
      omega) hlocks
  obtain ⟨f1, f2⟩ := vx_frame hsame
  rw [hhp] at f1 f2
  have hWs : s.WarmedH U.vm := State.WarmedH.trans hW0 hW
  have hcl : s.vm.findClass x_NSE = some ce.cls := by
    rw [hvm] at hoc
    exact hoc
  have hall : s.sameButNew ({ U with vm := s.vm } : State) locs mc ms := by
    subst hA
    obtain ⟨e1, e2⟩ := hsame
    rw [State.setFrames_setFrames] at e1
    have h2 : (T.setVm s.vm).sameButNew ({ U with vm := s.vm } : State) [] (0 + 1) (0 + 6) := ⟨e1, e2⟩
    have h3 := X.same.trans h2
    rw [List.append_nil] at h3
    exact h3.mono hc hs
  refine ⟨U, ?_, .threw T.heap.size, hrun, hend, Or.inr ⟨T.heap.size, rfl, x_NSE, ce, locs, hx U hWs.alike f1 (fun q hq => f2 q hq (fun z hz => nomatch hz)), hce, hov, hcl, hWs, hall, hf⟩⟩
  refine st1 _ ?_
  show Steps p.tables e below (T1.setTop { method := m, pc := pc + 3, locals := ls, stack := .ref T.heap.size :: rest, locked := none }) _
  jvm_step X₁.here [X₁.here.top, hexec, d3', Value.category]
  exact X₁.ldcString hexec (own := RX10) (text := "no such crop") (index := 160) (a := sa) hown' hstr'.1 hstr'.2
    (g := { method := m, pc := pc + 4, locals := ls, stack := .ref T.heap.size :: .ref T.heap.size :: rest, locked := none }) rfl d4' _ hsteps
end XT
