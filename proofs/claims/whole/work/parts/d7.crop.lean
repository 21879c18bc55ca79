/-! CROP of the class: it answers, or throws -/
def x_rm (d : Nat) : Room := { frames := d, cells := 1, slots := 6, locals := 40 * d + 200 }
def x_E (α : Nat → Nat) (U : State) (H : Heap) : Prop := (∃ sa, vk_R RX10 160 "no such crop" sa U) ∧ vx_Zq Bundle.tN "UNASSIGNED_STACK" Bundle.steD (m_A α) U H ∧ vx_Zq Bundle.tN "SUPPRESSED_SENTINEL" Bundle.listD (m_A α) U H ∧ ∀ w ∈ x_D, va_Nw w U
def x_Pc (D : va_G) (α : Nat → Nat) (τ : FieldType → ClassId) (args : List Value) (Hp : m_H) : Array Value → State → Prop :=
  va_Pc (args.map (m_v α)) (fun U => m_jk Hp ∧ va_P D m_cl (m_w α τ Hp) U.heap ∧ va_K D m_cl (m_tys τ) U ∧ m_Ro α (m_A α) U U.heap ∧ x_E α U U.heap)
theorem x_blind {D : va_G} {α : Nat → Nat} {τ : FieldType → ClassId} {as : List Value} {Hp : m_H} : FrameBlind (x_Pc D α τ as Hp) := by
  intro a U g mk ⟨h0, hJ, hP, hK, hRo, ⟨sa, h1⟩, h2, h3, h4⟩
  obtain ⟨q0, q1, q2, q3, q4⟩ := m_blind (D := D) (τ := τ) (as := as) (Hp := Hp) a U g mk ⟨h0, hJ, hP, hK, hRo⟩
  exact ⟨q0, q1, q2, q3, q4, ⟨sa, vk_R.same (u := U) (U := U.calling g mk a) rfl h1⟩, vx_Zq.moved (u := U) (U := U.calling g mk a) (Vm.Alike.refl U.vm) h2, vx_Zq.moved (u := U) (U := U.calling g mk a) (Vm.Alike.refl U.vm) h3, fun w hw => va_Nw.same (x_D_ot w hw) (u := U) (U := U.calling g mk a) rfl (h4 w hw)⟩
theorem x_E_mv {α : Nat → Nat} {s U : State} {H : Heap} (hW : s.WarmedH U.vm) (h : x_E α s s.heap) (hq : ∀ a : Nat, a < s.heap.size → ¬ m_A α a → H[a]? = s.heap[a]?) : x_E α U H := by
  obtain ⟨⟨sa, h1⟩, h2, h3, h4⟩ := h
  exact ⟨⟨sa, vk_R.warm hW h1⟩, vx_Zq.moved hW.alike (h2.kept hq), vx_Zq.moved hW.alike (h3.kept hq), x_D_warm hW h4⟩
abbrev x_Q (D : va_G) (α : Nat → Nat) (τ : FieldType → ClassId) (v : Int32) (z : Int32) (Hp : m_H) : Array Value → State → Outcome → State → Prop := va_Qi (fun (r : Int32) (_ : Unit) => z = 0 ∧ r = v) (fun _ t => va_P D m_cl (m_w α τ Hp) t.heap) (m_A α)
abbrev x_X (D : va_G) (α : Nat → Nat) (τ : FieldType → ClassId) (z : Int32) (Hp : m_H) : String → State → State → Prop := vx_X (fun _ : Unit => z = 1) (fun E _ t => E = x_NSE ∧ va_P D m_cl (m_w α τ Hp) t.heap) (m_A α)
def GX (v z : Int32) (Hp0 : m_H) (pc : Nat) (ls : List (Option Value)) (st : List Value) (Hp : m_H) : Prop :=
  ∀ (p : Program) (l : Launch) (e : Env) (s : State) (m : MethodId) (args : Array Value) (below : List Frame) (meth : Method) (c : Code) (D : va_G) (α : Nat → Nat) (τ : FieldType → ClassId) (H : Heap) (locs : List Loc) (lsM : Array Slot),
    m_At p s m args meth c RX10 cX10_crop 3 (some .int) D α τ → m_L α lsM 3 ls → va_P D m_cl (m_w α τ Hp) H → va_S (m_A α) s.heap H locs → m_jk Hp → (x_E α s s.heap ∧ l.stackTraces = false ∧ ∀ x ∈ c.exceptionTable.toList, False) →
      W p l e (x_rm 6) s m args below meth c H locs 0 0 (vx_MQ below (x_Q D α τ v z Hp0) (x_X D α τ z Hp0) args s 1 6 (m_A α)) (F0 m pc lsM (st.map (m_v α)))
section GXR
variable {va za : Int32} {Hp0 : m_H} {pc : Nat} {ls : List (Option Value)} {st : List Value} {Hp : m_H}
theorem kx_iconst {n : Int} {v : Int32} (hd : decode cX10_crop pc = .ok (.iconst n, 1)) (hv : Int32.ofInt n = v) (k : GX va za Hp0 (pc + 1) ls (.int v :: st) Hp) : GX va za Hp0 pc ls st Hp := by
  intro p l e s m args below meth c D α τ H locs lsM hAt hL hP hS hJ hZ
  exact lv_iconst hAt.1 hAt.2.1 hd hv (k p l e s m args below meth c D α τ H locs lsM hAt hL hP hS hJ hZ)
theorem kx_iload_n {n : Fin 4} {i : Nat} {x : Int32} (hd : decode cX10_crop pc = .ok (.iload_n n, 1)) (hi : (n : Nat) = i) (hl : ls[i]? = some (some (.int x))) (k : GX va za Hp0 (pc + 1) ls (.int x :: st) Hp) : GX va za Hp0 pc ls st Hp := by
  intro p l e s m args below meth c D α τ H locs lsM hAt hL hP hS hJ hZ
  exact lv_iload_n hAt.1 hAt.2.1 hd hi (hL.2.2 _ _ hl) (k p l e s m args below meth c D α τ H locs lsM hAt hL hP hS hJ hZ)
theorem kx_aload_n {n : Fin 4} {i : Nat} {x : Nat} (hd : decode cX10_crop pc = .ok (.aload_n n, 1)) (hi : (n : Nat) = i) (hl : ls[i]? = some (some (.ref x))) (k : GX va za Hp0 (pc + 1) ls (.ref x :: st) Hp) : GX va za Hp0 pc ls st Hp := by
  intro p l e s m args below meth c D α τ H locs lsM hAt hL hP hS hJ hZ
  exact lv_aload_n hAt.1 hAt.2.1 hd hi (hL.2.2 _ _ hl) (k p l e s m args below meth c D α τ H locs lsM hAt hL hP hS hJ hZ)
theorem kx_get {idx ci kf a : Nat} {fs : List Value} {v : Value} (hd : decode cX10_crop pc = .ok (.getfield idx, 3)) (hf : FL RX10 idx ci kf) (ho : Hp a = .inr (ci, fs)) (hv : fs[kf]? = some v) (k : GX va za Hp0 (pc + 3) ls (v :: st) Hp) : GX va za Hp0 pc ls (.ref a :: st) Hp := by
  intro p l e s m args below meth c D α τ H locs lsM hAt hL hP hS hJ hZ
  obtain ⟨C, T, N, hc, hk, hin, hT1, hl⟩ := hf
  have hlt : a < m_NW := m_lt hJ ho (by rintro z; cases z; rcases List.getElem?_eq_some_iff.mp hc with ⟨q, -⟩; exact absurd q (by decide))
  have hts := hAt.2.2.2.2.2.1
  have he : (m_w α τ Hp)[a]? = some (α a, .inr (ci, fs.map (m_v α))) := by rw [m_w_at hlt, ho]; rfl
  have hv' : (fs.map (m_v α))[kf]? = some (m_v α v) := by rw [List.getElem?_map, hv]; rfl
  have hsm : ∀ x, s.fieldFound? (T kf).1 (T kf).2.1 (T kf).2.2.1 = some x → s.fieldFound? C (T kf).2.1 (T kf).2.2.1 = some x := fun x h => by rw [← hT1]; exact h
  rcases hl with hl | ⟨host, hl⟩
  · exact va_get hAt.1 hAt.2.1 hts hin hAt.2.2.2.2.1 hAt.2.2.2.2.2.2.2.1 hP a he hc kf hk (hts _ hl) hsm hv' hd (k p l e s m args below meth c D α τ H locs lsM hAt hL hP hS hJ hZ)
  · exact va_getN hAt.1 hAt.2.1 hts hin hAt.2.2.2.2.1 hAt.2.2.2.2.2.2.2.1 hP a he hc kf hk (va_Nw.use rfl (hAt.2.2.2.2.2.2.2.2.1.2.2.2.2.2 _ hl)) hsm hv' hd (k p l e s m args below meth c D α τ H locs lsM hAt hL hP hS hJ hZ)
theorem kx_if_eq {x : Int32} {off : Int} {tgt : Nat} (hd : decode cX10_crop pc = .ok (.ifCond .eq off, 3)) (ht : (pc : Int) + off = (tgt : Int)) (kt : x = 0 → GX va za Hp0 tgt ls st Hp) (kf : ¬ x = 0 → GX va za Hp0 (pc + 3) ls st Hp) : GX va za Hp0 pc ls (.int x :: st) Hp := by
  intro p l e s m args below meth c D α τ H locs lsM hAt hL hP hS hJ hZ
  exact lv_if_eq hAt.1 hAt.2.1 hd ht (fun h => kt h p l e s m args below meth c D α τ H locs lsM hAt hL hP hS hJ hZ) (fun h => kf h p l e s m args below meth c D α τ H locs lsM hAt hL hP hS hJ hZ)
theorem kx_if_lt {x : Int32} {off : Int} {tgt : Nat} (hd : decode cX10_crop pc = .ok (.ifCond .lt off, 3)) (ht : (pc : Int) + off = (tgt : Int)) (kt : x < 0 → GX va za Hp0 tgt ls st Hp) (kf : ¬ x < 0 → GX va za Hp0 (pc + 3) ls st Hp) : GX va za Hp0 pc ls (.int x :: st) Hp := by
  intro p l e s m args below meth c D α τ H locs lsM hAt hL hP hS hJ hZ
  exact lv_if_lt hAt.1 hAt.2.1 hd ht (fun h => kt h p l e s m args below meth c D α τ H locs lsM hAt hL hP hS hJ hZ) (fun h => kf h p l e s m args below meth c D α τ H locs lsM hAt hL hP hS hJ hZ)
theorem kx_icmp_le {x y : Int32} {off : Int} {tgt : Nat} (hd : decode cX10_crop pc = .ok (.if_icmp .le off, 3)) (ht : (pc : Int) + off = (tgt : Int)) (kt : x ≤ y → GX va za Hp0 tgt ls st Hp) (kf : ¬ x ≤ y → GX va za Hp0 (pc + 3) ls st Hp) : GX va za Hp0 pc ls (.int y :: .int x :: st) Hp := by
  intro p l e s m args below meth c D α τ H locs lsM hAt hL hP hS hJ hZ
  exact lv_icmp_le hAt.1 hAt.2.1 hd ht (fun h => kt h p l e s m args below meth c D α τ H locs lsM hAt hL hP hS hJ hZ) (fun h => kf h p l e s m args below meth c D α τ H locs lsM hAt hL hP hS hJ hZ)
theorem kx_ic_5 (hd : decode cX10_crop pc = .ok (.iconst (5), 1)) (k : GX va za Hp0 (pc + 1) ls (.int (5) :: st) Hp) : GX va za Hp0 pc ls st Hp := kx_iconst hd (by decide) k
theorem kx_callV {idx d' n : Nat} {y : MethodName} {cc' : ByteArray} {nL' : Nat} {ret' : Option FieldType} {as rest : List Value} {Q' : Option Value → m_H → Prop} {ci a : Nat} {fs : List Value} {as' : List Value} (hd : decode cX10_crop pc = .ok (.invokevirtual idx, 3)) (hL0 : CV RX10 idx y cc' nL' ret' n ci) (ho1 : Hp a = .inr (ci, fs)) (has : as = .ref a :: as') (hC : Con d' y cc' nL' ret' as Hp Q') (hdd : d' ≤ 5) (hn : as'.length = n) (hst : st = as'.reverse ++ .ref a :: rest) (hr : (rest.map fun v => v.category).sum ≤ 8) (k : ∀ r Hp', Q' r Hp' → GX va za Hp0 (pc + 3) ls (r.toList ++ rest) Hp') : GX va za Hp0 pc ls st Hp := by
  obtain ⟨hlink, ⟨HI, HC, ⟨hy1, hy2, hy3⟩, hnl⟩, hinst, hsel, q0, hq0, hq1⟩ := hL0
  intro p l e s m args below meth c D α τ H locs lsM hAt hL hP hS hJ hZ
  obtain ⟨hx, hb, hml, hrt, ho, hts, hlk, hK, hRo, hi⟩ := id hAt
  have hM := hC l D α τ hi
  have hin' : Cond.code y cc' nL' ret' ∈ m_T := HC
  have hini : (Cond.initialized y.cls).before args s = true := hts _ HI
  have hK8 : Back l (x_rm 6) p e below s args y 3 8 (PreOf (x_rm 6) 0 0 (m_Pc D α τ as Hp)) (PostOf (m_Q D α τ Q') 0 0 (m_A α)) := back_of (bytes := cc') (maxL := nL') (ret := ret') hM m_blind rfl rfl (by show d' + 1 ≤ 6; omega) (by show 8 + (nL' + 11) + (40 * d' + 20) ≤ 40 * 6 + 200; omega) (pay_in hts (m_goodIn hin')) List.mem_cons_self (fun a' U hW => word_at hW (Or.inl (by first | rfl | simp [Cond.onTables, Cond.keeps, Cond.steady])) hini)
  subst hst
  intro T hT X
  have hpre : ∀ vm₁, s.WarmedH vm₁ → PreOf (x_rm 6) 0 0 (m_Pc D α τ as Hp) ⟨T.setVm vm₁, locs, 0, 0⟩ (as.map (m_v α)).toArray := fun vm₁ hW₁ => by
    refine ⟨Nat.zero_le _, Nat.zero_le _, rfl, hJ, hT ▸ hP, va_K.moved (u := s) (U := T.setVm vm₁) hW₁.alike hK, ?_⟩
    have h1 : m_Ro α (m_A α) s T.heap := hRo.kept (fun q h2 h3 => by rw [hT]; exact hS.2.1 q h2 h3)
    exact m_Ro.warm (U := T.setVm vm₁) hW₁ h1
  subst has
  have hlt : a < m_NW := m_lt hJ ho1 (by rintro z; cases z; rcases List.getElem?_eq_some_iff.mp hq0 with ⟨q, -⟩; exact absurd q (by decide))
  have he : (m_w α τ Hp)[a]? = some (α a, .inr (ci, fs.map (m_v α))) := by rw [m_w_at hlt, ho1]; rfl
  obtain ⟨cellB, hc1, hc2, hc3⟩ := va_recv hK hP hq0 he
  rw [hq1] at hc3
  have hlen : ∀ sig, parseMethodDescriptor y.desc = some sig → (as'.map (m_v α)).length = sig.parameters.length := fun sig h => by
    rw [h] at hy3
    rw [List.length_map, hn]
    exact (Option.some.inj hy3).symm
  have hstk : (F0 m pc lsM ((as'.reverse ++ .ref a :: rest).map (m_v α))).stack = (as'.map (m_v α)).reverse ++ .ref (α a) :: rest.map (m_v α) := by
    show (as'.reverse ++ .ref a :: rest).map (m_v α) = _
    rw [List.map_append, List.map_reverse]
    rfl
  have hW : 2 * (F0 m pc lsM ((as'.reverse ++ .ref a :: rest).map (m_v α))).monitorRoom + ((rest.map (m_v α)).map fun v => v.category).sum ≤ 8 := lv_room (by rw [m_cat_sum]; exact hr)
  rcases hlink with hlink | ⟨host, hlink⟩
  · obtain ⟨v, vm₁, ⟨U', l2, c2, s2⟩, hW₁, X', ⟨g', mk, t, L, e1, e2, hq, h1, hL2, h2, h3⟩, st'⟩ := callV X hx (C := y.cls) (bytes := cc') (maxL := nL') (ret := ret') ho (hts _ hlink) (hts _ hinst) (hts _ hsel) (hts _ hin') ⟨hy1, hy2⟩ hK8 (b := α a) (cellB := cellB) (by rw [hT]; exact hc1) hc2 hc3 (g := F0 m pc lsM ((as'.reverse ++ .ref a :: rest).map (m_v α))) rfl (hL.1.trans hml.symm) (argsL := as'.map (m_v α)) (rest := rest.map (m_v α)) hlen hstk hW (by rw [hb]; exact hd) hpre
    dsimp only [Pt.U, Pt.locs, Pt.cells, Pt.slots] at X' e1 e2 h1 h2 h3 st'
    subst h1; subst h2; subst h3
    obtain ⟨r, Hp', hv, hQ', hJ', hP', hz, hF⟩ := hq
    cases hv
    have hz' : H.size ≤ U'.heap.size := by rw [e1, ← hT]; exact hz
    have hF' : ∀ q, q < H.size → ¬ m_A α q → U'.heap[q]? = H[q]? := fun q a1 a2 => by
      have a3 := hF q (by show q < T.heap.size; rw [hT]; exact a1) a2
      rw [e1, a3]
      show T.heap[q]? = H[q]?
      rw [hT]
    have hS' : va_S (m_A α) s.heap U'.heap (locs ++ L) := ⟨Nat.le_trans hS.1 hz', fun q a1 a2 => (hF' q (Nat.lt_of_lt_of_le a1 hS.1) a2).trans (hS.2.1 q a1 a2), fun q hq => by
      rcases List.mem_append.mp hq with h | h
      · exact hS.2.2 q h
      · exact hL2 q h⟩
    obtain ⟨t2, a1, b1⟩ := k r Hp' hQ' p l e s m args below meth c D α τ U'.heap (locs ++ L) lsM hAt hL (e1 ▸ hP') hS' hJ' hZ U' rfl X'
    refine ⟨t2, st' t2 ?_, b1⟩
    have e3 : ((r.toList ++ rest).map (m_v α)) = (r.map (m_v α)).toList ++ rest.map (m_v α) := by cases r <;> simp
    rw [e3] at a1
    exact a1
  · obtain ⟨v, vm₁, ⟨U', l2, c2, s2⟩, hW₁, X', ⟨g', mk, t, L, e1, e2, hq, h1, hL2, h2, h3⟩, st'⟩ := va_callVN X hx (C := y.cls) (bytes := cc') (maxL := nL') (ret := ret') ho (va_Nw.use rfl (hRo.2.2.2.2.2 _ hlink)) (hts _ hinst) (hts _ hsel) (hts _ hin') ⟨hy1, hy2⟩ hK8 (b := α a) (cellB := cellB) (by rw [hT]; exact hc1) hc2 hc3 (g := F0 m pc lsM ((as'.reverse ++ .ref a :: rest).map (m_v α))) rfl (hL.1.trans hml.symm) (argsL := as'.map (m_v α)) (rest := rest.map (m_v α)) hlen hstk hW (by rw [hb]; exact hd) hpre
    dsimp only [Pt.U, Pt.locs, Pt.cells, Pt.slots] at X' e1 e2 h1 h2 h3 st'
    subst h1; subst h2; subst h3
    obtain ⟨r, Hp', hv, hQ', hJ', hP', hz, hF⟩ := hq
    cases hv
    have hz' : H.size ≤ U'.heap.size := by rw [e1, ← hT]; exact hz
    have hF' : ∀ q, q < H.size → ¬ m_A α q → U'.heap[q]? = H[q]? := fun q a1 a2 => by
      have a3 := hF q (by show q < T.heap.size; rw [hT]; exact a1) a2
      rw [e1, a3]
      show T.heap[q]? = H[q]?
      rw [hT]
    have hS' : va_S (m_A α) s.heap U'.heap (locs ++ L) := ⟨Nat.le_trans hS.1 hz', fun q a1 a2 => (hF' q (Nat.lt_of_lt_of_le a1 hS.1) a2).trans (hS.2.1 q a1 a2), fun q hq => by
      rcases List.mem_append.mp hq with h | h
      · exact hS.2.2 q h
      · exact hL2 q h⟩
    obtain ⟨t2, a1, b1⟩ := k r Hp' hQ' p l e s m args below meth c D α τ U'.heap (locs ++ L) lsM hAt hL (e1 ▸ hP') hS' hJ' hZ U' rfl X'
    refine ⟨t2, st' t2 ?_, b1⟩
    have e3 : ((r.toList ++ rest).map (m_v α)) = (r.map (m_v α)).toList ++ rest.map (m_v α) := by cases r <;> simp
    rw [e3] at a1
    exact a1
theorem kx_ret {r : Int32} (hd : decode cX10_crop pc = .ok (.ireturn, 1)) (hz : za = 0) (hr : r = va) (hH : Hp = Hp0) : GX va za Hp0 pc ls [.int r] Hp := by
  intro p l e s m args below meth c D α τ H locs lsM hAt hL hP hS hJ hZ
  subst hH
  refine vx_ret ?_
  refine W.widen (k := 1) (n := 6) (Nat.zero_le _) (Nat.zero_le _) ?_
  have hlocks := hAt.2.2.2.2.2.2.1
  exact W.iret (v := r) hAt.1 hAt.2.1 hAt.2.2.2.1 (fun t ht hW => ⟨⟨r, (), rfl, ⟨hz, hr⟩, by show va_P D m_cl (m_w α τ Hp) t.heap; rw [ht]; exact hP⟩, hS.F ht⟩) hS.2.2 hd
theorem kx_throw (hz : za = 1) (hH : Hp = Hp0) (d0 : decode cX10_crop pc = .ok (.new 158, 3)) (d3 : decode cX10_crop (pc + 3) = .ok (.dup, 1)) (d4 : decode cX10_crop (pc + 4) = .ok (.ldc 160, 2)) (d6 : decode cX10_crop (pc + 6) = .ok (.invokespecial 162, 3)) (d9 : decode cX10_crop (pc + 9) = .ok (.athrow, 1)) : GX va za Hp0 pc ls [] Hp := by
  intro p l e s m args below meth c D α τ H locs lsM hAt hL hP hS hJ hZ
  subst hH
  obtain ⟨⟨⟨sa, h1⟩, h2, h3, h6⟩, h4, h5⟩ := hZ
  refine x_throw hAt.1 hAt.2.1 h4 hAt.2.2.2.2.1 hAt.2.2.2.2.2.1 h6 h1 h2 h3 hS (hL.1.trans hAt.2.2.1.symm) d0 d3 d4 d6 d9 (fun x hx => (h5 x hx).elim) (Nat.le_of_ble_eq_true rfl) (Nat.le_of_ble_eq_true rfl) (Nat.le_refl _) (Nat.le_refl _) hAt.2.2.2.2.2.2.1 (fun t hv hsz hk => ?_) hS.2.2 (Nat.le_refl _) (Nat.le_refl _)
  refine ⟨(), hz, ⟨rfl, hP.kept (fun k q hq => hk q.1 (hP k q hq).lt)⟩, Nat.le_trans hS.1 hsz, fun q g1 g2 => ?_⟩
  rw [hk q (Nat.lt_of_lt_of_le g1 hS.1)]
  exact hS.2.1 q g1 g2
end GXR
section XC0
variable {A : Nat → Nat → Int32} {L : Nat → Nat → Int64} {I : Nat → Nat → Int32} {X : Nat → Int64} {x n : Int32}
theorem x_crop0 : GX (oC (A 20) x n) (crZ A x n) (hp A L I X) 0 (m_ent [.ref 0, .int x, .int n] 3) [] (hp A L I X) := by
  show GX (oC (A 20) x n) (crZ A x n) (hp A L I X) 0 [some (.ref 0), some (.int x), some (.int n)] [] (hp A L I X)
  have hthrow : hasC (A 20) x = 0 ∨ n < 0 ∨ 5 < n → GX (oC (A 20) x n) (crZ A x n) (hp A L I X) 20 [some (.ref 0), some (.int x), some (.int n)] [] (hp A L I X) := fun h => kx_throw (if_pos h) rfl dX10_crop_20 dX10_crop_23 dX10_crop_24 dX10_crop_26 dX10_crop_29
  refine kx_aload_n dX10_crop_0 rfl rfl ?_
  refine kx_get dX10_crop_1 fl_X10_46 hp_0 rfl ?_
  refine kx_iload_n dX10_crop_4 rfl rfl ?_
  refine kx_callV dX10_crop_5 cv_X10_155 (as' := [_]) hp_19 rfl (h_hasCrop isS_19) (by decide) rfl rfl (Nat.le_of_ble_eq_true rfl) ?_
  rintro _ _ ⟨rfl, rfl⟩
  refine kx_if_eq (tgt := 20) dX10_crop_8 (by decide) (fun c => hthrow (Or.inl c)) (fun c1 => ?_)
  refine kx_iload_n dX10_crop_11 rfl rfl ?_
  refine kx_if_lt (tgt := 20) dX10_crop_12 (by decide) (fun c => hthrow (Or.inr (Or.inl c))) (fun c2 => ?_)
  refine kx_iload_n dX10_crop_15 rfl rfl ?_
  refine kx_ic_5 dX10_crop_16 ?_
  refine kx_icmp_le (tgt := 30) dX10_crop_17 (by decide) (fun c3 => ?_) (fun c => hthrow (Or.inr (Or.inr (Int32.not_le.mp c))))
  refine kx_aload_n dX10_crop_30 rfl rfl ?_
  refine kx_get dX10_crop_31 fl_X10_46 hp_0 rfl ?_
  refine kx_iload_n dX10_crop_34 rfl rfl ?_
  refine kx_iload_n dX10_crop_35 rfl rfl ?_
  refine kx_callV dX10_crop_36 cv_X10_165 (as' := [_, _]) hp_19 rfl (h_oC isS_19) (by decide) rfl rfl (Nat.le_of_ble_eq_true rfl) ?_
  rintro _ _ ⟨rfl, rfl⟩
  exact kx_ret dX10_crop_39 (if_neg (fun h => h.elim c1 (fun h => h.elim c2 (fun h => absurd h (Int32.not_lt.mpr c3))))) rfl rfl
theorem x_crop {l : Launch} (hl : l.stackTraces = false) {D : va_G} {α : Nat → Nat} {τ : FieldType → ClassId} (hi : ∀ i j, i < m_NW → j < m_NW → α i = α j → i = j) : vx_Met l yX10_crop (Cond.code yX10_crop cX10_crop 3 (some .int) :: m_T) (x_rm 6) (x_Pc D α τ [.ref 0, .int x, .int n] (hp A L I X)) (x_Q D α τ (oC (A 20) x n) (crZ A x n) (hp A L I X)) (x_X D α τ (crZ A x n) (hp A L I X)) 1 6 (m_A α) := by
  refine vx_ofW (cc := cX10_crop) (maxL := 3) (ret := some .int) (by decide) rfl ?_
  intro p e s m args below meth c s₁ B hml hex hv
  obtain ⟨rfl, hJ, hP, hK, hRo, hE⟩ := hv
  have hts := atoms_spec (ws := Cond.code yX10_crop cX10_crop 3 (some .int) :: m_T) B.pre
  have hown : s.vm.findClass yX10_crop.cls = some m.cls := findClass_of_methodNamed B.named
  have hl' := lv_entry ([Value.ref 0, .int x, .int n].map (m_v α)) (n := 3) (Nat.le_of_ble_eq_true rfl)
  rw [lg_entry_eq]
  exact x_crop0 p l e s m _ below meth c D α τ s.heap [] _ ⟨B.exec, B.bytes, hml, B.returns, hown, fun w hw => hts w (List.mem_cons_of_mem _ hw), B.notSynchronized, hK, hRo, hi⟩ ⟨hl'.1, hl'.2.1, fun i v h => hl'.2.2 _ (m_ent_mem h)⟩ hP va_S.rf hJ ⟨hE, hl, hex⟩
end XC0
