/-! TEXTS: the JDK's own methods over the five texts (2000 + i: the text, 3000 + i: its bytes) -/
section T
variable {d : Nat} {own : String} {cc : ByteArray} {nL : Nat} {ret : Option FieldType} {Q : Option Value → m_H → Prop} {pc : Nat} {ls : List (Option Value)} {st : List Value} {Hp : m_H}
theorem g_tget {idx i : Nat} (hd : decode cc pc = .ok (.getfield idx, 3)) (hl : Cond.fieldLink own idx "java/lang/String" "value" "[B" ∈ m_T) (hi : i < 5) (k : G d own cc nL ret Q (pc + 3) ls (.ref (3000 + i) :: st) Hp) : G d own cc nL ret Q pc ls (.ref (2000 + i) :: st) Hp := by
  intro p l e s m args below meth c D α τ H locs lsM hAt hL hP hS hJ
  have hRo := hAt.2.2.2.2.2.2.2.2.1
  exact vk_getf hAt.1 hAt.2.1 (hRo.2.2.2.1.1.1 i hi).2.2.1 hS hAt.2.2.2.2.1 (hAt.2.2.2.2.2.1 _ hl) (fun _ h => h) hd (k p l e s m args below meth c D α τ H locs lsM hAt hL hP hS hJ)
theorem g_tcod {idx i : Nat} (hd : decode cc pc = .ok (.getfield idx, 3)) (hl : Cond.fieldLink own idx "java/lang/String" "coder" "B" ∈ m_T) (hi : i < 5) (k : G d own cc nL ret Q (pc + 3) ls (.int 0 :: st) Hp) : G d own cc nL ret Q pc ls (.ref (2000 + i) :: st) Hp := by
  intro p l e s m args below meth c D α τ H locs lsM hAt hL hP hS hJ
  have hRo := hAt.2.2.2.2.2.2.2.2.1
  exact vk_getf hAt.1 hAt.2.1 (hRo.2.2.2.1.1.1 i hi).2.1 hS hAt.2.2.2.2.1 (hAt.2.2.2.2.2.1 _ hl) (fun _ h => h) hd (k p l e s m args below meth c D α τ H locs lsM hAt hL hP hS hJ)
theorem g_tlen {i : Nat} (hd : decode cc pc = .ok (.arraylength, 1)) (hi : i < 5) (k : G d own cc nL ret Q (pc + 1) ls (.int (nI (m_sl.getD i 0)) :: st) Hp) : G d own cc nL ret Q pc ls (.ref (3000 + i) :: st) Hp := by
  intro p l e s m args below meth c D α τ H locs lsM hAt hL hP hS hJ
  have hRo := hAt.2.2.2.2.2.2.2.2.1
  exact va_tlen hAt.1 hAt.2.1 (hRo.2.2.2.1.1.1 i hi).2.2.2 hS rfl hd (k p l e s m args below meth c D α τ H locs lsM hAt hL hP hS hJ)
theorem g_tbal {i : Nat} {j : Int32} (hd : decode cc pc = .ok (.baload, 1)) (hi : i < 5) (hin : vp_in j (m_sl.getD i 0)) (k : G d own cc nL ret Q (pc + 1) ls (.int ((m_sb.getD i []).getD j.toNatClampNeg 0) :: st) Hp) : G d own cc nL ret Q pc ls (.int j :: .ref (3000 + i) :: st) Hp := by
  intro p l e s m args below meth c D α τ H locs lsM hAt hL hP hS hJ
  have hRo := hAt.2.2.2.2.2.2.2.2.1
  exact va_tb hAt.1 hAt.2.1 (hRo.2.2.2.1.1.1 i hi).2.2.2 hS hin rfl hd (k p l e s m args below meth c D α τ H locs lsM hAt hL hP hS hJ)
theorem g_tcs {idx : Nat} (hd : decode cc pc = .ok (.getstatic idx, 3)) (hl : Cond.fieldLink own idx "java/lang/String" "COMPACT_STRINGS" "Z" ∈ m_T) (k : G d own cc nL ret Q (pc + 3) ls (.int 1 :: st) Hp) : G d own cc nL ret Q pc ls st Hp := by
  intro p l e s m args below meth c D α τ H locs lsM hAt hL hP hS hJ
  have hRo := hAt.2.2.2.2.2.2.2.2.1
  exact va_gets hAt.1 hAt.2.1 hRo.2.2.2.1.2 hS hAt.2.2.2.2.1 (hAt.2.2.2.2.2.1 _ hl) (fun _ h => h) hd (k p l e s m args below meth c D α τ H locs lsM hAt hL hP hS hJ)
theorem g_i2b {x : Int32} (hd : decode cc pc = .ok (.i2b, 1)) (k : G d own cc nL ret Q (pc + 1) ls (.int x.toInt8.toInt32 :: st) Hp) : G d own cc nL ret Q pc ls (.int x :: st) Hp := by
  intro p l e s m args below meth c D α τ H locs lsM hAt hL hP hS hJ
  exact lv_i2b hAt.1 hAt.2.1 hd rfl (k p l e s m args below meth c D α τ H locs lsM hAt hL hP hS hJ)
theorem g_bret (hd : decode cc pc = .ok (.ireturn, 1)) (hq : Q (some (.int 0)) Hp) : G d own cc nL (some .byte) Q pc ls [.int 0] Hp := by
  intro p l e s m args below meth c D α τ H locs lsM hAt hL hP hS hJ
  exact W.zret hAt.1 hAt.2.1 hAt.2.2.2.1 (by decide +kernel) (fun t ht hw => ⟨some (.int 0), Hp, rfl, hq, hJ, ht ▸ hP, hS.F ht⟩) hS.2.2 hd hAt.2.2.2.2.2.2.1
def CT (own : String) (idx : Nat) (y : MethodName) (cc : ByteArray) (nL : Nat) (ret : Option FieldType) (n : Nat) : Prop := CL own idx y ∧ CY y cc nL ret n ∧ Cond.instanceMethod y ∈ m_T ∧ Cond.selects y.cls y y ∈ m_T ∧ y.cls = "java/lang/String"

theorem g_callT {idx d' n : Nat} {y : MethodName} {cc' : ByteArray} {nL' : Nat} {ret' : Option FieldType} {as rest : List Value} {Q' : Option Value → m_H → Prop} {i : Nat} {as' : List Value} (hd : decode cc pc = .ok (.invokevirtual idx, 3)) (hL0 : CT own idx y cc' nL' ret' n) (hi5 : i < 5) (has : as = .ref (2000 + i) :: as') (hC : Con d' y cc' nL' ret' as Hp Q') (hdd : d' + 1 ≤ d) (hn : as'.length = n) (hst : st = as'.reverse ++ .ref (2000 + i) :: rest) (hr : (rest.map fun v => v.category).sum ≤ 8) (k : ∀ r Hp', Q' r Hp' → G d own cc nL ret Q (pc + 3) ls (r.toList ++ rest) Hp') : G d own cc nL ret Q pc ls st Hp := by
  obtain ⟨hlink, ⟨HI, HC, ⟨hy1, hy2, hy3⟩, hnl⟩, hinst, hsel, hcl⟩ := hL0
  intro p l e s m args below meth c D α τ H locs lsM hAt hL hP hS hJ
  obtain ⟨hx, hb, hml, hrt, ho, hts, hlk, hK, hRo, hi⟩ := id hAt
  have hM := hC l D α τ hi
  have hin' : Cond.code y cc' nL' ret' ∈ m_T := HC
  have hini : (Cond.initialized y.cls).before args s = true := hts _ HI
  have hK8 : Back l (m_rm d) p e below s args y 3 8 (PreOf (m_rm d) 0 0 (m_Pc D α τ as Hp)) (PostOf (m_Q D α τ Q') 0 0 (m_A α)) := back_of (bytes := cc') (maxL := nL') (ret := ret') hM m_blind rfl rfl (by show d' + 1 ≤ d; exact hdd) (by show 8 + (nL' + 11) + (40 * d' + 20) ≤ 40 * d + 20; omega) (pay_in hts (m_goodIn hin')) List.mem_cons_self (fun a' U hW => word_at hW (Or.inl (by first | rfl | simp [Cond.onTables, Cond.keeps, Cond.steady])) hini)
  subst hst
  intro T hT X
  have hpre : ∀ vm₁, s.WarmedH vm₁ → PreOf (m_rm d) 0 0 (m_Pc D α τ as Hp) ⟨T.setVm vm₁, locs, 0, 0⟩ (as.map (m_v α)).toArray := fun vm₁ hW₁ => by
    refine ⟨Nat.le_refl _, Nat.le_refl _, rfl, hJ, hT ▸ hP, va_K.moved (u := s) (U := T.setVm vm₁) hW₁.alike hK, ?_⟩
    have h1 : m_Ro α (m_A α) s T.heap := hRo.kept (fun q h2 h3 => by rw [hT]; exact hS.2.1 q h2 h3)
    exact m_Ro.warm (U := T.setVm vm₁) hW₁ h1
  subst has
  obtain ⟨cellB, hc1, hc2, hc3⟩ := vk_recv hRo.2.2.2.1.1 hi5 hS
  rw [← hcl] at hc3
  have hlen : ∀ sig, parseMethodDescriptor y.desc = some sig → (as'.map (m_v α)).length = sig.parameters.length := fun sig h => by
    rw [h] at hy3
    rw [List.length_map, hn]
    exact (Option.some.inj hy3).symm
  have hstk : (F0 m pc lsM ((as'.reverse ++ .ref (2000 + i) :: rest).map (m_v α))).stack = (as'.map (m_v α)).reverse ++ .ref (α (2000 + i)) :: rest.map (m_v α) := by
    show (as'.reverse ++ .ref (2000 + i) :: rest).map (m_v α) = _
    rw [List.map_append, List.map_reverse]
    rfl
  have hW : 2 * (F0 m pc lsM ((as'.reverse ++ .ref (2000 + i) :: rest).map (m_v α))).monitorRoom + ((rest.map (m_v α)).map fun v => v.category).sum ≤ 8 := lv_room (by rw [m_cat_sum]; exact hr)
  rcases hlink with hlink | ⟨host, hlink⟩
  · obtain ⟨v, vm₁, ⟨U', l2, c2, s2⟩, hW₁, X', ⟨g', mk, t, L, e1, e2, hq, h1, hL2, h2, h3⟩, st'⟩ := callV X hx (C := y.cls) (bytes := cc') (maxL := nL') (ret := ret') ho (hts _ hlink) (hts _ hinst) (hts _ hsel) (hts _ hin') ⟨hy1, hy2⟩ hK8 (b := α (2000 + i)) (cellB := cellB) (by rw [hT]; exact hc1) hc2 hc3 (g := F0 m pc lsM ((as'.reverse ++ .ref (2000 + i) :: rest).map (m_v α))) rfl (hL.1.trans hml.symm) (argsL := as'.map (m_v α)) (rest := rest.map (m_v α)) hlen hstk hW (by rw [hb]; exact hd) hpre
    dsimp only [Pt.U, Pt.locs, Pt.cells, Pt.slots] at X' e1 e2 h1 h2 h3 st'
    subst h1; subst h2; subst h3
    obtain ⟨r, Hp', hv, hQ', hJ', hP', hz, hF⟩ := hq
    cases hv
    have hz' : H.size ≤ U'.heap.size := by rw [e1, ← hT]; exact hz
    have hF' : ∀ q, q < H.size → ¬ m_A α q → U'.heap[q]? = H[q]? := fun q a1 a2 => by
      have a3 := hF q (by show q < T.heap.size; rw [hT]; exact a1) a2
      rw [e1, a3]
      show T.heap[q]? = H[q]?
      rw [hT]
    have hS' : va_S (m_A α) s.heap U'.heap (locs ++ L) := ⟨Nat.le_trans hS.1 hz', fun q a1 a2 => (hF' q (Nat.lt_of_lt_of_le a1 hS.1) a2).trans (hS.2.1 q a1 a2), fun q hq => by
      rcases List.mem_append.mp hq with h | h
      · exact hS.2.2 q h
      · exact hL2 q h⟩
    obtain ⟨t2, a1, b1⟩ := k r Hp' hQ' p l e s m args below meth c D α τ U'.heap (locs ++ L) lsM hAt hL (e1 ▸ hP') hS' hJ' U' rfl X'
    refine ⟨t2, st' t2 ?_, b1⟩
    have e3 : ((r.toList ++ rest).map (m_v α)) = (r.map (m_v α)).toList ++ rest.map (m_v α) := by cases r <;> simp
    rw [e3] at a1
    exact a1
  · obtain ⟨v, vm₁, ⟨U', l2, c2, s2⟩, hW₁, X', ⟨g', mk, t, L, e1, e2, hq, h1, hL2, h2, h3⟩, st'⟩ := va_callVN X hx (C := y.cls) (bytes := cc') (maxL := nL') (ret := ret') ho (va_Nw.use rfl (hRo.2.2.2.2.2 _ hlink)) (hts _ hinst) (hts _ hsel) (hts _ hin') ⟨hy1, hy2⟩ hK8 (b := α (2000 + i)) (cellB := cellB) (by rw [hT]; exact hc1) hc2 hc3 (g := F0 m pc lsM ((as'.reverse ++ .ref (2000 + i) :: rest).map (m_v α))) rfl (hL.1.trans hml.symm) (argsL := as'.map (m_v α)) (rest := rest.map (m_v α)) hlen hstk hW (by rw [hb]; exact hd) hpre
    dsimp only [Pt.U, Pt.locs, Pt.cells, Pt.slots] at X' e1 e2 h1 h2 h3 st'
    subst h1; subst h2; subst h3
    obtain ⟨r, Hp', hv, hQ', hJ', hP', hz, hF⟩ := hq
    cases hv
    have hz' : H.size ≤ U'.heap.size := by rw [e1, ← hT]; exact hz
    have hF' : ∀ q, q < H.size → ¬ m_A α q → U'.heap[q]? = H[q]? := fun q a1 a2 => by
      have a3 := hF q (by show q < T.heap.size; rw [hT]; exact a1) a2
      rw [e1, a3]
      show T.heap[q]? = H[q]?
      rw [hT]
    have hS' : va_S (m_A α) s.heap U'.heap (locs ++ L) := ⟨Nat.le_trans hS.1 hz', fun q a1 a2 => (hF' q (Nat.lt_of_lt_of_le a1 hS.1) a2).trans (hS.2.1 q a1 a2), fun q hq => by
      rcases List.mem_append.mp hq with h | h
      · exact hS.2.2 q h
      · exact hL2 q h⟩
    obtain ⟨t2, a1, b1⟩ := k r Hp' hQ' p l e s m args below meth c D α τ U'.heap (locs ++ L) lsM hAt hL (e1 ▸ hP') hS' hJ' U' rfl X'
    refine ⟨t2, st' t2 ?_, b1⟩
    have e3 : ((r.toList ++ rest).map (m_v α)) = (r.map (m_v α)).toList ++ rest.map (m_v α) := by cases r <;> simp
    rw [e3] at a1
    exact a1

end T
theorem ct_X6_72 : CT RX6 72 yJ0_length_8abf5 cJ0_length_8abf5 1 (some .int) 0 := ⟨Or.inl (m_T_2 114 (by decide +kernel) (by decide +kernel)), ⟨m_T_1 13 (by decide +kernel) (by decide +kernel), m_T_2 117 (by decide +kernel) (by decide +kernel), ⟨by decide +kernel, by decide +kernel, by decide +kernel⟩, by decide⟩, m_T_2 115 (by decide +kernel) (by decide +kernel), m_T_2 116 (by decide +kernel) (by decide +kernel), rfl⟩
theorem ct_X1_35 : CT RX1 35 yJ0_indexOf_0f7a4 cJ0_indexOf_0f7a4 2 (some .int) 1 := ⟨Or.inl (m_T_2 148 (by decide +kernel) (by decide +kernel)), ⟨m_T_1 13 (by decide +kernel) (by decide +kernel), m_T_2 151 (by decide +kernel) (by decide +kernel), ⟨by decide +kernel, by decide +kernel, by decide +kernel⟩, by decide⟩, m_T_2 149 (by decide +kernel) (by decide +kernel), m_T_2 150 (by decide +kernel) (by decide +kernel), rfl⟩
theorem ct_J0_335 : CT RJ0 335 yJ0_coder_7d493 cJ0_coder_7d493 1 (some .byte) 0 := ⟨Or.inl (m_T_2 118 (by decide +kernel) (by decide +kernel)), ⟨m_T_1 13 (by decide +kernel) (by decide +kernel), m_T_2 121 (by decide +kernel) (by decide +kernel), ⟨by decide +kernel, by decide +kernel, by decide +kernel⟩, by decide⟩, m_T_2 119 (by decide +kernel) (by decide +kernel), m_T_2 120 (by decide +kernel) (by decide +kernel), rfl⟩
theorem ct_J0_633 : CT RJ0 633 yJ0_indexOf_7cf53 cJ0_indexOf_7cf53 3 (some .int) 2 := ⟨Or.inl (m_T_2 152 (by decide +kernel) (by decide +kernel)), ⟨m_T_1 13 (by decide +kernel) (by decide +kernel), m_T_2 155 (by decide +kernel) (by decide +kernel), ⟨by decide +kernel, by decide +kernel, by decide +kernel⟩, by decide⟩, m_T_2 153 (by decide +kernel) (by decide +kernel), m_T_2 154 (by decide +kernel) (by decide +kernel), rfl⟩
theorem ct_J0_492 : CT RJ0 492 yJ0_isLatin1_aae02 cJ0_isLatin1_aae02 1 (some .boolean) 0 := ⟨Or.inl (m_T_2 156 (by decide +kernel) (by decide +kernel)), ⟨m_T_1 13 (by decide +kernel) (by decide +kernel), m_T_2 159 (by decide +kernel) (by decide +kernel), ⟨by decide +kernel, by decide +kernel, by decide +kernel⟩, by decide⟩, m_T_2 157 (by decide +kernel) (by decide +kernel), m_T_2 158 (by decide +kernel) (by decide +kernel), rfl⟩
theorem ct_J0_505 : CT RJ0 505 yJ0_length_8abf5 cJ0_length_8abf5 1 (some .int) 0 := ⟨Or.inl (m_T_2 160 (by decide +kernel) (by decide +kernel)), ⟨m_T_1 13 (by decide +kernel) (by decide +kernel), m_T_2 117 (by decide +kernel) (by decide +kernel), ⟨by decide +kernel, by decide +kernel, by decide +kernel⟩, by decide⟩, m_T_2 115 (by decide +kernel) (by decide +kernel), m_T_2 116 (by decide +kernel) (by decide +kernel), rfl⟩
theorem cs_J0_637 : CS RJ0 637 yJ1_indexOf_4cfef cJ1_indexOf_4cfef 4 (some .int) 4 := ⟨Or.inl (m_T_2 161 (by decide +kernel) (by decide +kernel)), ⟨m_T_1 14 (by decide +kernel) (by decide +kernel), m_T_2 163 (by decide +kernel) (by decide +kernel), ⟨by decide +kernel, by decide +kernel, by decide +kernel⟩, by decide⟩, m_T_2 162 (by decide +kernel) (by decide +kernel)⟩
theorem cs_J1_88 : CS RJ1 88 yJ1_canEncode_9a6ad cJ1_canEncode_9a6ad 1 (some .boolean) 1 := ⟨Or.inl (m_T_2 164 (by decide +kernel) (by decide +kernel)), ⟨m_T_1 14 (by decide +kernel) (by decide +kernel), m_T_2 166 (by decide +kernel) (by decide +kernel), ⟨by decide +kernel, by decide +kernel, by decide +kernel⟩, by decide⟩, m_T_2 165 (by decide +kernel) (by decide +kernel)⟩
theorem cs_J1_95 : CS RJ1 95 yJ1_indexOfChar_4cfef cJ1_indexOfChar_4cfef 6 (some .int) 4 := ⟨Or.inl (m_T_2 173 (by decide +kernel) (by decide +kernel)), ⟨m_T_1 14 (by decide +kernel) (by decide +kernel), m_T_2 175 (by decide +kernel) (by decide +kernel), ⟨by decide +kernel, by decide +kernel, by decide +kernel⟩, by decide⟩, m_T_2 174 (by decide +kernel) (by decide +kernel)⟩
theorem fl_J0_9 : Cond.fieldLink RJ0 9 "java/lang/String" "value" "[B" ∈ m_T := m_T_8 96 (by decide +kernel) (by decide +kernel)
theorem fl_J0_15 : Cond.fieldLink RJ0 15 "java/lang/String" "coder" "B" ∈ m_T := m_T_8 97 (by decide +kernel) (by decide +kernel)
theorem fl_J0_38 : Cond.fieldLink RJ0 38 "java/lang/String" "COMPACT_STRINGS" "Z" ∈ m_T := m_T_2 122 (by decide +kernel) (by decide +kernel)
theorem ml_J1_92 : Cond.methodLink RJ1 92 Lib.Math.max.name ∈ m_T := m_T_2 167 (by decide +kernel) (by decide +kernel)
theorem ml_J1_38 : Cond.methodLink RJ1 38 Lib.Math.min.name ∈ m_T := m_T_2 170 (by decide +kernel) (by decide +kernel)
theorem j_coder {Hp : m_H} {i : Nat} (hi : i < 5) : Con 1 yJ0_coder_7d493 cJ0_coder_7d493 1 (some .byte) [.ref (2000 + i)] Hp (fun r_ H_ => r_ = some (.int 0) ∧ H_ = Hp) := by
  refine m_con (by decide) (Nat.le_of_ble_eq_true rfl) ?_
  refine g_tcs dJ0_coder_7d493_0 fl_J0_38 ?_
  refine g_if_eq (tgt := 13) dJ0_coder_7d493_3 (by decide) (fun c => absurd c (by decide)) (fun c => ?_)
  refine g_aload_n dJ0_coder_7d493_6 rfl rfl ?_
  refine g_tcod dJ0_coder_7d493_7 fl_J0_15 hi ?_
  refine g_goto (tgt := 14) dJ0_coder_7d493_10 (by decide) ?_
  exact g_bret dJ0_coder_7d493_14 ⟨rfl, rfl⟩
theorem j_latin {Hp : m_H} {i : Nat} (hi : i < 5) : Con 1 yJ0_isLatin1_aae02 cJ0_isLatin1_aae02 1 (some .boolean) [.ref (2000 + i)] Hp (fun r_ H_ => r_ = some (.int 1) ∧ H_ = Hp) := by
  refine m_con (by decide) (Nat.le_of_ble_eq_true rfl) ?_
  refine g_tcs dJ0_isLatin1_aae02_0 fl_J0_38 ?_
  refine g_if_eq (tgt := 17) dJ0_isLatin1_aae02_3 (by decide) (fun c => absurd c (by decide)) (fun c => ?_)
  refine g_aload_n dJ0_isLatin1_aae02_6 rfl rfl ?_
  refine g_tcod dJ0_isLatin1_aae02_7 fl_J0_15 hi ?_
  refine g_if_ne (tgt := 17) dJ0_isLatin1_aae02_10 (by decide) (fun c => absurd rfl c) (fun c => ?_)
  refine g_ic_1 dJ0_isLatin1_aae02_13 ?_
  refine g_goto (tgt := 18) dJ0_isLatin1_aae02_14 (by decide) ?_
  exact g_zret (Or.inr rfl) dJ0_isLatin1_aae02_18 ⟨rfl, rfl⟩
theorem m_sl5 {i : Nat} (hi : i < 5) : nI (m_sl.getD i 0) >>> ((0 : Int32) &&& 31) = nI (m_sl.getD i 0) ∧ m_sl.getD i 0 ≤ 6 ∧ 0 < m_sl.getD i 0 := by
  have : i = 0 ∨ i = 1 ∨ i = 2 ∨ i = 3 ∨ i = 4 := by omega
  rcases this with rfl | rfl | rfl | rfl | rfl <;> exact ⟨by decide, by decide, by decide⟩
theorem j_len {Hp : m_H} {i : Nat} (hi : i < 5) : Con 2 yJ0_length_8abf5 cJ0_length_8abf5 1 (some .int) [.ref (2000 + i)] Hp (fun r_ H_ => r_ = some (.int (nI (m_sl.getD i 0))) ∧ H_ = Hp) := by
  refine m_con (by decide) (Nat.le_of_ble_eq_true rfl) ?_
  refine g_aload_n dJ0_length_8abf5_0 rfl rfl ?_
  refine g_tget dJ0_length_8abf5_1 fl_J0_9 hi ?_
  refine g_tlen dJ0_length_8abf5_4 hi ?_
  refine g_aload_n dJ0_length_8abf5_5 rfl rfl ?_
  refine g_callT dJ0_length_8abf5_6 ct_J0_335 (as' := []) hi rfl (j_coder hi) (by decide) rfl rfl (Nat.le_of_ble_eq_true rfl) ?_
  rintro _ _ ⟨rfl, rfl⟩
  refine g_ishr dJ0_length_8abf5_9 ?_
  exact g_iret dJ0_length_8abf5_10 ⟨by rw [(m_sl5 hi).1], rfl⟩
theorem j_can {Hp : m_H} {x : Int32} (h1 : ¬ x < 0) (h2 : ¬ 255 < x) : Con 1 yJ1_canEncode_9a6ad cJ1_canEncode_9a6ad 1 (some .boolean) [.int x] Hp (fun r_ H_ => r_ = some (.int 1) ∧ H_ = Hp) := by
  refine m_con (by decide) (Nat.le_of_ble_eq_true rfl) ?_
  refine g_iload_n dJ1_canEncode_9a6ad_0 rfl rfl ?_
  refine g_if_lt (tgt := 15) dJ1_canEncode_9a6ad_1 (by decide) (fun c => absurd c h1) (fun c => ?_)
  refine g_iload_n dJ1_canEncode_9a6ad_4 rfl rfl ?_
  refine g_sipush (v := 255) dJ1_canEncode_9a6ad_5 (by decide) ?_
  refine g_icmp_gt (tgt := 15) dJ1_canEncode_9a6ad_8 (by decide) (fun c => absurd c h2) (fun c => ?_)
  refine g_ic_1 dJ1_canEncode_9a6ad_11 ?_
  refine g_goto (tgt := 16) dJ1_canEncode_9a6ad_12 (by decide) ?_
  exact g_zret (Or.inr rfl) dJ1_canEncode_9a6ad_16 ⟨rfl, rfl⟩
/-- the place of a letter among some, from k on -/
def ixL (f : Nat → Int32) (c : Int32) : Nat → Nat → Int32
  | 0, _ => (-1)
  | n + 1, k => if f k = c then nI k else ixL f c n (k + 1)
def txF (i : Nat) : Nat → Int32 := fun j => (m_sb.getD i []).getD j 0
def ixS (i : Nat) (c : Int32) : Int32 := ixL (txF i) c (m_sl.getD i 0) 0
theorem j_char_loop {Hp : m_H} {i : Nat} {x c8 : Int32} {Q : Option Value → m_H → Prop} (hi : i < 5) : ∀ n k, n + k = m_sl.getD i 0 → Q (some (.int (ixL (txF i) c8 n k))) Hp → G 1 RJ1 cJ1_indexOfChar_4cfef 6 (some .int) Q 7 [some (.ref (3000 + i)), some (.int x), some (.int 0), some (.int (nI (m_sl.getD i 0))), some (.int c8), some (.int (nI k))] [] Hp := by
  intro n
  have hb := m_sl5 hi
  induction n with
  | zero =>
    intro k hk hQ
    refine g_iload dJ1_indexOfChar_4cfef_7 rfl ?_
    refine g_iload_n dJ1_indexOfChar_4cfef_9 rfl rfl ?_
    refine g_icmp_ge (tgt := 31) dJ1_indexOfChar_4cfef_10 (by decide) (fun c => ?_) (fun c => ?_)
    · refine g_ic_m1 dJ1_indexOfChar_4cfef_31 ?_
      exact g_iret dJ1_indexOfChar_4cfef_32 hQ
    · exact absurd (nI_le (a := m_sl.getD i 0) (b := k) (by omega) (by omega)) c
  | succ n ih =>
    intro k hk hQ
    refine g_iload dJ1_indexOfChar_4cfef_7 rfl ?_
    refine g_iload_n dJ1_indexOfChar_4cfef_9 rfl rfl ?_
    refine g_icmp_ge (tgt := 31) dJ1_indexOfChar_4cfef_10 (by decide) (fun c => ?_) (fun c => ?_)
    · exact absurd ((nI_leI (by omega) (by omega)).mp c) (by omega)
    refine g_aload_n dJ1_indexOfChar_4cfef_13 rfl rfl ?_
    refine g_iload dJ1_indexOfChar_4cfef_14 rfl ?_
    refine g_tbal dJ1_indexOfChar_4cfef_16 hi (vp_in_nI (by omega) (by omega)) ?_
    rw [show (m_sb.getD i []).getD (nI k).toNatClampNeg 0 = txF i k by rw [nI_clamp (by omega)]; rfl]
    refine g_iload dJ1_indexOfChar_4cfef_17 rfl ?_
    refine g_icmp_ne (tgt := 25) dJ1_indexOfChar_4cfef_19 (by decide) (fun c => ?_) (fun c => ?_)
    · refine g_iinc1 dJ1_indexOfChar_4cfef_25 rfl (by decide) ?_
      refine g_goto (tgt := 7) dJ1_indexOfChar_4cfef_28 (by decide) ?_
      rw [nI_1]
      refine ih (k + 1) (by omega) ?_
      rw [ixL, if_neg c] at hQ
      exact hQ
    · refine g_iload dJ1_indexOfChar_4cfef_22 rfl ?_
      rw [ixL, if_pos c] at hQ
      exact g_iret dJ1_indexOfChar_4cfef_24 hQ
theorem j_char {x : Int32} {Hp : m_H} {i : Nat} (hi : i < 5) : Con 1 yJ1_indexOfChar_4cfef cJ1_indexOfChar_4cfef 6 (some .int) [.ref (3000 + i), .int x, .int 0, .int (nI (m_sl.getD i 0))] Hp (fun r_ H_ => r_ = some (.int (ixS i x.toInt8.toInt32)) ∧ H_ = Hp) := by
  refine m_con (by decide) (Nat.le_of_ble_eq_true rfl) ?_
  refine g_iload_n dJ1_indexOfChar_4cfef_0 rfl rfl ?_
  refine g_i2b dJ1_indexOfChar_4cfef_1 ?_
  refine g_istore dJ1_indexOfChar_4cfef_2 (by decide) ?_
  refine g_iload_n dJ1_indexOfChar_4cfef_4 rfl rfl ?_
  refine g_istore dJ1_indexOfChar_4cfef_5 (by decide) ?_
  exact j_char_loop hi (m_sl.getD i 0) 0 rfl ⟨rfl, rfl⟩
theorem j_ixb {x : Int32} {Hp : m_H} {i : Nat} (hi : i < 5) (h1 : ¬ x < 0) (h2 : ¬ 255 < x) : Con 3 yJ1_indexOf_4cfef cJ1_indexOf_4cfef 4 (some .int) [.ref (3000 + i), .int x, .int 0, .int (nI (m_sl.getD i 0))] Hp (fun r_ H_ => r_ = some (.int (ixS i x.toInt8.toInt32)) ∧ H_ = Hp) := by
  refine m_con (by decide) (Nat.le_of_ble_eq_true rfl) ?_
  have hb := m_sl5 hi
  refine g_iload_n dJ1_indexOf_4cfef_0 rfl rfl ?_
  refine g_callS dJ1_indexOf_4cfef_1 cs_J1_88 (as := [_]) (j_can h1 h2) (by decide) rfl rfl (Nat.le_of_ble_eq_true rfl) ?_
  rintro _ _ ⟨rfl, rfl⟩
  refine g_if_ne (tgt := 9) dJ1_indexOf_4cfef_4 (by decide) (fun c => ?_) (fun c => absurd c (by decide))
  refine g_iload_n dJ1_indexOf_4cfef_9 rfl rfl ?_
  refine g_ic_0 dJ1_indexOf_4cfef_10 ?_
  refine g_max dJ1_indexOf_4cfef_11 ml_J1_92 ms_max mi_math mc_max (by decide) (Nat.le_of_ble_eq_true rfl) ?_
  refine g_istore_n dJ1_indexOf_4cfef_14 rfl (by decide) ?_
  refine g_iload_n dJ1_indexOf_4cfef_15 rfl rfl ?_
  refine g_aload_n dJ1_indexOf_4cfef_16 rfl rfl ?_
  refine g_tlen dJ1_indexOf_4cfef_17 hi ?_
  refine g_min dJ1_indexOf_4cfef_18 ml_J1_38 ms_min mi_math mc_min (by decide) (Nat.le_of_ble_eq_true rfl) ?_
  rw [show (if nI (m_sl.getD i 0) < nI (m_sl.getD i 0) then nI (m_sl.getD i 0) else nI (m_sl.getD i 0)) = nI (m_sl.getD i 0) by split <;> rfl, show (if (0 : Int32) < 0 then (0 : Int32) else 0) = 0 by split <;> rfl]
  refine g_istore_n dJ1_indexOf_4cfef_21 rfl (by decide) ?_
  refine g_iload_n dJ1_indexOf_4cfef_22 rfl rfl ?_
  refine g_iload_n dJ1_indexOf_4cfef_23 rfl rfl ?_
  refine g_icmp_lt (tgt := 29) dJ1_indexOf_4cfef_24 (by decide) (fun c => ?_) (fun c => absurd ((nI_ltI (a := 0) (by omega) (by omega)).mpr hb.2.2) c)
  refine g_aload_n dJ1_indexOf_4cfef_29 rfl rfl ?_
  refine g_iload_n dJ1_indexOf_4cfef_30 rfl rfl ?_
  refine g_iload_n dJ1_indexOf_4cfef_31 rfl rfl ?_
  refine g_iload_n dJ1_indexOf_4cfef_32 rfl rfl ?_
  refine g_callS dJ1_indexOf_4cfef_33 cs_J1_95 (as := [_, _, _, _]) (j_char hi) (by decide) rfl rfl (Nat.le_of_ble_eq_true rfl) ?_
  rintro _ _ ⟨rfl, rfl⟩
  exact g_iret dJ1_indexOf_4cfef_36 ⟨rfl, rfl⟩
theorem j_ix2 {x : Int32} {Hp : m_H} {i : Nat} (hi : i < 5) (h1 : ¬ x < 0) (h2 : ¬ 255 < x) : Con 4 yJ0_indexOf_7cf53 cJ0_indexOf_7cf53 3 (some .int) [.ref (2000 + i), .int x, .int 0] Hp (fun r_ H_ => r_ = some (.int (ixS i x.toInt8.toInt32)) ∧ H_ = Hp) := by
  refine m_con (by decide) (Nat.le_of_ble_eq_true rfl) ?_
  refine g_aload_n dJ0_indexOf_7cf53_0 rfl rfl ?_
  refine g_callT dJ0_indexOf_7cf53_1 ct_J0_492 (as' := []) hi rfl (j_latin hi) (by decide) rfl rfl (Nat.le_of_ble_eq_true rfl) ?_
  rintro _ _ ⟨rfl, rfl⟩
  refine g_if_eq (tgt := 23) dJ0_indexOf_7cf53_4 (by decide) (fun c => absurd c (by decide)) (fun c => ?_)
  refine g_aload_n dJ0_indexOf_7cf53_7 rfl rfl ?_
  refine g_tget dJ0_indexOf_7cf53_8 fl_J0_9 hi ?_
  refine g_iload_n dJ0_indexOf_7cf53_11 rfl rfl ?_
  refine g_iload_n dJ0_indexOf_7cf53_12 rfl rfl ?_
  refine g_aload_n dJ0_indexOf_7cf53_13 rfl rfl ?_
  refine g_callT dJ0_indexOf_7cf53_14 ct_J0_505 (as' := []) hi rfl (j_len hi) (by decide) rfl rfl (Nat.le_of_ble_eq_true rfl) ?_
  rintro _ _ ⟨rfl, rfl⟩
  refine g_callS dJ0_indexOf_7cf53_17 cs_J0_637 (as := [_, _, _, _]) (j_ixb hi h1 h2) (by decide) rfl rfl (Nat.le_of_ble_eq_true rfl) ?_
  rintro _ _ ⟨rfl, rfl⟩
  refine g_goto (tgt := 36) dJ0_indexOf_7cf53_20 (by decide) ?_
  exact g_iret dJ0_indexOf_7cf53_36 ⟨rfl, rfl⟩
theorem ixS_b : ∀ i, i < 5 → ∀ n, n < 256 → ixS i (nI n).toInt8.toInt32 = ixS i (nI n) := by decide +kernel
theorem j_ix {n : Nat} {Hp : m_H} {i : Nat} (hi : i < 5) (hn : n < 256) : Con 5 yJ0_indexOf_0f7a4 cJ0_indexOf_0f7a4 2 (some .int) [.ref (2000 + i), .int (nI n)] Hp (fun r_ H_ => r_ = some (.int (ixS i (nI n))) ∧ H_ = Hp) := by
  refine m_con (by decide) (Nat.le_of_ble_eq_true rfl) ?_
  refine g_aload_n dJ0_indexOf_0f7a4_0 rfl rfl ?_
  refine g_iload_n dJ0_indexOf_0f7a4_1 rfl rfl ?_
  refine g_ic_0 dJ0_indexOf_0f7a4_2 ?_
  refine g_callT dJ0_indexOf_0f7a4_3 ct_J0_633 (as' := [_, _]) hi rfl (j_ix2 hi (Int32.not_lt.mpr (nI_pos' (by omega))) (Int32.not_lt.mpr (nI_le (b := 255) (by omega) (by decide)))) (by decide) rfl rfl (Nat.le_of_ble_eq_true rfl) ?_
  rintro _ _ ⟨rfl, rfl⟩
  exact g_iret dJ0_indexOf_0f7a4_6 ⟨by rw [ixS_b i hi n hn], rfl⟩
