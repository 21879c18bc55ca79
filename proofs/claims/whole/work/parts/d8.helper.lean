/-! THE LAW'S HELPER: crop, caught -/
def yLc : MethodName := ⟨"MuleSeasonsLaw", "crop", "(LMuleSeasons;II[J)I"⟩
theorem dC_0 : decode method_3_code 0 = .ok (.aload_n 3, 1) := by decide +kernel
theorem dC_1 : decode method_3_code 1 = .ok (.iconst 0, 1) := by decide +kernel
theorem dC_2 : decode method_3_code 2 = .ok (.aload_n 0, 1) := by decide +kernel
theorem dC_3 : decode method_3_code 3 = .ok (.iload_n 1, 1) := by decide +kernel
theorem dC_4 : decode method_3_code 4 = .ok (.iload_n 2, 1) := by decide +kernel
theorem dC_5 : decode method_3_code 5 = .ok (.invokevirtual 7, 3) := by decide +kernel
theorem dC_8 : decode method_3_code 8 = .ok (.i2l, 1) := by decide +kernel
theorem dC_9 : decode method_3_code 9 = .ok (.lastore, 1) := by decide +kernel
theorem dC_10 : decode method_3_code 10 = .ok (.goto 7, 3) := by decide +kernel
theorem dC_13 : decode method_3_code 13 = .ok (.astore 4, 2) := by decide +kernel
theorem dC_15 : decode method_3_code 15 = .ok (.iconst 1, 1) := by decide +kernel
theorem dC_16 : decode method_3_code 16 = .ok (.ireturn, 1) := by decide +kernel
theorem dC_17 : decode method_3_code 17 = .ok (.iconst 0, 1) := by decide +kernel
theorem dC_18 : decode method_3_code 18 = .ok (.ireturn, 1) := by decide +kernel
theorem m_gT {w : Cond} (h : w ∈ m_T) : w ∈ m_T ∧ ((w.onTables && w.keeps) = true ∨ ∃ ty, w = .arrayClass ty) := ⟨h, good_of_word (List.all_eq_true.mp m_good _ h)⟩
theorem x_gV : GoodIn m_T (wsV RL 7 RX10 yX10_crop (Cond.code yX10_crop cX10_crop 3 (some .int) :: m_T)) := by
  intro w hw
  have hw2 : w ∈ (Cond.methodLink RL 7 yX10_crop :: Cond.instanceMethod yX10_crop :: Cond.selects RX10 yX10_crop yX10_crop :: Cond.initialized RX10 :: Cond.code yX10_crop cX10_crop 3 (some .int) :: m_T) := hw
  rcases List.mem_cons.mp hw2 with rfl | hw2
  · exact m_gT (m_T_5 104 (by decide +kernel) (by decide +kernel))
  rcases List.mem_cons.mp hw2 with rfl | hw2
  · exact m_gT (m_T_5 105 (by decide +kernel) (by decide +kernel))
  rcases List.mem_cons.mp hw2 with rfl | hw2
  · exact m_gT (m_T_5 106 (by decide +kernel) (by decide +kernel))
  rcases List.mem_cons.mp hw2 with rfl | hw2
  · exact m_gT (m_T_1 1 (by decide +kernel) (by decide +kernel))
  rcases List.mem_cons.mp hw2 with rfl | hw2
  · exact m_gT (m_T_5 107 (by decide +kernel) (by decide +kernel))
  exact m_gT hw2
def x_rm2 : Room := { frames := 7, cells := 1, slots := 6, locals := 800 }
/-- what comes out: kept in out[0], or thrown -/
abbrev x_hQ (z v : Int32) (g : Nat → Int64) (r : Int32) (f : Nat → Int64) : Prop := (z = 0 ∧ r = 0 ∧ f = vp_updL g (0 : Int32).toNatClampNeg v.toInt64) ∨ (z = 1 ∧ r = 1 ∧ f = g)
abbrev x_QH (D : va_G) (α : Nat → Nat) (τ : FieldType → ClassId) (z v : Int32) (A : Nat → Nat → Int32) (L : Nat → Nat → Int64) (I : Nat → Nat → Int32) (X : Nat → Int64) : Array Value → State → Outcome → State → Prop := va_Qi (fun (r : Int32) (f : Nat → Int64) => x_hQ z v (L 77) r f) (fun f t => va_P D m_cl (m_w α τ (hp A (up L 77 f) I X)) t.heap) (m_A α)
abbrev x_XH (α : Nat → Nat) : String → State → State → Prop := vx_X (fun _ : Unit => False) (fun _ _ _ => True) (m_A α)
section XH
variable {A : Nat → Nat → Int32} {L : Nat → Nat → Int64} {I : Nat → Nat → Int32} {X : Nat → Int64} {x n : Int32}
set_option maxHeartbeats 4000000 in
theorem x_help {l : Launch} (hl0 : l.stackTraces = false) {D : va_G} {α : Nat → Nat} {τ : FieldType → ClassId} (hi : ∀ i j, i < m_NW → j < m_NW → α i = α j → i = j) : vx_Met l yLc (Cond.codeWith yLc method_3_code 5 (some .int) [(0, 10, 13, 13)] :: m_T) x_rm2 (x_Pc D α τ [.ref 0, .int x, .int n, .ref 77] (hp A L I X)) (x_QH D α τ (crZ A x n) (oC (A 20) x n) A L I X) (x_XH α) 1 6 (m_A α) := by
  refine vx_ofWH (cc := method_3_code) (maxL := 5) (ret := some .int) (hh := [(0, 10, 13, 13)]) (by decide) rfl ?_
  intro p e s m args below meth c s₁ B hml hv
  obtain ⟨rfl, hJ, hP, hK, hRo, hE⟩ := hv
  have hts0 := atoms_spec (ws := Cond.codeWith yLc method_3_code 5 (some .int) [(0, 10, 13, 13)] :: m_T) B.pre
  obtain ⟨x0, hx0, e1, e2, e3, e4⟩ : ∃ x0 : ExceptionTableEntry, c.exceptionTable.toList = [x0] ∧ x0.startPc = 0 ∧ x0.endPc = 10 ∧ x0.handlerPc = 13 ∧ x0.catchType = 13 := by
    obtain ⟨m9, meth9, c9, hn9, h1, h2, h3, h4, h5, -⟩ := Cond.codeWith_spec (hts0 _ List.mem_cons_self)
    cases Option.some.inj (hn9.symm.trans B.named)
    cases Option.some.inj (h1.symm.trans B.method)
    cases Option.some.inj (h2.symm.trans (Stand.of_body B).code)
    match hm : c.exceptionTable.toList, h5 with
    | [], h5 => simp at h5
    | [x0], h5 =>
      simp only [List.map_cons, List.map_nil, List.cons.injEq, Prod.mk.injEq, and_true] at h5
      exact ⟨x0, rfl, h5.1, h5.2.1, h5.2.2.1, h5.2.2.2⟩
    | _ :: _ :: _, h5 => simp at h5
  have hx := B.exec
  have hb := B.bytes
  have hr := B.returns
  have hts := fun (w : Cond) (h : w ∈ m_T) => hts0 w (List.mem_cons_of_mem _ h)
  have hown : s.vm.findClass RL = some m.cls := findClass_of_methodNamed B.named
  have hS : va_S (m_A α) s.heap s.heap [] := va_S.rf
  have hl := lv_entry ([Value.ref (α 0), .int x, .int n, .ref (α 77)]) (n := 5) (Nat.le_of_ble_eq_true rfl)
  rw [show ([Value.ref 0, .int x, .int n, .ref 77].map (m_v α)) = [Value.ref (α 0), .int x, .int n, .ref (α 77)] from rfl, lg_entry_eq]
  generalize (lg_sl ([Value.ref (α 0), .int x, .int n, .ref (α 77)]) ++ List.replicate (5 - (lg_sl ([Value.ref (α 0), .int x, .int n, .ref (α 77)])).length) Slot.unset).toArray = ls at hl ⊢
  have hl : lv_has ls 5 [(0, .ref (α 0)), (1, .int x), (2, .int n), (3, .ref (α 77))] := hl
  refine lv_aload_n hx hb dC_0 rfl (lv_at hl 3 rfl) ?_
  refine lv_iconst (v := 0) hx hb dC_1 (by decide) ?_
  refine lv_aload_n hx hb dC_2 rfl (lv_at hl 0 rfl) ?_
  refine lv_iload_n hx hb dC_3 rfl (lv_at hl 1 rfl) ?_
  refine lv_iload_n hx hb dC_4 rfl (lv_at hl 2 rfl) ?_
  refine vx_calli (A0 := m_A α) (H0 := s.heap) (vx_runV (As := [.int x, .int n]) (rest := [.int 0, .ref (α 77)]) ⟨hx, hb, hml, hown, hts⟩ (x_crop (A := A) (L := L) (I := I) (X := X) (x := x) (n := n) hl0 (D := D) (τ := τ) hi) (cwV 2 hts x_gV rfl rfl rfl (by decide +kernel) ⟨Nat.le_of_ble_eq_true rfl, Nat.le_of_ble_eq_true rfl⟩) ⟨x_blind, va_recv hK hP (ci := 10) (q0 := 0) rfl (by rw [m_w_at (by decide), hp_0]; rfl), fun U hU hW => ⟨rfl, hJ, by rw [hU]; exact hP, va_K.moved hW.alike hK, by rw [hU]; exact m_Ro.warm hW hRo, by rw [hU]; exact x_E_mv hW hE (fun _ _ _ => rfl)⟩⟩ rfl rfl hl.1 rfl (lv_room (Nat.le_of_ble_eq_true rfl)) dC_5 ⟨Nat.le_of_ble_eq_true rfl, Nat.le_of_ble_eq_true rfl⟩) hS (fun q _ h => h) (fun q h => h) (fun q _ h => h) (fun E ce q9 u t H1 locs1 ht hvm hpx hBX hz1 hk1 hS1 hce hcv hcl => ?_) (fun r u t H1 locs1 ht hvm hpo hB hz1 hk1 hS1 => ?_)
  · obtain ⟨rfl, hP1⟩ := hBX
    rw [ht] at hP1
    refine vx_catch (own := RL) (name := x_NSE) hown [] x0 [] hx0 (fun z hz => nomatch hz) (by show (decide (x0.startPc ≤ 5) && decide (5 < x0.endPc)) = true; rw [e1, e2]; rfl) (by rw [e4]; decide) (by rw [e4]; exact hts _ (m_T_5 103 (by decide +kernel) (by decide +kernel))) (va_Nw.use rfl (hE.2.2.2 (.castable x_NSE x_NSE) (List.mem_of_getElem? (i := 3) rfl))) hce hcv hcl ?_
    rw [e3]
    refine lv_astore (lv' := [(4, .ref q9), (0, .ref (α 0)), (1, .int x), (2, .int n), (3, .ref (α 77))]) hx hb dC_13 hl (by decide) rfl (fun ls hl => ?_)
    refine lv_iconst (v := 1) hx hb dC_15 (by decide) ?_
    refine vx_ret ?_
    refine W.widen (k := 1) (n := 6) (Nat.le_refl _) (Nat.le_refl _) ?_
    exact W.iret (v := 1) hx hb hr (fun t ht hW => ⟨⟨1, L 77, rfl, Or.inr ⟨hpx, rfl, rfl⟩, by show va_P D m_cl (m_w α τ (hp A (up L 77 (L 77)) I X)) t.heap; rw [ht, up_self]; exact hP1⟩, hS1.F ht⟩) hS1.2.2 dC_16
  · obtain ⟨hz0, rfl⟩ := hpo
    rw [ht] at hB
    refine lv_i2l hx hb dC_8 rfl ?_
    refine va_last hx hb hK hB (m_D hi) hS1 77 1 (cA := τ .long) (n := 1) (f := L 77) (by rw [m_w_at (by decide), hp_77]; rfl) rfl (by unfold vp_in; decide) dC_9 (fun H2 locs2 hP2 hD2 hS2 => ?_)
    have hP3 : va_P D m_cl (m_w α τ (hp A (up L 77 (vp_updL (L 77) (0 : Int32).toNatClampNeg (oC (A 20) x n).toInt64)) I X)) H2 := by
      rw [← hq_77, ← m_w_set (by decide)]
      exact hP2
    refine lv_goto (tgt := 17) hx hb dC_10 (by decide) ?_
    refine lv_iconst (v := 0) hx hb dC_17 (by decide) ?_
    refine vx_ret ?_
    refine W.widen (k := 1) (n := 6) (Nat.le_refl _) (Nat.le_refl _) ?_
    exact W.iret (v := 0) hx hb hr (fun t ht hW => ⟨⟨0, _, rfl, Or.inl ⟨hz0, rfl, rfl⟩, by show va_P D m_cl (m_w α τ (hp A (up L 77 _) I X)) t.heap; rw [ht]; exact hP3⟩, hS2.F ht⟩) hS2.2.2 dC_18
end XH
