/-! THE LAW: the call crop -/
theorem x_gS : GoodIn m_T (va_wsS RL 46 yLc (Cond.codeWith yLc method_3_code 5 (some .int) [(0, 10, 13, 13)] :: m_T)) := by
  intro w hw
  have hw2 : w ∈ (Cond.methodLink RL 46 yLc :: Cond.static yLc :: Cond.initialized RL :: Cond.codeWith yLc method_3_code 5 (some .int) [(0, 10, 13, 13)] :: m_T) := hw
  rcases List.mem_cons.mp hw2 with rfl | hw2
  · exact m_gT (m_T_5 100 (by decide +kernel) (by decide +kernel))
  rcases List.mem_cons.mp hw2 with rfl | hw2
  · exact m_gT (m_T_5 101 (by decide +kernel) (by decide +kernel))
  rcases List.mem_cons.mp hw2 with rfl | hw2
  · exact m_gT (m_T_1 0 (by decide +kernel) (by decide +kernel))
  rcases List.mem_cons.mp hw2 with rfl | hw2
  · exact m_gT (m_T_5 102 (by decide +kernel) (by decide +kernel))
  exact m_gT hw2

theorem x_st {s : State} {b : Nat} (hgv : (Jvm.Cond.and given_1 narrow_1).before #[Value.ref b] s = true) (hts : ∀ w ∈ lw_tbl, w.before #[Value.ref b] s = true) {α : Nat → Nat} (hge : ∀ i, i < m_NW → s.heap.size ≤ α i) : x_E α s s.heap := by
  have hs := flat_of_before _ hgv
  have hA : ∀ a : Nat, a < s.heap.size → ¬ m_A α a := fun a h ⟨k, k1, k2⟩ => by
    have := hge k k1
    omega
  have hI : (Cond.initialized Bundle.tN).before #[Value.ref b] s = true := hts _ (List.mem_of_getElem? (i := 177) (by decide +kernel))
  have h1 : (Cond.stringRef RX10 160 "no such crop").before #[Value.ref b] s = true := hts _ (List.mem_of_getElem? (i := 1265) (by decide +kernel))
  have h2 : (Cond.exactly (.string RX10 160) "java/lang/String").before #[Value.ref b] s = true := hs _ (by decide +kernel)
  obtain ⟨a, c, cA, kA, q1, -⟩ := Cond.exactly_spec (args := #[Value.ref b]) (first := s) (o := none) (s := s) (idx := []) (t := .string RX10 160) (cls := "java/lang/String") h2
  refine ⟨⟨a, vk_R.of h1 q1⟩, ?_, ?_, fun w hw => va_tabs (x_D_ot w hw) rfl (hts w ?_)⟩
  · exact vx_Zqof (hts _ (List.mem_of_getElem? (i := 1253) (by decide +kernel))) hI (hs _ (by decide +kernel)) hA
  · exact vx_Zqof (hts _ (List.mem_of_getElem? (i := 1255) (by decide +kernel))) hI (hs _ (by decide +kernel)) hA
  · rcases List.mem_cons.mp hw with rfl | hw
    · exact List.mem_of_getElem? (i := 1230) (by decide +kernel)
    rcases List.mem_cons.mp hw with rfl | hw
    · exact List.mem_of_getElem? (i := 1232) (by decide +kernel)
    rcases List.mem_cons.mp hw with rfl | hw
    · exact List.mem_of_getElem? (i := 1234) (by decide +kernel)
    rcases List.mem_cons.mp hw with rfl | hw
    · exact List.mem_of_getElem? (i := 1228) (by decide +kernel)
    cases hw
theorem hp_junk {A : Nat → Nat → Int32} {L : Nat → Nat → Int64} {I : Nat → Nat → Int32} {X : Nat → Int64} : m_jk (hp A L I X) := by
  intro i hi
  have e : hK i = 0 := by
    have h78 : 78 ≤ i := hi
    unfold hK
    repeat' split
    all_goals first | rfl | omega
  unfold hp
  rw [e]
  rfl
set_option maxHeartbeats 800000 in
set_option maxRecDepth 100000 in
theorem e_thrown {A : Nat → Nat → Int32} {L : Nat → Nat → Int64} {I : Nat → Nat → Int32} {X : Nat → Int64}   : Con 1 yX11_thrown cX11_thrown 1 (some .int) [.ref 46] (hp A L I X) (fun r_ H_ => r_ = some (.int (I 46 0)) ∧ H_ = hp A L I X) := by
  refine m_con (by decide) (Nat.le_of_ble_eq_true rfl) ?_
  refine g_aload_n dX11_thrown_0 rfl rfl ?_
  refine g_get dX11_thrown_1 fl_X11_106 hp_46 rfl ?_
  exact g_iret dX11_thrown_4 ⟨rfl, rfl⟩

section LC
variable {cells slots b N : Nat} {xs : Nat → Int32} {pc : Nat} {ls : List (Option Value)} {st : List Value} {A : Nat → Nat → Int32} {L : Nat → Nat → Int64} {I : Nat → Nat → Int32} {X : Nat → Int64} {x n : Int32}
theorem l_crop (hcc : cells + 1 ≤ 601024) (hss : slots + 6 ≤ 7293034) (hd : decode code pc = .ok (.invokestatic 46, 3)) (k : ∀ r f, x_hQ (crZ A x n) (oC (A 20) x n) (L 77) r f → GL (cells + 1) (slots + 6) b N xs (pc + 3) ls (.int r :: st) (hp A (up L 77 f) I X)) (hr : (st.map fun v => v.category).sum ≤ 8) : GL cells slots b N xs pc ls (.ref 77 :: .int n :: .int x :: .ref 0 :: st) (hp A L I X) := by
  intro p l e s m args below meth c D α τ H locs lsM hAt hL hP hS hJ hZ
  obtain ⟨hfl, rfl, hC, hα, hge, hL4⟩ := id hZ
  obtain ⟨hx, hb, hml, hrt, ho, hts, hlk, hK, hRo, hi⟩ := id hAt
  have hl0 : l.stackTraces = false := by
    show (!l.flags.contains Jvm.noTraceFlag) = false
    rw [hfl]
    decide +kernel
  have hE := x_st hC.2.2.2.2.2.2.2.2.2 hC.2.2.2.2.2.1 hge
  refine vx_calli (A0 := m_A α) (H0 := s.heap) (vx_runSX (hh := [(0, 10, 13, 13)]) (As := [.ref (α 0), .int x, .int n, .ref (α 77)]) (rest := st.map (m_v α)) ⟨hx, hb, hml, ho, hts⟩ (x_help (A := A) (L := L) (I := I) (X := X) (x := x) (n := n) hl0 (D := D) (τ := τ) hi) (vx_cwSW 4 hts x_gS rfl rfl rfl (by decide +kernel) ⟨Nat.le_of_ble_eq_true rfl, Nat.le_of_ble_eq_true rfl⟩) ⟨x_blind, fun U hU hW => ⟨rfl, hJ, by rw [hU]; exact hP, va_K.moved hW.alike hK, by rw [hU]; exact m_Ro.warm hW (hRo.kept (fun q h1 h2 => hS.2.1 q h1 h2)), by rw [hU]; exact x_E_mv hW hE (fun q h1 h2 => hS.2.1 q h1 h2)⟩⟩ rfl rfl hL.1 rfl (lv_room (by rw [m_cat_sum]; exact hr)) hd ⟨hcc, hss⟩) hS (fun q _ h => h) (fun q h => h) (fun q _ h => h) (fun E ce q9 u t H1 locs1 ht hvm hpx hBX hz1 hk1 hS1 hce hcv hcl => hpx.elim) (fun r f t H1 locs1 ht hvm hpo hB hz1 hk1 hS1 => ?_)
  rw [ht] at hB
  exact k r f hpo p l e s m _ below meth c D α τ H1 locs1 lsM hAt hL hB hS1 hp_junk hZ
set_option maxHeartbeats 4000000 in
theorem lwc_6 : CropC b N xs := by
  intro cells slots x l5 l6 A L I X hI hc hs h7 hE
  obtain ⟨h0, h1, h2, h3, h4, h5, h6⟩ := h7
  refine l_aload_n dL_442 rfl rfl ?_
  refine l_aload_n dL_443 rfl rfl ?_
  refine l_iload dL_444 rfl ?_
  refine l_ic_1 dL_446 ?_
  refine l_iadd dL_447 ?_
  refine l_sld dL_448 h1 ?_
  refine l_aload_n dL_449 rfl rfl ?_
  refine l_iload dL_450 rfl ?_
  refine l_ic_2 dL_452 ?_
  refine l_iadd dL_453 ?_
  refine l_sld dL_454 h2 ?_
  refine l_aload_n dL_455 rfl rfl ?_
  refine l_crop (by omega) (by omega) dL_456 (fun r f hq => ?_) (Nat.le_of_ble_eq_true rfl)
  refine l_istore dL_459 (by decide) ?_
  refine l_aload_n dL_461 rfl rfl ?_
  refine l_aload_n dL_462 rfl rfl ?_
  refine l_iload dL_463 rfl ?_
  refine l_ic_1 dL_465 ?_
  refine l_iadd dL_466 ?_
  refine l_sld dL_467 h1 ?_
  refine l_aload_n dL_468 rfl rfl ?_
  refine l_iload dL_469 rfl ?_
  refine l_ic_2 dL_471 ?_
  refine l_iadd dL_472 ?_
  refine l_sld dL_473 h2 ?_
  refine l_callV dL_474 cv_L_51 (as' := [_, _]) hp_46 rfl (n_crop hI) (by decide) (by omega) (by omega) rfl rfl (Nat.le_of_ble_eq_true rfl) ?_
  rintro _ _ (⟨z, rfl, rfl⟩ | ⟨z, rfl, rfl⟩)
  · obtain ⟨rfl, rfl⟩ : r = 1 ∧ f = L 77 := by
      rcases hq with ⟨q1, -⟩ | ⟨-, q2, q3⟩
      · rw [z] at q1
        exact absurd q1 (by decide)
      · exact ⟨q2, q3⟩
    refine l_istore dL_477 (by decide) ?_
    refine l_aload_n dL_479 rfl rfl ?_
    refine l_callV dL_480 cv_L_52 (as' := []) hp_46 rfl e_thrown (by decide) (by omega) (by omega) rfl rfl (Nat.le_of_ble_eq_true rfl) ?_
    rintro _ _ ⟨rfl, rfl⟩
    rw [up2_at]
    refine l_iload dL_483 rfl ?_
    refine l_icmp_eq (tgt := 490) dL_485 (by decide) (fun _ => ?_) (fun c => absurd rfl c)
    refine l_iload dL_490 rfl ?_
    refine l_if_ne (tgt := 507) dL_492 (by decide) (fun _ => ?_) (fun c => absurd c (by decide))
    refine l_goto (tgt := 1693) dL_507 (by decide) ?_
    refine l_wide (k := cells + 1000) (n := slots + 10000) (by omega) (by omega) ?_
    refine l_loc (ls' := [some (.ref 5000), some (.ref 0), some (.ref 46), some (.ref 77), some (.int x), some (.int (1)), some (.int (0))]) (fun i v h => ?_) ?_
    · rcases i with _|_|_|_|_|_|_|_
      · exact h
      · exact h
      · exact h
      · exact h
      · exact h
      · exact h
      · exact h
      · cases h
    exact hE _ _ A _ _ X (INV_ext (fun _ _ => rfl) (fun p hp2 => up2_ne ((by decide : ∀ p, p ∈ iI → ¬ (p.1 = 46 ∧ p.2 = 0)) p hp2)) hI)
  · obtain ⟨rfl, rfl⟩ : r = 0 ∧ f = vp_updL (L 77) (0 : Int32).toNatClampNeg (oC (A 20) (xs (x + 1).toNatClampNeg) (xs (x + 2).toNatClampNeg)).toInt64 := by
      rcases hq with ⟨-, q2, q3⟩ | ⟨q1, -⟩
      · exact ⟨q2, q3⟩
      · rw [z] at q1
        exact absurd q1 (by decide)
    refine l_istore dL_477 (by decide) ?_
    refine l_aload_n dL_479 rfl rfl ?_
    refine l_callV dL_480 cv_L_52 (as' := []) hp_46 rfl e_thrown (by decide) (by omega) (by omega) rfl rfl (Nat.le_of_ble_eq_true rfl) ?_
    rintro _ _ ⟨rfl, rfl⟩
    rw [up2_at]
    refine l_iload dL_483 rfl ?_
    refine l_icmp_eq (tgt := 490) dL_485 (by decide) (fun _ => ?_) (fun c => absurd rfl c)
    refine l_iload dL_490 rfl ?_
    refine l_if_ne (tgt := 507) dL_492 (by decide) (fun c => absurd rfl c) (fun _ => ?_)
    refine l_aload_n dL_495 rfl rfl ?_
    refine l_ic_0 dL_496 ?_
    refine l_lald dL_497 hp_77 (by unfold vp_in; decide) ?_
    refine l_iload dL_498 rfl ?_
    refine l_i2l dL_500 ?_
    refine l_lcmp dL_501 ?_
    refine l_if_eq (tgt := 507) dL_502 (by decide) (fun _ => ?_) (fun c => absurd (lc_0.mpr (by rw [up_at]; exact if_pos rfl)) c)
    refine l_goto (tgt := 1693) dL_507 (by decide) ?_
    refine l_wide (k := cells + 1000) (n := slots + 10000) (by omega) (by omega) ?_
    refine l_loc (ls' := [some (.ref 5000), some (.ref 0), some (.ref 46), some (.ref 77), some (.int x), some (.int (0)), some (.int (oC (A 20) (xs (x + 1).toNatClampNeg) (xs (x + 2).toNatClampNeg)))]) (fun i v h => ?_) ?_
    · rcases i with _|_|_|_|_|_|_|_
      · exact h
      · exact h
      · exact h
      · exact h
      · exact h
      · exact h
      · exact h
      · cases h
    exact hE _ _ A _ _ X (INV_ext (fun _ _ => rfl) (fun p hp2 => up2_ne ((by decide : ∀ p, p ∈ iI → ¬ (p.1 = 46 ∧ p.2 = 0)) p hp2)) hI)
end LC
