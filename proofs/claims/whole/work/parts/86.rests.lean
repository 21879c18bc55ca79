/-! THE REFERENCE: game, rests -/
theorem gt19_eq {F G : ROW} (h : ∀ j, j < 19 → F j = G j) : gt 19 F = gt 19 G := by
  funext i
  unfold gt
  by_cases hi : i < 0 ∨ 19 ≤ i.toNatClampNeg
  · rw [if_pos hi, if_pos hi]
  · rw [if_neg hi, if_neg hi, h _ (by omega)]
theorem irL_eq {F1 G1 F2 G2 : ROW} (h1 : ∀ j, j < 19 → F1 j = G1 j) (h2 : ∀ j, j < 19 → F2 j = G2 j) {x y : Int32} : ∀ n z, irL F1 F2 x y n z = irL G1 G2 x y n z
  | 0, _ => rfl
  | n + 1, z => by
    unfold irL gnS
    rw [gt19_eq h1, gt19_eq h2, irL_eq h1 h2 n (z + 1)]
theorem cp_1 {A I : Nat → Nat → Int32} (h : INV A I) {a b n : Int32} (hc : ¬ cpS A a b n = 0) : ∃ ms cs i j, PLN ms cs A I ∧ a = nI i ∧ b = nI j ∧ i < 8 ∧ j < 8 := by
  unfold cpS at hc
  have h2 : ¬ (hasM (A 20) a = 0 ∨ hasM (A 20) b = 0 ∨ a = b ∨ n < 1 ∨ 40 < n) := fun z => hc (if_pos z)
  obtain ⟨ms, cs, i, hP, i1, i2, i3⟩ := INV_Pm h (x := a) (fun z => h2 (Or.inl (by rw [INV_M h]; exact z)))
  obtain ⟨-, -, j, -, j1, j2, j3⟩ := INV_Pm h (x := b) (fun z => h2 (Or.inr (Or.inl (by rw [INV_M h]; exact z))))
  exact ⟨ms, cs, i, j, hP, i1, j1, i3, j3⟩
set_option maxHeartbeats 800000 in
set_option maxRecDepth 100000 in
theorem e_isGame {A : Nat → Nat → Int32} {L : Nat → Nat → Int64} {I : Nat → Nat → Int32} {X : Nat → Int64} {a b n : Int32} (h : INV A I) : Con 3 yX11_isGame cX11_isGame 4 (some .boolean) [.ref 46, .int a, .int b, .int n] (hp A L I X) (fun r_ H_ => r_ = some (.int (cpS A a b n)) ∧ H_ = hp A L I X) := by
  refine m_con (by decide) (Nat.le_of_ble_eq_true rfl) ?_
  refine g_aload_n dX11_isGame_0 rfl rfl ?_
  refine g_iload_n dX11_isGame_1 rfl rfl ?_
  refine g_callV dX11_isGame_2 cv_X11_317 (as' := [_]) hp_46 rfl e_isMonth (by decide) rfl rfl (Nat.le_of_ble_eq_true rfl) ?_
  rintro _ _ ⟨rfl, rfl⟩
  refine g_if_eq (tgt := 35) dX11_isGame_5 (by decide) (fun c_5 => ?_) (fun c_5 => ?_)
  · refine g_ic_0 dX11_isGame_35 ?_
    exact g_zret (by first | exact Or.inl rfl | exact Or.inr rfl) dX11_isGame_36 ⟨congrArg (fun z => some (Value.int z)) (by exact (if_pos (Or.inl (by rw [INV_M h]; exact c_5))).symm), rfl⟩
  · refine g_aload_n dX11_isGame_8 rfl rfl ?_
    refine g_iload_n dX11_isGame_9 rfl rfl ?_
    refine g_callV dX11_isGame_10 cv_X11_317 (as' := [_]) hp_46 rfl e_isMonth (by decide) rfl rfl (Nat.le_of_ble_eq_true rfl) ?_
    rintro _ _ ⟨rfl, rfl⟩
    refine g_if_eq (tgt := 35) dX11_isGame_13 (by decide) (fun c_13 => ?_) (fun c_13 => ?_)
    · refine g_ic_0 dX11_isGame_35 ?_
      exact g_zret (by first | exact Or.inl rfl | exact Or.inr rfl) dX11_isGame_36 ⟨congrArg (fun z => some (Value.int z)) (by exact (if_pos (Or.inr (Or.inl (by rw [INV_M h]; exact c_13)))).symm), rfl⟩
    · refine g_iload_n dX11_isGame_16 rfl rfl ?_
      refine g_iload_n dX11_isGame_17 rfl rfl ?_
      refine g_icmp_eq (tgt := 35) dX11_isGame_18 (by decide) (fun c_18 => ?_) (fun c_18 => ?_)
      · refine g_ic_0 dX11_isGame_35 ?_
        exact g_zret (by first | exact Or.inl rfl | exact Or.inr rfl) dX11_isGame_36 ⟨congrArg (fun z => some (Value.int z)) (by exact (if_pos (Or.inr (Or.inr (Or.inl c_18)))).symm), rfl⟩
      · refine g_iload_n dX11_isGame_21 rfl rfl ?_
        refine g_ic_1 dX11_isGame_22 ?_
        refine g_bipush (v := 40) dX11_isGame_23 (by decide) ?_
        refine g_callS dX11_isGame_25 cs_X11_221 (as := [_, _, _]) e_in (by decide) rfl rfl (Nat.le_of_ble_eq_true rfl) ?_
        rintro _ _ ⟨rfl, rfl⟩
        refine g_if_eq (tgt := 35) dX11_isGame_28 (by decide) (fun c_28 => ?_) (fun c_28 => ?_)
        · refine g_ic_0 dX11_isGame_35 ?_
          exact g_zret (by first | exact Or.inl rfl | exact Or.inr rfl) dX11_isGame_36 ⟨congrArg (fun z => some (Value.int z)) (by exact (if_pos (Or.inr (Or.inr (Or.inr (in_0.mp c_28))))).symm), rfl⟩
        · refine g_ic_1 dX11_isGame_31 ?_
          refine g_goto (tgt := 36) dX11_isGame_32 (by decide) ?_
          exact g_zret (by first | exact Or.inl rfl | exact Or.inr rfl) dX11_isGame_36 ⟨congrArg (fun z => some (Value.int z)) (by exact (if_neg (fun z => by rcases z with z | z | z | z | z; exact c_5 (by rw [← INV_M h]; exact z); exact c_13 (by rw [← INV_M h]; exact z); exact c_18 z; exact c_28 (in_0.mpr (Or.inl z)); exact c_28 (in_0.mpr (Or.inr z)))).symm), rfl⟩

set_option maxHeartbeats 800000 in
set_option maxRecDepth 100000 in
theorem n_game {A : Nat → Nat → Int32} {L : Nat → Nat → Int64} {I : Nat → Nat → Int32} {X : Nat → Int64} {a b n x y w : Int32} (h : INV A I) : Con 10 yX11_game cX11_game 7 (some .int) [.ref 46, .int a, .int b, .int n, .int x, .int y, .int w] (hp A L I X) (QM A I X (gaS A I a b n x y w)) := by
  refine m_con (by decide) (Nat.le_of_ble_eq_true rfl) ?_
  refine g_aload_n dX11_game_0 rfl rfl ?_
  refine g_iload_n dX11_game_1 rfl rfl ?_
  refine g_iload_n dX11_game_2 rfl rfl ?_
  refine g_iload_n dX11_game_3 rfl rfl ?_
  refine g_callV dX11_game_4 cv_X11_377 (as' := [_, _, _]) hp_46 rfl (e_isGame h) (by decide) rfl rfl (Nat.le_of_ble_eq_true rfl) ?_
  rintro _ _ ⟨rfl, rfl⟩
  refine g_if_eq (tgt := 42) dX11_game_7 (by decide) (fun c_7 => ?_) (fun c_7 => ?_)
  · refine g_ldcw dX11_game_42 lc_X11_380 ?_
    exact g_iret dX11_game_45 ⟨congrArg (fun z => some (Value.int z)) (show _ = gaS A I a b n x y w from (if_pos (Or.inl c_7)).symm), _, _, _, smM_rf, rfl⟩
  · refine g_iload dX11_game_10 rfl ?_
    refine g_ic_0 dX11_game_12 ?_
    refine g_bipush (v := 9) dX11_game_13 (by decide) ?_
    refine g_callS dX11_game_15 cs_X11_221 (as := [_, _, _]) e_in (by decide) rfl rfl (Nat.le_of_ble_eq_true rfl) ?_
    rintro _ _ ⟨rfl, rfl⟩
    refine g_if_eq (tgt := 42) dX11_game_18 (by decide) (fun c_18 => ?_) (fun c_18 => ?_)
    · refine g_ldcw dX11_game_42 lc_X11_380 ?_
      exact g_iret dX11_game_45 ⟨congrArg (fun z => some (Value.int z)) (show _ = gaS A I a b n x y w from (if_pos (Or.inr ((in_0.mp c_18).elim Or.inl (fun z => Or.inr (Or.inl z))))).symm), _, _, _, smM_rf, rfl⟩
    · refine g_iload dX11_game_21 rfl ?_
      refine g_ic_0 dX11_game_23 ?_
      refine g_bipush (v := 9) dX11_game_24 (by decide) ?_
      refine g_callS dX11_game_26 cs_X11_221 (as := [_, _, _]) e_in (by decide) rfl rfl (Nat.le_of_ble_eq_true rfl) ?_
      rintro _ _ ⟨rfl, rfl⟩
      refine g_if_eq (tgt := 42) dX11_game_29 (by decide) (fun c_29 => ?_) (fun c_29 => ?_)
      · refine g_ldcw dX11_game_42 lc_X11_380 ?_
        exact g_iret dX11_game_45 ⟨congrArg (fun z => some (Value.int z)) (show _ = gaS A I a b n x y w from (if_pos (Or.inr (Or.inr (Or.inr ((in_0.mp c_29).elim Or.inl (fun z => Or.inr (Or.inl z))))))).symm), _, _, _, smM_rf, rfl⟩
      · refine g_iload dX11_game_32 rfl ?_
        refine g_ic_0 dX11_game_34 ?_
        refine g_ic_1 dX11_game_35 ?_
        refine g_callS dX11_game_36 cs_X11_221 (as := [_, _, _]) e_in (by decide) rfl rfl (Nat.le_of_ble_eq_true rfl) ?_
        rintro _ _ ⟨rfl, rfl⟩
        refine g_if_ne (tgt := 46) dX11_game_39 (by decide) (fun c_39 => ?_) (fun c_39 => ?_)
        · obtain ⟨ms, cs, i, j, hP, rfl, rfl, i8, j8⟩ := cp_1 h c_7
          have hv : gaS A I (nI i) (nI j) n x y w = (if w = 0 then gt 8 (fc A I n.toNatClampNeg (fdS (A 20) (x + y))).2 (nI i) * 2 - x else gt 8 (fc A I n.toNatClampNeg (fdS (A 20) (x + y))).2 (nI j) * 2 - y) := if_neg (fun z => by rcases z with z | z | z | z | z | z | z; exact c_7 z; exact c_18 (in_0.mpr (Or.inl z)); exact c_18 (in_0.mpr (Or.inr z)); exact c_29 (in_0.mpr (Or.inl z)); exact c_29 (in_0.mpr (Or.inr z)); exact c_39 (in_0.mpr (Or.inl z)); exact c_39 (in_0.mpr (Or.inr (Int32.not_le.mp z))))
          obtain ⟨x1, x2, rfl⟩ := in_1 (b := 9) (by decide) c_18
          obtain ⟨y1, y2, rfl⟩ := in_1 (b := 9) (by decide) c_29
          refine g_aload_n dX11_game_46 rfl rfl ?_
          refine g_iload_n dX11_game_47 rfl rfl ?_
          refine g_iload_n dX11_game_48 rfl rfl ?_
          refine g_iload_n dX11_game_49 rfl rfl ?_
          refine g_callV dX11_game_50 cv_X11_381 (as' := [_, _, _]) hp_46 rfl (e_layDays rfl rfl h hP i8 j8) (by decide) rfl rfl (Nat.le_of_ble_eq_true rfl) ?_
          rintro _ _ ⟨rfl, A2, I2, hm, h69, rfl⟩
          refine g_iload dX11_game_53 rfl ?_
          refine g_if_ne (tgt := 76) dX11_game_55 (by decide) (fun c_55 => ?_) (fun c_55 => ?_)
          · refine g_ic_2 dX11_game_76 ?_
            refine g_aload_n dX11_game_77 rfl rfl ?_
            refine g_get dX11_game_78 fl_X11_83 hp_46 rfl ?_
            refine g_iload dX11_game_81 rfl ?_
            refine g_iload dX11_game_83 rfl ?_
            refine g_iadd dX11_game_85 ?_
            refine g_ra dX11_game_86 hp_70 (k := x1 + y1) (nk_add (show nI (x1) = nI (x1) from rfl) (show nI (y1) = nI (y1) from rfl)) (by omega) (by decide) ?_
            refine g_imul dX11_game_87 ?_
            refine g_iload dX11_game_88 rfl ?_
            refine g_isub dX11_game_90 ?_
            exact g_iret dX11_game_91 ⟨congrArg (fun z => some (Value.int z)) (show _ = gaS A I (nI i) (nI j) n (nI x1) (nI y1) w from by rw [hv, if_neg c_55, (h69 (x1 + y1) (by omega)).2, Int32.mul_comm, nI_add]; rfl), _, _, _, hm, rfl⟩
          · refine g_ic_2 dX11_game_58 ?_
            refine g_aload_n dX11_game_59 rfl rfl ?_
            refine g_get dX11_game_60 fl_X11_80 hp_46 rfl ?_
            refine g_iload dX11_game_63 rfl ?_
            refine g_iload dX11_game_65 rfl ?_
            refine g_iadd dX11_game_67 ?_
            refine g_ra dX11_game_68 hp_69 (k := x1 + y1) (nk_add (show nI (x1) = nI (x1) from rfl) (show nI (y1) = nI (y1) from rfl)) (by omega) (by decide) ?_
            refine g_imul dX11_game_69 ?_
            refine g_iload dX11_game_70 rfl ?_
            refine g_isub dX11_game_72 ?_
            refine g_goto (tgt := 91) dX11_game_73 (by decide) ?_
            exact g_iret dX11_game_91 ⟨congrArg (fun z => some (Value.int z)) (show _ = gaS A I (nI i) (nI j) n (nI x1) (nI y1) w from by rw [hv, if_pos c_55, (h69 (x1 + y1) (by omega)).1, Int32.mul_comm, nI_add]; rfl), _, _, _, hm, rfl⟩
        · refine g_ldcw dX11_game_42 lc_X11_380 ?_
          exact g_iret dX11_game_45 ⟨congrArg (fun z => some (Value.int z)) (show _ = gaS A I a b n x y w from (if_pos (Or.inr (Or.inr (Or.inr (Or.inr (Or.inr ((in_0.mp c_39).elim Or.inl (fun z => Or.inr (Int32.not_le.mpr z))))))))).symm), _, _, _, smM_rf, rfl⟩

set_option maxHeartbeats 800000 in
set_option maxRecDepth 100000 in
theorem e_ir_loop {A : Nat → Nat → Int32} {L : Nat → Nat → Int64} {I : Nat → Nat → Int32} {X : Nat → Int64} {x y : Nat} {Q : Option Value → m_H → Prop} (hx : x ≤ 9) (hy : y ≤ 9) : ∀ n k, n + k = 10 → Q (some (.int (irL (A 69) (A 70) (nI x) (nI y) n k))) (hp A L I X) → G 1 RX11 cX11_isRest 4 (some .boolean) Q 2 [some (.ref 46), some (.int (nI x)), some (.int (nI y)), some (.int (nI k))] [] (hp A L I X) := by
  intro n
  induction n with
  | zero =>
    intro k hk hQ
    refine g_iload_n dX11_isRest_2 rfl rfl ?_
    refine g_bipush (v := 9) dX11_isRest_3 (by decide) ?_
    refine g_icmp_gt (tgt := 70) dX11_isRest_5 (by decide) (fun c_5 => ?_) (fun c_5 => ?_)
    · refine g_ic_1 dX11_isRest_70 ?_
      exact g_zret (by first | exact Or.inl rfl | exact Or.inr rfl) dX11_isRest_71 hQ
    · exact absurd (nI_lt (a := 9) (b := k) (by omega) (by omega)) c_5
  | succ n ih =>
    intro k hk hQ
    refine g_iload_n dX11_isRest_2 rfl rfl ?_
    refine g_bipush (v := 9) dX11_isRest_3 (by decide) ?_
    refine g_icmp_gt (tgt := 70) dX11_isRest_5 (by decide) (fun c_5 => ?_) (fun c_5 => ?_)
    · exact absurd ((nI_ltI (a := 9) (b := k) (by decide) (by omega)).mp c_5) (by omega)
    · have e1 : gnS (A 69) (nI x) (nI y) = 2 * A 69 (x + y) - nI x := by unfold gnS; rw [nI_add, gt_nI (by omega) (by decide)]
      have e2 : gnS (A 69) (nI k) (nI y) = 2 * A 69 (k + y) - nI k := by unfold gnS; rw [nI_add, gt_nI (by omega) (by decide)]
      have e3 : gnS (A 70) (nI k) (nI x) = 2 * A 70 (x + k) - nI k := by unfold gnS; rw [nI_add, gt_nI (by omega) (by decide), Nat.add_comm]
      have e4 : gnS (A 70) (nI y) (nI x) = 2 * A 70 (x + y) - nI y := by unfold gnS; rw [nI_add, gt_nI (by omega) (by decide), Nat.add_comm]
      have ei : irL (A 69) (A 70) (nI x) (nI y) (n + 1) k = (if 2 * A 69 (x + y) - nI x < 2 * A 69 (k + y) - nI k then 0 else if 2 * A 70 (x + k) - nI k ≤ 2 * A 70 (x + y) - nI y then irL (A 69) (A 70) (nI x) (nI y) n (k + 1) else 0) := by
        show (if gnS (A 69) (nI x) (nI y) < gnS (A 69) (nI k) (nI y) then 0 else if gnS (A 70) (nI k) (nI x) ≤ gnS (A 70) (nI y) (nI x) then irL (A 69) (A 70) (nI x) (nI y) n (k + 1) else 0) = _
        rw [e1, e2, e3, e4]
      refine g_ic_2 dX11_isRest_8 ?_
      refine g_aload_n dX11_isRest_9 rfl rfl ?_
      refine g_get dX11_isRest_10 fl_X11_80 hp_46 rfl ?_
      refine g_iload_n dX11_isRest_13 rfl rfl ?_
      refine g_iload_n dX11_isRest_14 rfl rfl ?_
      refine g_iadd dX11_isRest_15 ?_
      refine g_ra dX11_isRest_16 hp_69 (k := k + y) (nk_add (show nI (k) = nI (k) from rfl) (show nI (y) = nI (y) from rfl)) (by omega) (by decide) ?_
      refine g_imul dX11_isRest_17 ?_
      refine g_iload_n dX11_isRest_18 rfl rfl ?_
      refine g_isub dX11_isRest_19 ?_
      refine g_ic_2 dX11_isRest_20 ?_
      refine g_aload_n dX11_isRest_21 rfl rfl ?_
      refine g_get dX11_isRest_22 fl_X11_80 hp_46 rfl ?_
      refine g_iload_n dX11_isRest_25 rfl rfl ?_
      refine g_iload_n dX11_isRest_26 rfl rfl ?_
      refine g_iadd dX11_isRest_27 ?_
      refine g_ra dX11_isRest_28 hp_69 (k := x + y) (nk_add (show nI (x) = nI (x) from rfl) (show nI (y) = nI (y) from rfl)) (by omega) (by decide) ?_
      refine g_imul dX11_isRest_29 ?_
      refine g_iload_n dX11_isRest_30 rfl rfl ?_
      refine g_isub dX11_isRest_31 ?_
      refine g_icmp_gt (tgt := 62) dX11_isRest_32 (by decide) (fun c_32 => ?_) (fun c_32 => ?_)
      · refine g_ic_0 dX11_isRest_62 ?_
        exact g_zret (by first | exact Or.inl rfl | exact Or.inr rfl) dX11_isRest_63 (by rw [ei, if_pos c_32] at hQ; exact hQ)
      · refine g_ic_2 dX11_isRest_35 ?_
        refine g_aload_n dX11_isRest_36 rfl rfl ?_
        refine g_get dX11_isRest_37 fl_X11_83 hp_46 rfl ?_
        refine g_iload_n dX11_isRest_40 rfl rfl ?_
        refine g_iload_n dX11_isRest_41 rfl rfl ?_
        refine g_iadd dX11_isRest_42 ?_
        refine g_ra dX11_isRest_43 hp_70 (k := x + k) (nk_add (show nI (x) = nI (x) from rfl) (show nI (k) = nI (k) from rfl)) (by omega) (by decide) ?_
        refine g_imul dX11_isRest_44 ?_
        refine g_iload_n dX11_isRest_45 rfl rfl ?_
        refine g_isub dX11_isRest_46 ?_
        refine g_ic_2 dX11_isRest_47 ?_
        refine g_aload_n dX11_isRest_48 rfl rfl ?_
        refine g_get dX11_isRest_49 fl_X11_83 hp_46 rfl ?_
        refine g_iload_n dX11_isRest_52 rfl rfl ?_
        refine g_iload_n dX11_isRest_53 rfl rfl ?_
        refine g_iadd dX11_isRest_54 ?_
        refine g_ra dX11_isRest_55 hp_70 (k := x + y) (nk_add (show nI (x) = nI (x) from rfl) (show nI (y) = nI (y) from rfl)) (by omega) (by decide) ?_
        refine g_imul dX11_isRest_56 ?_
        refine g_iload_n dX11_isRest_57 rfl rfl ?_
        refine g_isub dX11_isRest_58 ?_
        refine g_icmp_le (tgt := 64) dX11_isRest_59 (by decide) (fun c_59 => ?_) (fun c_59 => ?_)
        · refine g_iinc1 dX11_isRest_64 rfl (by decide) ?_
          refine g_goto (tgt := 2) dX11_isRest_67 (by decide) ?_
          rw [nI_1]
          refine g_loc (ls' := [some (.ref 46), some (.int (nI x)), some (.int (nI y)), some (.int (nI (k + 1)))]) (fun i v h => by rcases i with _|_|_|_|_ <;> first | exact h | cases h) ?_
          exact ih (k + 1) (by omega) (by rw [ei, if_neg (fun z => c_32 z), if_pos c_59] at hQ; exact hQ)
        · refine g_ic_0 dX11_isRest_62 ?_
          exact g_zret (by first | exact Or.inl rfl | exact Or.inr rfl) dX11_isRest_63 (by rw [ei, if_neg (fun z => c_32 z), if_neg c_59] at hQ; exact hQ)

set_option maxHeartbeats 800000 in
set_option maxRecDepth 100000 in
theorem e_isRest {A : Nat → Nat → Int32} {L : Nat → Nat → Int64} {I : Nat → Nat → Int32} {X : Nat → Int64} {u v : Int32} {x y : Nat} (hu : u = nI x) (hv : v = nI y) (hx : x ≤ 9) (hy : y ≤ 9) : Con 1 yX11_isRest cX11_isRest 4 (some .boolean) [.ref 46, .int u, .int v] (hp A L I X) (fun r_ H_ => r_ = some (.int (irS (A 69) (A 70) (nI x) (nI y))) ∧ H_ = hp A L I X) := by
  refine m_con (by decide) (Nat.le_of_ble_eq_true rfl) ?_
  subst hu hv
  refine g_ic_0 dX11_isRest_0 ?_
  refine g_istore_n dX11_isRest_1 rfl (by decide) ?_
  refine g_loc (ls' := [some (.ref 46), some (.int (nI x)), some (.int (nI y)), some (.int (nI 0))]) (fun i v h => by rcases i with _|_|_|_|_ <;> first | exact h | cases h) ?_
  exact e_ir_loop hx hy 10 0 rfl ⟨rfl, rfl⟩

theorem rsL_n {P : Nat → Bool} {i m : Int32} {n k : Nat} (hz : ¬ P k = true) : rsL P i (n + 1) k m = rsL P i n (k + 1) m := if_neg hz
theorem rsL_f {P : Nat → Bool} {i m : Int32} {n k : Nat} (hz : P k = true) (h : ¬ m = i) : rsL P i (n + 1) k m = rsL P i n (k + 1) (m + 1) := (if_pos hz).trans (if_neg h)
theorem rsL_y {P : Nat → Bool} {i m : Int32} {n k : Nat} (hz : P k = true) (h : m = i) : rsL P i (n + 1) k m = nI k := (if_pos hz).trans (if_pos h)
theorem rsL_0 {P : Nat → Bool} {i m : Int32} {k : Nat} (h : ¬ i = -1) : rsL P i 0 k m = (-1) := if_neg h
theorem rsL_1 {P : Nat → Bool} {i m : Int32} {k : Nat} (h : i = -1) : rsL P i 0 k m = m := if_pos h
set_option maxHeartbeats 800000 in
set_option maxRecDepth 100000 in
theorem e_rs_loop {A : Nat → Nat → Int32} {L : Nat → Nat → Int64} {I : Nat → Nat → Int32} {X : Nat → Int64} {i : Int32} {P : Nat → Bool} {Q : Option Value → m_H → Prop} (hPk : ∀ k, k < 100 → (P k = true ↔ ¬ irS (A 69) (A 70) (nI (k / 10)) (nI (k % 10)) = 0)) : ∀ n k m, n + k = 100 → Q (some (.int (rsL P i n k m))) (hp A L I X) → G 10 RX11 cX11_rests 7 (some .int) Q 31 [some (.ref 46), none, none, none, some (.int (i)), some (.int (m)), some (.int (nI k))] [] (hp A L I X) := by
  intro n
  induction n with
  | zero =>
    intro k m hk hQ
    refine g_iload dX11_rests_31 rfl ?_
    refine g_bipush (v := 100) dX11_rests_33 (by decide) ?_
    refine g_icmp_ge (tgt := 74) dX11_rests_35 (by decide) (fun c_35 => ?_) (fun c_35 => ?_)
    · refine g_iload dX11_rests_74 rfl ?_
      refine g_ic_m1 dX11_rests_76 ?_
      refine g_icmp_ne (tgt := 85) dX11_rests_77 (by decide) (fun c_77 => ?_) (fun c_77 => ?_)
      · refine g_ic_m1 dX11_rests_85 ?_
        exact g_iret dX11_rests_86 (by rw [rsL_0 c_77] at hQ; exact hQ)
      · refine g_iload dX11_rests_80 rfl ?_
        refine g_goto (tgt := 86) dX11_rests_82 (by decide) ?_
        exact g_iret dX11_rests_86 (by rw [rsL_1 c_77] at hQ; exact hQ)
    · exact absurd (nI_le (a := 100) (b := k) (by omega) (by omega)) c_35
  | succ n ih =>
    intro k m hk hQ
    refine g_iload dX11_rests_31 rfl ?_
    refine g_bipush (v := 100) dX11_rests_33 (by decide) ?_
    refine g_icmp_ge (tgt := 74) dX11_rests_35 (by decide) (fun c_35 => ?_) (fun c_35 => ?_)
    · exact absurd (lit_le (n := 100) (by decide) (by omega) c_35) (by omega)
    · have hlt : k < 100 := lit_nle (n := 100) (by decide) (by omega) c_35
      refine g_aload_n dX11_rests_38 rfl rfl ?_
      refine g_iload dX11_rests_39 rfl ?_
      refine g_bipush (v := 10) dX11_rests_41 (by decide) ?_
      refine g_idiv dX11_rests_43 (by decide) ?_
      refine g_iload dX11_rests_44 rfl ?_
      refine g_bipush (v := 10) dX11_rests_46 (by decide) ?_
      refine g_irem dX11_rests_48 (by decide) ?_
      refine g_callV dX11_rests_49 cv_X11_385 (as' := [_, _]) hp_46 rfl (e_isRest (x := k / 10) (y := k % 10) (pk_div (by omega) (by decide) (by decide)) (pk_rem (by omega) (by decide) (by decide)) (by omega) (by omega)) (by decide) rfl rfl (Nat.le_of_ble_eq_true rfl) ?_
      rintro _ _ ⟨rfl, rfl⟩
      refine g_if_eq (tgt := 68) dX11_rests_52 (by decide) (fun c_52 => ?_) (fun c_52 => ?_)
      · refine g_iinc1 dX11_rests_68 rfl (by decide) ?_
        refine g_goto (tgt := 31) dX11_rests_71 (by decide) ?_
        rw [nI_1]
        refine g_loc (ls' := [some (.ref 46), none, none, none, some (.int (i)), some (.int (m)), some (.int (nI (k + 1)))]) (fun i v h => by rcases i with _|_|_|_|_|_|_|_ <;> first | exact h | cases h) ?_
        exact ih (k + 1) m (by omega) (by rw [rsL_n (fun z => (hPk k hlt).mp z c_52)] at hQ; exact hQ)
      · refine g_iload dX11_rests_55 rfl ?_
        refine g_iload dX11_rests_57 rfl ?_
        refine g_icmp_ne (tgt := 65) dX11_rests_59 (by decide) (fun c_59 => ?_) (fun c_59 => ?_)
        · refine g_iinc1 dX11_rests_65 rfl (by decide) ?_
          refine g_iinc1 dX11_rests_68 rfl (by decide) ?_
          refine g_goto (tgt := 31) dX11_rests_71 (by decide) ?_
          rw [nI_1]
          refine g_loc (ls' := [some (.ref 46), none, none, none, some (.int (i)), some (.int (m + 1)), some (.int (nI (k + 1)))]) (fun i v h => by rcases i with _|_|_|_|_|_|_|_ <;> first | exact h | cases h) ?_
          exact ih (k + 1) (m + 1) (by omega) (by rw [rsL_f ((hPk k hlt).mpr c_52) c_59] at hQ; exact hQ)
        · refine g_iload dX11_rests_62 rfl ?_
          exact g_iret dX11_rests_64 (by rw [rsL_y ((hPk k hlt).mpr c_52) c_59] at hQ; exact hQ)

set_option maxHeartbeats 800000 in
set_option maxRecDepth 100000 in
theorem n_rests {A : Nat → Nat → Int32} {L : Nat → Nat → Int64} {I : Nat → Nat → Int32} {X : Nat → Int64} {a b n i : Int32} (h : INV A I) : Con 10 yX11_rests cX11_rests 7 (some .int) [.ref 46, .int a, .int b, .int n, .int i] (hp A L I X) (QM A I X (reS A I a b n i)) := by
  refine m_con (by decide) (Nat.le_of_ble_eq_true rfl) ?_
  refine g_aload_n dX11_rests_0 rfl rfl ?_
  refine g_iload_n dX11_rests_1 rfl rfl ?_
  refine g_iload_n dX11_rests_2 rfl rfl ?_
  refine g_iload_n dX11_rests_3 rfl rfl ?_
  refine g_callV dX11_rests_4 cv_X11_377 (as' := [_, _, _]) hp_46 rfl (e_isGame h) (by decide) rfl rfl (Nat.le_of_ble_eq_true rfl) ?_
  rintro _ _ ⟨rfl, rfl⟩
  refine g_if_eq (tgt := 16) dX11_rests_7 (by decide) (fun c_7 => ?_) (fun c_7 => ?_)
  · refine g_ic_m1 dX11_rests_16 ?_
    exact g_iret dX11_rests_17 ⟨congrArg (fun z => some (Value.int z)) (show _ = reS A I a b n i from (if_pos (Or.inl c_7)).symm), _, _, _, smM_rf, rfl⟩
  · refine g_iload dX11_rests_10 rfl ?_
    refine g_ic_m1 dX11_rests_12 ?_
    refine g_icmp_ge (tgt := 18) dX11_rests_13 (by decide) (fun c_13 => ?_) (fun c_13 => ?_)
    · obtain ⟨ms, cs, i1, j1, hP, rfl, rfl, i8, j8⟩ := cp_1 h c_7
      refine g_aload_n dX11_rests_18 rfl rfl ?_
      refine g_iload_n dX11_rests_19 rfl rfl ?_
      refine g_iload_n dX11_rests_20 rfl rfl ?_
      refine g_iload_n dX11_rests_21 rfl rfl ?_
      refine g_callV dX11_rests_22 cv_X11_381 (as' := [_, _, _]) hp_46 rfl (e_layDays rfl rfl h hP i8 j8) (by decide) rfl rfl (Nat.le_of_ble_eq_true rfl) ?_
      rintro _ _ ⟨rfl, A2, I2, hm, h69, rfl⟩
      refine g_ic_0 dX11_rests_25 ?_
      refine g_istore dX11_rests_26 (by decide) ?_
      refine g_ic_0 dX11_rests_28 ?_
      refine g_istore dX11_rests_29 (by decide) ?_
      refine g_loc (ls' := [some (.ref 46), none, none, none, some (.int (i)), some (.int (0)), some (.int (nI 0))]) (fun i v h => by rcases i with _|_|_|_|_|_|_|_ <;> first | exact h | cases h) ?_
      refine e_rs_loop (P := (fun k => decide (¬ irS (A2 69) (A2 70) (nI k / 10) (rm (nI k) 10) = 0))) (fun k hk => by rw [decide_eq_true_iff, show nI k / 10 = nI (k / 10) from pk_div (by omega) (by decide) (by decide), show rm (nI k) 10 = nI (k % 10) from pk_rem (by omega) (by decide) (by decide)]) 100 0 0 rfl ⟨congrArg (fun z => some (Value.int z)) (show _ = reS A I (nI i1) (nI j1) n i from ?_), _, _, _, hm, rfl⟩
      rw [show reS A I (nI i1) (nI j1) n i = rsS A I (nI i1) (nI j1) n i from if_neg (fun z => z.elim c_7 (fun w => w c_13))]
      unfold rsS irS
      congr 1
      funext k
      rw [irL_eq (fun j hj => (h69 j hj).1) (fun j hj => (h69 j hj).2)]
    · refine g_ic_m1 dX11_rests_16 ?_
      exact g_iret dX11_rests_17 ⟨congrArg (fun z => some (Value.int z)) (show _ = reS A I a b n i from (if_pos (Or.inr c_13)).symm), _, _, _, smM_rf, rfl⟩
