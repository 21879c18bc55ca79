/-! THE REFERENCE: questions that are answered at once -/
theorem ru_3 {j : Nat} (h : j ≤ 3) (c0 : ¬ nI j = 0) (c1 : ¬ nI j = 1) (c2 : ¬ nI j = 2) : j = 3 := by
  rcases (show j = 0 ∨ j = 1 ∨ j = 2 ∨ j = 3 by omega) with rfl | rfl | rfl | rfl
  · exact absurd rfl c0
  · exact absurd rfl c1
  · exact absurd rfl c2
  · rfl
theorem mo_4 {j : Nat} (h : j ≤ 4) (c0 : ¬ nI j = 1) (c1 : ¬ nI j = 2) (c2 : ¬ nI j = 3) : j = 0 ∨ j = 4 := by
  rcases (show j = 0 ∨ j = 1 ∨ j = 2 ∨ j = 3 ∨ j = 4 by omega) with rfl | rfl | rfl | rfl | rfl
  · exact Or.inl rfl
  · exact absurd rfl c0
  · exact absurd rfl c1
  · exact absurd rfl c2
  · exact Or.inr rfl
theorem law_in {A I : Nat → Nat → Int32} (h : I_L A I) {n : Int32} : (inZ n (-1) (I 46 13 - 1) = 0 → lawS I n = 0) ∧ (¬ inZ n (-1) (I 46 13 - 1) = 0 → lawS I n = 1) := by
  obtain ⟨-, h2, nl, h3, h4, -⟩ := h
  rw [h2, h4]
  unfold lawS
  rw [h4]
  have e : (nI nl - 1).toInt = (nl : Int) - 1 := pk_sub_toInt (a := nl) (b := 1) (by omega) (by decide)
  have key : (n < (-1) ∨ nI nl - 1 < n) ↔ (n < (-1) ∨ ¬ n < nI nl) := by
    rw [Int32.lt_iff_toInt_lt (y := n), Int32.lt_iff_toInt_lt (x := n) (y := nI nl), e, nI_toInt (by omega)]
    constructor
    · rintro (z | z)
      · exact Or.inl z
      · exact Or.inr (by omega)
    · rintro (z | z)
      · exact Or.inl z
      · exact Or.inr (by omega)
  exact ⟨fun z => if_pos (key.mp (in_0.mp z)), fun z => if_neg (fun w => z (in_0.mpr (key.mpr w)))⟩
theorem five_le {n : Int32} (h : 4 < n) : 5 ≤ n := by
  rw [Int32.lt_iff_toInt_lt] at h
  rw [Int32.le_iff_toInt_le]
  have e : (4 : Int32).toInt = 4 := by decide
  have e2 : (5 : Int32).toInt = 5 := by decide
  omega
set_option maxHeartbeats 800000 in
set_option maxRecDepth 100000 in
theorem n_rule {A : Nat → Nat → Int32} {L : Nat → Nat → Int64} {I : Nat → Nat → Int32} {X : Nat → Int64} {n : Int32} (h : INV A I) : Con 2 yX11_rule cX11_rule 2 (some .int) [.ref 46, .int n] (hp A L I X) (fun r_ H_ => r_ = some (.int (ruS A I n)) ∧ H_ = hp A L I X) := by
  refine m_con (by decide) (Nat.le_of_ble_eq_true rfl) ?_
  refine g_aload_n dX11_rule_0 rfl rfl ?_
  refine g_get dX11_rule_1 fl_X11_261 hp_46 rfl ?_
  refine g_if_eq (tgt := 16) dX11_rule_4 (by decide) (fun c_4 => ?_) (fun c_4 => ?_)
  · refine g_ic_m1 dX11_rule_16 ?_
    exact g_iret dX11_rule_17 ⟨congrArg (fun z => some (Value.int z)) (by exact (if_pos (Or.inl ((INV_0 h).mp c_4))).symm), rfl⟩
  · refine g_iload_n dX11_rule_7 rfl rfl ?_
    refine g_ic_0 dX11_rule_8 ?_
    refine g_ic_3 dX11_rule_9 ?_
    refine g_callS dX11_rule_10 cs_X11_221 (as := [_, _, _]) e_in (by decide) rfl rfl (Nat.le_of_ble_eq_true rfl) ?_
    rintro _ _ ⟨rfl, rfl⟩
    refine g_if_ne (tgt := 18) dX11_rule_13 (by decide) (fun c_13 => ?_) (fun c_13 => ?_)
    · obtain ⟨ms, cs, hP⟩ := INV_P h (fun w => c_4 ((INV_0 h).mpr w))
      obtain ⟨⟨s0, -⟩, ⟨s1, -⟩, ⟨s2, -⟩, ⟨s3, -⟩, -⟩ := hP.2.1.1.2.1
      have hv : ruS A I n = gt 143 (A 20) n := if_neg (fun z => z.elim (fun w => c_4 ((INV_0 h).mpr w)) (fun w => c_13 (in_0.mpr w)))
      obtain ⟨j, j1, rfl⟩ := in_1 (b := 3) (by decide) c_13
      refine g_iload_n dX11_rule_18 rfl rfl ?_
      refine g_if_ne (tgt := 32) dX11_rule_19 (by decide) (fun c_19 => ?_) (fun c_19 => ?_)
      · refine g_iload_n dX11_rule_32 rfl rfl ?_
        refine g_ic_1 dX11_rule_33 ?_
        refine g_icmp_ne (tgt := 47) dX11_rule_34 (by decide) (fun c_34 => ?_) (fun c_34 => ?_)
        · refine g_iload_n dX11_rule_47 rfl rfl ?_
          refine g_ic_2 dX11_rule_48 ?_
          refine g_icmp_ne (tgt := 61) dX11_rule_49 (by decide) (fun c_49 => ?_) (fun c_49 => ?_)
          · refine g_aload_n dX11_rule_61 rfl rfl ?_
            refine g_get dX11_rule_62 fl_X11_58 hp_46 rfl ?_
            refine g_bipush (v := 37) dX11_rule_65 (by decide) ?_
            refine g_ra dX11_rule_67 hp_63 (k := 37) rfl (by decide) (by decide) ?_
            exact g_iret dX11_rule_68 ⟨congrArg (fun z => some (Value.int z)) (by have e3 := ru_3 j1 c_19 c_34 c_49; subst e3; rw [hv]; show A 63 37 = gt 143 (A 20) 3; rw [g143_3, s3]), rfl⟩
          · refine g_aload_n dX11_rule_52 rfl rfl ?_
            refine g_get dX11_rule_53 fl_X11_49 hp_46 rfl ?_
            refine g_ic_2 dX11_rule_56 ?_
            refine g_ra dX11_rule_57 hp_60 (k := 2) rfl (by decide) (by decide) ?_
            refine g_goto (tgt := 68) dX11_rule_58 (by decide) ?_
            exact g_iret dX11_rule_68 ⟨congrArg (fun z => some (Value.int z)) (by rw [hv, c_49, g143_2, s2]), rfl⟩
        · refine g_aload_n dX11_rule_37 rfl rfl ?_
          refine g_get dX11_rule_38 fl_X11_58 hp_46 rfl ?_
          refine g_bipush (v := 36) dX11_rule_41 (by decide) ?_
          refine g_ra dX11_rule_43 hp_63 (k := 36) rfl (by decide) (by decide) ?_
          refine g_goto (tgt := 68) dX11_rule_44 (by decide) ?_
          exact g_iret dX11_rule_68 ⟨congrArg (fun z => some (Value.int z)) (by rw [hv, c_34, g143_1, s1]), rfl⟩
      · refine g_aload_n dX11_rule_22 rfl rfl ?_
        refine g_get dX11_rule_23 fl_X11_58 hp_46 rfl ?_
        refine g_bipush (v := 35) dX11_rule_26 (by decide) ?_
        refine g_ra dX11_rule_28 hp_63 (k := 35) rfl (by decide) (by decide) ?_
        refine g_goto (tgt := 68) dX11_rule_29 (by decide) ?_
        exact g_iret dX11_rule_68 ⟨congrArg (fun z => some (Value.int z)) (by rw [hv, c_19, g143_0, s0]), rfl⟩
    · refine g_ic_m1 dX11_rule_16 ?_
      exact g_iret dX11_rule_17 ⟨congrArg (fun z => some (Value.int z)) (by exact (if_pos (Or.inr (in_0.mp c_13))).symm), rfl⟩

set_option maxHeartbeats 800000 in
set_option maxRecDepth 100000 in
theorem n_month {A : Nat → Nat → Int32} {L : Nat → Nat → Int64} {I : Nat → Nat → Int32} {X : Nat → Int64} {x n : Int32} (h : INV A I) : Con 3 yX11_month cX11_month 3 (some .int) [.ref 46, .int x, .int n] (hp A L I X) (fun r_ H_ => r_ = some (.int (moS A x n)) ∧ H_ = hp A L I X) := by
  refine m_con (by decide) (Nat.le_of_ble_eq_true rfl) ?_
  refine g_aload_n dX11_month_0 rfl rfl ?_
  refine g_iload_n dX11_month_1 rfl rfl ?_
  refine g_callV dX11_month_2 cv_X11_317 (as' := [_]) hp_46 rfl e_isMonth (by decide) rfl rfl (Nat.le_of_ble_eq_true rfl) ?_
  rintro _ _ ⟨rfl, rfl⟩
  refine g_if_eq (tgt := 17) dX11_month_5 (by decide) (fun c_5 => ?_) (fun c_5 => ?_)
  · refine g_ic_m1 dX11_month_17 ?_
    exact g_iret dX11_month_18 ⟨congrArg (fun z => some (Value.int z)) (by exact (if_pos (Or.inl (by rw [INV_M h]; exact c_5))).symm), rfl⟩
  · refine g_iload_n dX11_month_8 rfl rfl ?_
    refine g_ic_0 dX11_month_9 ?_
    refine g_ic_4 dX11_month_10 ?_
    refine g_callS dX11_month_11 cs_X11_221 (as := [_, _, _]) e_in (by decide) rfl rfl (Nat.le_of_ble_eq_true rfl) ?_
    rintro _ _ ⟨rfl, rfl⟩
    refine g_if_ne (tgt := 19) dX11_month_14 (by decide) (fun c_14 => ?_) (fun c_14 => ?_)
    · obtain ⟨ms, cs, m, hP, rfl, m1, m8⟩ := INV_Pm h c_5
      obtain ⟨q0, q1, q2, q3, q4, -⟩ := hP.2.1.1.2.2.2.1 m m1
      have hv : moS A (nI m) n = oM (A 20) (nI m) n := if_neg (fun z => z.elim (fun w => c_5 (by rw [← INV_M h]; exact w)) (fun w => c_14 (in_0.mpr w)))
      obtain ⟨j, j1, rfl⟩ := in_1 (b := 4) (by decide) c_14
      refine g_iload_n dX11_month_19 rfl rfl ?_
      refine g_ic_1 dX11_month_20 ?_
      refine g_icmp_ne (tgt := 35) dX11_month_21 (by decide) (fun c_21 => ?_) (fun c_21 => ?_)
      · refine g_iload_n dX11_month_35 rfl rfl ?_
        refine g_ic_2 dX11_month_36 ?_
        refine g_icmp_ne (tgt := 52) dX11_month_37 (by decide) (fun c_37 => ?_) (fun c_37 => ?_)
        · refine g_iload_n dX11_month_52 rfl rfl ?_
          refine g_ic_3 dX11_month_53 ?_
          refine g_icmp_ne (tgt := 69) dX11_month_54 (by decide) (fun c_54 => ?_) (fun c_54 => ?_)
          · refine g_aload_n dX11_month_69 rfl rfl ?_
            refine g_iload_n dX11_month_70 rfl rfl ?_
            refine g_iload_n dX11_month_71 rfl rfl ?_
            refine g_callV dX11_month_72 cv_X11_264 (as' := [_, _]) hp_46 rfl (e_of (a := m) (b := j) rfl rfl (by omega)) (by decide) rfl rfl (Nat.le_of_ble_eq_true rfl) ?_
            rintro _ _ ⟨rfl, rfl⟩
            exact g_iret dX11_month_75 ⟨congrArg (fun z => some (Value.int z)) (by rw [hv]; rcases mo_4 j1 c_21 c_37 c_54 with rfl | rfl <;> first | exact (Eq.trans (oM_0 m8) q0.1).symm | exact (Eq.trans (oM_4 m8) q4).symm), rfl⟩
          · refine g_aload_n dX11_month_57 rfl rfl ?_
            refine g_get dX11_month_58 fl_X11_58 hp_46 rfl ?_
            refine g_bipush (v := 16) dX11_month_61 (by decide) ?_
            refine g_iload_n dX11_month_63 rfl rfl ?_
            refine g_iadd dX11_month_64 ?_
            refine g_ra dX11_month_65 hp_63 (k := 16 + m) (nk_add (show (16 : Int32) = nI 16 from rfl) (show nI (m) = nI (m) from rfl)) (by omega) (by decide) ?_
            refine g_goto (tgt := 75) dX11_month_66 (by decide) ?_
            exact g_iret dX11_month_75 ⟨congrArg (fun z => some (Value.int z)) (by rw [hv, c_54, oM_3 m8]; exact q3.1.symm), rfl⟩
        · refine g_aload_n dX11_month_40 rfl rfl ?_
          refine g_get dX11_month_41 fl_X11_58 hp_46 rfl ?_
          refine g_bipush (v := 8) dX11_month_44 (by decide) ?_
          refine g_iload_n dX11_month_46 rfl rfl ?_
          refine g_iadd dX11_month_47 ?_
          refine g_ra dX11_month_48 hp_63 (k := 8 + m) (nk_add (show (8 : Int32) = nI 8 from rfl) (show nI (m) = nI (m) from rfl)) (by omega) (by decide) ?_
          refine g_goto (tgt := 75) dX11_month_49 (by decide) ?_
          exact g_iret dX11_month_75 ⟨congrArg (fun z => some (Value.int z)) (by rw [hv, c_37, oM_2 m8]; exact q2.1.symm), rfl⟩
      · refine g_aload_n dX11_month_24 rfl rfl ?_
        refine g_get dX11_month_25 fl_X11_58 hp_46 rfl ?_
        refine g_ic_0 dX11_month_28 ?_
        refine g_iload_n dX11_month_29 rfl rfl ?_
        refine g_iadd dX11_month_30 ?_
        refine g_ra dX11_month_31 hp_63 (k := m) (nk_0 (show (0 : Int32) = nI 0 from rfl) (show nI (m) = nI (m) from rfl)) (by omega) (by decide) ?_
        refine g_goto (tgt := 75) dX11_month_32 (by decide) ?_
        exact g_iret dX11_month_75 ⟨congrArg (fun z => some (Value.int z)) (by rw [hv, c_21, oM_1 m8]; exact q1.1.symm), rfl⟩
    · refine g_ic_m1 dX11_month_17 ?_
      exact g_iret dX11_month_18 ⟨congrArg (fun z => some (Value.int z)) (by exact (if_pos (Or.inr (in_0.mp c_14))).symm), rfl⟩

set_option maxHeartbeats 800000 in
set_option maxRecDepth 100000 in
theorem n_status {A : Nat → Nat → Int32} {L : Nat → Nat → Int64} {I : Nat → Nat → Int32} {X : Nat → Int64} {n : Int32} (h : INV A I) : Con 2 yX11_status cX11_status 2 (some .int) [.ref 46, .int n] (hp A L I X) (fun r_ H_ => r_ = some (.int (staS A n)) ∧ H_ = hp A L I X) := by
  refine m_con (by decide) (Nat.le_of_ble_eq_true rfl) ?_
  refine g_iload_n dX11_status_0 rfl rfl ?_
  refine g_ic_0 dX11_status_1 ?_
  refine g_ic_4 dX11_status_2 ?_
  refine g_callS dX11_status_3 cs_X11_221 (as := [_, _, _]) e_in (by decide) rfl rfl (Nat.le_of_ble_eq_true rfl) ?_
  rintro _ _ ⟨rfl, rfl⟩
  refine g_if_eq (tgt := 18) dX11_status_6 (by decide) (fun c_6 => ?_) (fun c_6 => ?_)
  · refine g_ic_m1 dX11_status_18 ?_
    exact g_iret dX11_status_19 ⟨congrArg (fun z => some (Value.int z)) (by exact (if_pos ((in_0.mp c_6).imp id (fun z => five_le z))).symm), rfl⟩
  · obtain ⟨j, j1, rfl⟩ := in_1 (b := 4) (by decide) c_6
    refine g_aload_n dX11_status_9 rfl rfl ?_
    refine g_get dX11_status_10 fl_X11_61 hp_46 rfl ?_
    refine g_iload_n dX11_status_13 rfl rfl ?_
    refine g_ra dX11_status_14 hp_64 (k := j) rfl (by omega) (by decide) ?_
    refine g_goto (tgt := 19) dX11_status_15 (by decide) ?_
    exact g_iret dX11_status_19 ⟨congrArg (fun z => some (Value.int z)) (by rw [show staS A (nI j) = gt 5 (A 45) (nI j) from if_neg (fun z => z.elim (fun w => absurd w (nI_pos (by omega))) (fun w => absurd w (nI_ge (a := j) (b := 5) (by omega) (by decide)))), gt_nI (by omega) (by decide), h.2.2.1.1]), rfl⟩

set_option maxHeartbeats 800000 in
set_option maxRecDepth 100000 in
theorem n_pull {A : Nat → Nat → Int32} {L : Nat → Nat → Int64} {I : Nat → Nat → Int32} {X : Nat → Int64}  (h : INV A I) : Con 7 yX11_pull cX11_pull 1 (some .int) [.ref 46] (hp A L I X) (QM A I X (pulS A I)) := by
  refine m_con (by decide) (Nat.le_of_ble_eq_true rfl) ?_
  refine g_aload_n dX11_pull_0 rfl rfl ?_
  refine g_get dX11_pull_1 fl_X11_261 hp_46 rfl ?_
  refine g_if_ne (tgt := 11) dX11_pull_4 (by decide) (fun c_4 => ?_) (fun c_4 => ?_)
  · refine g_aload_n dX11_pull_11 rfl rfl ?_
    obtain ⟨ms, cs, hP⟩ := INV_P h (fun w => c_4 ((INV_0 h).mpr w))
    refine g_callV dX11_pull_12 cv_X11_302 (as' := []) hp_46 rfl (e_pullNow hP.2.1.1 (INV_LWA h)) (by decide) rfl rfl (Nat.le_of_ble_eq_true rfl) ?_
    rintro _ _ ⟨rfl, V, K, rfl⟩
    exact g_iret dX11_pull_15 ⟨congrArg (fun z => some (Value.int z)) (show _ = pulS A I from (if_neg (fun w => c_4 ((INV_0 h).mpr w))).symm), _, _, _, ⟨fun i z => by rw [up_ne (by rintro rfl; revert z; decide), up_ne (by rintro rfl; revert z; decide)], fun _ _ _ => rfl⟩, rfl⟩
  · refine g_ic_m1 dX11_pull_7 ?_
    refine g_goto (tgt := 15) dX11_pull_8 (by decide) ?_
    exact g_iret dX11_pull_15 ⟨congrArg (fun z => some (Value.int z)) (show _ = pulS A I from (if_pos ((INV_0 h).mp c_4)).symm), _, _, _, smM_rf, rfl⟩

set_option maxHeartbeats 800000 in
set_option maxRecDepth 100000 in
theorem n_law {A : Nat → Nat → Int32} {L : Nat → Nat → Int64} {I : Nat → Nat → Int32} {X : Nat → Int64} {n : Int32} (h : I_L A I) : Con 2 yX11_law cX11_law 2 (some .boolean) [.ref 46, .int n] (hp A L I X) (fun r_ H_ => (lawS I n = 0 ∧ r_ = some (.int 0) ∧ H_ = hp A L I X) ∨ (lawS I n = 1 ∧ r_ = some (.int 1) ∧ H_ = hp A L (up2 I 46 29 n) X)) := by
  refine m_con (by decide) (Nat.le_of_ble_eq_true rfl) ?_
  refine g_iload_n dX11_law_0 rfl rfl ?_
  refine g_ic_m1 dX11_law_1 ?_
  refine g_aload_n dX11_law_2 rfl rfl ?_
  refine g_get dX11_law_3 fl_X11_286 hp_46 rfl ?_
  refine g_ic_1 dX11_law_6 ?_
  refine g_isub dX11_law_7 ?_
  refine g_callS dX11_law_8 cs_X11_221 (as := [_, _, _]) e_in (by decide) rfl rfl (Nat.le_of_ble_eq_true rfl) ?_
  rintro _ _ ⟨rfl, rfl⟩
  refine g_if_ne (tgt := 16) dX11_law_11 (by decide) (fun c_11 => ?_) (fun c_11 => ?_)
  · refine g_aload_n dX11_law_16 rfl rfl ?_
    refine g_iload_n dX11_law_17 rfl rfl ?_
    refine g_puti dX11_law_18 fw_X11_64 hp_46 (Nat.le_of_ble_eq_true rfl) ?_
    rw [hq_46_29]
    try simp (disch := omega) only [up_at, up_up, up_ne, up2_at, up2_up2, up2_ne, ud_at, ud_ne]
    refine g_ic_1 dX11_law_21 ?_
    exact g_zret (by first | exact Or.inl rfl | exact Or.inr rfl) dX11_law_22 (Or.inr ⟨(law_in h).2 c_11, rfl, rfl⟩)
  · refine g_ic_0 dX11_law_14 ?_
    exact g_zret (by first | exact Or.inl rfl | exact Or.inr rfl) dX11_law_15 (Or.inl ⟨(law_in h).1 c_11, rfl, rfl⟩)

set_option maxHeartbeats 800000 in
set_option maxRecDepth 100000 in
theorem n_end {A : Nat → Nat → Int32} {L : Nat → Nat → Int64} {I : Nat → Nat → Int32} {X : Nat → Int64} {n : Int32}  : Con 1 yX11_end cX11_end 2 (some .boolean) [.ref 46, .int n] (hp A L I X) (fun r_ H_ => ((n < 0 ∨ ¬ n ≤ I 46 2) ∧ r_ = some (.int 0) ∧ H_ = hp A L I X) ∨ (¬ n < 0 ∧ n ≤ I 46 2 ∧ r_ = some (.int 1) ∧ H_ = hp A L (up2 I 46 2 n) X)) := by
  refine m_con (by decide) (Nat.le_of_ble_eq_true rfl) ?_
  refine g_iload_n dX11_end_0 rfl rfl ?_
  refine g_if_lt (tgt := 12) dX11_end_1 (by decide) (fun c_1 => ?_) (fun c_1 => ?_)
  · refine g_ic_0 dX11_end_12 ?_
    exact g_zret (by first | exact Or.inl rfl | exact Or.inr rfl) dX11_end_13 (Or.inl ⟨Or.inl c_1, rfl, rfl⟩)
  · refine g_iload_n dX11_end_4 rfl rfl ?_
    refine g_aload_n dX11_end_5 rfl rfl ?_
    refine g_get dX11_end_6 fl_X11_113 hp_46 rfl ?_
    refine g_icmp_le (tgt := 14) dX11_end_9 (by decide) (fun c_9 => ?_) (fun c_9 => ?_)
    · refine g_aload_n dX11_end_14 rfl rfl ?_
      refine g_iload_n dX11_end_15 rfl rfl ?_
      refine g_puti dX11_end_16 fw_X11_113 hp_46 (Nat.le_of_ble_eq_true rfl) ?_
      rw [hq_46_2]
      try simp (disch := omega) only [up_at, up_up, up_ne, up2_at, up2_up2, up2_ne, ud_at, ud_ne]
      refine g_ic_1 dX11_end_19 ?_
      exact g_zret (by first | exact Or.inl rfl | exact Or.inr rfl) dX11_end_20 (Or.inr ⟨c_1, c_9, rfl, rfl⟩)
    · refine g_ic_0 dX11_end_12 ?_
      exact g_zret (by first | exact Or.inl rfl | exact Or.inr rfl) dX11_end_13 (Or.inl ⟨Or.inr c_9, rfl, rfl⟩)
