/-! THE CLASS: fault, text, takePlain -/
theorem sw_fault {x : Int32} (h0 : ¬ x = 0) (h1 : ¬ x = 1) : Op.lookupswitch.offset [(0, 27), (1, 35)] 43 x.toInt = 43 := by
  have e0 : ¬ (0 : Int) = x.toInt := fun z => h0 (Int32.toInt_inj.mp (z.symm.trans (by decide)))
  have e1 : ¬ (1 : Int) = x.toInt := fun z => h1 (Int32.toInt_inj.mp (z.symm.trans (by decide)))
  have e0' : ¬ x.toInt = 0 := fun z => e0 z.symm
  have e1' : ¬ x.toInt = 1 := fun z => e1 z.symm
  simp [Op.lookupswitch.offset, List.find?, e0, e1, e0', e1']
set_option maxHeartbeats 4000000 in
set_option maxRecDepth 100000 in
theorem m_takePlain {A : Nat → Nat → Int32} {L : Nat → Nat → Int64} {I : Nat → Nat → Int32} {X : Nat → Int64}   : Con 4 yX10_takePlain cX10_takePlain 1 (some .int) [.ref 0] (hp A L I X) (fun r_ H_ => r_ = some (.int (gt 143 (A 6) 9)) ∧ H_ = hp (upS (upS A 17 18 (A 6) (fun _ => 0)) 20 21 (A 6) (fun _ => 0)) L (up2 (up2 (up2 (up2 (up2 I 25 1 0) 34 9 0) 0 12 1) 0 13 0) 1 1 0) X) := by
  refine m_con (by decide) (Nat.le_of_ble_eq_true rfl) ?_
  refine g_aload_n dX10_takePlain_0 rfl rfl ?_
  refine g_get dX10_takePlain_1 fl_X10_42 hp_0 rfl ?_
  refine g_aload_n dX10_takePlain_4 rfl rfl ?_
  refine g_get dX10_takePlain_5 fl_X10_21 hp_0 rfl ?_
  refine g_get dX10_takePlain_8 fl_X10_117 hp_3 rfl ?_
  refine g_callV dX10_takePlain_11 cv_X10_120 (as' := [_]) hp_16 rfl (h_become isS_16 isS_5 (by decide)) (by decide) rfl rfl (Nat.le_of_ble_eq_true rfl) ?_
  rintro _ _ ⟨rfl, rfl⟩
  refine g_aload_n dX10_takePlain_14 rfl rfl ?_
  refine g_get dX10_takePlain_15 fl_X10_46 hp_0 rfl ?_
  refine g_aload_n dX10_takePlain_18 rfl rfl ?_
  refine g_get dX10_takePlain_19 fl_X10_42 hp_0 rfl ?_
  refine g_callV dX10_takePlain_22 cv_X10_120 (as' := [_]) hp_19 rfl (h_become isS_19 isS_16 (by decide)) (by decide) rfl rfl (Nat.le_of_ble_eq_true rfl) ?_
  rintro _ _ ⟨rfl, rfl⟩
  rw [upS_r (show (17 : Nat) ≠ 18 by decide)]
  refine g_aload_n dX10_takePlain_25 rfl rfl ?_
  refine g_get dX10_takePlain_26 fl_X10_55 hp_0 rfl ?_
  refine g_callV dX10_takePlain_29 cv_X10_124 (as' := []) hp_25 rfl a_forget (by decide) rfl rfl (Nat.le_of_ble_eq_true rfl) ?_
  rintro _ _ ⟨rfl, rfl⟩
  refine g_aload_n dX10_takePlain_32 rfl rfl ?_
  refine g_get dX10_takePlain_33 fl_X10_71 hp_0 rfl ?_
  refine g_callV dX10_takePlain_36 cv_X10_127 (as' := []) hp_34 rfl v_forget (by decide) rfl rfl (Nat.le_of_ble_eq_true rfl) ?_
  rintro _ _ ⟨rfl, rfl⟩
  refine g_aload_n dX10_takePlain_39 rfl rfl ?_
  refine g_ic_1 dX10_takePlain_40 ?_
  refine g_putz dX10_takePlain_41 fw_X10_128 hp_0 (by first | exact Or.inl rfl | exact Or.inr rfl) (Nat.le_of_ble_eq_true rfl) ?_
  rw [hq_0_12]
  refine g_aload_n dX10_takePlain_44 rfl rfl ?_
  refine g_ic_0 dX10_takePlain_45 ?_
  refine g_putz dX10_takePlain_46 fw_X10_132 hp_0 (by first | exact Or.inl rfl | exact Or.inr rfl) (Nat.le_of_ble_eq_true rfl) ?_
  rw [hq_0_13]
  refine g_aload_n dX10_takePlain_49 rfl rfl ?_
  refine g_get dX10_takePlain_50 fl_X10_12 hp_0 rfl ?_
  refine g_ic_0 dX10_takePlain_53 ?_
  refine g_callV dX10_takePlain_54 cv_X10_98 (as' := [_]) hp_1 rfl u_cut (by decide) rfl rfl (Nat.le_of_ble_eq_true rfl) ?_
  rintro _ _ ⟨rfl, rfl⟩
  refine g_aload_n dX10_takePlain_57 rfl rfl ?_
  refine g_get dX10_takePlain_58 fl_X10_46 hp_0 rfl ?_
  refine g_bipush (v := 9) dX10_takePlain_61 (by decide) ?_
  refine g_callV dX10_takePlain_63 cv_X10_135 (as' := [_]) hp_19 rfl (h_get isS_19) (by decide) rfl rfl (Nat.le_of_ble_eq_true rfl) ?_
  rintro _ _ ⟨rfl, rfl⟩
  rw [upS_r (show (20 : Nat) ≠ 21 by decide)]
  exact g_iret dX10_takePlain_66 ⟨rfl, rfl⟩

set_option maxHeartbeats 4000000 in
set_option maxRecDepth 100000 in
theorem m_fault0 {A : Nat → Nat → Int32} {L : Nat → Nat → Int64} {I : Nat → Nat → Int32} {X : Nat → Int64} {n : Nat} (tp : tpS A I n) : Con 39 yX10_fault cX10_fault 2 (some .int) [.ref 0, .int 0] (hp A L I X) (fun r_ H_ => r_ = some (.int (lawV (plainP (A 2) n))) ∧ ∃ A1 I1, PS A I n (plainP (A 2) n) A1 I1 ∧ H_ = hp A1 L I1 X) := by
  refine m_con (by decide) (Nat.le_of_ble_eq_true rfl) ?_
  refine g_iload_n dX10_fault_0 rfl rfl ?_
  · refine g_lookup (off := 27) (tgt := 28) dX10_fault_1 (by decide) (by decide) (by decide) ?_
    refine g_aload_n dX10_fault_28 rfl rfl ?_
    refine g_get dX10_fault_29 fl_X10_21 hp_0 rfl ?_
    refine g_callV dX10_fault_32 cv_X10_101 (as' := []) hp_3 rfl (p_plain tp) (by decide) rfl rfl (Nat.le_of_ble_eq_true rfl) ?_
    rintro _ _ ⟨rfl, A1, I1, h1, rfl⟩
    exact g_iret dX10_fault_35 ⟨rfl, A1, I1, h1, rfl⟩

set_option maxHeartbeats 4000000 in
set_option maxRecDepth 100000 in
theorem m_fault1 {A : Nat → Nat → Int32} {L : Nat → Nat → Int64} {I : Nat → Nat → Int32} {X : Nat → Int64} {n : Nat} (tp : tpS A I n) : Con 39 yX10_fault cX10_fault 2 (some .int) [.ref 0, .int 1] (hp A L I X) (fun r_ H_ => r_ = some (.int (lawV (lawP (A 2) n))) ∧ ∃ A1 I1, SS A I n [] 0 (lwW (lawP (A 2) n)) A1 I1 ∧ H_ = hp A1 L I1 X) := by
  refine m_con (by decide) (Nat.le_of_ble_eq_true rfl) ?_
  refine g_iload_n dX10_fault_0 rfl rfl ?_
  · refine g_lookup (off := 35) (tgt := 36) dX10_fault_1 (by decide) (by decide) (by decide) ?_
    refine g_aload_n dX10_fault_36 rfl rfl ?_
    refine g_get dX10_fault_37 fl_X10_28 hp_0 rfl ?_
    refine g_callV dX10_fault_40 cv_X10_104 (as' := []) hp_8 rfl (r_law tp) (by decide) rfl rfl (Nat.le_of_ble_eq_true rfl) ?_
    rintro _ _ ⟨rfl, A1, I1, h1, rfl⟩
    exact g_iret dX10_fault_43 ⟨rfl, A1, I1, h1, rfl⟩

set_option maxHeartbeats 4000000 in
set_option maxRecDepth 100000 in
theorem m_faultn {A : Nat → Nat → Int32} {L : Nat → Nat → Int64} {I : Nat → Nat → Int32} {X : Nat → Int64} {x : Int32} (h0 : ¬ x = 0) (h1 : ¬ x = 1) : Con 39 yX10_fault cX10_fault 2 (some .int) [.ref 0, .int x] (hp A L I X) (fun r_ H_ => r_ = some (.int (-2)) ∧ H_ = hp A L I X) := by
  refine m_con (by decide) (Nat.le_of_ble_eq_true rfl) ?_
  refine g_iload_n dX10_fault_0 rfl rfl ?_
  · refine g_lookup (off := 43) (tgt := 44) dX10_fault_1 (by decide) (sw_fault h0 h1) (by decide) ?_
    refine g_bipush (v := (-2)) dX10_fault_44 (by decide) ?_
    exact g_iret dX10_fault_46 ⟨rfl, rfl⟩

set_option maxHeartbeats 4000000 in
set_option maxRecDepth 100000 in
theorem m_text0 {A : Nat → Nat → Int32} {L : Nat → Nat → Int64} {I : Nat → Nat → Int32} {X : Nat → Int64} {n : Nat} (tp : tpS A I n) : Con 39 yX10_text cX10_text 2 (some .int) [.ref 0, .int 0] (hp A L I X) (fun r_ H_ => ∃ A1 I1, PS A I n (plainP (A 2) n) A1 I1 ∧ ((¬ lawV (plainP (A 2) n) = (-1) ∧ r_ = some (.int (-1)) ∧ H_ = hp A1 L I1 X) ∨ (lawV (plainP (A 2) n) = (-1) ∧ r_ = some (.int (gt 143 (A1 6) 9)) ∧ H_ = hp (upS (upS A1 17 18 (A1 6) (fun _ => 0)) 20 21 (A1 6) (fun _ => 0)) L (up2 (up2 (up2 (up2 (up2 I1 25 1 0) 34 9 0) 0 12 1) 0 13 0) 1 1 0) X))) := by
  refine m_con (by decide) (Nat.le_of_ble_eq_true rfl) ?_
  refine g_iload_n dX10_text_0 rfl rfl ?_
  refine g_if_ne (tgt := 24) dX10_text_1 (by decide) (fun c_1 => ?_) (fun c_1 => ?_)
  · exact absurd rfl c_1
  · refine g_aload_n dX10_text_4 rfl rfl ?_
    refine g_get dX10_text_5 fl_X10_21 hp_0 rfl ?_
    refine g_callV dX10_text_8 cv_X10_101 (as' := []) hp_3 rfl (p_plain tp) (by decide) rfl rfl (Nat.le_of_ble_eq_true rfl) ?_
    rintro _ _ ⟨rfl, A1, I1, h1, rfl⟩
    refine g_ic_m1 dX10_text_11 ?_
    refine g_icmp_ne (tgt := 22) dX10_text_12 (by decide) (fun c_12 => ?_) (fun c_12 => ?_)
    · refine g_ic_m1 dX10_text_22 ?_
      exact g_iret dX10_text_23 ⟨A1, I1, h1, Or.inl ⟨c_12, rfl, rfl⟩⟩
    · refine g_aload_n dX10_text_15 rfl rfl ?_
      refine g_callV dX10_text_16 cv_X10_107 (as' := []) hp_0 rfl m_takePlain (by decide) rfl rfl (Nat.le_of_ble_eq_true rfl) ?_
      rintro _ _ ⟨rfl, rfl⟩
      refine g_goto (tgt := 23) dX10_text_19 (by decide) ?_
      exact g_iret dX10_text_23 ⟨A1, I1, h1, Or.inr ⟨c_12, rfl, rfl⟩⟩

theorem lawV_r {α : Type} {s : PR α} (hs : ∀ p, s = .inl p → p < 2 ^ 31) (h : lawV s = (-1)) : ∃ x, s = .inr x := by
  cases s with
  | inl p =>
    have e : nI p = (-1) := h
    exact absurd (Int32.le_trans (nI_pos' (n := p) (hs p rfl)) (Int32.le_of_eq e)) (by decide)
  | inr x => exact ⟨x, rfl⟩
set_option maxHeartbeats 4000000 in
set_option maxRecDepth 100000 in
theorem m_text1 {A : Nat → Nat → Int32} {L : Nat → Nat → Int64} {I : Nat → Nat → Int32} {X : Nat → Int64} {n : Nat} (tp : tpS A I n) : Con 39 yX10_text cX10_text 2 (some .int) [.ref 0, .int 1] (hp A L I X) (fun r_ H_ => (¬ I 11 4 < 4 ∧ r_ = some (.int (-1)) ∧ H_ = hp A L I X) ∨ (I 11 4 < 4 ∧ ∃ A1 I1, SS A I n [] 0 (lwW (lawP (A 2) n)) A1 I1 ∧ ((¬ lawV (lawP (A 2) n) = (-1) ∧ r_ = some (.int (-1)) ∧ H_ = hp A1 L I1 X) ∨ (lawV (lawP (A 2) n) = (-1) ∧ ∃ b cs, lawP (A 2) n = .inr (b, cs) ∧ r_ = some (.int (I 11 4 + 1 - 1)) ∧ H_ = hp (up (up A1 12 (adC (A1 12) (A1 10) (I 11 4) (flW cs).length)) 13 (pt 4 (A1 13) (I 11 4) (nI (flW cs).length))) L (up2 (up2 I1 11 4 (I 11 4 + 1)) 1 1 0) X)))) := by
  refine m_con (by decide) (Nat.le_of_ble_eq_true rfl) ?_
  refine g_iload_n dX10_text_0 rfl rfl ?_
  refine g_if_ne (tgt := 24) dX10_text_1 (by decide) (fun c_1 => ?_) (fun c_1 => ?_)
  · refine g_iload_n dX10_text_24 rfl rfl ?_
    refine g_ic_1 dX10_text_25 ?_
    refine g_icmp_ne (tgt := 60) dX10_text_26 (by decide) (fun c_26 => ?_) (fun c_26 => ?_)
    · exact absurd rfl c_26
    · refine g_aload_n dX10_text_29 rfl rfl ?_
      refine g_get dX10_text_30 fl_X10_35 hp_0 rfl ?_
      refine g_get dX10_text_33 fl_X10_110 hp_11 rfl ?_
      refine g_ic_4 dX10_text_36 ?_
      refine g_icmp_ge (tgt := 60) dX10_text_37 (by decide) (fun c_37 => ?_) (fun c_37 => ?_)
      · refine g_ic_m1 dX10_text_60 ?_
        exact g_iret dX10_text_61 (Or.inl ⟨Int32.not_lt.mpr c_37, rfl, rfl⟩)
      · refine g_aload_n dX10_text_40 rfl rfl ?_
        refine g_get dX10_text_41 fl_X10_28 hp_0 rfl ?_
        refine g_callV dX10_text_44 cv_X10_104 (as' := []) hp_8 rfl (r_law tp) (by decide) rfl rfl (Nat.le_of_ble_eq_true rfl) ?_
        rintro _ _ ⟨rfl, A1, I1, h1, rfl⟩
        refine g_ic_m1 dX10_text_47 ?_
        refine g_icmp_ne (tgt := 58) dX10_text_48 (by decide) (fun c_48 => ?_) (fun c_48 => ?_)
        · refine g_ic_m1 dX10_text_58 ?_
          exact g_iret dX10_text_59 (Or.inr ⟨Int32.not_le.mp c_37, A1, I1, h1, Or.inl ⟨c_48, rfl, rfl⟩⟩)
        · obtain ⟨⟨b, cs⟩, e1⟩ := lawV_r (s := lawP (A 2) n) (fun p z => by have h2 := h1.2; rw [z] at h2; have h3 : p ≤ n := h2.2; have := tp.2.1; omega) c_48
          have h2 := h1.2
          rw [e1] at h2
          have hs : I1 8 2 = nI (flW cs).length := h2.2.2.1
          have hz : (flW cs).length ≤ 240 := by
            have h5 : b ≤ n := h2.2.2.2.2.1
            have h6 : ([] ++ flW cs).length + 0 ≤ b := h2.2.2.2.2.2
            have := tp.2.1
            simp only [List.nil_append] at h6
            omega
          have e11 : I1 11 4 = I 11 4 := h1.1.2 11 4 (by decide) (by decide)
          refine g_aload_n dX10_text_51 rfl rfl ?_
          refine g_callV dX10_text_52 cv_X10_114 (as' := []) hp_0 rfl (m_takeLaw (z := (flW cs).length) hz hs) (by decide) rfl rfl (Nat.le_of_ble_eq_true rfl) ?_
          rintro _ _ ⟨rfl, rfl⟩
          refine g_goto (tgt := 59) dX10_text_55 (by decide) ?_
          exact g_iret dX10_text_59 (Or.inr ⟨Int32.not_le.mp c_37, A1, I1, h1, Or.inr ⟨c_48, b, cs, e1, by rw [e11], by rw [e11]⟩⟩)
  · exact absurd c_1 (by decide)

set_option maxHeartbeats 4000000 in
set_option maxRecDepth 100000 in
theorem m_textn {A : Nat → Nat → Int32} {L : Nat → Nat → Int64} {I : Nat → Nat → Int32} {X : Nat → Int64} {x : Int32} (h0 : ¬ x = 0) (h1 : ¬ x = 1) : Con 39 yX10_text cX10_text 2 (some .int) [.ref 0, .int x] (hp A L I X) (fun r_ H_ => r_ = some (.int (-1)) ∧ H_ = hp A L I X) := by
  refine m_con (by decide) (Nat.le_of_ble_eq_true rfl) ?_
  refine g_iload_n dX10_text_0 rfl rfl ?_
  refine g_if_ne (tgt := 24) dX10_text_1 (by decide) (fun c_1 => ?_) (fun c_1 => ?_)
  · refine g_iload_n dX10_text_24 rfl rfl ?_
    refine g_ic_1 dX10_text_25 ?_
    refine g_icmp_ne (tgt := 60) dX10_text_26 (by decide) (fun c_26 => ?_) (fun c_26 => ?_)
    · refine g_ic_m1 dX10_text_60 ?_
      exact g_iret dX10_text_61 ⟨rfl, rfl⟩
    · exact absurd c_26 h1
  · exact absurd c_1 h0
