/-! LAWS: pullFor -/
def ltrs (f : Nat → Int32) : Nat → Int32 := fun j => match j with
  | 0 => gt 143 f 0
  | 1 => gt 143 f 1
  | 2 => oM f (gt 143 f 5) 1
  | 3 => oM f (gt 143 f 5) 0
  | 4 => gt 143 f 6
  | _ => gt 143 f 5
def plS (C Z : Nat → Int32) (hold : Int32) (f : Nat → Int32) : Int32 :=
  if 1 ≤ gt 143 f 0 then (if hold = (-1) then (gt 143 f 0 + 2 * oM f (gt 143 f 5) 1) / 6 else mx 0 (mn 9 (wrt C Z (ltrs f) hold))) else 0
theorem p6 {F : Nat → Int32} {v : Int32} : pt 6 F 0 v = upd F 0 v ∧ pt 6 F 1 v = upd F 1 v ∧ pt 6 F 2 v = upd F 2 v ∧ pt 6 F 3 v = upd F 3 v ∧ pt 6 F 4 v = upd F 4 v ∧ pt 6 F 5 v = upd F 5 v :=
  ⟨pt_nI (k := 0) (by decide) (by decide), pt_nI (k := 1) (by decide) (by decide), pt_nI (k := 2) (by decide) (by decide), pt_nI (k := 3) (by decide) (by decide), pt_nI (k := 4) (by decide) (by decide), pt_nI (k := 5) (by decide) (by decide)⟩
/-- what a turn leaves of the law's own cells -/
def scr (A : Nat → Nat → Int32) (I : Nat → Nat → Int32) (A' : Nat → Nat → Int32) (I' : Nat → Nat → Int32) : Prop := ∃ V K t, A' = up (up A 14 V) 15 K ∧ I' = up2 I 11 6 t
theorem scr_rf {A I : Nat → Nat → Int32} : scr A I A I := ⟨A 14, A 15, I 11 6, by rw [up_self, up_self], by rw [up2_self]⟩
theorem scr_tr {A I A1 I1 A2 I2 : Nat → Nat → Int32} (h : scr A I A1 I1) (k : scr A1 I1 A2 I2) : scr A I A2 I2 := by
  obtain ⟨V, K, t, rfl, rfl⟩ := h
  obtain ⟨V2, K2, t2, rfl, rfl⟩ := k
  refine ⟨V2, K2, t2, ?_, by rw [up2_up2]⟩
  funext j
  unfold up
  by_cases h5 : j = 15 <;> by_cases h4 : j = 14 <;> simp [h4, h5]
theorem scr_ne {A I A1 I1 : Nat → Nat → Int32} (h : scr A I A1 I1) {j : Nat} (h4 : j ≠ 14) (h5 : j ≠ 15) : A1 j = A j := by
  obtain ⟨V, K, t, rfl, -⟩ := h
  rw [up_ne h5, up_ne h4]
theorem scr_I {A I A1 I1 : Nat → Nat → Int32} (h : scr A I A1 I1) {j l : Nat} (hj : ¬ (j = 11 ∧ l = 6)) : I1 j l = I j l := by
  obtain ⟨V, K, t, -, rfl⟩ := h
  exact if_neg hj
theorem isS_l {q r c : Nat} (hs : isS q r c) : r ≠ 14 ∧ r ≠ 15 ∧ c ≠ 14 ∧ c ≠ 15 ∧ r ≠ 12 ∧ r ≠ 13 ∧ c ≠ 12 ∧ c ≠ 13 ∧ r ≠ c := by
  rcases hs with ⟨rfl, rfl, rfl⟩ | ⟨rfl, rfl, rfl⟩ | ⟨rfl, rfl, rfl⟩ | ⟨rfl, rfl, rfl⟩ | ⟨rfl, rfl, rfl⟩ | ⟨rfl, rfl, rfl⟩ <;> decide

set_option maxHeartbeats 4000000 in
set_option maxRecDepth 100000 in
theorem l_pull {A : Nat → Nat → Int32} {L : Nat → Nat → Int64} {I : Nat → Nat → Int32} {X : Nat → Int64} {q r c : Nat} (hs : isS q r c) : Con 4 yX5_pullFor cX5_pullFor 5 (some .int) [.ref 11, .ref q] (hp A L I X) (fun r_ H_ => r_ = some (.int (plS (A 12) (A 13) (I 11 5) (A r))) ∧ ∃ A1 I1, scr A I A1 I1 ∧ H_ = hp A1 L I1 X) := by
  refine m_con (by decide) (Nat.le_of_ble_eq_true rfl) ?_
  have a1 : r ≠ 14 := (isS_l hs).1
  refine g_aload_n dX5_pullFor_0 rfl rfl ?_
  refine g_ic_0 dX5_pullFor_1 ?_
  refine g_callV dX5_pullFor_2 cv_X5_39 (as' := [_]) (isS_q hs) rfl (h_get hs) (by decide) rfl rfl (Nat.le_of_ble_eq_true rfl) ?_
  rintro _ _ ⟨rfl, rfl⟩
  refine g_istore_n dX5_pullFor_5 rfl (by decide) ?_
  refine g_iload_n dX5_pullFor_6 rfl rfl ?_
  refine g_ic_1 dX5_pullFor_7 ?_
  refine g_icmp_ge (tgt := 13) dX5_pullFor_8 (by decide) (fun c_8 => ?_) (fun c_8 => ?_)
  · refine g_aload_n dX5_pullFor_13 rfl rfl ?_
    refine g_ic_5 dX5_pullFor_14 ?_
    refine g_callV dX5_pullFor_15 cv_X5_39 (as' := [_]) (isS_q hs) rfl (h_get hs) (by decide) rfl rfl (Nat.le_of_ble_eq_true rfl) ?_
    rintro _ _ ⟨rfl, rfl⟩
    refine g_istore_n dX5_pullFor_18 rfl (by decide) ?_
    refine g_aload_n dX5_pullFor_19 rfl rfl ?_
    refine g_iload_n dX5_pullFor_20 rfl rfl ?_
    refine g_ic_1 dX5_pullFor_21 ?_
    refine g_callV dX5_pullFor_22 cv_X5_45 (as' := [_, _]) (isS_q hs) rfl (h_oM hs) (by decide) rfl rfl (Nat.le_of_ble_eq_true rfl) ?_
    rintro _ _ ⟨rfl, rfl⟩
    refine g_istore dX5_pullFor_25 (by decide) ?_
    refine g_aload_n dX5_pullFor_27 rfl rfl ?_
    refine g_get dX5_pullFor_28 fl_X5_24 hp_11 rfl ?_
    refine g_ic_m1 dX5_pullFor_31 ?_
    refine g_icmp_ne (tgt := 45) dX5_pullFor_32 (by decide) (fun c_32 => ?_) (fun c_32 => ?_)
    · refine g_aload_n dX5_pullFor_45 rfl rfl ?_
      refine g_get dX5_pullFor_46 fl_X5_18 hp_11 rfl ?_
      refine g_ic_0 dX5_pullFor_49 ?_
      refine g_iload_n dX5_pullFor_50 rfl rfl ?_
      refine g_callS dX5_pullFor_51 cs_X5_35 (as := [_, _, _]) (k_setCell hp_14 (by decide)) (by decide) rfl rfl (Nat.le_of_ble_eq_true rfl) ?_
      rintro _ _ ⟨rfl, rfl⟩
      rw [hq_14]
      try simp only [up_at, up_up]
      refine g_aload_n dX5_pullFor_54 rfl rfl ?_
      refine g_get dX5_pullFor_55 fl_X5_18 hp_11 rfl ?_
      refine g_ic_1 dX5_pullFor_58 ?_
      refine g_aload_n dX5_pullFor_59 rfl rfl ?_
      refine g_ic_1 dX5_pullFor_60 ?_
      refine g_callV dX5_pullFor_61 cv_X5_39 (as' := [_]) (isS_q hs) rfl (h_get hs) (by decide) rfl rfl (Nat.le_of_ble_eq_true rfl) ?_
      rintro _ _ ⟨rfl, rfl⟩
      try simp only [up_ne a1]
      refine g_callS dX5_pullFor_64 cs_X5_35 (as := [_, _, _]) (k_setCell hp_14 (by decide)) (by decide) rfl rfl (Nat.le_of_ble_eq_true rfl) ?_
      rintro _ _ ⟨rfl, rfl⟩
      rw [hq_14]
      try simp only [up_at, up_up]
      refine g_aload_n dX5_pullFor_67 rfl rfl ?_
      refine g_get dX5_pullFor_68 fl_X5_18 hp_11 rfl ?_
      refine g_ic_2 dX5_pullFor_71 ?_
      refine g_iload dX5_pullFor_72 rfl ?_
      refine g_callS dX5_pullFor_74 cs_X5_35 (as := [_, _, _]) (k_setCell hp_14 (by decide)) (by decide) rfl rfl (Nat.le_of_ble_eq_true rfl) ?_
      rintro _ _ ⟨rfl, rfl⟩
      rw [hq_14]
      try simp only [up_at, up_up]
      refine g_aload_n dX5_pullFor_77 rfl rfl ?_
      refine g_get dX5_pullFor_78 fl_X5_18 hp_11 rfl ?_
      refine g_ic_3 dX5_pullFor_81 ?_
      refine g_aload_n dX5_pullFor_82 rfl rfl ?_
      refine g_iload_n dX5_pullFor_83 rfl rfl ?_
      refine g_ic_0 dX5_pullFor_84 ?_
      refine g_callV dX5_pullFor_85 cv_X5_45 (as' := [_, _]) (isS_q hs) rfl (h_oM hs) (by decide) rfl rfl (Nat.le_of_ble_eq_true rfl) ?_
      rintro _ _ ⟨rfl, rfl⟩
      try simp only [up_ne a1]
      refine g_callS dX5_pullFor_88 cs_X5_35 (as := [_, _, _]) (k_setCell hp_14 (by decide)) (by decide) rfl rfl (Nat.le_of_ble_eq_true rfl) ?_
      rintro _ _ ⟨rfl, rfl⟩
      rw [hq_14]
      try simp only [up_at, up_up]
      refine g_aload_n dX5_pullFor_91 rfl rfl ?_
      refine g_get dX5_pullFor_92 fl_X5_18 hp_11 rfl ?_
      refine g_ic_4 dX5_pullFor_95 ?_
      refine g_aload_n dX5_pullFor_96 rfl rfl ?_
      refine g_bipush (v := 6) dX5_pullFor_97 (by decide) ?_
      refine g_callV dX5_pullFor_99 cv_X5_39 (as' := [_]) (isS_q hs) rfl (h_get hs) (by decide) rfl rfl (Nat.le_of_ble_eq_true rfl) ?_
      rintro _ _ ⟨rfl, rfl⟩
      try simp only [up_ne a1]
      refine g_callS dX5_pullFor_102 cs_X5_35 (as := [_, _, _]) (k_setCell hp_14 (by decide)) (by decide) rfl rfl (Nat.le_of_ble_eq_true rfl) ?_
      rintro _ _ ⟨rfl, rfl⟩
      rw [hq_14]
      try simp only [up_at, up_up]
      refine g_aload_n dX5_pullFor_105 rfl rfl ?_
      refine g_get dX5_pullFor_106 fl_X5_18 hp_11 rfl ?_
      refine g_ic_5 dX5_pullFor_109 ?_
      refine g_iload_n dX5_pullFor_110 rfl rfl ?_
      refine g_callS dX5_pullFor_111 cs_X5_35 (as := [_, _, _]) (k_setCell hp_14 (by decide)) (by decide) rfl rfl (Nat.le_of_ble_eq_true rfl) ?_
      rintro _ _ ⟨rfl, rfl⟩
      rw [hq_14]
      try simp only [up_at, up_up]
      refine g_ext (ltrs (A r)) hp_14 (fun j hj => ?_) ?_
      · simp only [up_at, p6.1, p6.2.1, p6.2.2.1, p6.2.2.2.1, p6.2.2.2.2.1, p6.2.2.2.2.2]
        rcases j with _|_|_|_|_|_|_ <;> first | rfl | omega
      rw [hq_14]
      simp only [up_up]
      refine g_ic_0 dX5_pullFor_114 ?_
      refine g_bipush (v := 9) dX5_pullFor_115 (by decide) ?_
      refine g_aload_n dX5_pullFor_117 rfl rfl ?_
      refine g_callV dX5_pullFor_118 cv_X5_49 (as' := []) hp_11 rfl l_worth (by decide) rfl rfl (Nat.le_of_ble_eq_true rfl) ?_
      rintro _ _ ⟨rfl, K, t, rfl⟩
      refine g_min dX5_pullFor_121 ml_X5_53 ms_min mi_math mc_min (by decide) (Nat.le_of_ble_eq_true rfl) ?_
      refine g_max dX5_pullFor_124 ml_X5_58 ms_max mi_math mc_max (by decide) (Nat.le_of_ble_eq_true rfl) ?_
      exact g_iret dX5_pullFor_127 ⟨congrArg (fun z => some (Value.int z)) (show _ = plS (A 12) (A 13) (I 11 5) (A r) from ((if_pos c_8).trans (if_neg c_32)).symm), _, _, ⟨ltrs (A r), K, t, rfl, rfl⟩, rfl⟩
    · refine g_iload_n dX5_pullFor_35 rfl rfl ?_
      refine g_ic_2 dX5_pullFor_36 ?_
      refine g_iload dX5_pullFor_37 rfl ?_
      refine g_imul dX5_pullFor_39 ?_
      refine g_iadd dX5_pullFor_40 ?_
      refine g_bipush (v := 6) dX5_pullFor_41 (by decide) ?_
      refine g_idiv dX5_pullFor_43 (by decide) ?_
      exact g_iret dX5_pullFor_44 ⟨by unfold plS; rw [if_pos c_8, if_pos c_32], A, I, scr_rf, rfl⟩
  · refine g_ic_0 dX5_pullFor_11 ?_
    exact g_iret dX5_pullFor_12 ⟨by unfold plS; rw [if_neg c_8], A, I, scr_rf, rfl⟩
