/-! THE REFERENCE: soonest, ripens, lasts, ride -/
set_option maxHeartbeats 800000 in
set_option maxRecDepth 100000 in
theorem n_soonest {A : Nat → Nat → Int32} {L : Nat → Nat → Int64} {I : Nat → Nat → Int32} {X : Nat → Int64} {m : Int32} (h : INV A I) : Con 8 yX11_soonest cX11_soonest 4 (some .int) [.ref 46, .int m] (hp A L I X) (QM A I X (sonS A I m)) := by
  refine m_con (by decide) (Nat.le_of_ble_eq_true rfl) ?_
  refine g_aload_n dX11_soonest_0 rfl rfl ?_
  refine g_iload_n dX11_soonest_1 rfl rfl ?_
  refine g_callV dX11_soonest_2 cv_X11_317 (as' := [_]) hp_46 rfl e_isMonth (by decide) rfl rfl (Nat.le_of_ble_eq_true rfl) ?_
  rintro _ _ ⟨rfl, rfl⟩
  refine g_if_ne (tgt := 10) dX11_soonest_5 (by decide) (fun c_5 => ?_) (fun c_5 => ?_)
  · obtain ⟨ms, cs, mm, hP, -, -, -⟩ := INV_Pm h c_5
    refine g_aload_n dX11_soonest_10 rfl rfl ?_
    refine g_callV dX11_soonest_11 cv_X11_358 (as' := []) hp_46 rfl e_putAside (by decide) rfl rfl (Nat.le_of_ble_eq_true rfl) ?_
    rintro _ _ ⟨rfl, rfl⟩
    refine g_ic_0 dX11_soonest_14 ?_
    refine g_istore_n dX11_soonest_15 rfl (by decide) ?_
    refine g_eq (Hp2 := hp (up (up (up A 67 (A 63)) 65 (fun _ => 0)) 63 (A 63)) L (up2 I 46 33 0) X) (by rw [show (up (up (up A 67 (A 63)) 65 (fun _ => 0)) 63 (A 63)) = up (up A 67 (A 63)) 65 (fun _ => 0) from up_self (A := up (up A 67 (A 63)) 65 (fun _ => 0)) (i := 63)]) ?_
    have hRJ0 : RJ ms cs (A 60) (A 61) (A 62) ((A 20)) ((A 63)) := hP.2.1.1
    obtain ⟨hw0, h250, h260, hL, hA0⟩ := as_start h hP hRJ0 (N2 := (A 63)) (by intro j hj; first | rfl | (simp (disch := omega) only [ud_at, ud_ne]))
    refine g_loc (ls' := [some (.ref 46), some (.int (m)), some (.int (nI 0)), none]) (fun i v h => by rcases i with _|_|_|_|_ <;> first | exact h | cases h) ?_
    refine n_soon (k0 := 0) (s0 := (A 20, fun _ => 0)) hw0 h250 h260 200 0 (A 20, fun _ => 0) (up (up (up A 67 (A 63)) 65 (fun _ => 0)) 63 (A 63)) (up2 I 46 33 0) hL rfl (fun k2 s2 A4 I4 h4 h5 h6 => ?_)
    have hv : sonS A I m = (fnd (tn1 A I) (isM m) (200 + 1) 0 (A 20, fun _ => 0)).1 := if_neg (fun w => c_5 (by rw [← INV_M h]; exact w))
    have h6 : (isM m s2 = true ∧ fnd (tn1 A I) (isM m) (200 + 1) 0 (A 20, fun _ => 0) = (nI k2, s2)) ∨ (¬ isM m s2 = true ∧ (fnd (tn1 A I) (isM m) (200 + 1) 0 (A 20, fun _ => 0)).1 = (-1)) := h6
    refine g_aload_n dX11_soonest_45 rfl rfl ?_
    refine g_get dX11_soonest_46 fl_X11_58 hp_46 rfl ?_
    refine g_bipush (v := 39) dX11_soonest_49 (by decide) ?_
    refine g_ra dX11_soonest_51 hp_63 (k := 39) rfl (by decide) (by decide) ?_
    refine g_iload_n dX11_soonest_52 rfl rfl ?_
    refine g_icmp_ne (tgt := 60) dX11_soonest_53 (by decide) (fun c_53 => ?_) (fun c_53 => ?_)
    · refine g_ic_0 dX11_soonest_60 ?_
      refine g_istore_n dX11_soonest_61 rfl (by decide) ?_
      refine g_aload_n dX11_soonest_62 rfl rfl ?_
      refine g_callV dX11_soonest_63 cv_X11_364 (as' := []) hp_46 rfl e_takeBack (by decide) rfl rfl (Nat.le_of_ble_eq_true rfl) ?_
      rintro _ _ ⟨rfl, rfl⟩
      refine g_iload_n dX11_soonest_66 rfl rfl ?_
      refine g_if_eq (tgt := 74) dX11_soonest_67 (by decide) (fun c_67 => ?_) (fun c_67 => ?_)
      · refine g_ic_m1 dX11_soonest_74 ?_
        exact g_iret dX11_soonest_75 ⟨congrArg (fun z => some (Value.int z)) (show _ = sonS A I m from by rw [hv]; rcases h6 with ⟨z1, z2⟩ | ⟨z1, z2⟩; exact absurd ((pm_t h4.2.1).mp z1) c_53; exact z2.symm), _, _, _, as_back (as_step hA0 h4), rfl⟩
      · exact absurd rfl c_67
    · refine g_ic_1 dX11_soonest_56 ?_
      refine g_goto (tgt := 61) dX11_soonest_57 (by decide) ?_
      refine g_istore_n dX11_soonest_61 rfl (by decide) ?_
      refine g_aload_n dX11_soonest_62 rfl rfl ?_
      refine g_callV dX11_soonest_63 cv_X11_364 (as' := []) hp_46 rfl e_takeBack (by decide) rfl rfl (Nat.le_of_ble_eq_true rfl) ?_
      rintro _ _ ⟨rfl, rfl⟩
      refine g_iload_n dX11_soonest_66 rfl rfl ?_
      refine g_if_eq (tgt := 74) dX11_soonest_67 (by decide) (fun c_67 => ?_) (fun c_67 => ?_)
      · exact absurd c_67 (by decide)
      · refine g_iload_n dX11_soonest_70 rfl rfl ?_
        refine g_goto (tgt := 75) dX11_soonest_71 (by decide) ?_
        exact g_iret dX11_soonest_75 ⟨congrArg (fun z => some (Value.int z)) (show _ = sonS A I m from by rw [hv]; rcases h6 with ⟨z1, z2⟩ | ⟨z1, z2⟩; rw [z2]; exact absurd ((pm_t h4.2.1).mpr c_53) z1), _, _, _, as_back (as_step hA0 h4), rfl⟩
  · refine g_ic_m1 dX11_soonest_8 ?_
    exact g_iret dX11_soonest_9 ⟨congrArg (fun z => some (Value.int z)) (show _ = sonS A I m from (if_pos (by rw [INV_M h]; exact c_5)).symm), _, _, _, smM_rf, rfl⟩

set_option maxHeartbeats 800000 in
set_option maxRecDepth 100000 in
theorem n_ripens {A : Nat → Nat → Int32} {L : Nat → Nat → Int64} {I : Nat → Nat → Int32} {X : Nat → Int64} {m : Int32} (h : INV A I) : Con 8 yX11_ripens cX11_ripens 4 (some .int) [.ref 46, .int m] (hp A L I X) (QM A I X (rpnS A I m)) := by
  refine m_con (by decide) (Nat.le_of_ble_eq_true rfl) ?_
  refine g_aload_n dX11_ripens_0 rfl rfl ?_
  refine g_iload_n dX11_ripens_1 rfl rfl ?_
  refine g_callV dX11_ripens_2 cv_X11_320 (as' := [_]) hp_46 rfl e_isCrop (by decide) rfl rfl (Nat.le_of_ble_eq_true rfl) ?_
  rintro _ _ ⟨rfl, rfl⟩
  refine g_if_ne (tgt := 10) dX11_ripens_5 (by decide) (fun c_5 => ?_) (fun c_5 => ?_)
  · obtain ⟨ms, cs, c, hP, rfl, c1, c2⟩ := INV_Pc h c_5
    refine g_aload_n dX11_ripens_10 rfl rfl ?_
    refine g_callV dX11_ripens_11 cv_X11_358 (as' := []) hp_46 rfl e_putAside (by decide) rfl rfl (Nat.le_of_ble_eq_true rfl) ?_
    rintro _ _ ⟨rfl, rfl⟩
    refine g_ic_0 dX11_ripens_14 ?_
    refine g_istore_n dX11_ripens_15 rfl (by decide) ?_
    refine g_eq (Hp2 := hp (up (up (up A 67 (A 63)) 65 (fun _ => 0)) 63 (A 63)) L (up2 I 46 33 0) X) (by rw [show (up (up (up A 67 (A 63)) 65 (fun _ => 0)) 63 (A 63)) = up (up A 67 (A 63)) 65 (fun _ => 0) from up_self (A := up (up A 67 (A 63)) 65 (fun _ => 0)) (i := 63)]) ?_
    have hRJ0 : RJ ms cs (A 60) (A 61) (A 62) ((A 20)) ((A 63)) := hP.2.1.1
    obtain ⟨hw0, h250, h260, hL, hA0⟩ := as_start h hP hRJ0 (N2 := (A 63)) (by intro j hj; first | rfl | (simp (disch := omega) only [ud_at, ud_ne]))
    refine g_loc (ls' := [some (.ref 46), some (.int (nI c)), some (.int (nI 0)), none]) (fun i v h => by rcases i with _|_|_|_|_ <;> first | exact h | cases h) ?_
    refine n_ripe (k0 := 0) (s0 := (A 20, fun _ => 0)) hw0 h250 h260 c1 200 0 (A 20, fun _ => 0) (up (up (up A 67 (A 63)) 65 (fun _ => 0)) 63 (A 63)) (up2 I 46 33 0) hL rfl (fun k2 s2 A4 I4 h4 h5 h6 => ?_)
    have hv : rpnS A I (nI c) = (fnd (tn1 A I) (isR (nI c)) (200 + 1) 0 (A 20, fun _ => 0)).1 := if_neg (fun w => c_5 (by rw [← INV_C h]; exact w))
    have h6 : (isR (nI c) s2 = true ∧ fnd (tn1 A I) (isR (nI c)) (200 + 1) 0 (A 20, fun _ => 0) = (nI k2, s2)) ∨ (¬ isR (nI c) s2 = true ∧ (fnd (tn1 A I) (isR (nI c)) (200 + 1) 0 (A 20, fun _ => 0)).1 = (-1)) := h6
    refine g_aload_n dX11_ripens_42 rfl rfl ?_
    refine g_iload_n dX11_ripens_43 rfl rfl ?_
    refine g_callV dX11_ripens_44 cv_X11_308 (as' := [_]) hp_46 rfl e_isRipe (by decide) rfl rfl (Nat.le_of_ble_eq_true rfl) ?_
    rintro _ _ ⟨rfl, rfl⟩
    refine g_istore_n dX11_ripens_47 rfl (by decide) ?_
    refine g_aload_n dX11_ripens_48 rfl rfl ?_
    refine g_callV dX11_ripens_49 cv_X11_364 (as' := []) hp_46 rfl e_takeBack (by decide) rfl rfl (Nat.le_of_ble_eq_true rfl) ?_
    rintro _ _ ⟨rfl, rfl⟩
    refine g_iload_n dX11_ripens_52 rfl rfl ?_
    refine g_if_eq (tgt := 60) dX11_ripens_53 (by decide) (fun c_53 => ?_) (fun c_53 => ?_)
    · refine g_ic_m1 dX11_ripens_60 ?_
      exact g_iret dX11_ripens_61 ⟨congrArg (fun z => some (Value.int z)) (show _ = rpnS A I (nI c) from by rw [hv]; rcases h6 with ⟨z1, z2⟩ | ⟨z1, z2⟩; exact absurd c_53 ((pr_t h4.2.1 c1).mp z1); exact z2.symm), _, _, _, as_back (as_step hA0 h4), rfl⟩
    · refine g_iload_n dX11_ripens_56 rfl rfl ?_
      refine g_goto (tgt := 61) dX11_ripens_57 (by decide) ?_
      exact g_iret dX11_ripens_61 ⟨congrArg (fun z => some (Value.int z)) (show _ = rpnS A I (nI c) from by rw [hv]; rcases h6 with ⟨z1, z2⟩ | ⟨z1, z2⟩; rw [z2]; exact absurd ((pr_t h4.2.1 c1).mpr c_53) z1), _, _, _, as_back (as_step hA0 h4), rfl⟩
  · refine g_ic_m1 dX11_ripens_8 ?_
    exact g_iret dX11_ripens_9 ⟨congrArg (fun z => some (Value.int z)) (show _ = rpnS A I m from (if_pos (by rw [INV_C h]; exact c_5)).symm), _, _, _, smM_rf, rfl⟩

set_option maxHeartbeats 800000 in
set_option maxRecDepth 100000 in
theorem n_lasts {A : Nat → Nat → Int32} {L : Nat → Nat → Int64} {I : Nat → Nat → Int32} {X : Nat → Int64}  (h : INV A I) : Con 8 yX11_lasts cX11_lasts 3 (some .int) [.ref 46] (hp A L I X) (QM A I X (lasS A I)) := by
  refine m_con (by decide) (Nat.le_of_ble_eq_true rfl) ?_
  refine g_aload_n dX11_lasts_0 rfl rfl ?_
  refine g_get dX11_lasts_1 fl_X11_261 hp_46 rfl ?_
  refine g_if_ne (tgt := 9) dX11_lasts_4 (by decide) (fun c_4 => ?_) (fun c_4 => ?_)
  · obtain ⟨ms, cs, hP⟩ := INV_P h (fun w => c_4 ((INV_0 h).mpr w))
    refine g_aload_n dX11_lasts_9 rfl rfl ?_
    refine g_callV dX11_lasts_10 cv_X11_358 (as' := []) hp_46 rfl e_putAside (by decide) rfl rfl (Nat.le_of_ble_eq_true rfl) ?_
    rintro _ _ ⟨rfl, rfl⟩
    refine g_ic_0 dX11_lasts_13 ?_
    refine g_istore_n dX11_lasts_14 rfl (by decide) ?_
    refine g_eq (Hp2 := hp (up (up (up A 67 (A 63)) 65 (fun _ => 0)) 63 (A 63)) L (up2 I 46 33 0) X) (by rw [show (up (up (up A 67 (A 63)) 65 (fun _ => 0)) 63 (A 63)) = up (up A 67 (A 63)) 65 (fun _ => 0) from up_self (A := up (up A 67 (A 63)) 65 (fun _ => 0)) (i := 63)]) ?_
    have hRJ0 : RJ ms cs (A 60) (A 61) (A 62) ((A 20)) ((A 63)) := hP.2.1.1
    obtain ⟨hw0, h250, h260, hL, hA0⟩ := as_start h hP hRJ0 (N2 := (A 63)) (by intro j hj; first | rfl | (simp (disch := omega) only [ud_at, ud_ne]))
    refine g_loc (ls' := [some (.ref 46), some (.int (nI 0)), none]) (fun i v h => by rcases i with _|_|_|_ <;> first | exact h | cases h) ?_
    refine n_last (k0 := 0) (s0 := (A 20, fun _ => 0)) hw0 h250 h260 200 0 (A 20, fun _ => 0) (up (up (up A 67 (A 63)) 65 (fun _ => 0)) 63 (A 63)) (up2 I 46 33 0) hL rfl (fun k2 s2 A4 I4 h4 h5 h6 => ?_)
    have hv : lasS A I = (fnd (tn1 A I) isD (200 + 1) 0 (A 20, fun _ => 0)).1 := if_neg (fun w => c_4 ((INV_0 h).mpr w))
    have h6 : (isD s2 = true ∧ fnd (tn1 A I) isD (200 + 1) 0 (A 20, fun _ => 0) = (nI k2, s2)) ∨ (¬ isD s2 = true ∧ (fnd (tn1 A I) isD (200 + 1) 0 (A 20, fun _ => 0)).1 = (-1)) := h6
    refine g_aload_n dX11_lasts_43 rfl rfl ?_
    refine g_get dX11_lasts_44 fl_X11_58 hp_46 rfl ?_
    refine g_bipush (v := 35) dX11_lasts_47 (by decide) ?_
    refine g_ra dX11_lasts_49 hp_63 (k := 35) rfl (by decide) (by decide) ?_
    refine g_if_ne (tgt := 57) dX11_lasts_50 (by decide) (fun c_50 => ?_) (fun c_50 => ?_)
    · refine g_ic_0 dX11_lasts_57 ?_
      refine g_istore_n dX11_lasts_58 rfl (by decide) ?_
      refine g_aload_n dX11_lasts_59 rfl rfl ?_
      refine g_callV dX11_lasts_60 cv_X11_364 (as' := []) hp_46 rfl e_takeBack (by decide) rfl rfl (Nat.le_of_ble_eq_true rfl) ?_
      rintro _ _ ⟨rfl, rfl⟩
      refine g_iload_n dX11_lasts_63 rfl rfl ?_
      refine g_if_eq (tgt := 71) dX11_lasts_64 (by decide) (fun c_64 => ?_) (fun c_64 => ?_)
      · refine g_ic_m1 dX11_lasts_71 ?_
        exact g_iret dX11_lasts_72 ⟨congrArg (fun z => some (Value.int z)) (show _ = lasS A I from by rw [hv]; rcases h6 with ⟨z1, z2⟩ | ⟨z1, z2⟩; exact absurd ((pd_t h4.2.1).1.mp z1) c_50; exact z2.symm), _, _, _, as_back (as_step hA0 h4), rfl⟩
      · exact absurd rfl c_64
    · refine g_ic_1 dX11_lasts_53 ?_
      refine g_goto (tgt := 58) dX11_lasts_54 (by decide) ?_
      refine g_istore_n dX11_lasts_58 rfl (by decide) ?_
      refine g_aload_n dX11_lasts_59 rfl rfl ?_
      refine g_callV dX11_lasts_60 cv_X11_364 (as' := []) hp_46 rfl e_takeBack (by decide) rfl rfl (Nat.le_of_ble_eq_true rfl) ?_
      rintro _ _ ⟨rfl, rfl⟩
      refine g_iload_n dX11_lasts_63 rfl rfl ?_
      refine g_if_eq (tgt := 71) dX11_lasts_64 (by decide) (fun c_64 => ?_) (fun c_64 => ?_)
      · exact absurd c_64 (by decide)
      · refine g_iload_n dX11_lasts_67 rfl rfl ?_
        refine g_goto (tgt := 72) dX11_lasts_68 (by decide) ?_
        exact g_iret dX11_lasts_72 ⟨congrArg (fun z => some (Value.int z)) (show _ = lasS A I from by rw [hv]; rcases h6 with ⟨z1, z2⟩ | ⟨z1, z2⟩; rw [z2]; exact absurd ((pd_t h4.2.1).1.mpr c_50) z1), _, _, _, as_back (as_step hA0 h4), rfl⟩
  · refine g_ic_m1 dX11_lasts_7 ?_
    exact g_iret dX11_lasts_8 ⟨congrArg (fun z => some (Value.int z)) (show _ = lasS A I from (if_pos ((INV_0 h).mp c_4)).symm), _, _, _, smM_rf, rfl⟩

set_option maxHeartbeats 800000 in
set_option maxRecDepth 100000 in
theorem n_ride {A : Nat → Nat → Int32} {L : Nat → Nat → Int64} {I : Nat → Nat → Int32} {X : Nat → Int64} {m m2 : Int32} (h : INV A I) : Con 8 yX11_ride cX11_ride 5 (some .int) [.ref 46, .int m, .int m2] (hp A L I X) (QM A I X (ridS A I m m2)) := by
  refine m_con (by decide) (Nat.le_of_ble_eq_true rfl) ?_
  refine g_aload_n dX11_ride_0 rfl rfl ?_
  refine g_iload_n dX11_ride_1 rfl rfl ?_
  refine g_callV dX11_ride_2 cv_X11_317 (as' := [_]) hp_46 rfl e_isMonth (by decide) rfl rfl (Nat.le_of_ble_eq_true rfl) ?_
  rintro _ _ ⟨rfl, rfl⟩
  refine g_if_eq (tgt := 21) dX11_ride_5 (by decide) (fun c_5 => ?_) (fun c_5 => ?_)
  · refine g_ic_m1 dX11_ride_21 ?_
    exact g_iret dX11_ride_22 ⟨congrArg (fun z => some (Value.int z)) (show _ = ridS A I m m2 from (if_pos (Or.inl (by rw [INV_M h]; exact c_5))).symm), _, _, _, smM_rf, rfl⟩
  · refine g_aload_n dX11_ride_8 rfl rfl ?_
    refine g_iload_n dX11_ride_9 rfl rfl ?_
    refine g_callV dX11_ride_10 cv_X11_317 (as' := [_]) hp_46 rfl e_isMonth (by decide) rfl rfl (Nat.le_of_ble_eq_true rfl) ?_
    rintro _ _ ⟨rfl, rfl⟩
    refine g_if_eq (tgt := 21) dX11_ride_13 (by decide) (fun c_13 => ?_) (fun c_13 => ?_)
    · refine g_ic_m1 dX11_ride_21 ?_
      exact g_iret dX11_ride_22 ⟨congrArg (fun z => some (Value.int z)) (show _ = ridS A I m m2 from (if_pos (Or.inr (Or.inl (by rw [INV_M h]; exact c_13)))).symm), _, _, _, smM_rf, rfl⟩
    · refine g_iload_n dX11_ride_16 rfl rfl ?_
      refine g_iload_n dX11_ride_17 rfl rfl ?_
      refine g_icmp_ne (tgt := 23) dX11_ride_18 (by decide) (fun c_18 => ?_) (fun c_18 => ?_)
      · obtain ⟨ms, cs, mm, hP, -, -, -⟩ := INV_Pm h c_5
        refine g_aload_n dX11_ride_23 rfl rfl ?_
        refine g_callV dX11_ride_24 cv_X11_358 (as' := []) hp_46 rfl e_putAside (by decide) rfl rfl (Nat.le_of_ble_eq_true rfl) ?_
        rintro _ _ ⟨rfl, rfl⟩
        refine g_ic_0 dX11_ride_27 ?_
        refine g_istore_n dX11_ride_28 rfl (by decide) ?_
        refine g_eq (Hp2 := hp (up (up (up A 67 (A 63)) 65 (fun _ => 0)) 63 (A 63)) L (up2 I 46 33 0) X) (by rw [show (up (up (up A 67 (A 63)) 65 (fun _ => 0)) 63 (A 63)) = up (up A 67 (A 63)) 65 (fun _ => 0) from up_self (A := up (up A 67 (A 63)) 65 (fun _ => 0)) (i := 63)]) ?_
        have hRJ0 : RJ ms cs (A 60) (A 61) (A 62) ((A 20)) ((A 63)) := hP.2.1.1
        obtain ⟨hw0, h250, h260, hL, hA0⟩ := as_start h hP hRJ0 (N2 := (A 63)) (by intro j hj; first | rfl | (simp (disch := omega) only [ud_at, ud_ne]))
        refine g_loc (ls' := [some (.ref 46), some (.int (m)), some (.int (m2)), some (.int (nI 0)), none]) (fun i v h => by rcases i with _|_|_|_|_|_ <;> first | exact h | cases h) ?_
        refine n_ride1 (k0 := 0) (s0 := (A 20, fun _ => 0)) hw0 h250 h260 200 0 (A 20, fun _ => 0) (up (up (up A 67 (A 63)) 65 (fun _ => 0)) 63 (A 63)) (up2 I 46 33 0) hL rfl (fun k2 s2 A4 I4 h4 h5 h6 => ?_)
        have hv : ridS A I m m2 = riS A I m m2 := if_neg (fun z => by rcases z with z | z | z; exact c_5 (by rw [← INV_M h]; exact z); exact c_13 (by rw [← INV_M h]; exact z); exact c_18 z)
        have h6 : (isM m s2 = true ∧ soS A I m = (nI k2, s2)) ∨ (¬ isM m s2 = true ∧ (soS A I m).1 = (-1)) := h6
        refine g_aload_n dX11_ride_58 rfl rfl ?_
        refine g_get dX11_ride_59 fl_X11_58 hp_46 rfl ?_
        refine g_bipush (v := 39) dX11_ride_62 (by decide) ?_
        refine g_ra dX11_ride_64 hp_63 (k := 39) rfl (by decide) (by decide) ?_
        refine g_iload_n dX11_ride_65 rfl rfl ?_
        refine g_icmp_ne (tgt := 73) dX11_ride_66 (by decide) (fun c_66 => ?_) (fun c_66 => ?_)
        · refine g_ic_m1 dX11_ride_73 ?_
          refine g_istore_n dX11_ride_74 rfl (by decide) ?_
          have h1 : (soS A I m).1 = (-1) := by rcases h6 with ⟨z1, z2⟩ | ⟨z1, z2⟩; exact absurd ((pm_t h4.2.1).mp z1) c_66; exact z2
          have hf : ridS A I m m2 = (-1) := hv.trans (if_pos h1)
          refine g_iload_n dX11_ride_75 rfl rfl ?_
          refine g_ic_m1 dX11_ride_76 ?_
          refine g_icmp_eq (tgt := 109) dX11_ride_77 (by decide) (fun c_77 => ?_) (fun c_77 => ?_)
          · refine g_aload_n dX11_ride_109 rfl rfl ?_
            refine g_get dX11_ride_110 fl_X11_58 hp_46 rfl ?_
            refine g_bipush (v := 39) dX11_ride_113 (by decide) ?_
            refine g_ra dX11_ride_115 hp_63 (k := 39) rfl (by decide) (by decide) ?_
            refine g_iload_n dX11_ride_116 rfl rfl ?_
            refine g_icmp_ne (tgt := 124) dX11_ride_117 (by decide) (fun c_117 => ?_) (fun c_117 => ?_)
            · refine g_ic_0 dX11_ride_124 ?_
              refine g_istore dX11_ride_125 (by decide) ?_
              refine g_aload_n dX11_ride_127 rfl rfl ?_
              refine g_callV dX11_ride_128 cv_X11_364 (as' := []) hp_46 rfl e_takeBack (by decide) rfl rfl (Nat.le_of_ble_eq_true rfl) ?_
              rintro _ _ ⟨rfl, rfl⟩
              refine g_iload dX11_ride_131 rfl ?_
              refine g_if_eq (tgt := 140) dX11_ride_133 (by decide) (fun c_133 => ?_) (fun c_133 => ?_)
              · refine g_ic_m1 dX11_ride_140 ?_
                exact g_iret dX11_ride_141 ⟨congrArg (fun z => some (Value.int z)) (show _ = ridS A I m m2 from hf.symm), _, _, _, as_back (as_step hA0 h4), rfl⟩
              · refine g_iload_n dX11_ride_136 rfl rfl ?_
                refine g_goto (tgt := 141) dX11_ride_137 (by decide) ?_
                exact g_iret dX11_ride_141 ⟨congrArg (fun z => some (Value.int z)) (show _ = ridS A I m m2 from hf.symm), _, _, _, as_back (as_step hA0 h4), rfl⟩
            · refine g_ic_1 dX11_ride_120 ?_
              refine g_goto (tgt := 125) dX11_ride_121 (by decide) ?_
              refine g_istore dX11_ride_125 (by decide) ?_
              refine g_aload_n dX11_ride_127 rfl rfl ?_
              refine g_callV dX11_ride_128 cv_X11_364 (as' := []) hp_46 rfl e_takeBack (by decide) rfl rfl (Nat.le_of_ble_eq_true rfl) ?_
              rintro _ _ ⟨rfl, rfl⟩
              refine g_iload dX11_ride_131 rfl ?_
              refine g_if_eq (tgt := 140) dX11_ride_133 (by decide) (fun c_133 => ?_) (fun c_133 => ?_)
              · refine g_ic_m1 dX11_ride_140 ?_
                exact g_iret dX11_ride_141 ⟨congrArg (fun z => some (Value.int z)) (show _ = ridS A I m m2 from hf.symm), _, _, _, as_back (as_step hA0 h4), rfl⟩
              · refine g_iload_n dX11_ride_136 rfl rfl ?_
                refine g_goto (tgt := 141) dX11_ride_137 (by decide) ?_
                exact g_iret dX11_ride_141 ⟨congrArg (fun z => some (Value.int z)) (show _ = ridS A I m m2 from hf.symm), _, _, _, as_back (as_step hA0 h4), rfl⟩
          · exact absurd rfl c_77
        · refine g_ic_0 dX11_ride_69 ?_
          refine g_goto (tgt := 74) dX11_ride_70 (by decide) ?_
          refine g_istore_n dX11_ride_74 rfl (by decide) ?_
          have h1 : soS A I m = (nI k2, s2) := by rcases h6 with ⟨z1, z2⟩ | ⟨z1, z2⟩; exact z2; exact absurd ((pm_t h4.2.1).mpr c_66) z1
          refine g_loc (ls' := [some (.ref 46), some (.int (m)), some (.int (m2)), some (.int (nI 0)), none]) (fun i v h => by rcases i with _|_|_|_|_|_ <;> first | exact h | cases h) ?_
          refine n_ride2 (k0 := 0) (s0 := s2) hw0 h250 h260 200 0 s2 A4 I4 h4 rfl (fun k3 s3 A7 I7 h7 h8 h9 => ?_)
          have h9 : (isM m2 s3 = true ∧ fnd (tn1 A I) (isM m2) (200 + 1) 0 s2 = (nI k3, s3)) ∨ (¬ isM m2 s3 = true ∧ (fnd (tn1 A I) (isM m2) (200 + 1) 0 s2).1 = (-1)) := h9
          have hn : ¬ isM m2 s2 = true := fun z => c_18 (c_66.symm.trans ((pm_t h4.2.1).mp z))
          have hv2 : ridS A I m m2 = (fnd (tn1 A I) (isM m2) (200 + 1) 0 s2).1 := by rw [hv]; unfold riS; rw [h1, if_neg (m1_ne (k := k2) (N := 300) rfl (by omega) (by decide)), fnd_n hn]
          refine g_aload_n dX11_ride_109 rfl rfl ?_
          refine g_get dX11_ride_110 fl_X11_58 hp_46 rfl ?_
          refine g_bipush (v := 39) dX11_ride_113 (by decide) ?_
          refine g_ra dX11_ride_115 hp_63 (k := 39) rfl (by decide) (by decide) ?_
          refine g_iload_n dX11_ride_116 rfl rfl ?_
          refine g_icmp_ne (tgt := 124) dX11_ride_117 (by decide) (fun c_117 => ?_) (fun c_117 => ?_)
          · refine g_ic_0 dX11_ride_124 ?_
            refine g_istore dX11_ride_125 (by decide) ?_
            refine g_aload_n dX11_ride_127 rfl rfl ?_
            refine g_callV dX11_ride_128 cv_X11_364 (as' := []) hp_46 rfl e_takeBack (by decide) rfl rfl (Nat.le_of_ble_eq_true rfl) ?_
            rintro _ _ ⟨rfl, rfl⟩
            refine g_iload dX11_ride_131 rfl ?_
            refine g_if_eq (tgt := 140) dX11_ride_133 (by decide) (fun c_133 => ?_) (fun c_133 => ?_)
            · refine g_ic_m1 dX11_ride_140 ?_
              exact g_iret dX11_ride_141 ⟨congrArg (fun z => some (Value.int z)) (show _ = ridS A I m m2 from by rw [hv2]; rcases h9 with ⟨z1, z2⟩ | ⟨z1, z2⟩; exact absurd ((pm_t h7.2.1).mp z1) c_117; exact z2.symm), _, _, _, as_back (as_step hA0 h7), rfl⟩
            · exact absurd rfl c_133
          · refine g_ic_1 dX11_ride_120 ?_
            refine g_goto (tgt := 125) dX11_ride_121 (by decide) ?_
            refine g_istore dX11_ride_125 (by decide) ?_
            refine g_aload_n dX11_ride_127 rfl rfl ?_
            refine g_callV dX11_ride_128 cv_X11_364 (as' := []) hp_46 rfl e_takeBack (by decide) rfl rfl (Nat.le_of_ble_eq_true rfl) ?_
            rintro _ _ ⟨rfl, rfl⟩
            refine g_iload dX11_ride_131 rfl ?_
            refine g_if_eq (tgt := 140) dX11_ride_133 (by decide) (fun c_133 => ?_) (fun c_133 => ?_)
            · exact absurd c_133 (by decide)
            · refine g_iload_n dX11_ride_136 rfl rfl ?_
              refine g_goto (tgt := 141) dX11_ride_137 (by decide) ?_
              exact g_iret dX11_ride_141 ⟨congrArg (fun z => some (Value.int z)) (show _ = ridS A I m m2 from by rw [hv2]; rcases h9 with ⟨z1, z2⟩ | ⟨z1, z2⟩; rw [z2]; exact absurd ((pm_t h7.2.1).mpr c_117) z1), _, _, _, as_back (as_step hA0 h7), rfl⟩
      · refine g_ic_m1 dX11_ride_21 ?_
        exact g_iret dX11_ride_22 ⟨congrArg (fun z => some (Value.int z)) (show _ = ridS A I m m2 from (if_pos (Or.inr (Or.inr c_18))).symm), _, _, _, smM_rf, rfl⟩
