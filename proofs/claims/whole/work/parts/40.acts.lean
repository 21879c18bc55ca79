/-! THE CLASS'S OWN METHODS: acts -/
def rfS (R : Nat → Int32) (k : Int32) : Nat → Int32 := pt 5 R k (gt 5 R k + 1)
def kA (A I : Nat → Nat → Int32) : Nat → Nat → Int32 := up A 26 (kpR (A 26) (A 20) (I 25 2) 143)
def kI (I : Nat → Nat → Int32) : Nat → Nat → Int32 := up2 (up2 I 25 2 (rm (I 25 2 + 1) 40)) 25 1 (mn 40 (I 25 1 + 1))
theorem kA_def {A I : Nat → Nat → Int32} : kA A I = up A 26 (kpR (A 26) (A 20) (I 25 2) 143) := rfl
theorem kI_def {I : Nat → Nat → Int32} : kI I = up2 (up2 I 25 2 (rm (I 25 2 + 1) 40)) 25 1 (mn 40 (I 25 1 + 1)) := rfl
theorem kA_20 {A I : Nat → Nat → Int32} : kA A I 20 = A 20 := up_ne (by decide)
theorem kA_21 {A I : Nat → Nat → Int32} : kA A I 21 = A 21 := up_ne (by decide)
theorem kA_17 {A I : Nat → Nat → Int32} : kA A I 17 = A 17 := up_ne (by decide)
theorem up_17 {A : Nat → Nat → Int32} {f g : Nat → Int32} : upS A 20 21 f g 17 = A 17 := upS_ne (by decide) (by decide)
/-- an act that was refused (for the ground gd), or came about -/
def actQ (A : Nat → Nat → Int32) (L : Nat → Nat → Int64) (I : Nat → Nat → Int32) (X : Nat → Int64) (gd v : Int32) (A' I' : Nat → Nat → Int32) : Option Value → m_H → Prop := fun r_ H_ =>
  (¬ gd = (-1) ∧ r_ = some (.int (-1)) ∧ H_ = hp (up A 45 (rfS (A 45) gd)) L I X) ∨ (gd = (-1) ∧ r_ = some (.int v) ∧ H_ = hp A' L I' X)
set_option maxHeartbeats 4000000 in
set_option maxRecDepth 100000 in
theorem m_refuse {A : Nat → Nat → Int32} {L : Nat → Nat → Int64} {I : Nat → Nat → Int32} {X : Nat → Int64} {k : Int32}  : Con 2 yX10_refuse cX10_refuse 2 (some .int) [.ref 0, .int k] (hp A L I X) (fun r_ H_ => r_ = some (.int (-1)) ∧ H_ = hp (up A 45 (rfS (A 45) k)) L I X) := by
  refine m_con (by decide) (Nat.le_of_ble_eq_true rfl) ?_
  refine g_aload_n dX10_refuse_0 rfl rfl ?_
  refine g_get dX10_refuse_1 fl_X10_82 hp_0 rfl ?_
  refine g_iload_n dX10_refuse_4 rfl rfl ?_
  refine g_aload_n dX10_refuse_5 rfl rfl ?_
  refine g_get dX10_refuse_6 fl_X10_82 hp_0 rfl ?_
  refine g_iload_n dX10_refuse_9 rfl rfl ?_
  refine g_callS dX10_refuse_10 cs_X10_175 (as := [_, _]) (k_cell (Hp := _) (q := 45) ha_45 (by decide)) (by decide) rfl rfl (Nat.le_of_ble_eq_true rfl) ?_
  rintro _ _ ⟨rfl, rfl⟩
  refine g_ic_1 dX10_refuse_13 ?_
  refine g_iadd dX10_refuse_14 ?_
  refine g_callS dX10_refuse_15 cs_X10_211 (as := [_, _, _]) (k_setCell hp_45 (by decide)) (by decide) rfl rfl (Nat.le_of_ble_eq_true rfl) ?_
  rintro _ _ ⟨rfl, rfl⟩
  rw [hq_45]
  refine g_ic_m1 dX10_refuse_18 ?_
  exact g_iret dX10_refuse_19 ⟨rfl, rfl⟩

def hyF (f : Nat → Int32) (n : Int32) : Nat → Int32 := pt 143 (pt 143 f 3 (gt 143 f 3 + -n)) 1 (gt 143 (pt 143 f 3 (gt 143 f 3 + -n)) 1 + n)
def grF (f : Nat → Int32) (n : Int32) : Nat → Int32 := gsM (pt 143 f 3 (gt 143 f 3 + (-1))) n 1
def byF (f : Nat → Int32) (m : Int32) : Nat → Int32 := pt 143 (pt 143 f 3 (gt 143 f 3 + (-20))) 0 m
def soF (f : Nat → Int32) (n : Int32) : Nat → Int32 := swC (pt 143 f 3 (gt 143 f 3 + (-2))) n
def gdHay (A I : Nat → Nat → Int32) (n : Int32) : Int32 := if I 0 12 = 0 then 0 else if n < 1 ∨ 99 < n ∨ ¬ gt 143 (A 20) 1 + n ≤ 99 then 1 else if n ≤ gt 143 (A 20) 3 then (-1) else 2
set_option maxHeartbeats 4000000 in
set_option maxRecDepth 100000 in
theorem m_hay {A : Nat → Nat → Int32} {L : Nat → Nat → Int64} {I : Nat → Nat → Int32} {X : Nat → Int64} {n : Int32}  : Con 4 yX10_hay cX10_hay 2 (some .int) [.ref 0, .int n] (hp A L I X) (actQ A L I X (gdHay A I n) (gt 143 (hyF (A 20) n) 1) (upS (kA A I) 20 21 (hyF (A 20) n) (A 21)) (kI I)) := by
  refine m_con (by decide) (Nat.le_of_ble_eq_true rfl) ?_
  refine g_aload_n dX10_hay_0 rfl rfl ?_
  refine g_get dX10_hay_1 fl_X10_128 hp_0 rfl ?_
  refine g_if_ne (tgt := 13) dX10_hay_4 (by decide) (fun c_4 => ?_) (fun c_4 => ?_)
  · refine g_iload_n dX10_hay_13 rfl rfl ?_
    refine g_ic_1 dX10_hay_14 ?_
    refine g_icmp_lt (tgt := 39) dX10_hay_15 (by decide) (fun c_15 => ?_) (fun c_15 => ?_)
    · refine g_aload_n dX10_hay_39 rfl rfl ?_
      refine g_ic_1 dX10_hay_40 ?_
      refine g_callV dX10_hay_41 cv_X10_215 (as' := [_]) hp_0 rfl m_refuse (by decide) rfl rfl (Nat.le_of_ble_eq_true rfl) ?_
      rintro _ _ ⟨rfl, rfl⟩
      exact g_iret dX10_hay_44 (Or.inl ⟨by simp [gdHay, c_4, c_15], rfl, by simp [gdHay, c_4, c_15]⟩)
    · refine g_iload_n dX10_hay_18 rfl rfl ?_
      refine g_bipush (v := 99) dX10_hay_19 (by decide) ?_
      refine g_icmp_gt (tgt := 39) dX10_hay_21 (by decide) (fun c_21 => ?_) (fun c_21 => ?_)
      · refine g_aload_n dX10_hay_39 rfl rfl ?_
        refine g_ic_1 dX10_hay_40 ?_
        refine g_callV dX10_hay_41 cv_X10_215 (as' := [_]) hp_0 rfl m_refuse (by decide) rfl rfl (Nat.le_of_ble_eq_true rfl) ?_
        rintro _ _ ⟨rfl, rfl⟩
        exact g_iret dX10_hay_44 (Or.inl ⟨by simp [gdHay, c_4, c_15, c_21], rfl, by simp [gdHay, c_4, c_15, c_21]⟩)
      · refine g_aload_n dX10_hay_24 rfl rfl ?_
        refine g_get dX10_hay_25 fl_X10_46 hp_0 rfl ?_
        refine g_ic_1 dX10_hay_28 ?_
        refine g_callV dX10_hay_29 cv_X10_135 (as' := [_]) hp_19 rfl (h_get isS_19) (by decide) rfl rfl (Nat.le_of_ble_eq_true rfl) ?_
        rintro _ _ ⟨rfl, rfl⟩
        try simp only [upS_upS (show (20 : Nat) ≠ 21 by decide), upS_r (show (20 : Nat) ≠ 21 by decide), upS_c, kA_20, kA_21, kA_17, up_17]
        refine g_iload_n dX10_hay_32 rfl rfl ?_
        refine g_iadd dX10_hay_33 ?_
        refine g_bipush (v := 99) dX10_hay_34 (by decide) ?_
        refine g_icmp_le (tgt := 45) dX10_hay_36 (by decide) (fun c_36 => ?_) (fun c_36 => ?_)
        · refine g_aload_n dX10_hay_45 rfl rfl ?_
          refine g_get dX10_hay_46 fl_X10_46 hp_0 rfl ?_
          refine g_ic_3 dX10_hay_49 ?_
          refine g_callV dX10_hay_50 cv_X10_135 (as' := [_]) hp_19 rfl (h_get isS_19) (by decide) rfl rfl (Nat.le_of_ble_eq_true rfl) ?_
          rintro _ _ ⟨rfl, rfl⟩
          try simp only [upS_upS (show (20 : Nat) ≠ 21 by decide), upS_r (show (20 : Nat) ≠ 21 by decide), upS_c, kA_20, kA_21, kA_17, up_17]
          refine g_iload_n dX10_hay_53 rfl rfl ?_
          refine g_icmp_ge (tgt := 63) dX10_hay_54 (by decide) (fun c_54 => ?_) (fun c_54 => ?_)
          · refine g_aload_n dX10_hay_63 rfl rfl ?_
            refine g_get dX10_hay_64 fl_X10_55 hp_0 rfl ?_
            refine g_aload_n dX10_hay_67 rfl rfl ?_
            refine g_get dX10_hay_68 fl_X10_46 hp_0 rfl ?_
            refine g_callV dX10_hay_71 cv_X10_218 (as' := [_]) hp_25 rfl (a_keep isS_19) (by decide) rfl rfl (Nat.le_of_ble_eq_true rfl) ?_
            rintro _ _ ⟨rfl, rfl⟩
            rw [← kA_def, ← kI_def]
            refine g_aload_n dX10_hay_74 rfl rfl ?_
            refine g_get dX10_hay_75 fl_X10_46 hp_0 rfl ?_
            refine g_ic_3 dX10_hay_78 ?_
            refine g_iload_n dX10_hay_79 rfl rfl ?_
            refine g_ineg dX10_hay_80 ?_
            refine g_callV dX10_hay_81 cv_X10_225 (as' := [_, _]) hp_19 rfl (h_add isS_19) (by decide) rfl rfl (Nat.le_of_ble_eq_true rfl) ?_
            rintro _ _ ⟨rfl, rfl⟩
            try simp only [upS_upS (show (20 : Nat) ≠ 21 by decide), upS_r (show (20 : Nat) ≠ 21 by decide), upS_c, kA_20, kA_21, kA_17, up_17]
            refine g_aload_n dX10_hay_84 rfl rfl ?_
            refine g_get dX10_hay_85 fl_X10_46 hp_0 rfl ?_
            refine g_ic_1 dX10_hay_88 ?_
            refine g_iload_n dX10_hay_89 rfl rfl ?_
            refine g_callV dX10_hay_90 cv_X10_225 (as' := [_, _]) hp_19 rfl (h_add isS_19) (by decide) rfl rfl (Nat.le_of_ble_eq_true rfl) ?_
            rintro _ _ ⟨rfl, rfl⟩
            try simp only [upS_upS (show (20 : Nat) ≠ 21 by decide), upS_r (show (20 : Nat) ≠ 21 by decide), upS_c, kA_20, kA_21, kA_17, up_17]
            refine g_aload_n dX10_hay_93 rfl rfl ?_
            refine g_get dX10_hay_94 fl_X10_46 hp_0 rfl ?_
            refine g_ic_1 dX10_hay_97 ?_
            refine g_callV dX10_hay_98 cv_X10_135 (as' := [_]) hp_19 rfl (h_get isS_19) (by decide) rfl rfl (Nat.le_of_ble_eq_true rfl) ?_
            rintro _ _ ⟨rfl, rfl⟩
            try simp only [upS_upS (show (20 : Nat) ≠ 21 by decide), upS_r (show (20 : Nat) ≠ 21 by decide), upS_c, kA_20, kA_21, kA_17, up_17]
            exact g_iret dX10_hay_101 (Or.inr ⟨by simp [gdHay, c_4, c_15, c_21, c_36, c_54], by rfl, rfl⟩)
          · refine g_aload_n dX10_hay_57 rfl rfl ?_
            refine g_ic_2 dX10_hay_58 ?_
            refine g_callV dX10_hay_59 cv_X10_215 (as' := [_]) hp_0 rfl m_refuse (by decide) rfl rfl (Nat.le_of_ble_eq_true rfl) ?_
            rintro _ _ ⟨rfl, rfl⟩
            exact g_iret dX10_hay_62 (Or.inl ⟨by simp [gdHay, c_4, c_15, c_21, c_36, c_54], rfl, by simp [gdHay, c_4, c_15, c_21, c_36, c_54]⟩)
        · refine g_aload_n dX10_hay_39 rfl rfl ?_
          refine g_ic_1 dX10_hay_40 ?_
          refine g_callV dX10_hay_41 cv_X10_215 (as' := [_]) hp_0 rfl m_refuse (by decide) rfl rfl (Nat.le_of_ble_eq_true rfl) ?_
          rintro _ _ ⟨rfl, rfl⟩
          exact g_iret dX10_hay_44 (Or.inl ⟨by simp [gdHay, c_4, c_15, c_21, c_36], rfl, by simp [gdHay, c_4, c_15, c_21, c_36]⟩)
  · refine g_aload_n dX10_hay_7 rfl rfl ?_
    refine g_ic_0 dX10_hay_8 ?_
    refine g_callV dX10_hay_9 cv_X10_215 (as' := [_]) hp_0 rfl m_refuse (by decide) rfl rfl (Nat.le_of_ble_eq_true rfl) ?_
    rintro _ _ ⟨rfl, rfl⟩
    exact g_iret dX10_hay_12 (Or.inl ⟨by simp [gdHay, c_4], rfl, by simp [gdHay, c_4]⟩)

def gdGrease (A _ : Nat → Nat → Int32) (n : Int32) : Int32 := if hasM (A 20) n = 0 then 0 else if oM (A 20) n 1 < 9 then (if 1 ≤ gt 143 (A 20) 3 then (-1) else 2) else 1
set_option maxHeartbeats 4000000 in
set_option maxRecDepth 100000 in
theorem m_grease {A : Nat → Nat → Int32} {L : Nat → Nat → Int64} {I : Nat → Nat → Int32} {X : Nat → Int64} {n : Int32}  : Con 4 yX10_grease cX10_grease 2 (some .int) [.ref 0, .int n] (hp A L I X) (actQ A L I X (gdGrease A I n) (oM (grF (A 20) n) n 1) (upS (kA A I) 20 21 (grF (A 20) n) (A 21)) (kI I)) := by
  refine m_con (by decide) (Nat.le_of_ble_eq_true rfl) ?_
  refine g_aload_n dX10_grease_0 rfl rfl ?_
  refine g_get dX10_grease_1 fl_X10_46 hp_0 rfl ?_
  refine g_iload_n dX10_grease_4 rfl rfl ?_
  refine g_callV dX10_grease_5 cv_X10_147 (as' := [_]) hp_19 rfl (h_hasMonth isS_19) (by decide) rfl rfl (Nat.le_of_ble_eq_true rfl) ?_
  rintro _ _ ⟨rfl, rfl⟩
  try simp only [upS_upS (show (20 : Nat) ≠ 21 by decide), upS_r (show (20 : Nat) ≠ 21 by decide), upS_c, kA_20, kA_21, kA_17, up_17]
  refine g_if_ne (tgt := 17) dX10_grease_8 (by decide) (fun c_8 => ?_) (fun c_8 => ?_)
  · refine g_aload_n dX10_grease_17 rfl rfl ?_
    refine g_get dX10_grease_18 fl_X10_46 hp_0 rfl ?_
    refine g_iload_n dX10_grease_21 rfl rfl ?_
    refine g_ic_1 dX10_grease_22 ?_
    refine g_callV dX10_grease_23 cv_X10_151 (as' := [_, _]) hp_19 rfl (h_oM isS_19) (by decide) rfl rfl (Nat.le_of_ble_eq_true rfl) ?_
    rintro _ _ ⟨rfl, rfl⟩
    try simp only [upS_upS (show (20 : Nat) ≠ 21 by decide), upS_r (show (20 : Nat) ≠ 21 by decide), upS_c, kA_20, kA_21, kA_17, up_17]
    refine g_bipush (v := 9) dX10_grease_26 (by decide) ?_
    refine g_icmp_lt (tgt := 37) dX10_grease_28 (by decide) (fun c_28 => ?_) (fun c_28 => ?_)
    · refine g_aload_n dX10_grease_37 rfl rfl ?_
      refine g_get dX10_grease_38 fl_X10_46 hp_0 rfl ?_
      refine g_ic_3 dX10_grease_41 ?_
      refine g_callV dX10_grease_42 cv_X10_135 (as' := [_]) hp_19 rfl (h_get isS_19) (by decide) rfl rfl (Nat.le_of_ble_eq_true rfl) ?_
      rintro _ _ ⟨rfl, rfl⟩
      try simp only [upS_upS (show (20 : Nat) ≠ 21 by decide), upS_r (show (20 : Nat) ≠ 21 by decide), upS_c, kA_20, kA_21, kA_17, up_17]
      refine g_ic_1 dX10_grease_45 ?_
      refine g_icmp_ge (tgt := 55) dX10_grease_46 (by decide) (fun c_46 => ?_) (fun c_46 => ?_)
      · refine g_aload_n dX10_grease_55 rfl rfl ?_
        refine g_get dX10_grease_56 fl_X10_55 hp_0 rfl ?_
        refine g_aload_n dX10_grease_59 rfl rfl ?_
        refine g_get dX10_grease_60 fl_X10_46 hp_0 rfl ?_
        refine g_callV dX10_grease_63 cv_X10_218 (as' := [_]) hp_25 rfl (a_keep isS_19) (by decide) rfl rfl (Nat.le_of_ble_eq_true rfl) ?_
        rintro _ _ ⟨rfl, rfl⟩
        rw [← kA_def, ← kI_def]
        refine g_aload_n dX10_grease_66 rfl rfl ?_
        refine g_get dX10_grease_67 fl_X10_46 hp_0 rfl ?_
        refine g_ic_3 dX10_grease_70 ?_
        refine g_ic_m1 dX10_grease_71 ?_
        refine g_callV dX10_grease_72 cv_X10_225 (as' := [_, _]) hp_19 rfl (h_add isS_19) (by decide) rfl rfl (Nat.le_of_ble_eq_true rfl) ?_
        rintro _ _ ⟨rfl, rfl⟩
        try simp only [upS_upS (show (20 : Nat) ≠ 21 by decide), upS_r (show (20 : Nat) ≠ 21 by decide), upS_c, kA_20, kA_21, kA_17, up_17]
        refine g_aload_n dX10_grease_75 rfl rfl ?_
        refine g_get dX10_grease_76 fl_X10_46 hp_0 rfl ?_
        refine g_iload_n dX10_grease_79 rfl rfl ?_
        refine g_ic_1 dX10_grease_80 ?_
        refine g_callV dX10_grease_81 cv_X10_229 (as' := [_, _]) hp_19 rfl (h_grease isS_19) (by decide) rfl rfl (Nat.le_of_ble_eq_true rfl) ?_
        rintro _ _ ⟨rfl, rfl⟩
        try simp only [upS_upS (show (20 : Nat) ≠ 21 by decide), upS_r (show (20 : Nat) ≠ 21 by decide), upS_c, kA_20, kA_21, kA_17, up_17]
        refine g_aload_n dX10_grease_84 rfl rfl ?_
        refine g_get dX10_grease_85 fl_X10_46 hp_0 rfl ?_
        refine g_iload_n dX10_grease_88 rfl rfl ?_
        refine g_ic_1 dX10_grease_89 ?_
        refine g_callV dX10_grease_90 cv_X10_151 (as' := [_, _]) hp_19 rfl (h_oM isS_19) (by decide) rfl rfl (Nat.le_of_ble_eq_true rfl) ?_
        rintro _ _ ⟨rfl, rfl⟩
        try simp only [upS_upS (show (20 : Nat) ≠ 21 by decide), upS_r (show (20 : Nat) ≠ 21 by decide), upS_c, kA_20, kA_21, kA_17, up_17]
        exact g_iret dX10_grease_93 (Or.inr ⟨by simp [gdGrease, c_8, c_28, c_46], by rfl, rfl⟩)
      · refine g_aload_n dX10_grease_49 rfl rfl ?_
        refine g_ic_2 dX10_grease_50 ?_
        refine g_callV dX10_grease_51 cv_X10_215 (as' := [_]) hp_0 rfl m_refuse (by decide) rfl rfl (Nat.le_of_ble_eq_true rfl) ?_
        rintro _ _ ⟨rfl, rfl⟩
        exact g_iret dX10_grease_54 (Or.inl ⟨by simp [gdGrease, c_8, c_28, c_46], rfl, by simp [gdGrease, c_8, c_28, c_46]⟩)
    · refine g_aload_n dX10_grease_31 rfl rfl ?_
      refine g_ic_1 dX10_grease_32 ?_
      refine g_callV dX10_grease_33 cv_X10_215 (as' := [_]) hp_0 rfl m_refuse (by decide) rfl rfl (Nat.le_of_ble_eq_true rfl) ?_
      rintro _ _ ⟨rfl, rfl⟩
      exact g_iret dX10_grease_36 (Or.inl ⟨by simp [gdGrease, c_8, c_28], rfl, by simp [gdGrease, c_8, c_28]⟩)
  · refine g_aload_n dX10_grease_11 rfl rfl ?_
    refine g_ic_0 dX10_grease_12 ?_
    refine g_callV dX10_grease_13 cv_X10_215 (as' := [_]) hp_0 rfl m_refuse (by decide) rfl rfl (Nat.le_of_ble_eq_true rfl) ?_
    rintro _ _ ⟨rfl, rfl⟩
    exact g_iret dX10_grease_16 (Or.inl ⟨by simp [gdGrease, c_8], rfl, by simp [gdGrease, c_8]⟩)

def gdChip (A _ : Nat → Nat → Int32) (n : Int32) : Int32 := if hasM (A 20) n = 0 then 0 else if 1 ≤ oM (A 20) n 2 then (-1) else 3
set_option maxHeartbeats 4000000 in
set_option maxRecDepth 100000 in
theorem m_chip {A : Nat → Nat → Int32} {L : Nat → Nat → Int64} {I : Nat → Nat → Int32} {X : Nat → Int64} {n : Int32}  : Con 4 yX10_chip cX10_chip 2 (some .int) [.ref 0, .int n] (hp A L I X) (actQ A L I X (gdChip A I n) (oM (chM (A 20) n) n 2) (upS (kA A I) 20 21 (chM (A 20) n) (A 21)) (kI I)) := by
  refine m_con (by decide) (Nat.le_of_ble_eq_true rfl) ?_
  refine g_aload_n dX10_chip_0 rfl rfl ?_
  refine g_get dX10_chip_1 fl_X10_46 hp_0 rfl ?_
  refine g_iload_n dX10_chip_4 rfl rfl ?_
  refine g_callV dX10_chip_5 cv_X10_147 (as' := [_]) hp_19 rfl (h_hasMonth isS_19) (by decide) rfl rfl (Nat.le_of_ble_eq_true rfl) ?_
  rintro _ _ ⟨rfl, rfl⟩
  try simp only [upS_upS (show (20 : Nat) ≠ 21 by decide), upS_r (show (20 : Nat) ≠ 21 by decide), upS_c, kA_20, kA_21, kA_17, up_17]
  refine g_if_ne (tgt := 17) dX10_chip_8 (by decide) (fun c_8 => ?_) (fun c_8 => ?_)
  · refine g_aload_n dX10_chip_17 rfl rfl ?_
    refine g_get dX10_chip_18 fl_X10_46 hp_0 rfl ?_
    refine g_iload_n dX10_chip_21 rfl rfl ?_
    refine g_ic_2 dX10_chip_22 ?_
    refine g_callV dX10_chip_23 cv_X10_151 (as' := [_, _]) hp_19 rfl (h_oM isS_19) (by decide) rfl rfl (Nat.le_of_ble_eq_true rfl) ?_
    rintro _ _ ⟨rfl, rfl⟩
    try simp only [upS_upS (show (20 : Nat) ≠ 21 by decide), upS_r (show (20 : Nat) ≠ 21 by decide), upS_c, kA_20, kA_21, kA_17, up_17]
    refine g_ic_1 dX10_chip_26 ?_
    refine g_icmp_ge (tgt := 36) dX10_chip_27 (by decide) (fun c_27 => ?_) (fun c_27 => ?_)
    · refine g_aload_n dX10_chip_36 rfl rfl ?_
      refine g_get dX10_chip_37 fl_X10_55 hp_0 rfl ?_
      refine g_aload_n dX10_chip_40 rfl rfl ?_
      refine g_get dX10_chip_41 fl_X10_46 hp_0 rfl ?_
      refine g_callV dX10_chip_44 cv_X10_218 (as' := [_]) hp_25 rfl (a_keep isS_19) (by decide) rfl rfl (Nat.le_of_ble_eq_true rfl) ?_
      rintro _ _ ⟨rfl, rfl⟩
      rw [← kA_def, ← kI_def]
      refine g_aload_n dX10_chip_47 rfl rfl ?_
      refine g_get dX10_chip_48 fl_X10_46 hp_0 rfl ?_
      refine g_iload_n dX10_chip_51 rfl rfl ?_
      refine g_callV dX10_chip_52 cv_X10_232 (as' := [_]) hp_19 rfl (h_chip isS_19) (by decide) rfl rfl (Nat.le_of_ble_eq_true rfl) ?_
      rintro _ _ ⟨rfl, rfl⟩
      try simp only [upS_upS (show (20 : Nat) ≠ 21 by decide), upS_r (show (20 : Nat) ≠ 21 by decide), upS_c, kA_20, kA_21, kA_17, up_17]
      refine g_aload_n dX10_chip_55 rfl rfl ?_
      refine g_get dX10_chip_56 fl_X10_46 hp_0 rfl ?_
      refine g_iload_n dX10_chip_59 rfl rfl ?_
      refine g_ic_2 dX10_chip_60 ?_
      refine g_callV dX10_chip_61 cv_X10_151 (as' := [_, _]) hp_19 rfl (h_oM isS_19) (by decide) rfl rfl (Nat.le_of_ble_eq_true rfl) ?_
      rintro _ _ ⟨rfl, rfl⟩
      try simp only [upS_upS (show (20 : Nat) ≠ 21 by decide), upS_r (show (20 : Nat) ≠ 21 by decide), upS_c, kA_20, kA_21, kA_17, up_17]
      exact g_iret dX10_chip_64 (Or.inr ⟨by simp [gdChip, c_8, c_27], by rfl, rfl⟩)
    · refine g_aload_n dX10_chip_30 rfl rfl ?_
      refine g_ic_3 dX10_chip_31 ?_
      refine g_callV dX10_chip_32 cv_X10_215 (as' := [_]) hp_0 rfl m_refuse (by decide) rfl rfl (Nat.le_of_ble_eq_true rfl) ?_
      rintro _ _ ⟨rfl, rfl⟩
      exact g_iret dX10_chip_35 (Or.inl ⟨by simp [gdChip, c_8, c_27], rfl, by simp [gdChip, c_8, c_27]⟩)
  · refine g_aload_n dX10_chip_11 rfl rfl ?_
    refine g_ic_0 dX10_chip_12 ?_
    refine g_callV dX10_chip_13 cv_X10_215 (as' := [_]) hp_0 rfl m_refuse (by decide) rfl rfl (Nat.le_of_ble_eq_true rfl) ?_
    rintro _ _ ⟨rfl, rfl⟩
    exact g_iret dX10_chip_16 (Or.inl ⟨by simp [gdChip, c_8], rfl, by simp [gdChip, c_8]⟩)

def gdRev (_ I : Nat → Nat → Int32) : Int32 := if I 0 12 = 0 then 0 else (-1)
set_option maxHeartbeats 4000000 in
set_option maxRecDepth 100000 in
theorem m_reverse {A : Nat → Nat → Int32} {L : Nat → Nat → Int64} {I : Nat → Nat → Int32} {X : Nat → Int64}   : Con 4 yX10_reverse cX10_reverse 1 (some .int) [.ref 0] (hp A L I X) (actQ A L I X (gdRev A I) (gt 143 (trn (A 20)) 4) (upS (kA A I) 20 21 (trn (A 20)) (A 21)) (kI I)) := by
  refine m_con (by decide) (Nat.le_of_ble_eq_true rfl) ?_
  refine g_aload_n dX10_reverse_0 rfl rfl ?_
  refine g_get dX10_reverse_1 fl_X10_128 hp_0 rfl ?_
  refine g_if_ne (tgt := 13) dX10_reverse_4 (by decide) (fun c_4 => ?_) (fun c_4 => ?_)
  · refine g_aload_n dX10_reverse_13 rfl rfl ?_
    refine g_get dX10_reverse_14 fl_X10_55 hp_0 rfl ?_
    refine g_aload_n dX10_reverse_17 rfl rfl ?_
    refine g_get dX10_reverse_18 fl_X10_46 hp_0 rfl ?_
    refine g_callV dX10_reverse_21 cv_X10_218 (as' := [_]) hp_25 rfl (a_keep isS_19) (by decide) rfl rfl (Nat.le_of_ble_eq_true rfl) ?_
    rintro _ _ ⟨rfl, rfl⟩
    rw [← kA_def, ← kI_def]
    refine g_aload_n dX10_reverse_24 rfl rfl ?_
    refine g_get dX10_reverse_25 fl_X10_46 hp_0 rfl ?_
    refine g_callV dX10_reverse_28 cv_X10_235 (as' := []) hp_19 rfl (h_turnRound isS_19) (by decide) rfl rfl (Nat.le_of_ble_eq_true rfl) ?_
    rintro _ _ ⟨rfl, rfl⟩
    try simp only [upS_upS (show (20 : Nat) ≠ 21 by decide), upS_r (show (20 : Nat) ≠ 21 by decide), upS_c, kA_20, kA_21, kA_17, up_17]
    refine g_aload_n dX10_reverse_31 rfl rfl ?_
    refine g_get dX10_reverse_32 fl_X10_46 hp_0 rfl ?_
    refine g_ic_4 dX10_reverse_35 ?_
    refine g_callV dX10_reverse_36 cv_X10_135 (as' := [_]) hp_19 rfl (h_get isS_19) (by decide) rfl rfl (Nat.le_of_ble_eq_true rfl) ?_
    rintro _ _ ⟨rfl, rfl⟩
    try simp only [upS_upS (show (20 : Nat) ≠ 21 by decide), upS_r (show (20 : Nat) ≠ 21 by decide), upS_c, kA_20, kA_21, kA_17, up_17]
    exact g_iret dX10_reverse_39 (Or.inr ⟨by simp [gdRev, c_4], by rfl, rfl⟩)
  · refine g_aload_n dX10_reverse_7 rfl rfl ?_
    refine g_ic_0 dX10_reverse_8 ?_
    refine g_callV dX10_reverse_9 cv_X10_215 (as' := [_]) hp_0 rfl m_refuse (by decide) rfl rfl (Nat.le_of_ble_eq_true rfl) ?_
    rintro _ _ ⟨rfl, rfl⟩
    exact g_iret dX10_reverse_12 (Or.inl ⟨by simp [gdRev, c_4], rfl, by simp [gdRev, c_4]⟩)

def gdBuy (A I : Nat → Nat → Int32) : Int32 := if I 0 12 = 0 then 0 else if 20 ≤ gt 143 (A 20) 3 then (-1) else 2
set_option maxHeartbeats 4000000 in
set_option maxRecDepth 100000 in
theorem m_buy {A : Nat → Nat → Int32} {L : Nat → Nat → Int64} {I : Nat → Nat → Int32} {X : Nat → Int64}   : Con 4 yX10_buy cX10_buy 1 (some .int) [.ref 0] (hp A L I X) (actQ A L I X (gdBuy A I) (gt 143 (byF (A 20) (gt 143 (A 17) 0)) 3) (upS (kA A I) 20 21 (byF (A 20) (gt 143 (A 17) 0)) (A 21)) (kI I)) := by
  refine m_con (by decide) (Nat.le_of_ble_eq_true rfl) ?_
  refine g_aload_n dX10_buy_0 rfl rfl ?_
  refine g_get dX10_buy_1 fl_X10_128 hp_0 rfl ?_
  refine g_if_ne (tgt := 13) dX10_buy_4 (by decide) (fun c_4 => ?_) (fun c_4 => ?_)
  · refine g_aload_n dX10_buy_13 rfl rfl ?_
    refine g_get dX10_buy_14 fl_X10_46 hp_0 rfl ?_
    refine g_ic_3 dX10_buy_17 ?_
    refine g_callV dX10_buy_18 cv_X10_135 (as' := [_]) hp_19 rfl (h_get isS_19) (by decide) rfl rfl (Nat.le_of_ble_eq_true rfl) ?_
    rintro _ _ ⟨rfl, rfl⟩
    try simp only [upS_upS (show (20 : Nat) ≠ 21 by decide), upS_r (show (20 : Nat) ≠ 21 by decide), upS_c, kA_20, kA_21, kA_17, up_17]
    refine g_bipush (v := 20) dX10_buy_21 (by decide) ?_
    refine g_icmp_ge (tgt := 32) dX10_buy_23 (by decide) (fun c_23 => ?_) (fun c_23 => ?_)
    · refine g_aload_n dX10_buy_32 rfl rfl ?_
      refine g_get dX10_buy_33 fl_X10_55 hp_0 rfl ?_
      refine g_aload_n dX10_buy_36 rfl rfl ?_
      refine g_get dX10_buy_37 fl_X10_46 hp_0 rfl ?_
      refine g_callV dX10_buy_40 cv_X10_218 (as' := [_]) hp_25 rfl (a_keep isS_19) (by decide) rfl rfl (Nat.le_of_ble_eq_true rfl) ?_
      rintro _ _ ⟨rfl, rfl⟩
      rw [← kA_def, ← kI_def]
      refine g_aload_n dX10_buy_43 rfl rfl ?_
      refine g_get dX10_buy_44 fl_X10_46 hp_0 rfl ?_
      refine g_ic_3 dX10_buy_47 ?_
      refine g_bipush (v := (-20)) dX10_buy_48 (by decide) ?_
      refine g_callV dX10_buy_50 cv_X10_225 (as' := [_, _]) hp_19 rfl (h_add isS_19) (by decide) rfl rfl (Nat.le_of_ble_eq_true rfl) ?_
      rintro _ _ ⟨rfl, rfl⟩
      try simp only [upS_upS (show (20 : Nat) ≠ 21 by decide), upS_r (show (20 : Nat) ≠ 21 by decide), upS_c, kA_20, kA_21, kA_17, up_17]
      refine g_aload_n dX10_buy_53 rfl rfl ?_
      refine g_get dX10_buy_54 fl_X10_46 hp_0 rfl ?_
      refine g_ic_0 dX10_buy_57 ?_
      refine g_aload_n dX10_buy_58 rfl rfl ?_
      refine g_get dX10_buy_59 fl_X10_42 hp_0 rfl ?_
      refine g_ic_0 dX10_buy_62 ?_
      refine g_callV dX10_buy_63 cv_X10_135 (as' := [_]) hp_16 rfl (h_get isS_16) (by decide) rfl rfl (Nat.le_of_ble_eq_true rfl) ?_
      rintro _ _ ⟨rfl, rfl⟩
      try simp only [upS_upS (show (20 : Nat) ≠ 21 by decide), upS_r (show (20 : Nat) ≠ 21 by decide), upS_c, kA_20, kA_21, kA_17, up_17]
      refine g_callV dX10_buy_66 cv_X10_238 (as' := [_, _]) hp_19 rfl (h_put isS_19) (by decide) rfl rfl (Nat.le_of_ble_eq_true rfl) ?_
      rintro _ _ ⟨rfl, rfl⟩
      try simp only [upS_upS (show (20 : Nat) ≠ 21 by decide), upS_r (show (20 : Nat) ≠ 21 by decide), upS_c, kA_20, kA_21, kA_17, up_17]
      refine g_aload_n dX10_buy_69 rfl rfl ?_
      refine g_get dX10_buy_70 fl_X10_46 hp_0 rfl ?_
      refine g_ic_3 dX10_buy_73 ?_
      refine g_callV dX10_buy_74 cv_X10_135 (as' := [_]) hp_19 rfl (h_get isS_19) (by decide) rfl rfl (Nat.le_of_ble_eq_true rfl) ?_
      rintro _ _ ⟨rfl, rfl⟩
      try simp only [upS_upS (show (20 : Nat) ≠ 21 by decide), upS_r (show (20 : Nat) ≠ 21 by decide), upS_c, kA_20, kA_21, kA_17, up_17]
      exact g_iret dX10_buy_77 (Or.inr ⟨by simp [gdBuy, c_4, c_23], by rfl, rfl⟩)
    · refine g_aload_n dX10_buy_26 rfl rfl ?_
      refine g_ic_2 dX10_buy_27 ?_
      refine g_callV dX10_buy_28 cv_X10_215 (as' := [_]) hp_0 rfl m_refuse (by decide) rfl rfl (Nat.le_of_ble_eq_true rfl) ?_
      rintro _ _ ⟨rfl, rfl⟩
      exact g_iret dX10_buy_31 (Or.inl ⟨by simp [gdBuy, c_4, c_23], rfl, by simp [gdBuy, c_4, c_23]⟩)
  · refine g_aload_n dX10_buy_7 rfl rfl ?_
    refine g_ic_0 dX10_buy_8 ?_
    refine g_callV dX10_buy_9 cv_X10_215 (as' := [_]) hp_0 rfl m_refuse (by decide) rfl rfl (Nat.le_of_ble_eq_true rfl) ?_
    rintro _ _ ⟨rfl, rfl⟩
    exact g_iret dX10_buy_12 (Or.inl ⟨by simp [gdBuy, c_4], rfl, by simp [gdBuy, c_4]⟩)

def gdSow (A _ : Nat → Nat → Int32) (n : Int32) : Int32 := if hasC (A 20) n = 0 then 0 else if 2 ≤ gt 143 (A 20) 3 then (if oC (A 20) n 5 = 0 then 3 else (-1)) else 2
set_option maxHeartbeats 4000000 in
set_option maxRecDepth 100000 in
theorem m_sow {A : Nat → Nat → Int32} {L : Nat → Nat → Int64} {I : Nat → Nat → Int32} {X : Nat → Int64} {n : Int32}  : Con 4 yX10_sow cX10_sow 2 (some .int) [.ref 0, .int n] (hp A L I X) (actQ A L I X (gdSow A I n) (gt 143 (soF (A 20) n) 3) (upS (kA A I) 20 21 (soF (A 20) n) (A 21)) (kI I)) := by
  refine m_con (by decide) (Nat.le_of_ble_eq_true rfl) ?_
  refine g_aload_n dX10_sow_0 rfl rfl ?_
  refine g_get dX10_sow_1 fl_X10_46 hp_0 rfl ?_
  refine g_iload_n dX10_sow_4 rfl rfl ?_
  refine g_callV dX10_sow_5 cv_X10_155 (as' := [_]) hp_19 rfl (h_hasCrop isS_19) (by decide) rfl rfl (Nat.le_of_ble_eq_true rfl) ?_
  rintro _ _ ⟨rfl, rfl⟩
  try simp only [upS_upS (show (20 : Nat) ≠ 21 by decide), upS_r (show (20 : Nat) ≠ 21 by decide), upS_c, kA_20, kA_21, kA_17, up_17]
  refine g_if_ne (tgt := 17) dX10_sow_8 (by decide) (fun c_8 => ?_) (fun c_8 => ?_)
  · refine g_aload_n dX10_sow_17 rfl rfl ?_
    refine g_get dX10_sow_18 fl_X10_46 hp_0 rfl ?_
    refine g_ic_3 dX10_sow_21 ?_
    refine g_callV dX10_sow_22 cv_X10_135 (as' := [_]) hp_19 rfl (h_get isS_19) (by decide) rfl rfl (Nat.le_of_ble_eq_true rfl) ?_
    rintro _ _ ⟨rfl, rfl⟩
    try simp only [upS_upS (show (20 : Nat) ≠ 21 by decide), upS_r (show (20 : Nat) ≠ 21 by decide), upS_c, kA_20, kA_21, kA_17, up_17]
    refine g_ic_2 dX10_sow_25 ?_
    refine g_icmp_ge (tgt := 35) dX10_sow_26 (by decide) (fun c_26 => ?_) (fun c_26 => ?_)
    · refine g_aload_n dX10_sow_35 rfl rfl ?_
      refine g_get dX10_sow_36 fl_X10_46 hp_0 rfl ?_
      refine g_iload_n dX10_sow_39 rfl rfl ?_
      refine g_ic_5 dX10_sow_40 ?_
      refine g_callV dX10_sow_41 cv_X10_165 (as' := [_, _]) hp_19 rfl (h_oC isS_19) (by decide) rfl rfl (Nat.le_of_ble_eq_true rfl) ?_
      rintro _ _ ⟨rfl, rfl⟩
      try simp only [upS_upS (show (20 : Nat) ≠ 21 by decide), upS_r (show (20 : Nat) ≠ 21 by decide), upS_c, kA_20, kA_21, kA_17, up_17]
      refine g_if_ne (tgt := 53) dX10_sow_44 (by decide) (fun c_44 => ?_) (fun c_44 => ?_)
      · refine g_aload_n dX10_sow_53 rfl rfl ?_
        refine g_get dX10_sow_54 fl_X10_55 hp_0 rfl ?_
        refine g_aload_n dX10_sow_57 rfl rfl ?_
        refine g_get dX10_sow_58 fl_X10_46 hp_0 rfl ?_
        refine g_callV dX10_sow_61 cv_X10_218 (as' := [_]) hp_25 rfl (a_keep isS_19) (by decide) rfl rfl (Nat.le_of_ble_eq_true rfl) ?_
        rintro _ _ ⟨rfl, rfl⟩
        rw [← kA_def, ← kI_def]
        refine g_aload_n dX10_sow_64 rfl rfl ?_
        refine g_get dX10_sow_65 fl_X10_46 hp_0 rfl ?_
        refine g_ic_3 dX10_sow_68 ?_
        refine g_bipush (v := (-2)) dX10_sow_69 (by decide) ?_
        refine g_callV dX10_sow_71 cv_X10_225 (as' := [_, _]) hp_19 rfl (h_add isS_19) (by decide) rfl rfl (Nat.le_of_ble_eq_true rfl) ?_
        rintro _ _ ⟨rfl, rfl⟩
        try simp only [upS_upS (show (20 : Nat) ≠ 21 by decide), upS_r (show (20 : Nat) ≠ 21 by decide), upS_c, kA_20, kA_21, kA_17, up_17]
        refine g_aload_n dX10_sow_74 rfl rfl ?_
        refine g_get dX10_sow_75 fl_X10_46 hp_0 rfl ?_
        refine g_iload_n dX10_sow_78 rfl rfl ?_
        refine g_callV dX10_sow_79 cv_X10_241 (as' := [_]) hp_19 rfl (h_sow isS_19) (by decide) rfl rfl (Nat.le_of_ble_eq_true rfl) ?_
        rintro _ _ ⟨rfl, rfl⟩
        try simp only [upS_upS (show (20 : Nat) ≠ 21 by decide), upS_r (show (20 : Nat) ≠ 21 by decide), upS_c, kA_20, kA_21, kA_17, up_17]
        refine g_aload_n dX10_sow_82 rfl rfl ?_
        refine g_get dX10_sow_83 fl_X10_46 hp_0 rfl ?_
        refine g_ic_3 dX10_sow_86 ?_
        refine g_callV dX10_sow_87 cv_X10_135 (as' := [_]) hp_19 rfl (h_get isS_19) (by decide) rfl rfl (Nat.le_of_ble_eq_true rfl) ?_
        rintro _ _ ⟨rfl, rfl⟩
        try simp only [upS_upS (show (20 : Nat) ≠ 21 by decide), upS_r (show (20 : Nat) ≠ 21 by decide), upS_c, kA_20, kA_21, kA_17, up_17]
        exact g_iret dX10_sow_90 (Or.inr ⟨by simp [gdSow, c_8, c_26, c_44], by rfl, rfl⟩)
      · refine g_aload_n dX10_sow_47 rfl rfl ?_
        refine g_ic_3 dX10_sow_48 ?_
        refine g_callV dX10_sow_49 cv_X10_215 (as' := [_]) hp_0 rfl m_refuse (by decide) rfl rfl (Nat.le_of_ble_eq_true rfl) ?_
        rintro _ _ ⟨rfl, rfl⟩
        exact g_iret dX10_sow_52 (Or.inl ⟨by simp [gdSow, c_8, c_26, c_44], rfl, by simp [gdSow, c_8, c_26, c_44]⟩)
    · refine g_aload_n dX10_sow_29 rfl rfl ?_
      refine g_ic_2 dX10_sow_30 ?_
      refine g_callV dX10_sow_31 cv_X10_215 (as' := [_]) hp_0 rfl m_refuse (by decide) rfl rfl (Nat.le_of_ble_eq_true rfl) ?_
      rintro _ _ ⟨rfl, rfl⟩
      exact g_iret dX10_sow_34 (Or.inl ⟨by simp [gdSow, c_8, c_26], rfl, by simp [gdSow, c_8, c_26]⟩)
  · refine g_aload_n dX10_sow_11 rfl rfl ?_
    refine g_ic_0 dX10_sow_12 ?_
    refine g_callV dX10_sow_13 cv_X10_215 (as' := [_]) hp_0 rfl m_refuse (by decide) rfl rfl (Nat.le_of_ble_eq_true rfl) ?_
    rintro _ _ ⟨rfl, rfl⟩
    exact g_iret dX10_sow_16 (Or.inl ⟨by simp [gdSow, c_8], rfl, by simp [gdSow, c_8]⟩)
