/-! THE CLASS'S OWN METHODS: count, most, turns, decades -/
theorem sw_two (x : Int32) : (x.toInt < 0 ∨ 2 < x.toInt) ∨ x = 0 ∨ x = 1 ∨ x = 2 := by
  by_cases h : x.toInt < 0 ∨ 2 < x.toInt
  · exact Or.inl h
  · have h1 : x.toInt = 0 ∨ x.toInt = 1 ∨ x.toInt = 2 := by omega
    rcases h1 with h1 | h1 | h1
    · exact Or.inr (Or.inl (Int32.toInt_inj.mp h1))
    · exact Or.inr (Or.inr (Or.inl (Int32.toInt_inj.mp h1)))
    · exact Or.inr (Or.inr (Or.inr (Int32.toInt_inj.mp h1)))
theorem sw_15 (x : Int32) : (x.toInt < 0 ∨ 15 < x.toInt) ∨ x = 0 ∨ x = 1 ∨ x = 2 ∨ x = 3 ∨ x = 4 ∨ x = 5 ∨ x = 6 ∨ x = 7 ∨ x = 8 ∨ x = 9 ∨ x = 10 ∨ x = 11 ∨ x = 12 ∨ x = 13 ∨ x = 14 ∨ x = 15 := by
  by_cases h : x.toInt < 0 ∨ 15 < x.toInt
  · exact Or.inl h
  · have h1 : x.toInt = 0 ∨ x.toInt = 1 ∨ x.toInt = 2 ∨ x.toInt = 3 ∨ x.toInt = 4 ∨ x.toInt = 5 ∨ x.toInt = 6 ∨ x.toInt = 7 ∨ x.toInt = 8 ∨ x.toInt = 9 ∨ x.toInt = 10 ∨ x.toInt = 11 ∨ x.toInt = 12 ∨ x.toInt = 13 ∨ x.toInt = 14 ∨ x.toInt = 15 := by omega
    rcases h1 with h1 | h1 | h1 | h1 | h1 | h1 | h1 | h1 | h1 | h1 | h1 | h1 | h1 | h1 | h1 | h1
    · exact Or.inr (Or.inl (Int32.toInt_inj.mp h1))
    · exact Or.inr (Or.inr (Or.inl (Int32.toInt_inj.mp h1)))
    · exact Or.inr (Or.inr (Or.inr (Or.inl (Int32.toInt_inj.mp h1))))
    · exact Or.inr (Or.inr (Or.inr (Or.inr (Or.inl (Int32.toInt_inj.mp h1)))))
    · exact Or.inr (Or.inr (Or.inr (Or.inr (Or.inr (Or.inl (Int32.toInt_inj.mp h1))))))
    · exact Or.inr (Or.inr (Or.inr (Or.inr (Or.inr (Or.inr (Or.inl (Int32.toInt_inj.mp h1)))))))
    · exact Or.inr (Or.inr (Or.inr (Or.inr (Or.inr (Or.inr (Or.inr (Or.inl (Int32.toInt_inj.mp h1))))))))
    · exact Or.inr (Or.inr (Or.inr (Or.inr (Or.inr (Or.inr (Or.inr (Or.inr (Or.inl (Int32.toInt_inj.mp h1)))))))))
    · exact Or.inr (Or.inr (Or.inr (Or.inr (Or.inr (Or.inr (Or.inr (Or.inr (Or.inr (Or.inl (Int32.toInt_inj.mp h1))))))))))
    · exact Or.inr (Or.inr (Or.inr (Or.inr (Or.inr (Or.inr (Or.inr (Or.inr (Or.inr (Or.inr (Or.inl (Int32.toInt_inj.mp h1)))))))))))
    · exact Or.inr (Or.inr (Or.inr (Or.inr (Or.inr (Or.inr (Or.inr (Or.inr (Or.inr (Or.inr (Or.inr (Or.inl (Int32.toInt_inj.mp h1))))))))))))
    · exact Or.inr (Or.inr (Or.inr (Or.inr (Or.inr (Or.inr (Or.inr (Or.inr (Or.inr (Or.inr (Or.inr (Or.inr (Or.inl (Int32.toInt_inj.mp h1)))))))))))))
    · exact Or.inr (Or.inr (Or.inr (Or.inr (Or.inr (Or.inr (Or.inr (Or.inr (Or.inr (Or.inr (Or.inr (Or.inr (Or.inr (Or.inl (Int32.toInt_inj.mp h1))))))))))))))
    · exact Or.inr (Or.inr (Or.inr (Or.inr (Or.inr (Or.inr (Or.inr (Or.inr (Or.inr (Or.inr (Or.inr (Or.inr (Or.inr (Or.inr (Or.inl (Int32.toInt_inj.mp h1)))))))))))))))
    · exact Or.inr (Or.inr (Or.inr (Or.inr (Or.inr (Or.inr (Or.inr (Or.inr (Or.inr (Or.inr (Or.inr (Or.inr (Or.inr (Or.inr (Or.inr (Or.inl (Int32.toInt_inj.mp h1))))))))))))))))
    · exact Or.inr (Or.inr (Or.inr (Or.inr (Or.inr (Or.inr (Or.inr (Or.inr (Or.inr (Or.inr (Or.inr (Or.inr (Or.inr (Or.inr (Or.inr (Or.inr ((Int32.toInt_inj.mp h1)))))))))))))))))
set_option maxHeartbeats 4000000 in
set_option maxRecDepth 100000 in
theorem t_size {A : Nat → Nat → Int32} {L : Nat → Nat → Int64} {I : Nat → Nat → Int32} {X : Nat → Int64}   : Con 1 yX8_size cX8_size 1 (some .int) [.ref 1] (hp A L I X) (fun r_ H_ => r_ = some (.int (I 1 1)) ∧ H_ = hp A L I X) := by
  refine m_con (by decide) (Nat.le_of_ble_eq_true rfl) ?_
  refine g_aload_n dX8_size_0 rfl rfl ?_
  refine g_get dX8_size_1 fl_X8_15 hp_1 rfl ?_
  exact g_iret dX8_size_4 ⟨rfl, rfl⟩

def cntS (A I : Nat → Nat → Int32) (x : Int32) : Int32 := if x.toInt < 0 ∨ 15 < x.toInt then (-1000000) else [gt 143 (A 20) 9, gt 143 (A 20) 10, I 11 4, I 1 1, I 11 5, gt 143 (A 20) 8, gt 143 (A 20) 5, gt 143 (A 20) 6, gt 143 (A 20) 4, ripeS (A 20), gt 143 (A 20) 7, I 0 14, I 0 15, I 34 9, gt 143 (A 20) 11, I 25 1].getD x.toNatClampNeg 0
set_option maxHeartbeats 4000000 in
set_option maxRecDepth 100000 in
theorem m_count {A : Nat → Nat → Int32} {L : Nat → Nat → Int64} {I : Nat → Nat → Int32} {X : Nat → Int64} {x : Int32} : Con 6 yX10_count cX10_count 2 (some .int) [.ref 0, .int x] (hp A L I X) (fun r_ H_ => r_ = some (.int (cntS A I x)) ∧ H_ = hp A L I X) := by
  refine m_con (by decide) (Nat.le_of_ble_eq_true rfl) ?_
  refine g_iload_n dX10_count_0 rfl rfl ?_
  rcases sw_15 x with h | h | h | h | h | h | h | h | h | h | h | h | h | h | h | h | h
  · refine g_tableOut (tgt := 216) dX10_count_1 h (by decide) ?_
    refine g_ldc dX10_count_216 lc_X10_210 ?_
    exact g_iret dX10_count_218 ⟨by rw [show cntS A I x = (-1000000) from if_pos h], rfl⟩
  · subst h
    refine g_tableIn (off := 79) (tgt := 80) dX10_count_1 (by decide) (by decide) rfl (by decide) ?_
    refine g_aload_n dX10_count_80 rfl rfl ?_
    refine g_get dX10_count_81 fl_X10_46 hp_0 rfl ?_
    refine g_bipush (v := 9) dX10_count_84 (by decide) ?_
    refine g_callV dX10_count_86 cv_X10_135 (as' := [_]) hp_19 rfl (h_get isS_19) (by decide) rfl rfl (Nat.le_of_ble_eq_true rfl) ?_
    rintro _ _ ⟨rfl, rfl⟩
    exact g_iret dX10_count_89 ⟨by rw [show cntS A I 0 = gt 143 (A 20) 9 from by unfold cntS; rw [if_neg (by decide)]; rfl], rfl⟩
  · subst h
    refine g_tableIn (off := 89) (tgt := 90) dX10_count_1 (by decide) (by decide) rfl (by decide) ?_
    refine g_aload_n dX10_count_90 rfl rfl ?_
    refine g_get dX10_count_91 fl_X10_46 hp_0 rfl ?_
    refine g_bipush (v := 10) dX10_count_94 (by decide) ?_
    refine g_callV dX10_count_96 cv_X10_135 (as' := [_]) hp_19 rfl (h_get isS_19) (by decide) rfl rfl (Nat.le_of_ble_eq_true rfl) ?_
    rintro _ _ ⟨rfl, rfl⟩
    exact g_iret dX10_count_99 ⟨by rw [show cntS A I 1 = gt 143 (A 20) 10 from by unfold cntS; rw [if_neg (by decide)]; rfl], rfl⟩
  · subst h
    refine g_tableIn (off := 99) (tgt := 100) dX10_count_1 (by decide) (by decide) rfl (by decide) ?_
    refine g_aload_n dX10_count_100 rfl rfl ?_
    refine g_get dX10_count_101 fl_X10_35 hp_0 rfl ?_
    refine g_get dX10_count_104 fl_X10_110 hp_11 rfl ?_
    exact g_iret dX10_count_107 ⟨by rw [show cntS A I 2 = I 11 4 from by unfold cntS; rw [if_neg (by decide)]; rfl], rfl⟩
  · subst h
    refine g_tableIn (off := 107) (tgt := 108) dX10_count_1 (by decide) (by decide) rfl (by decide) ?_
    refine g_aload_n dX10_count_108 rfl rfl ?_
    refine g_get dX10_count_109 fl_X10_12 hp_0 rfl ?_
    refine g_callV dX10_count_112 cv_X10_90 (as' := []) hp_1 rfl t_size (by decide) rfl rfl (Nat.le_of_ble_eq_true rfl) ?_
    rintro _ _ ⟨rfl, rfl⟩
    exact g_iret dX10_count_115 ⟨by rw [show cntS A I 3 = I 1 1 from by unfold cntS; rw [if_neg (by decide)]; rfl], rfl⟩
  · subst h
    refine g_tableIn (off := 115) (tgt := 116) dX10_count_1 (by decide) (by decide) rfl (by decide) ?_
    refine g_aload_n dX10_count_116 rfl rfl ?_
    refine g_get dX10_count_117 fl_X10_35 hp_0 rfl ?_
    refine g_get dX10_count_120 fl_X10_168 hp_11 rfl ?_
    exact g_iret dX10_count_123 ⟨by rw [show cntS A I 4 = I 11 5 from by unfold cntS; rw [if_neg (by decide)]; rfl], rfl⟩
  · subst h
    refine g_tableIn (off := 123) (tgt := 124) dX10_count_1 (by decide) (by decide) rfl (by decide) ?_
    refine g_aload_n dX10_count_124 rfl rfl ?_
    refine g_get dX10_count_125 fl_X10_46 hp_0 rfl ?_
    refine g_bipush (v := 8) dX10_count_128 (by decide) ?_
    refine g_callV dX10_count_130 cv_X10_135 (as' := [_]) hp_19 rfl (h_get isS_19) (by decide) rfl rfl (Nat.le_of_ble_eq_true rfl) ?_
    rintro _ _ ⟨rfl, rfl⟩
    exact g_iret dX10_count_133 ⟨by rw [show cntS A I 5 = gt 143 (A 20) 8 from by unfold cntS; rw [if_neg (by decide)]; rfl], rfl⟩
  · subst h
    refine g_tableIn (off := 133) (tgt := 134) dX10_count_1 (by decide) (by decide) rfl (by decide) ?_
    refine g_aload_n dX10_count_134 rfl rfl ?_
    refine g_get dX10_count_135 fl_X10_46 hp_0 rfl ?_
    refine g_ic_5 dX10_count_138 ?_
    refine g_callV dX10_count_139 cv_X10_135 (as' := [_]) hp_19 rfl (h_get isS_19) (by decide) rfl rfl (Nat.le_of_ble_eq_true rfl) ?_
    rintro _ _ ⟨rfl, rfl⟩
    exact g_iret dX10_count_142 ⟨by rw [show cntS A I 6 = gt 143 (A 20) 5 from by unfold cntS; rw [if_neg (by decide)]; rfl], rfl⟩
  · subst h
    refine g_tableIn (off := 142) (tgt := 143) dX10_count_1 (by decide) (by decide) rfl (by decide) ?_
    refine g_aload_n dX10_count_143 rfl rfl ?_
    refine g_get dX10_count_144 fl_X10_46 hp_0 rfl ?_
    refine g_bipush (v := 6) dX10_count_147 (by decide) ?_
    refine g_callV dX10_count_149 cv_X10_135 (as' := [_]) hp_19 rfl (h_get isS_19) (by decide) rfl rfl (Nat.le_of_ble_eq_true rfl) ?_
    rintro _ _ ⟨rfl, rfl⟩
    exact g_iret dX10_count_152 ⟨by rw [show cntS A I 7 = gt 143 (A 20) 6 from by unfold cntS; rw [if_neg (by decide)]; rfl], rfl⟩
  · subst h
    refine g_tableIn (off := 152) (tgt := 153) dX10_count_1 (by decide) (by decide) rfl (by decide) ?_
    refine g_aload_n dX10_count_153 rfl rfl ?_
    refine g_get dX10_count_154 fl_X10_46 hp_0 rfl ?_
    refine g_ic_4 dX10_count_157 ?_
    refine g_callV dX10_count_158 cv_X10_135 (as' := [_]) hp_19 rfl (h_get isS_19) (by decide) rfl rfl (Nat.le_of_ble_eq_true rfl) ?_
    rintro _ _ ⟨rfl, rfl⟩
    exact g_iret dX10_count_161 ⟨by rw [show cntS A I 8 = gt 143 (A 20) 4 from by unfold cntS; rw [if_neg (by decide)]; rfl], rfl⟩
  · subst h
    refine g_tableIn (off := 161) (tgt := 162) dX10_count_1 (by decide) (by decide) rfl (by decide) ?_
    refine g_aload_n dX10_count_162 rfl rfl ?_
    refine g_get dX10_count_163 fl_X10_46 hp_0 rfl ?_
    refine g_callV dX10_count_166 cv_X10_199 (as' := []) hp_19 rfl (h_ripe isS_19) (by decide) rfl rfl (Nat.le_of_ble_eq_true rfl) ?_
    rintro _ _ ⟨rfl, rfl⟩
    exact g_iret dX10_count_169 ⟨by rw [show cntS A I 9 = ripeS (A 20) from by unfold cntS; rw [if_neg (by decide)]; rfl], rfl⟩
  · subst h
    refine g_tableIn (off := 169) (tgt := 170) dX10_count_1 (by decide) (by decide) rfl (by decide) ?_
    refine g_aload_n dX10_count_170 rfl rfl ?_
    refine g_get dX10_count_171 fl_X10_46 hp_0 rfl ?_
    refine g_bipush (v := 7) dX10_count_174 (by decide) ?_
    refine g_callV dX10_count_176 cv_X10_135 (as' := [_]) hp_19 rfl (h_get isS_19) (by decide) rfl rfl (Nat.le_of_ble_eq_true rfl) ?_
    rintro _ _ ⟨rfl, rfl⟩
    exact g_iret dX10_count_179 ⟨by rw [show cntS A I 10 = gt 143 (A 20) 7 from by unfold cntS; rw [if_neg (by decide)]; rfl], rfl⟩
  · subst h
    refine g_tableIn (off := 179) (tgt := 180) dX10_count_1 (by decide) (by decide) rfl (by decide) ?_
    refine g_aload_n dX10_count_180 rfl rfl ?_
    refine g_get dX10_count_181 fl_X10_202 hp_0 rfl ?_
    exact g_iret dX10_count_184 ⟨by rw [show cntS A I 11 = I 0 14 from by unfold cntS; rw [if_neg (by decide)]; rfl], rfl⟩
  · subst h
    refine g_tableIn (off := 184) (tgt := 185) dX10_count_1 (by decide) (by decide) rfl (by decide) ?_
    refine g_aload_n dX10_count_185 rfl rfl ?_
    refine g_get dX10_count_186 fl_X10_205 hp_0 rfl ?_
    exact g_iret dX10_count_189 ⟨by rw [show cntS A I 12 = I 0 15 from by unfold cntS; rw [if_neg (by decide)]; rfl], rfl⟩
  · subst h
    refine g_tableIn (off := 189) (tgt := 190) dX10_count_1 (by decide) (by decide) rfl (by decide) ?_
    refine g_aload_n dX10_count_190 rfl rfl ?_
    refine g_get dX10_count_191 fl_X10_71 hp_0 rfl ?_
    refine g_get dX10_count_194 fl_X10_208 hp_34 rfl ?_
    exact g_iret dX10_count_197 ⟨by rw [show cntS A I 13 = I 34 9 from by unfold cntS; rw [if_neg (by decide)]; rfl], rfl⟩
  · subst h
    refine g_tableIn (off := 197) (tgt := 198) dX10_count_1 (by decide) (by decide) rfl (by decide) ?_
    refine g_aload_n dX10_count_198 rfl rfl ?_
    refine g_get dX10_count_199 fl_X10_46 hp_0 rfl ?_
    refine g_bipush (v := 11) dX10_count_202 (by decide) ?_
    refine g_callV dX10_count_204 cv_X10_135 (as' := [_]) hp_19 rfl (h_get isS_19) (by decide) rfl rfl (Nat.le_of_ble_eq_true rfl) ?_
    rintro _ _ ⟨rfl, rfl⟩
    exact g_iret dX10_count_207 ⟨by rw [show cntS A I 14 = gt 143 (A 20) 11 from by unfold cntS; rw [if_neg (by decide)]; rfl], rfl⟩
  · subst h
    refine g_tableIn (off := 207) (tgt := 208) dX10_count_1 (by decide) (by decide) rfl (by decide) ?_
    refine g_aload_n dX10_count_208 rfl rfl ?_
    refine g_get dX10_count_209 fl_X10_55 hp_0 rfl ?_
    refine g_get dX10_count_212 fl_X10_209 hp_25 rfl ?_
    exact g_iret dX10_count_215 ⟨by rw [show cntS A I 15 = I 25 1 from by unfold cntS; rw [if_neg (by decide)]; rfl], rfl⟩

def mstS (A I : Nat → Nat → Int32) (x : Int32) : Int32 := if I 0 12 = 0 then (-1) else if x.toInt < 0 ∨ 2 < x.toInt then (-1) else [richS (A 20), dryS (A 20), needS (A 20)].getD x.toNatClampNeg 0
set_option maxHeartbeats 4000000 in
set_option maxRecDepth 100000 in
theorem m_most {A : Nat → Nat → Int32} {L : Nat → Nat → Int64} {I : Nat → Nat → Int32} {X : Nat → Int64} {x : Int32}  : Con 6 yX10_most cX10_most 2 (some .int) [.ref 0, .int x] (hp A L I X) (fun r_ H_ => r_ = some (.int (mstS A I x)) ∧ H_ = hp A L I X) := by
  refine m_con (by decide) (Nat.le_of_ble_eq_true rfl) ?_
  refine g_aload_n dX10_most_0 rfl rfl ?_
  refine g_get dX10_most_1 fl_X10_128 hp_0 rfl ?_
  refine g_if_ne (tgt := 9) dX10_most_4 (by decide) (fun c_4 => ?_) (fun c_4 => ?_)
  · refine g_iload_n dX10_most_9 rfl rfl ?_
    rcases sw_two x with h | h | h | h
    · refine g_tableOut (tgt := 60) dX10_most_10 h (by decide) ?_
      refine g_ic_m1 dX10_most_60 ?_
      exact g_iret dX10_most_61 ⟨by rw [show mstS A I x = (-1) from by unfold mstS; rw [if_neg c_4, if_pos h]], rfl⟩
    · subst h
      refine g_tableIn (off := 26) (tgt := 36) dX10_most_10 (by decide) (by decide) rfl (by decide) ?_
      refine g_aload_n dX10_most_36 rfl rfl ?_
      refine g_get dX10_most_37 fl_X10_46 hp_0 rfl ?_
      refine g_callV dX10_most_40 cv_X10_187 (as' := []) hp_19 rfl (h_rich isS_19) (by decide) rfl rfl (Nat.le_of_ble_eq_true rfl) ?_
      rintro _ _ ⟨rfl, rfl⟩
      exact g_iret dX10_most_43 ⟨by rw [show mstS A I 0 = richS (A 20) from by unfold mstS; rw [if_neg c_4, if_neg (by decide)]; rfl], rfl⟩
    · subst h
      refine g_tableIn (off := 34) (tgt := 44) dX10_most_10 (by decide) (by decide) rfl (by decide) ?_
      refine g_aload_n dX10_most_44 rfl rfl ?_
      refine g_get dX10_most_45 fl_X10_46 hp_0 rfl ?_
      refine g_callV dX10_most_48 cv_X10_190 (as' := []) hp_19 rfl (h_dry isS_19) (by decide) rfl rfl (Nat.le_of_ble_eq_true rfl) ?_
      rintro _ _ ⟨rfl, rfl⟩
      exact g_iret dX10_most_51 ⟨by rw [show mstS A I 1 = dryS (A 20) from by unfold mstS; rw [if_neg c_4, if_neg (by decide)]; rfl], rfl⟩
    · subst h
      refine g_tableIn (off := 42) (tgt := 52) dX10_most_10 (by decide) (by decide) rfl (by decide) ?_
      refine g_aload_n dX10_most_52 rfl rfl ?_
      refine g_get dX10_most_53 fl_X10_46 hp_0 rfl ?_
      refine g_callV dX10_most_56 cv_X10_193 (as' := []) hp_19 rfl (h_need isS_19) (by decide) rfl rfl (Nat.le_of_ble_eq_true rfl) ?_
      rintro _ _ ⟨rfl, rfl⟩
      exact g_iret dX10_most_59 ⟨by rw [show mstS A I 2 = needS (A 20) from by unfold mstS; rw [if_neg c_4, if_neg (by decide)]; rfl], rfl⟩
  · refine g_ic_m1 dX10_most_7 ?_
    exact g_iret dX10_most_8 ⟨by rw [show mstS A I x = (-1) from if_pos c_4], rfl⟩

/-! many turns, each kept -/
def nsT (i : Nat) : Bool := nsc i && !([20, 21, 26].contains i)
def niT (i k : Nat) : Bool := nsi i k && !(i == 25 && (k == 1 || k == 2))
def smT (A I A' I' : Nat → Nat → Int32) : Prop := (∀ i, nsT i = true → A' i = A i) ∧ ∀ i k, niT i k = true → I' i k = I i k
theorem smT_rf {A I : Nat → Nat → Int32} : smT A I A I := ⟨fun _ _ => rfl, fun _ _ _ => rfl⟩
theorem smT_tr {A A1 A2 I I1 I2 : Nat → Nat → Int32} (h : smT A I A1 I1) (k : smT A1 I1 A2 I2) : smT A I A2 I2 :=
  ⟨fun i z => (k.1 i z).trans (h.1 i z), fun i l z => (k.2 i l z).trans (h.2 i l z)⟩
abbrev TC : Type := ((Nat → Int32) × (Nat → Int32)) × (Nat → Int32) × Int32 × Int32
def cor (A I : Nat → Nat → Int32) : TC := ((A 20, A 21), A 26, I 25 2, I 25 1)
def kpT (s : TC) : TC := (s.1, kpR s.2.1 s.1.1 s.2.2.1 143, rm (s.2.2.1 + 1) 40, mn 40 (s.2.2.2 + 1))
def tuS (C Z : Nat → Int32) (hold : Int32) (s : TC) : TC := (tnS C Z hold s.1, (kpT s).2)
theorem smT_kp {A I : Nat → Nat → Int32} : smT A I (kA A I) (kI I) :=
  ⟨fun i z => up_ne (by rintro rfl; revert z; decide), fun i k z => by
    unfold kI up2
    rw [if_neg (by rintro ⟨rfl, rfl⟩; revert z; decide), if_neg (by rintro ⟨rfl, rfl⟩; revert z; decide)]⟩
theorem smT_scr {A I A1 I1 : Nat → Nat → Int32} (h : scr A I A1 I1) : smT A I A1 I1 := by
  obtain ⟨V, K, t, rfl, rfl⟩ := h
  refine ⟨fun i z => ?_, fun i k z => if_neg (by rintro ⟨rfl, rfl⟩; revert z; decide)⟩
  rw [up_ne (by rintro rfl; revert z; decide), up_ne (by rintro rfl; revert z; decide)]
theorem smT_S {A I : Nat → Nat → Int32} {f g : Nat → Int32} : smT A I (upS A 20 21 f g) I :=
  ⟨fun i z => upS_ne (by rintro rfl; revert z; decide) (by rintro rfl; revert z; decide), fun _ _ _ => rfl⟩
theorem cor_S {A I A3 I3 : Nat → Nat → Int32} {f g : Nat → Int32} (h : scr A I A3 I3) : cor (upS A3 20 21 f g) I3 = ((f, g), A 26, I 25 2, I 25 1) := by
  obtain ⟨V, K, t, rfl, rfl⟩ := h
  rfl
theorem cor_tu {A I A3 I3 : Nat → Nat → Int32} (h : scr (kA A I) (kI I) A3 I3) : cor (upS A3 20 21 (tnsS ((kA A I) 12) ((kA A I) 13) ((kI I) 11 5) (1 : Int32).toNatClampNeg ((kA A I) 20, (kA A I) 21)).1 (tnsS ((kA A I) 12) ((kA A I) 13) ((kI I) 11 5) (1 : Int32).toNatClampNeg ((kA A I) 20, (kA A I) 21)).2) I3 = tuS (A 12) (A 13) (I 11 5) (cor A I) := by
  rw [cor_S h]
  rfl
set_option maxHeartbeats 4000000 in
set_option maxRecDepth 100000 in
theorem m_turn_loop {A : Nat → Nat → Int32} {L : Nat → Nat → Int64} {I : Nat → Nat → Int32} {X : Nat → Int64} {n0 : Int32} {Q : Option Value → m_H → Prop} (hQ : ∀ A1 I1, smT A I A1 I1 → cor A1 I1 = itn (fun _ => tuS (A 12) (A 13) (I 11 5)) n0.toNatClampNeg (cor A I) → Q (some (.int (gt 143 (A1 20) 5))) (hp A1 L I1 X)) : ∀ n k A2 I2, smT A I A2 I2 → cor A2 I2 = itn (fun _ => tuS (A 12) (A 13) (I 11 5)) k (cor A I) → k ≤ n0.toNatClampNeg → n0.toNatClampNeg - k < n → G 6 RX10 cX10_turn 3 (some .int) Q 55 [some (.ref 0), some (.int n0), some (.int (nI k))] [] (hp A2 L I2 X) := by
  intro n
  induction n with
  | zero => intro k A2 I2 hm hc h1 h2; omega
  | succ n ih =>
    intro k A2 I2 hm hc h1 h2
    have hb := clamp_lt n0
    refine g_iload_n dX10_turn_55 rfl rfl ?_
    refine g_iload_n dX10_turn_56 rfl rfl ?_
    refine g_icmp_ge (tgt := 89) dX10_turn_57 (by decide) (fun c_57 => ?_) (fun c_57 => ?_)
    · have h6 := (nI_gen (k := k) (by omega)).mp c_57
      have hkn : k = n0.toNatClampNeg := by omega
      subst hkn
      refine g_aload_n dX10_turn_89 rfl rfl ?_
      refine g_get dX10_turn_90 fl_X10_46 hp_0 rfl ?_
      refine g_ic_5 dX10_turn_93 ?_
      refine g_callV dX10_turn_94 cv_X10_135 (as' := [_]) hp_19 rfl (h_get isS_19) (by decide) rfl rfl (Nat.le_of_ble_eq_true rfl) ?_
      rintro _ _ ⟨rfl, rfl⟩
      exact g_iret dX10_turn_97 (hQ A2 I2 hm hc)
    · refine g_aload_n dX10_turn_60 rfl rfl ?_
      refine g_get dX10_turn_61 fl_X10_55 hp_0 rfl ?_
      refine g_aload_n dX10_turn_64 rfl rfl ?_
      refine g_get dX10_turn_65 fl_X10_46 hp_0 rfl ?_
      refine g_callV dX10_turn_68 cv_X10_218 (as' := [_]) hp_25 rfl (a_keep isS_19) (by decide) rfl rfl (Nat.le_of_ble_eq_true rfl) ?_
      rintro _ _ ⟨rfl, rfl⟩
      rw [← kA_def, ← kI_def]
      refine g_aload_n dX10_turn_71 rfl rfl ?_
      refine g_get dX10_turn_72 fl_X10_46 hp_0 rfl ?_
      refine g_ic_1 dX10_turn_75 ?_
      refine g_aload_n dX10_turn_76 rfl rfl ?_
      refine g_get dX10_turn_77 fl_X10_35 hp_0 rfl ?_
      refine g_callV dX10_turn_80 cv_X10_221 (as' := [_, _]) hp_19 rfl (h_turns isS_19) (by decide) rfl rfl (Nat.le_of_ble_eq_true rfl) ?_
      rintro _ _ ⟨rfl, A3, I3, h3, rfl⟩
      refine g_iinc1 dX10_turn_83 rfl (by decide) ?_
      refine g_goto (tgt := 55) dX10_turn_86 (by decide) ?_
      rw [nI_1]
      exact ih (k + 1) _ I3 (smT_tr hm (smT_tr smT_kp (smT_tr (smT_scr h3) smT_S))) (by rw [cor_tu h3, hm.1 12 (by decide), hm.1 13 (by decide), hm.2 11 5 (by decide), hc]; rfl) (by have := Nat.not_le.mp (fun z => c_57 ((nI_gen (k := k) (by omega)).mpr z)); omega) (by have := Nat.not_le.mp (fun z => c_57 ((nI_gen (k := k) (by omega)).mpr z)); omega)

def gdTurn (A I : Nat → Nat → Int32) (n : Int32) : Int32 := if I 0 12 = 0 then 0 else if n < 1 ∨ ¬ n ≤ 60 then 1 else if gt 143 (A 20) 8 + n ≤ 9999 then (-1) else 4
/-- some turns: refused, or they came about -/
def turnQ (A : Nat → Nat → Int32) (L : Nat → Nat → Int64) (I : Nat → Nat → Int32) (X : Nat → Int64) (n : Int32) : Option Value → m_H → Prop := fun r_ H_ =>
  (¬ gdTurn A I n = (-1) ∧ r_ = some (.int (-1)) ∧ H_ = hp (up A 45 (rfS (A 45) (gdTurn A I n))) L I X) ∨
  (gdTurn A I n = (-1) ∧ ∃ A1 I1, smT A I A1 I1 ∧ cor A1 I1 = itn (fun _ => tuS (A 12) (A 13) (I 11 5)) n.toNatClampNeg (cor A I) ∧ r_ = some (.int (gt 143 (A1 20) 5)) ∧ H_ = hp A1 L I1 X)
set_option maxHeartbeats 4000000 in
set_option maxRecDepth 100000 in
theorem m_turn {A : Nat → Nat → Int32} {L : Nat → Nat → Int64} {I : Nat → Nat → Int32} {X : Nat → Int64} {n : Int32}  : Con 6 yX10_turn cX10_turn 3 (some .int) [.ref 0, .int n] (hp A L I X) (turnQ A L I X n) := by
  refine m_con (by decide) (Nat.le_of_ble_eq_true rfl) ?_
  refine g_aload_n dX10_turn_0 rfl rfl ?_
  refine g_get dX10_turn_1 fl_X10_128 hp_0 rfl ?_
  refine g_if_ne (tgt := 13) dX10_turn_4 (by decide) (fun c_4 => ?_) (fun c_4 => ?_)
  · refine g_iload_n dX10_turn_13 rfl rfl ?_
    refine g_ic_1 dX10_turn_14 ?_
    refine g_icmp_lt (tgt := 24) dX10_turn_15 (by decide) (fun c_15 => ?_) (fun c_15 => ?_)
    · refine g_aload_n dX10_turn_24 rfl rfl ?_
      refine g_ic_1 dX10_turn_25 ?_
      refine g_callV dX10_turn_26 cv_X10_215 (as' := [_]) hp_0 rfl m_refuse (by decide) rfl rfl (Nat.le_of_ble_eq_true rfl) ?_
      rintro _ _ ⟨rfl, rfl⟩
      exact g_iret dX10_turn_29 (Or.inl ⟨by simp [gdTurn, c_4, c_15], rfl, by simp [gdTurn, c_4, c_15]⟩)
    · refine g_iload_n dX10_turn_18 rfl rfl ?_
      refine g_bipush (v := 60) dX10_turn_19 (by decide) ?_
      refine g_icmp_le (tgt := 30) dX10_turn_21 (by decide) (fun c_21 => ?_) (fun c_21 => ?_)
      · refine g_aload_n dX10_turn_30 rfl rfl ?_
        refine g_get dX10_turn_31 fl_X10_46 hp_0 rfl ?_
        refine g_bipush (v := 8) dX10_turn_34 (by decide) ?_
        refine g_callV dX10_turn_36 cv_X10_135 (as' := [_]) hp_19 rfl (h_get isS_19) (by decide) rfl rfl (Nat.le_of_ble_eq_true rfl) ?_
        rintro _ _ ⟨rfl, rfl⟩
        refine g_iload_n dX10_turn_39 rfl rfl ?_
        refine g_iadd dX10_turn_40 ?_
        refine g_sipush (v := 9999) dX10_turn_41 (by decide) ?_
        refine g_icmp_le (tgt := 53) dX10_turn_44 (by decide) (fun c_44 => ?_) (fun c_44 => ?_)
        · refine g_ic_0 dX10_turn_53 ?_
          refine g_istore_n dX10_turn_54 rfl (by decide) ?_
          exact m_turn_loop (fun A1 I1 h1 h2 => Or.inr ⟨by simp [gdTurn, c_4, c_15, c_21, c_44], A1, I1, h1, h2, rfl, rfl⟩) _ 0 A I smT_rf rfl (Nat.zero_le _) (Nat.lt_succ_self _)
        · refine g_aload_n dX10_turn_47 rfl rfl ?_
          refine g_ic_4 dX10_turn_48 ?_
          refine g_callV dX10_turn_49 cv_X10_215 (as' := [_]) hp_0 rfl m_refuse (by decide) rfl rfl (Nat.le_of_ble_eq_true rfl) ?_
          rintro _ _ ⟨rfl, rfl⟩
          exact g_iret dX10_turn_52 (Or.inl ⟨by simp [gdTurn, c_4, c_15, c_21, c_44], rfl, by simp [gdTurn, c_4, c_15, c_21, c_44]⟩)
      · refine g_aload_n dX10_turn_24 rfl rfl ?_
        refine g_ic_1 dX10_turn_25 ?_
        refine g_callV dX10_turn_26 cv_X10_215 (as' := [_]) hp_0 rfl m_refuse (by decide) rfl rfl (Nat.le_of_ble_eq_true rfl) ?_
        rintro _ _ ⟨rfl, rfl⟩
        exact g_iret dX10_turn_29 (Or.inl ⟨by simp [gdTurn, c_4, c_15, c_21], rfl, by simp [gdTurn, c_4, c_15, c_21]⟩)
  · refine g_aload_n dX10_turn_7 rfl rfl ?_
    refine g_ic_0 dX10_turn_8 ?_
    refine g_callV dX10_turn_9 cv_X10_215 (as' := [_]) hp_0 rfl m_refuse (by decide) rfl rfl (Nat.le_of_ble_eq_true rfl) ?_
    rintro _ _ ⟨rfl, rfl⟩
    exact g_iret dX10_turn_12 (Or.inl ⟨by simp [gdTurn, c_4], rfl, by simp [gdTurn, c_4]⟩)

/-! what strikes ahead of a decade's turn: the hail, the thieves -/
def sk1 (f : Nat → Int32) (x : Int64) (hail : Int32) : (Nat → Int32) × Int64 := if hail ≤ drV x 10 then (f, drX x) else if oM f (drV (drX x) (gt 143 f 9)) 2 ≤ 0 then (f, drX (drX x)) else (chM f (drV (drX x) (gt 143 f 9)), drX (drX x))
def sk2 (s : (Nat → Int32) × Int64) (th : Int32) : (Nat → Int32) × Int64 := if th ≤ drV s.2 10 then (s.1, drX s.2) else (pt 143 s.1 1 (gt 143 s.1 1 / 2), drX s.2)
theorem upX_up {X : Nat → Int64} {i : Nat} {a b : Int64} : up (up X i a) i b = up X i b := by
  funext j
  unfold up
  by_cases h : j = i
  · rw [if_pos h, if_pos h]
  · rw [if_neg h, if_neg h, if_neg h]
set_option maxHeartbeats 4000000 in
set_option maxRecDepth 100000 in
theorem m_strike2 {A : Nat → Nat → Int32} {L : Nat → Nat → Int64} {I : Nat → Nat → Int32} {X : Nat → Int64} {s : (Nat → Int32) × Int64} {Q : Option Value → m_H → Prop} (hQ : Q none (hp (upS A 20 21 (sk2 s (I 0 15)).1 (A 21)) L I (up X 44 (sk2 s (I 0 15)).2))) : G 4 RX10 cX10_strike 2 none Q 53 [some (.ref 0), none] [] (hp (upS A 20 21 s.1 (A 21)) L I (up X 44 s.2)) := by
  refine g_aload_n dX10_strike_53 rfl rfl ?_
  refine g_get dX10_strike_54 fl_X10_78 hp_0 rfl ?_
  refine g_bipush (v := 10) dX10_strike_57 (by decide) ?_
  refine g_callV dX10_strike_59 cv_X10_251 (as' := [_]) hp_44 rfl d_below (by decide) rfl rfl (Nat.le_of_ble_eq_true rfl) ?_
  rintro _ _ ⟨rfl, rfl⟩
  try rw [upX_up]
  try rw [up_at]
  refine g_aload_n dX10_strike_62 rfl rfl ?_
  refine g_get dX10_strike_63 fl_X10_205 hp_0 rfl ?_
  refine g_icmp_ge (tgt := 87) dX10_strike_66 (by decide) (fun c_66 => ?_) (fun c_66 => ?_)
  · exact g_vret dX10_strike_87 (by rw [show sk2 s (I 0 15) = (s.1, drX s.2) from if_pos c_66] at hQ; exact hQ)
  · refine g_aload_n dX10_strike_69 rfl rfl ?_
    refine g_get dX10_strike_70 fl_X10_46 hp_0 rfl ?_
    refine g_ic_1 dX10_strike_73 ?_
    refine g_aload_n dX10_strike_74 rfl rfl ?_
    refine g_get dX10_strike_75 fl_X10_46 hp_0 rfl ?_
    refine g_ic_1 dX10_strike_78 ?_
    refine g_callV dX10_strike_79 cv_X10_135 (as' := [_]) hp_19 rfl (h_get isS_19) (by decide) rfl rfl (Nat.le_of_ble_eq_true rfl) ?_
    rintro _ _ ⟨rfl, rfl⟩
    try simp only [upS_upS (show (20 : Nat) ≠ 21 by decide), upS_r (show (20 : Nat) ≠ 21 by decide), upS_c, kA_20, kA_21, kA_17, up_17]
    refine g_ic_2 dX10_strike_82 ?_
    refine g_idiv dX10_strike_83 (by decide) ?_
    refine g_callV dX10_strike_84 cv_X10_238 (as' := [_, _]) hp_19 rfl (h_put isS_19) (by decide) rfl rfl (Nat.le_of_ble_eq_true rfl) ?_
    rintro _ _ ⟨rfl, rfl⟩
    try simp only [upS_upS (show (20 : Nat) ≠ 21 by decide), upS_r (show (20 : Nat) ≠ 21 by decide), upS_c, kA_20, kA_21, kA_17, up_17]
    exact g_vret dX10_strike_87 (by rw [show sk2 s (I 0 15) = (pt 143 s.1 1 (gt 143 s.1 1 / 2), drX s.2) from if_neg c_66] at hQ; exact hQ)

def skS (f : Nat → Int32) (x : Int64) (hail th : Int32) : (Nat → Int32) × Int64 := sk2 (sk1 f x hail) th
set_option maxHeartbeats 4000000 in
set_option maxRecDepth 100000 in
theorem m_strike {A : Nat → Nat → Int32} {L : Nat → Nat → Int64} {I : Nat → Nat → Int32} {X : Nat → Int64}   : Con 4 yX10_strike cX10_strike 2 none [.ref 0] (hp A L I X) (fun r_ H_ => r_ = none ∧ H_ = hp (upS A 20 21 (skS (A 20) (X 44) (I 0 14) (I 0 15)).1 (A 21)) L I (up X 44 (skS (A 20) (X 44) (I 0 14) (I 0 15)).2)) := by
  refine m_con (by decide) (Nat.le_of_ble_eq_true rfl) ?_
  refine g_aload_n dX10_strike_0 rfl rfl ?_
  refine g_get dX10_strike_1 fl_X10_78 hp_0 rfl ?_
  refine g_bipush (v := 10) dX10_strike_4 (by decide) ?_
  refine g_callV dX10_strike_6 cv_X10_251 (as' := [_]) hp_44 rfl d_below (by decide) rfl rfl (Nat.le_of_ble_eq_true rfl) ?_
  rintro _ _ ⟨rfl, rfl⟩
  try rw [upX_up]
  try rw [up_at]
  refine g_aload_n dX10_strike_9 rfl rfl ?_
  refine g_get dX10_strike_10 fl_X10_202 hp_0 rfl ?_
  refine g_icmp_ge (tgt := 53) dX10_strike_13 (by decide) (fun c_13 => ?_) (fun c_13 => ?_)
  · rw [show hp A L I (up X 44 (drX (X 44))) = hp (upS A 20 21 (A 20) (A 21)) L I (up X 44 (drX (X 44))) by rw [upS_self]]
    refine g_loc (ls' := [some (.ref 0), none]) (fun i v h => by rcases i with _|_|_ <;> first | exact h | cases h) ?_
    exact m_strike2 (s := (A 20, drX (X 44))) (by rw [← show sk1 (A 20) (X 44) (I 0 14) = (A 20, drX (X 44)) from if_pos c_13]; exact ⟨rfl, rfl⟩)
  · refine g_aload_n dX10_strike_16 rfl rfl ?_
    refine g_get dX10_strike_17 fl_X10_78 hp_0 rfl ?_
    refine g_aload_n dX10_strike_20 rfl rfl ?_
    refine g_get dX10_strike_21 fl_X10_46 hp_0 rfl ?_
    refine g_bipush (v := 9) dX10_strike_24 (by decide) ?_
    refine g_callV dX10_strike_26 cv_X10_135 (as' := [_]) hp_19 rfl (h_get isS_19) (by decide) rfl rfl (Nat.le_of_ble_eq_true rfl) ?_
    rintro _ _ ⟨rfl, rfl⟩
    try simp only [upS_upS (show (20 : Nat) ≠ 21 by decide), upS_r (show (20 : Nat) ≠ 21 by decide), upS_c, kA_20, kA_21, kA_17, up_17]
    refine g_callV dX10_strike_29 cv_X10_251 (as' := [_]) hp_44 rfl d_below (by decide) rfl rfl (Nat.le_of_ble_eq_true rfl) ?_
    rintro _ _ ⟨rfl, rfl⟩
    try rw [upX_up]
    try rw [up_at]
    refine g_istore_n dX10_strike_32 rfl (by decide) ?_
    refine g_aload_n dX10_strike_33 rfl rfl ?_
    refine g_get dX10_strike_34 fl_X10_46 hp_0 rfl ?_
    refine g_iload_n dX10_strike_37 rfl rfl ?_
    refine g_ic_2 dX10_strike_38 ?_
    refine g_callV dX10_strike_39 cv_X10_151 (as' := [_, _]) hp_19 rfl (h_oM isS_19) (by decide) rfl rfl (Nat.le_of_ble_eq_true rfl) ?_
    rintro _ _ ⟨rfl, rfl⟩
    try simp only [upS_upS (show (20 : Nat) ≠ 21 by decide), upS_r (show (20 : Nat) ≠ 21 by decide), upS_c, kA_20, kA_21, kA_17, up_17]
    refine g_if_le (tgt := 53) dX10_strike_42 (by decide) (fun c_42 => ?_) (fun c_42 => ?_)
    · rw [show hp A L I (up X 44 (drX (drX (X 44)))) = hp (upS A 20 21 (A 20) (A 21)) L I (up X 44 (drX (drX (X 44)))) by rw [upS_self]]
      refine g_loc (ls' := [some (.ref 0), none]) (fun i v h => by rcases i with _|_|_ <;> first | exact h | cases h) ?_
      exact m_strike2 (s := (A 20, drX (drX (X 44)))) (by rw [← show sk1 (A 20) (X 44) (I 0 14) = (A 20, drX (drX (X 44))) from (if_neg c_13).trans (if_pos c_42)]; exact ⟨rfl, rfl⟩)
    · refine g_aload_n dX10_strike_45 rfl rfl ?_
      refine g_get dX10_strike_46 fl_X10_46 hp_0 rfl ?_
      refine g_iload_n dX10_strike_49 rfl rfl ?_
      refine g_callV dX10_strike_50 cv_X10_232 (as' := [_]) hp_19 rfl (h_chip isS_19) (by decide) rfl rfl (Nat.le_of_ble_eq_true rfl) ?_
      rintro _ _ ⟨rfl, rfl⟩
      try simp only [upS_upS (show (20 : Nat) ≠ 21 by decide), upS_r (show (20 : Nat) ≠ 21 by decide), upS_c, kA_20, kA_21, kA_17, up_17]
      refine g_loc (ls' := [some (.ref 0), none]) (fun i v h => by rcases i with _|_|_ <;> first | exact h | cases h) ?_
      exact m_strike2 (s := (chM (A 20) (drV (drX (X 44)) (gt 143 (A 20) 9)), drX (drX (X 44)))) (by rw [← show sk1 (A 20) (X 44) (I 0 14) = (chM (A 20) (drV (drX (X 44)) (gt 143 (A 20) 9)), drX (drX (X 44))) from (if_neg c_13).trans (if_neg c_42)]; exact ⟨rfl, rfl⟩)
