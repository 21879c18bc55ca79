theorem jn_cases (s : Int32) : s = 43 ∨ s = 45 ∨ s = 42 ∨ s = 47 ∨ s = 61 ∨ s = 60 ∨ s = 62 ∨ s = 38 ∨ s = 124 ∨ (¬ s = 43 ∧ ¬ s = 45 ∧ ¬ s = 42 ∧ ¬ s = 47 ∧ ¬ s = 61 ∧ ¬ s = 60 ∧ ¬ s = 62 ∧ ¬ s = 38 ∧ ¬ s = 124) := by
  by_cases h43 : s = 43
  · exact Or.inl h43
  by_cases h45 : s = 45
  · exact Or.inr (Or.inl h45)
  by_cases h42 : s = 42
  · exact Or.inr (Or.inr (Or.inl h42))
  by_cases h47 : s = 47
  · exact Or.inr (Or.inr (Or.inr (Or.inl h47)))
  by_cases h61 : s = 61
  · exact Or.inr (Or.inr (Or.inr (Or.inr (Or.inl h61))))
  by_cases h60 : s = 60
  · exact Or.inr (Or.inr (Or.inr (Or.inr (Or.inr (Or.inl h60)))))
  by_cases h62 : s = 62
  · exact Or.inr (Or.inr (Or.inr (Or.inr (Or.inr (Or.inr (Or.inl h62))))))
  by_cases h38 : s = 38
  · exact Or.inr (Or.inr (Or.inr (Or.inr (Or.inr (Or.inr (Or.inr (Or.inl h38)))))))
  by_cases h124 : s = 124
  · exact Or.inr (Or.inr (Or.inr (Or.inr (Or.inr (Or.inr (Or.inr (Or.inr (Or.inl h124))))))))
  exact Or.inr (Or.inr (Or.inr (Or.inr (Or.inr (Or.inr (Or.inr (Or.inr (Or.inr (⟨h43, h45, h42, h47, h61, h60, h62, h38, h124⟩)))))))))
theorem i32_ne {s v : Int32} (h : ¬ s = v) : ¬ s.toInt = v.toInt := fun z => h (Int32.toInt_inj.mp z)
theorem jnd_d {l s r : Int32} (h : ¬ s = 43 ∧ ¬ s = 45 ∧ ¬ s = 42 ∧ ¬ s = 47 ∧ ¬ s = 61 ∧ ¬ s = 60 ∧ ¬ s = 62 ∧ ¬ s = 38 ∧ ¬ s = 124) : jnd l s r = (if r = 0 then 1 else 0) := by
  obtain ⟨h43, h45, h42, h47, h61, h60, h62, h38, h124⟩ := h
  unfold jnd
  rw [if_neg h43, if_neg h45, if_neg h42, if_neg h47, if_neg h61, if_neg h60, if_neg h62, if_neg h38, if_neg h124]
theorem jn_off {s : Int32} (h38 : ¬ s = 38) (h42 : ¬ s = 42) (h43 : ¬ s = 43) (h45 : ¬ s = 45) (h47 : ¬ s = 47) (h60 : ¬ s = 60) (h61 : ¬ s = 61) (h62 : ¬ s = 62) (h124 : ¬ s = 124) : Op.lookupswitch.offset [(38, 147), (42, 95), (43, 83), (45, 89), (47, 101), (60, 125), (61, 114), (62, 136), (124, 152)] 157 s.toInt = 157 := by
  have a38 : ¬ s.toInt = 38 := i32_ne h38
  have a42 : ¬ s.toInt = 42 := i32_ne h42
  have a43 : ¬ s.toInt = 43 := i32_ne h43
  have a45 : ¬ s.toInt = 45 := i32_ne h45
  have a47 : ¬ s.toInt = 47 := i32_ne h47
  have a60 : ¬ s.toInt = 60 := i32_ne h60
  have a61 : ¬ s.toInt = 61 := i32_ne h61
  have a62 : ¬ s.toInt = 62 := i32_ne h62
  have a124 : ¬ s.toInt = 124 := i32_ne h124
  simp only [Op.lookupswitch.offset, List.find?, beq_iff_eq]
  simp [Ne.symm a38, Ne.symm a42, Ne.symm a43, Ne.symm a45, Ne.symm a47, Ne.symm a60, Ne.symm a61, Ne.symm a62, Ne.symm a124, a38, a42, a43, a45, a47, a60, a61, a62, a124]
set_option maxHeartbeats 4000000 in
set_option maxRecDepth 100000 in
theorem l_joined {A : Nat → Nat → Int32} {L : Nat → Nat → Int64} {I : Nat → Nat → Int32} {X : Nat → Int64} {l s r : Int32} : Con 1 yX5_joined cX5_joined 3 (some .long) [.int l, .int s, .int r] (hp A L I X) (fun r_ H_ => r_ = some (.long (jnd l s r)) ∧ H_ = (hp A L I X)) := by
  refine m_con (by decide) (Nat.le_of_ble_eq_true rfl) ?_
  refine g_iload_n dX5_joined_0 rfl rfl ?_
  rcases jn_cases s with h | h | h | h | h | h | h | h | h | h
  · subst h
    refine g_lookup (tgt := 84) (off := 83) dX5_joined_1 (by decide) (by decide +kernel) (by decide) ?_
    refine g_iload_n dX5_joined_84 rfl rfl ?_
    refine g_i2l dX5_joined_85 ?_
    refine g_iload_n dX5_joined_86 rfl rfl ?_
    refine g_i2l dX5_joined_87 ?_
    refine g_ladd dX5_joined_88 ?_
    exact g_lret dX5_joined_89 ⟨congrArg (fun z => some (Value.long z)) (show _ = jnd _ _ _ from rfl), rfl⟩
  · subst h
    refine g_lookup (tgt := 90) (off := 89) dX5_joined_1 (by decide) (by decide +kernel) (by decide) ?_
    refine g_iload_n dX5_joined_90 rfl rfl ?_
    refine g_i2l dX5_joined_91 ?_
    refine g_iload_n dX5_joined_92 rfl rfl ?_
    refine g_i2l dX5_joined_93 ?_
    refine g_lsub dX5_joined_94 ?_
    exact g_lret dX5_joined_95 ⟨congrArg (fun z => some (Value.long z)) (show _ = jnd _ _ _ from rfl), rfl⟩
  · subst h
    refine g_lookup (tgt := 96) (off := 95) dX5_joined_1 (by decide) (by decide +kernel) (by decide) ?_
    refine g_iload_n dX5_joined_96 rfl rfl ?_
    refine g_i2l dX5_joined_97 ?_
    refine g_iload_n dX5_joined_98 rfl rfl ?_
    refine g_i2l dX5_joined_99 ?_
    refine g_lmul dX5_joined_100 ?_
    exact g_lret dX5_joined_101 ⟨congrArg (fun z => some (Value.long z)) (show _ = jnd _ _ _ from rfl), rfl⟩
  · subst h
    refine g_lookup (tgt := 102) (off := 101) dX5_joined_1 (by decide) (by decide +kernel) (by decide) ?_
    refine g_iload_n dX5_joined_102 rfl rfl ?_
    refine g_if_ne (tgt := 110) dX5_joined_103 (by decide) (fun c_103 => ?_) (fun c_103 => ?_)
    · refine g_iload_n dX5_joined_110 rfl rfl ?_
      refine g_iload_n dX5_joined_111 rfl rfl ?_
      refine g_idiv dX5_joined_112 c_103 ?_
      refine g_i2l dX5_joined_113 ?_
      exact g_lret dX5_joined_114 ⟨congrArg (fun z => some (Value.long z)) (show _ = jnd _ _ _ from (if_neg c_103).symm), rfl⟩
    · refine g_lconst (v := 0) dX5_joined_106 rfl ?_
      refine g_goto (tgt := 114) dX5_joined_107 (by decide) ?_
      exact g_lret dX5_joined_114 ⟨congrArg (fun z => some (Value.long z)) (show _ = jnd _ _ _ from (if_pos c_103).symm), rfl⟩
  · subst h
    refine g_lookup (tgt := 115) (off := 114) dX5_joined_1 (by decide) (by decide +kernel) (by decide) ?_
    refine g_iload_n dX5_joined_115 rfl rfl ?_
    refine g_iload_n dX5_joined_116 rfl rfl ?_
    refine g_icmp_ne (tgt := 124) dX5_joined_117 (by decide) (fun c_117 => ?_) (fun c_117 => ?_)
    · refine g_lconst (v := 0) dX5_joined_124 rfl ?_
      exact g_lret dX5_joined_125 ⟨congrArg (fun z => some (Value.long z)) (show _ = jnd _ _ _ from (if_neg c_117).symm), rfl⟩
    · refine g_lconst (v := 1) dX5_joined_120 rfl ?_
      refine g_goto (tgt := 125) dX5_joined_121 (by decide) ?_
      exact g_lret dX5_joined_125 ⟨congrArg (fun z => some (Value.long z)) (show _ = jnd _ _ _ from (if_pos c_117).symm), rfl⟩
  · subst h
    refine g_lookup (tgt := 126) (off := 125) dX5_joined_1 (by decide) (by decide +kernel) (by decide) ?_
    refine g_iload_n dX5_joined_126 rfl rfl ?_
    refine g_iload_n dX5_joined_127 rfl rfl ?_
    refine g_icmp_ge (tgt := 135) dX5_joined_128 (by decide) (fun c_128 => ?_) (fun c_128 => ?_)
    · refine g_lconst (v := 0) dX5_joined_135 rfl ?_
      exact g_lret dX5_joined_136 ⟨congrArg (fun z => some (Value.long z)) (show _ = jnd _ _ _ from (if_neg (Int32.not_lt.mpr c_128)).symm), rfl⟩
    · refine g_lconst (v := 1) dX5_joined_131 rfl ?_
      refine g_goto (tgt := 136) dX5_joined_132 (by decide) ?_
      exact g_lret dX5_joined_136 ⟨congrArg (fun z => some (Value.long z)) (show _ = jnd _ _ _ from (if_pos (Int32.not_le.mp c_128)).symm), rfl⟩
  · subst h
    refine g_lookup (tgt := 137) (off := 136) dX5_joined_1 (by decide) (by decide +kernel) (by decide) ?_
    refine g_iload_n dX5_joined_137 rfl rfl ?_
    refine g_iload_n dX5_joined_138 rfl rfl ?_
    refine g_icmp_le (tgt := 146) dX5_joined_139 (by decide) (fun c_139 => ?_) (fun c_139 => ?_)
    · refine g_lconst (v := 0) dX5_joined_146 rfl ?_
      exact g_lret dX5_joined_147 ⟨congrArg (fun z => some (Value.long z)) (show _ = jnd _ _ _ from (if_neg (Int32.not_lt.mpr c_139)).symm), rfl⟩
    · refine g_lconst (v := 1) dX5_joined_142 rfl ?_
      refine g_goto (tgt := 147) dX5_joined_143 (by decide) ?_
      exact g_lret dX5_joined_147 ⟨congrArg (fun z => some (Value.long z)) (show _ = jnd _ _ _ from (if_pos (Int32.not_le.mp c_139)).symm), rfl⟩
  · subst h
    refine g_lookup (tgt := 148) (off := 147) dX5_joined_1 (by decide) (by decide +kernel) (by decide) ?_
    refine g_iload_n dX5_joined_148 rfl rfl ?_
    refine g_iload_n dX5_joined_149 rfl rfl ?_
    refine g_iand dX5_joined_150 ?_
    refine g_i2l dX5_joined_151 ?_
    exact g_lret dX5_joined_152 ⟨congrArg (fun z => some (Value.long z)) (show _ = jnd _ _ _ from rfl), rfl⟩
  · subst h
    refine g_lookup (tgt := 153) (off := 152) dX5_joined_1 (by decide) (by decide +kernel) (by decide) ?_
    refine g_iload_n dX5_joined_153 rfl rfl ?_
    refine g_iload_n dX5_joined_154 rfl rfl ?_
    refine g_ior dX5_joined_155 ?_
    refine g_i2l dX5_joined_156 ?_
    exact g_lret dX5_joined_157 ⟨congrArg (fun z => some (Value.long z)) (show _ = jnd _ _ _ from rfl), rfl⟩
  · refine g_lookup (tgt := 158) (off := 157) dX5_joined_1 (by decide) (by obtain ⟨h43, h45, h42, h47, h61, h60, h62, h38, h124⟩ := h; exact jn_off h38 h42 h43 h45 h47 h60 h61 h62 h124) (by decide) ?_
    refine g_iload_n dX5_joined_158 rfl rfl ?_
    refine g_if_ne (tgt := 166) dX5_joined_159 (by decide) (fun c_159 => ?_) (fun c_159 => ?_)
    · refine g_lconst (v := 0) dX5_joined_166 rfl ?_
      exact g_lret dX5_joined_167 ⟨congrArg (fun z => some (Value.long z)) (show _ = jnd _ _ _ from ((jnd_d h).trans (if_neg c_159)).symm), rfl⟩
    · refine g_lconst (v := 1) dX5_joined_162 rfl ?_
      refine g_goto (tgt := 167) dX5_joined_163 (by decide) ?_
      exact g_lret dX5_joined_167 ⟨congrArg (fun z => some (Value.long z)) (show _ = jnd _ _ _ from ((jnd_d h).trans (if_pos c_159)).symm), rfl⟩
