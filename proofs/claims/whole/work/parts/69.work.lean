/-! THE REFERENCE: words worked out -/
def woZ (c : Int32) (a b : Int64) : Int32 :=
  if c = 2 then boZ (a + b) else if c = 3 then boZ (a - b) else if c = 4 then boZ (a * b) else if c = 5 then (if lg_cmp b 0 = 0 then 0 else boZ (a / b))
  else if c = 6 then (if lg_cmp a b = 0 then 1 else 0) else if c = 7 then (if 0 ≤ lg_cmp a b then 0 else 1) else if c = 8 then (if lg_cmp a b ≤ 0 then 0 else 1)
  else if c = 10 then (if lg_cmp a 0 = 0 then 0 else if lg_cmp b 0 = 0 then 0 else 1) else (if lg_cmp a 0 = 0 then (if lg_cmp b 0 = 0 then 0 else 1) else 1)
set_option maxHeartbeats 800000 in
set_option maxRecDepth 100000 in
theorem e_worked {Hp : m_H} {c : Int32} {a b : Int64} (hc : c = 2 ∨ c = 3 ∨ c = 4 ∨ c = 5 ∨ c = 6 ∨ c = 7 ∨ c = 8 ∨ c = 10 ∨ c = 11) : Con 3 yX11_worked cX11_worked 5 (some .int) [.int c, .long a, .long b] Hp (fun r_ H_ => r_ = some (.int (woZ c a b)) ∧ H_ = Hp) := by
  refine m_con (by decide) (Nat.le_of_ble_eq_true rfl) ?_
  refine g_iload_n dX11_worked_0 rfl rfl ?_
  rcases hc with rfl | rfl | rfl | rfl | rfl | rfl | rfl | rfl | rfl
  · refine g_tableIn (off := 51) (tgt := 52) dX11_worked_1 (by decide) (by decide) rfl (by decide) ?_
    refine g_lload_n dX11_worked_52 rfl rfl ?_
    refine g_lload_n dX11_worked_53 rfl rfl ?_
    refine g_ladd dX11_worked_54 ?_
    refine g_callS dX11_worked_55 cs_X11_209 (as := [_]) e_bounded (by decide) rfl rfl (Nat.le_of_ble_eq_true rfl) ?_
    rintro _ _ ⟨rfl, rfl⟩
    exact g_iret dX11_worked_58 ⟨congrArg (fun z => some (Value.int z)) (by simp [woZ]), rfl⟩
  · refine g_tableIn (off := 58) (tgt := 59) dX11_worked_1 (by decide) (by decide) rfl (by decide) ?_
    refine g_lload_n dX11_worked_59 rfl rfl ?_
    refine g_lload_n dX11_worked_60 rfl rfl ?_
    refine g_lsub dX11_worked_61 ?_
    refine g_callS dX11_worked_62 cs_X11_209 (as := [_]) e_bounded (by decide) rfl rfl (Nat.le_of_ble_eq_true rfl) ?_
    rintro _ _ ⟨rfl, rfl⟩
    exact g_iret dX11_worked_65 ⟨congrArg (fun z => some (Value.int z)) (by simp [woZ]), rfl⟩
  · refine g_tableIn (off := 65) (tgt := 66) dX11_worked_1 (by decide) (by decide) rfl (by decide) ?_
    refine g_lload_n dX11_worked_66 rfl rfl ?_
    refine g_lload_n dX11_worked_67 rfl rfl ?_
    refine g_lmul dX11_worked_68 ?_
    refine g_callS dX11_worked_69 cs_X11_209 (as := [_]) e_bounded (by decide) rfl rfl (Nat.le_of_ble_eq_true rfl) ?_
    rintro _ _ ⟨rfl, rfl⟩
    exact g_iret dX11_worked_72 ⟨congrArg (fun z => some (Value.int z)) (by simp [woZ]), rfl⟩
  · refine g_tableIn (off := 72) (tgt := 73) dX11_worked_1 (by decide) (by decide) rfl (by decide) ?_
    refine g_lload_n dX11_worked_73 rfl rfl ?_
    refine g_lconst (v := 0) dX11_worked_74 rfl ?_
    refine g_lcmp dX11_worked_75 ?_
    refine g_if_ne (tgt := 83) dX11_worked_76 (by decide) (fun c_76 => ?_) (fun c_76 => ?_)
    · refine g_lload_n dX11_worked_83 rfl rfl ?_
      refine g_lload_n dX11_worked_84 rfl rfl ?_
      refine g_ldiv dX11_worked_85 (fun z => c_76 (lc_0.mpr z)) ?_
      refine g_callS dX11_worked_86 cs_X11_209 (as := [_]) e_bounded (by decide) rfl rfl (Nat.le_of_ble_eq_true rfl) ?_
      rintro _ _ ⟨rfl, rfl⟩
      exact g_iret dX11_worked_89 ⟨congrArg (fun z => some (Value.int z)) (by simp [woZ, c_76]), rfl⟩
    · refine g_ic_0 dX11_worked_79 ?_
      refine g_goto (tgt := 89) dX11_worked_80 (by decide) ?_
      exact g_iret dX11_worked_89 ⟨congrArg (fun z => some (Value.int z)) (by simp [woZ, c_76]), rfl⟩
  · refine g_tableIn (off := 89) (tgt := 90) dX11_worked_1 (by decide) (by decide) rfl (by decide) ?_
    refine g_lload_n dX11_worked_90 rfl rfl ?_
    refine g_lload_n dX11_worked_91 rfl rfl ?_
    refine g_lcmp dX11_worked_92 ?_
    refine g_if_ne (tgt := 100) dX11_worked_93 (by decide) (fun c_93 => ?_) (fun c_93 => ?_)
    · refine g_ic_0 dX11_worked_100 ?_
      exact g_iret dX11_worked_101 ⟨congrArg (fun z => some (Value.int z)) (by simp [woZ, c_93]), rfl⟩
    · refine g_ic_1 dX11_worked_96 ?_
      refine g_goto (tgt := 101) dX11_worked_97 (by decide) ?_
      exact g_iret dX11_worked_101 ⟨congrArg (fun z => some (Value.int z)) (by simp [woZ, c_93]), rfl⟩
  · refine g_tableIn (off := 101) (tgt := 102) dX11_worked_1 (by decide) (by decide) rfl (by decide) ?_
    refine g_lload_n dX11_worked_102 rfl rfl ?_
    refine g_lload_n dX11_worked_103 rfl rfl ?_
    refine g_lcmp dX11_worked_104 ?_
    refine g_if_ge (tgt := 112) dX11_worked_105 (by decide) (fun c_105 => ?_) (fun c_105 => ?_)
    · refine g_ic_0 dX11_worked_112 ?_
      exact g_iret dX11_worked_113 ⟨congrArg (fun z => some (Value.int z)) (by simp [woZ, c_105]), rfl⟩
    · refine g_ic_1 dX11_worked_108 ?_
      refine g_goto (tgt := 113) dX11_worked_109 (by decide) ?_
      exact g_iret dX11_worked_113 ⟨congrArg (fun z => some (Value.int z)) (by simp [woZ, c_105]), rfl⟩
  · refine g_tableIn (off := 113) (tgt := 114) dX11_worked_1 (by decide) (by decide) rfl (by decide) ?_
    refine g_lload_n dX11_worked_114 rfl rfl ?_
    refine g_lload_n dX11_worked_115 rfl rfl ?_
    refine g_lcmp dX11_worked_116 ?_
    refine g_if_le (tgt := 124) dX11_worked_117 (by decide) (fun c_117 => ?_) (fun c_117 => ?_)
    · refine g_ic_0 dX11_worked_124 ?_
      exact g_iret dX11_worked_125 ⟨congrArg (fun z => some (Value.int z)) (by simp [woZ, c_117]), rfl⟩
    · refine g_ic_1 dX11_worked_120 ?_
      refine g_goto (tgt := 125) dX11_worked_121 (by decide) ?_
      exact g_iret dX11_worked_125 ⟨congrArg (fun z => some (Value.int z)) (by simp [woZ, c_117]), rfl⟩
  · refine g_tableIn (off := 125) (tgt := 126) dX11_worked_1 (by decide) (by decide) rfl (by decide) ?_
    refine g_lload_n dX11_worked_126 rfl rfl ?_
    refine g_lconst (v := 0) dX11_worked_127 rfl ?_
    refine g_lcmp dX11_worked_128 ?_
    refine g_if_eq (tgt := 142) dX11_worked_129 (by decide) (fun c_129 => ?_) (fun c_129 => ?_)
    · refine g_ic_0 dX11_worked_142 ?_
      exact g_iret dX11_worked_143 ⟨congrArg (fun z => some (Value.int z)) (by simp [woZ, c_129]), rfl⟩
    · refine g_lload_n dX11_worked_132 rfl rfl ?_
      refine g_lconst (v := 0) dX11_worked_133 rfl ?_
      refine g_lcmp dX11_worked_134 ?_
      refine g_if_eq (tgt := 142) dX11_worked_135 (by decide) (fun c_135 => ?_) (fun c_135 => ?_)
      · refine g_ic_0 dX11_worked_142 ?_
        exact g_iret dX11_worked_143 ⟨congrArg (fun z => some (Value.int z)) (by simp [woZ, c_129, c_135]), rfl⟩
      · refine g_ic_1 dX11_worked_138 ?_
        refine g_goto (tgt := 143) dX11_worked_139 (by decide) ?_
        exact g_iret dX11_worked_143 ⟨congrArg (fun z => some (Value.int z)) (by simp [woZ, c_129, c_135]), rfl⟩
  · refine g_tableOut (tgt := 144) dX11_worked_1 (by decide) (by decide) ?_
    refine g_lload_n dX11_worked_144 rfl rfl ?_
    refine g_lconst (v := 0) dX11_worked_145 rfl ?_
    refine g_lcmp dX11_worked_146 ?_
    refine g_if_ne (tgt := 156) dX11_worked_147 (by decide) (fun c_147 => ?_) (fun c_147 => ?_)
    · refine g_ic_1 dX11_worked_156 ?_
      refine g_goto (tgt := 161) dX11_worked_157 (by decide) ?_
      exact g_iret dX11_worked_161 ⟨congrArg (fun z => some (Value.int z)) (by simp [woZ, c_147]), rfl⟩
    · refine g_lload_n dX11_worked_150 rfl rfl ?_
      refine g_lconst (v := 0) dX11_worked_151 rfl ?_
      refine g_lcmp dX11_worked_152 ?_
      refine g_if_eq (tgt := 160) dX11_worked_153 (by decide) (fun c_153 => ?_) (fun c_153 => ?_)
      · refine g_ic_0 dX11_worked_160 ?_
        exact g_iret dX11_worked_161 ⟨congrArg (fun z => some (Value.int z)) (by simp [woZ, c_147, c_153]), rfl⟩
      · refine g_ic_1 dX11_worked_156 ?_
        refine g_goto (tgt := 161) dX11_worked_157 (by decide) ?_
        exact g_iret dX11_worked_161 ⟨congrArg (fun z => some (Value.int z)) (by simp [woZ, c_147, c_153]), rfl⟩

theorem i64_inj {a b : Int32} : a.toInt64 = b.toInt64 ↔ a = b := by
  refine ⟨fun h => ?_, fun h => by rw [h]⟩
  have h2 := congrArg Int64.toInt h
  rw [Int32.toInt_toInt64, Int32.toInt_toInt64] at h2
  exact Int32.toInt_inj.mp h2
theorem i64_lt {a b : Int32} : a.toInt64 < b.toInt64 ↔ a < b := by
  rw [Int64.lt_iff_toInt_lt, Int32.lt_iff_toInt_lt, Int32.toInt_toInt64, Int32.toInt_toInt64]
theorem i64_div {a b : Int32} (ha : vOk true a) : (a / b).toInt64 = a.toInt64 / b.toInt64 := by
  have ha : -1000000 ≤ a.toInt ∧ a.toInt ≤ 1000000 := ha
  apply Int64.toInt_inj.mp
  rw [Int32.toInt_toInt64, Int64.toInt_div, Int32.toInt_div, Int32.toInt_toInt64, Int32.toInt_toInt64]
  have h1 : (a.toInt.tdiv b.toInt).natAbs ≤ a.toInt.natAbs := by
    rw [Int.natAbs_tdiv]
    exact Nat.div_le_self _ _
  rw [Int.bmod_eq_of_le (by omega) (by omega), Int.bmod_eq_of_le (by omega) (by omega)]
/-- a sign's word: both work it out alike -/
theorem wo_num {a b c : Int32} (hc : c = 43 ∨ c = 45 ∨ c = 42 ∨ c = 47) (ha : vOk true a) (hb : vOk true b) : woZ (sgC c) a.toInt64 b.toInt64 = hld (jnd a c b) := by
  rcases hc with rfl | rfl | rfl | rfl
  · exact bo_hld _
  · exact bo_hld _
  · exact bo_hld _
  · show (if lg_cmp b.toInt64 0 = 0 then 0 else boZ (a.toInt64 / b.toInt64)) = hld (if b = 0 then 0 else (a / b).toInt64)
    by_cases h : b = 0
    · subst h
      rfl
    · rw [if_neg h, if_neg (fun z => h (i64_inj.mp ((lc_0.mp z).trans (by rfl)))), bo_hld, i64_div ha]
theorem wo_cmp {a b c : Int32} (hc : c = 61 ∨ c = 60 ∨ c = 62) : woZ (sgC c) a.toInt64 b.toInt64 = hld (jnd a c b) := by
  rcases hc with rfl | rfl | rfl
  · show (if lg_cmp a.toInt64 b.toInt64 = 0 then 1 else 0) = hld (if a = b then 1 else 0)
    by_cases h : a = b
    · rw [if_pos h, if_pos (lc_0.mpr (i64_inj.mpr h))]
      decide
    · rw [if_neg h, if_neg (fun z => h (i64_inj.mp (lc_0.mp z)))]
      decide
  · show (if 0 ≤ lg_cmp a.toInt64 b.toInt64 then 0 else 1) = hld (if a < b then 1 else 0)
    by_cases h : a < b
    · rw [if_pos h, if_neg (fun z => absurd (i64_lt.mpr h) (Int64.not_lt.mpr ((lg_cmp_ge _ _).mp z)))]
      decide
    · rw [if_neg h, if_pos ((lg_cmp_ge _ _).mpr (Int64.not_lt.mp (fun z => h (i64_lt.mp z))))]
      decide
  · show (if lg_cmp a.toInt64 b.toInt64 ≤ 0 then 0 else 1) = hld (if b < a then 1 else 0)
    by_cases h : b < a
    · rw [if_pos h, if_neg (fun z => absurd (i64_lt.mpr h) (Int64.not_lt.mpr (lc_le.mp z)))]
      decide
    · rw [if_neg h, if_pos (lc_le.mpr (Int64.not_lt.mp (fun z => h (i64_lt.mp z))))]
      decide
theorem wo_log {a b c : Int32} (hc : c = 38 ∨ c = 124) (ha : vOk false a) (hb : vOk false b) : woZ (sgC c) a.toInt64 b.toInt64 = hld (jnd a c b) := by
  rcases hc with rfl | rfl <;> rcases ha with rfl | rfl <;> rcases hb with rfl | rfl <;> decide
theorem sg_num {c : Int32} (hc : c = 43 ∨ c = 45 ∨ c = 42 ∨ c = 47) : (sgC c = 2 ∨ sgC c = 3 ∨ sgC c = 4 ∨ sgC c = 5 ∨ sgC c = 6 ∨ sgC c = 7 ∨ sgC c = 8 ∨ sgC c = 10 ∨ sgC c = 11) ∧ opc (wd 2 c) = sgC c := by
  rcases hc with rfl | rfl | rfl | rfl <;> decide
theorem sg_cmp {c : Int32} (hc : c = 61 ∨ c = 60 ∨ c = 62) : (sgC c = 2 ∨ sgC c = 3 ∨ sgC c = 4 ∨ sgC c = 5 ∨ sgC c = 6 ∨ sgC c = 7 ∨ sgC c = 8 ∨ sgC c = 10 ∨ sgC c = 11) ∧ opc (wd 2 c) = sgC c := by
  rcases hc with rfl | rfl | rfl <;> decide
theorem sg_log {c : Int32} (hc : c = 38 ∨ c = 124) : (sgC c = 2 ∨ sgC c = 3 ∨ sgC c = 4 ∨ sgC c = 5 ∨ sgC c = 6 ∨ sgC c = 7 ∨ sgC c = 8 ∨ sgC c = 10 ∨ sgC c = 11) ∧ opc (wd 2 c) = sgC c := by
  rcases hc with rfl | rfl <;> decide
theorem op_num {v : Nat} (hv : v < 10000) : opc (wd 0 (nI v)) = 0 ∧ opv (wd 0 (nI v)) = nI v := by
  obtain ⟨d1, d2⟩ := wd_d (k := 0) (by decide) hv
  exact ⟨if_pos d1, (if_pos d1).trans d2⟩
theorem op_let {l : Nat} (hl : l < 6) : opc (wd 1 (nI l)) = 1 ∧ opv (wd 1 (nI l)) = nI l := by
  obtain ⟨d1, d2⟩ := wd_d (k := 1) (v := l) (by decide) (by omega)
  have n0 : ¬ wd 1 (nI l) / 10000 = 0 := fun z => absurd (d1.symm.trans z) (by decide)
  exact ⟨(if_neg n0).trans (if_pos d1), (if_neg n0).trans ((if_pos d1).trans d2)⟩
theorem op_not : opc (wd 2 33) = 9 := by decide
theorem tyV_2 {S : List Int32} {a b : Bool} {U : List Bool} (h : tyV S (a :: b :: U)) : ∃ r l S2, S = r :: l :: S2 ∧ vOk a r ∧ vOk b l ∧ tyV S2 U := by
  match S, h with
  | r :: l :: S2, h => exact ⟨r, l, S2, rfl, h.1, h.2.1, h.2.2⟩
theorem tyV_1 {S : List Int32} {a : Bool} {U : List Bool} (h : tyV S (a :: U)) : ∃ r S2, S = r :: S2 ∧ vOk a r ∧ tyV S2 U := by
  match S, h with
  | r :: S2, h => exact ⟨r, S2, rfl, h.1, h.2⟩
theorem st_num {V : ROW} {c r l : Int32} {S2 : List Int32} (hc : c = 43 ∨ c = 45 ∨ c = 42 ∨ c = 47) : stp V (wd 2 c) (r :: l :: S2) = hld (jnd l c r) :: S2 := by
  rcases hc with rfl | rfl | rfl | rfl <;> rfl
theorem st_cmp {V : ROW} {c r l : Int32} {S2 : List Int32} (hc : c = 61 ∨ c = 60 ∨ c = 62) : stp V (wd 2 c) (r :: l :: S2) = hld (jnd l c r) :: S2 := by
  rcases hc with rfl | rfl | rfl <;> rfl
theorem st_log {V : ROW} {c r l : Int32} {S2 : List Int32} (hc : c = 38 ∨ c = 124) : stp V (wd 2 c) (r :: l :: S2) = hld (jnd l c r) :: S2 := by
  rcases hc with rfl | rfl <;> rfl
theorem st_not {V : ROW} {r : Int32} {S2 : List Int32} (hr : vOk false r) : stp V (wd 2 33) (r :: S2) = (1 - r) :: S2 := by
  show hld (jnd 0 33 r) :: S2 = _
  rcases hr with rfl | rfl
  · exact congrArg (· :: S2) (by decide)
  · exact congrArg (· :: S2) (by decide)
/-- the reference's stack -/
def stK (K : ROW) (S : List Int32) : Prop := ∀ j, j < S.length → S.reverse[j]? = some (K j)
theorem stK_cons {K : ROW} {x : Int32} {S : List Int32} (h : stK K S) : stK (upd K S.length x) (x :: S) := by
  intro j hj
  rw [List.reverse_cons]
  simp only [List.length_cons] at hj
  by_cases e : j = S.length
  · subst e
    rw [List.getElem?_append_right (by rw [List.length_reverse]; omega), List.length_reverse, Nat.sub_self, ud_at]
    rfl
  · rw [List.getElem?_append_left (by rw [List.length_reverse]; omega), h j (by omega), ud_ne e]
theorem stK_tail {K : ROW} {x : Int32} {S : List Int32} (h : stK K (x :: S)) : stK K S := by
  intro j hj
  have h2 := h j (by simp only [List.length_cons]; omega)
  rw [List.reverse_cons, List.getElem?_append_left (by rw [List.length_reverse]; exact hj)] at h2
  exact h2
theorem stK_top {K : ROW} {x : Int32} {S : List Int32} (h : stK K (x :: S)) : K S.length = x := by
  have h2 := h S.length (by simp only [List.length_cons]; omega)
  rw [List.reverse_cons, List.getElem?_append_right (by rw [List.length_reverse]; omega), List.length_reverse, Nat.sub_self] at h2
  exact (Option.some.inj h2).symm
/-- words of a law in the reference's rows, from a place on -/
def rwd (A : Nat → Nat → Int32) (p : Nat) (w : TL) : Prop := ∀ j x, w[j]? = some x → A 48 (p + j) = opc x ∧ A 49 (p + j) = opv x
set_option maxHeartbeats 800000 in
set_option maxRecDepth 100000 in
theorem e_work_loop {A : Nat → Nat → Int32} {L : Nat → Nat → Int64} {I : Nat → Nat → Int32} {X : Nat → Int64} {q a e : Nat} {Q : Option Value → m_H → Prop} (hq : q ≤ 4) (he : e ≤ 520) (hV : ∀ l, l < 6 → vOk true (A 55 l)) {T' : List Bool} : ∀ (w : TL) (p : Nat) (S : List Int32) (T : List Bool) (K : ROW), okW 18 w T T' → tyV S T → T.length ≤ 18 → stK K S → 520 * q + e = p + w.length → rwd A p w → (∀ K', stK K' (evW (A 55) w S) → Q (some (.int (K' 0))) (hp (up A 56 K') L I X)) → G 4 RX11 cX11_workOut 6 (some .int) Q 12 [some (.ref 46), some (.int (nI q)), some (.int (nI a)), some (.int (nI e)), some (.int (nI S.length)), some (.int (nI p))] [] (hp (up A 56 K) L I X) := by
  have h21 : (520 : Int32) * nI q + nI e = nI (520 * q + e) := nk_add (nk_mul rfl rfl) rfl
  intro w
  induction w with
  | nil =>
    intro p S T K h1 hS hT hK hpp hw hQ
    refine g_iload dX11_workOut_12 rfl ?_
    refine g_sipush (v := 520) dX11_workOut_14 (by decide) ?_
    refine g_iload_n dX11_workOut_17 rfl rfl ?_
    refine g_imul dX11_workOut_18 ?_
    refine g_iload_n dX11_workOut_19 rfl rfl ?_
    refine g_iadd dX11_workOut_20 ?_
    refine g_icmp_ge (tgt := 171) dX11_workOut_21 (by decide) (fun c_21 => ?_) (fun c_21 => ?_)
    · refine g_aload_n dX11_workOut_171 rfl rfl ?_
      refine g_get dX11_workOut_172 fl_X11_37 hp_46 rfl ?_
      refine g_ic_0 dX11_workOut_175 ?_
      refine g_ra dX11_workOut_176 hp_56 (k := 0) rfl (by decide) (by decide) ?_
      exact g_iret dX11_workOut_177 (hQ K hK)
    · exact absurd (by rw [h21]; simp only [List.length_nil] at hpp; rw [hpp]; exact Int32.le_refl _) c_21
  | cons x w ih =>
    intro p S T K hk hS hT hK hpp hw hQ
    obtain ⟨T1, h1, h2, h3⟩ := hk
    have hlen := tyV_len hS
    have hT2 := tyV_stp hV h1 hS
    simp only [List.length_cons] at hpp
    have hlt : ¬ (520 : Int32) * nI q + nI e ≤ nI p := by rw [h21]; exact nI_ge (by omega) (by omega)
    obtain ⟨hc, hv⟩ := hw 0 x rfl
    have hw2 : rwd A (p + 1) w := fun j z hj => by
      have := hw (j + 1) z hj
      rw [show p + 1 + j = p + (j + 1) by omega]
      exact this
    have hc : A 48 p = opc x := hc
    have hv : A 49 p = opv x := hv
    have hQ2 : ∀ S3, stp (A 55) x S = S3 → ∀ K', stK K' (evW (A 55) w S3) → Q (some (.int (K' 0))) (hp (up A 56 K') L I X) := by
      intro S3 e K' hk
      subst e
      exact hQ K' hk
    have hbin : ∀ c, (sgC c = 2 ∨ sgC c = 3 ∨ sgC c = 4 ∨ sgC c = 5 ∨ sgC c = 6 ∨ sgC c = 7 ∨ sgC c = 8 ∨ sgC c = 10 ∨ sgC c = 11) → ∀ r l S2, S = r :: l :: S2 → woZ (sgC c) l.toInt64 r.toInt64 = hld (jnd l c r) → stp (A 55) x S = hld (jnd l c r) :: S2 → A 48 p = sgC c → G 4 RX11 cX11_workOut 6 (some .int) Q 12 [some (.ref 46), some (.int (nI q)), some (.int (nI a)), some (.int (nI e)), some (.int (nI S.length)), some (.int (nI p))] [] (hp (up A 56 K) L I X) := by
      intro c hwo r l S2 hSe hwz es hc
      subst hSe
      have e1 : K (S2.length + 1) = r := stK_top hK
      have e2 := stK_top (stK_tail hK)
      have hc0 : ¬ (0 : Int32) = sgC c := by rcases hwo with h | h | h | h | h | h | h | h | h <;> rw [h] <;> decide
      have hc1 : ¬ (1 : Int32) = sgC c := by rcases hwo with h | h | h | h | h | h | h | h | h <;> rw [h] <;> decide
      have hc9 : ¬ (9 : Int32) = sgC c := by rcases hwo with h | h | h | h | h | h | h | h | h <;> rw [h] <;> decide
      have hwe : woZ (A 48 p) (K S2.length).toInt64 (K (S2.length + 1)).toInt64 = hld (jnd l c r) := by rw [hc, e1, e2]; exact hwz
      have hK2 := stK_cons (x := hld (jnd l c r)) (stK_tail (stK_tail hK))
      rw [es] at hT2
      have hQ2 := hQ2 _ es
      simp only [List.length_cons] at hlen hT ⊢
      refine g_iload dX11_workOut_12 rfl ?_
      refine g_sipush (v := 520) dX11_workOut_14 (by decide) ?_
      refine g_iload_n dX11_workOut_17 rfl rfl ?_
      refine g_imul dX11_workOut_18 ?_
      refine g_iload_n dX11_workOut_19 rfl rfl ?_
      refine g_iadd dX11_workOut_20 ?_
      refine g_icmp_ge (tgt := 171) dX11_workOut_21 (by decide) (fun c_21 => ?_) (fun c_21 => ?_)
      · exact absurd c_21 hlt
      · refine g_aload_n dX11_workOut_24 rfl rfl ?_
        refine g_get dX11_workOut_25 fl_X11_13 hp_46 rfl ?_
        refine g_iload dX11_workOut_28 rfl ?_
        refine g_ra dX11_workOut_30 hp_48 (k := p) rfl (by omega) (by decide) ?_
        refine g_if_eq (tgt := 45) dX11_workOut_31 (by decide) (fun c_31 => ?_) (fun c_31 => ?_)
        · exact absurd (c_31.symm.trans hc) hc0
        · refine g_aload_n dX11_workOut_34 rfl rfl ?_
          refine g_get dX11_workOut_35 fl_X11_13 hp_46 rfl ?_
          refine g_iload dX11_workOut_38 rfl ?_
          refine g_ra dX11_workOut_40 hp_48 (k := p) rfl (by omega) (by decide) ?_
          refine g_ic_1 dX11_workOut_41 ?_
          refine g_icmp_ne (tgt := 90) dX11_workOut_42 (by decide) (fun c_42 => ?_) (fun c_42 => ?_)
          · refine g_aload_n dX11_workOut_90 rfl rfl ?_
            refine g_get dX11_workOut_91 fl_X11_13 hp_46 rfl ?_
            refine g_iload dX11_workOut_94 rfl ?_
            refine g_ra dX11_workOut_96 hp_48 (k := p) rfl (by omega) (by decide) ?_
            refine g_bipush (v := 9) dX11_workOut_97 (by decide) ?_
            refine g_icmp_ne (tgt := 125) dX11_workOut_99 (by decide) (fun c_99 => ?_) (fun c_99 => ?_)
            · refine g_iincm dX11_workOut_125 rfl (by decide) ?_
              rw [pk_m1]
              refine g_aload_n dX11_workOut_128 rfl rfl ?_
              refine g_get dX11_workOut_129 fl_X11_37 hp_46 rfl ?_
              refine g_iload dX11_workOut_132 rfl ?_
              refine g_ic_1 dX11_workOut_134 ?_
              refine g_isub dX11_workOut_135 ?_
              refine g_aload_n dX11_workOut_136 rfl rfl ?_
              refine g_get dX11_workOut_137 fl_X11_13 hp_46 rfl ?_
              refine g_iload dX11_workOut_140 rfl ?_
              refine g_ra dX11_workOut_142 hp_48 (k := p) rfl (by omega) (by decide) ?_
              refine g_aload_n dX11_workOut_143 rfl rfl ?_
              refine g_get dX11_workOut_144 fl_X11_37 hp_46 rfl ?_
              refine g_iload dX11_workOut_147 rfl ?_
              refine g_ic_1 dX11_workOut_149 ?_
              refine g_isub dX11_workOut_150 ?_
              refine g_ra dX11_workOut_151 hp_56 (k := ((S2.length + 1)) - 1) (nk_sub (show nI ((S2.length + 1)) = nI ((S2.length + 1)) from rfl) (show (1 : Int32) = nI 1 from rfl) (by omega)) (by omega) (by decide) ?_
              refine g_i2l dX11_workOut_152 ?_
              refine g_aload_n dX11_workOut_153 rfl rfl ?_
              refine g_get dX11_workOut_154 fl_X11_37 hp_46 rfl ?_
              refine g_iload dX11_workOut_157 rfl ?_
              refine g_ra dX11_workOut_159 hp_56 (k := (S2.length + 1)) rfl (by omega) (by decide) ?_
              refine g_i2l dX11_workOut_160 ?_
              refine g_callS dX11_workOut_161 cs_X11_213 (as := [_, _, _]) (e_worked (by have h := hwo; rw [← hc] at h; exact h)) (by decide) rfl rfl (Nat.le_of_ble_eq_true rfl) ?_
              rintro _ _ ⟨rfl, rfl⟩
              simp (disch := omega) only [up_at, up_ne, Nat.add_sub_cancel]
              rw [hwe]
              refine g_wa dX11_workOut_164 hp_56 (k := ((S2.length + 1)) - 1) (nk_sub (show nI ((S2.length + 1)) = nI ((S2.length + 1)) from rfl) (show (1 : Int32) = nI 1 from rfl) (by omega)) (by omega) (by decide) ?_
              rw [hq_56]
              try simp (disch := omega) only [up_at, up_up, ud_at, Nat.add_sub_cancel]
              refine g_iinc1 dX11_workOut_165 rfl (by decide) ?_
              refine g_goto (tgt := 12) dX11_workOut_168 (by decide) ?_
              simp only [nI_1]
              refine g_loc (ls' := [some (.ref 46), some (.int (nI q)), some (.int (nI a)), some (.int (nI e)), some (.int (nI (S2.length + 1))), some (.int (nI (p + 1)))]) (fun i v h => by rcases i with _|_|_|_|_|_|_ <;> first | exact h | cases h) ?_
              exact ih (p + 1) (hld (jnd l c r) :: S2) _ _ h3 hT2 h2 hK2 (by omega) hw2 hQ2
            · exact absurd (c_99.symm.trans hc) hc9
          · exact absurd (c_42.symm.trans hc) hc1
    rcases h1 with ⟨v, hv0, rfl, rfl⟩ | ⟨l, hl0, rfl, rfl⟩ | ⟨c, U, hcc, rfl, rfl, rfl⟩ | ⟨c, U, hcc, rfl, rfl, rfl⟩ | ⟨U, rfl, rfl, rfl⟩ | ⟨c, U, hcc, rfl, rfl, rfl⟩
    · obtain ⟨o1, o2⟩ := op_num hv0
      rw [o1] at hc
      have es : stp (A 55) (wd 0 (nI v)) S = A 49 p :: S := by
        rw [hv, o2]
        obtain ⟨d1, d2⟩ := wd_d (k := 0) (by decide) hv0
        exact (if_pos d1).trans (by rw [show rm (wd 0 (nI v)) 10000 = nI v from d2])
      have hK2 := stK_cons (x := A 49 p) hK
      rw [es] at hT2
      have hQ2 := hQ2 _ es
      refine g_iload dX11_workOut_12 rfl ?_
      refine g_sipush (v := 520) dX11_workOut_14 (by decide) ?_
      refine g_iload_n dX11_workOut_17 rfl rfl ?_
      refine g_imul dX11_workOut_18 ?_
      refine g_iload_n dX11_workOut_19 rfl rfl ?_
      refine g_iadd dX11_workOut_20 ?_
      refine g_icmp_ge (tgt := 171) dX11_workOut_21 (by decide) (fun c_21 => ?_) (fun c_21 => ?_)
      · exact absurd c_21 hlt
      · refine g_aload_n dX11_workOut_24 rfl rfl ?_
        refine g_get dX11_workOut_25 fl_X11_13 hp_46 rfl ?_
        refine g_iload dX11_workOut_28 rfl ?_
        refine g_ra dX11_workOut_30 hp_48 (k := p) rfl (by omega) (by decide) ?_
        refine g_if_eq (tgt := 45) dX11_workOut_31 (by decide) (fun c_31 => ?_) (fun c_31 => ?_)
        · refine g_aload_n dX11_workOut_45 rfl rfl ?_
          refine g_get dX11_workOut_46 fl_X11_37 hp_46 rfl ?_
          refine g_iload dX11_workOut_49 rfl ?_
          refine g_aload_n dX11_workOut_51 rfl rfl ?_
          refine g_get dX11_workOut_52 fl_X11_13 hp_46 rfl ?_
          refine g_iload dX11_workOut_55 rfl ?_
          refine g_ra dX11_workOut_57 hp_48 (k := p) rfl (by omega) (by decide) ?_
          refine g_if_ne (tgt := 71) dX11_workOut_58 (by decide) (fun c_58 => ?_) (fun c_58 => ?_)
          · exact absurd hc c_58
          · refine g_aload_n dX11_workOut_61 rfl rfl ?_
            refine g_get dX11_workOut_62 fl_X11_16 hp_46 rfl ?_
            refine g_iload dX11_workOut_65 rfl ?_
            refine g_ra dX11_workOut_67 hp_49 (k := p) rfl (by omega) (by decide) ?_
            refine g_goto (tgt := 83) dX11_workOut_68 (by decide) ?_
            refine g_wa dX11_workOut_83 hp_56 (k := S.length) rfl (by omega) (by decide) ?_
            rw [hq_56]
            try simp (disch := omega) only [up_at, up_up, ud_at, Nat.add_sub_cancel]
            refine g_iinc1 dX11_workOut_84 rfl (by decide) ?_
            refine g_goto (tgt := 165) dX11_workOut_87 (by decide) ?_
            refine g_iinc1 dX11_workOut_165 rfl (by decide) ?_
            refine g_goto (tgt := 12) dX11_workOut_168 (by decide) ?_
            simp only [nI_1]
            refine g_loc (ls' := [some (.ref 46), some (.int (nI q)), some (.int (nI a)), some (.int (nI e)), some (.int (nI (S.length + 1))), some (.int (nI (p + 1)))]) (fun i v h => by rcases i with _|_|_|_|_|_|_ <;> first | exact h | cases h) ?_
            exact ih (p + 1) (A 49 p :: S) _ _ h3 hT2 h2 hK2 (by omega) hw2 hQ2
        · exact absurd hc c_31
    · obtain ⟨o1, o2⟩ := op_let hl0
      rw [o1] at hc
      rw [o2] at hv
      have es : stp (A 55) (wd 1 (nI l)) S = A 55 l :: S := by
        obtain ⟨d1, d2⟩ := wd_d (k := 1) (v := l) (by decide) (by omega)
        exact (if_neg (fun z => absurd (d1.symm.trans z) (by decide))).trans ((if_pos d1).trans (by rw [show rm (wd 1 (nI l)) 10000 = nI l from d2, gt_nI hl0 (by decide)]))
      have hK2 := stK_cons (x := A 55 l) hK
      rw [es] at hT2
      have hQ2 := hQ2 _ es
      refine g_iload dX11_workOut_12 rfl ?_
      refine g_sipush (v := 520) dX11_workOut_14 (by decide) ?_
      refine g_iload_n dX11_workOut_17 rfl rfl ?_
      refine g_imul dX11_workOut_18 ?_
      refine g_iload_n dX11_workOut_19 rfl rfl ?_
      refine g_iadd dX11_workOut_20 ?_
      refine g_icmp_ge (tgt := 171) dX11_workOut_21 (by decide) (fun c_21 => ?_) (fun c_21 => ?_)
      · exact absurd c_21 hlt
      · refine g_aload_n dX11_workOut_24 rfl rfl ?_
        refine g_get dX11_workOut_25 fl_X11_13 hp_46 rfl ?_
        refine g_iload dX11_workOut_28 rfl ?_
        refine g_ra dX11_workOut_30 hp_48 (k := p) rfl (by omega) (by decide) ?_
        refine g_if_eq (tgt := 45) dX11_workOut_31 (by decide) (fun c_31 => ?_) (fun c_31 => ?_)
        · exact absurd (c_31.symm.trans hc) (by decide)
        · refine g_aload_n dX11_workOut_34 rfl rfl ?_
          refine g_get dX11_workOut_35 fl_X11_13 hp_46 rfl ?_
          refine g_iload dX11_workOut_38 rfl ?_
          refine g_ra dX11_workOut_40 hp_48 (k := p) rfl (by omega) (by decide) ?_
          refine g_ic_1 dX11_workOut_41 ?_
          refine g_icmp_ne (tgt := 90) dX11_workOut_42 (by decide) (fun c_42 => ?_) (fun c_42 => ?_)
          · exact absurd hc c_42
          · refine g_aload_n dX11_workOut_45 rfl rfl ?_
            refine g_get dX11_workOut_46 fl_X11_37 hp_46 rfl ?_
            refine g_iload dX11_workOut_49 rfl ?_
            refine g_aload_n dX11_workOut_51 rfl rfl ?_
            refine g_get dX11_workOut_52 fl_X11_13 hp_46 rfl ?_
            refine g_iload dX11_workOut_55 rfl ?_
            refine g_ra dX11_workOut_57 hp_48 (k := p) rfl (by omega) (by decide) ?_
            refine g_if_ne (tgt := 71) dX11_workOut_58 (by decide) (fun c_58 => ?_) (fun c_58 => ?_)
            · refine g_aload_n dX11_workOut_71 rfl rfl ?_
              refine g_get dX11_workOut_72 fl_X11_34 hp_46 rfl ?_
              refine g_aload_n dX11_workOut_75 rfl rfl ?_
              refine g_get dX11_workOut_76 fl_X11_16 hp_46 rfl ?_
              refine g_iload dX11_workOut_79 rfl ?_
              refine g_ra dX11_workOut_81 hp_49 (k := p) rfl (by omega) (by decide) ?_
              refine g_ra dX11_workOut_82 hp_55 (k := l) hv (by omega) (by decide) ?_
              refine g_wa dX11_workOut_83 hp_56 (k := S.length) rfl (by omega) (by decide) ?_
              rw [hq_56]
              try simp (disch := omega) only [up_at, up_up, ud_at, Nat.add_sub_cancel]
              refine g_iinc1 dX11_workOut_84 rfl (by decide) ?_
              refine g_goto (tgt := 165) dX11_workOut_87 (by decide) ?_
              refine g_iinc1 dX11_workOut_165 rfl (by decide) ?_
              refine g_goto (tgt := 12) dX11_workOut_168 (by decide) ?_
              simp only [nI_1]
              refine g_loc (ls' := [some (.ref 46), some (.int (nI q)), some (.int (nI a)), some (.int (nI e)), some (.int (nI (S.length + 1))), some (.int (nI (p + 1)))]) (fun i v h => by rcases i with _|_|_|_|_|_|_ <;> first | exact h | cases h) ?_
              exact ih (p + 1) (A 55 l :: S) _ _ h3 hT2 h2 hK2 (by omega) hw2 hQ2
            · exact absurd (c_58.symm.trans hc) (by decide)
    · obtain ⟨r, l, S2, rfl, t1, t2, t3⟩ := tyV_2 hS
      exact hbin c (sg_num hcc).1 r l S2 rfl (wo_num hcc t2 t1) (st_num hcc) (hc.trans (sg_num hcc).2)
    · obtain ⟨r, l, S2, rfl, t1, t2, t3⟩ := tyV_2 hS
      exact hbin c (sg_cmp hcc).1 r l S2 rfl (wo_cmp hcc) (st_cmp hcc) (hc.trans (sg_cmp hcc).2)
    · obtain ⟨r, S2, rfl, t1, t2⟩ := tyV_1 hS
      have e1 := stK_top hK
      have hc : A 48 p = 9 := hc.trans op_not
      have es : stp (A 55) (wd 2 33) (r :: S2) = (1 - K S2.length) :: S2 := by
        rw [e1]
        exact st_not t1
      have hK2 := stK_cons (x := 1 - K S2.length) (stK_tail hK)
      rw [es] at hT2
      have hQ2 := hQ2 _ es
      simp only [List.length_cons] at hlen hT ⊢
      refine g_iload dX11_workOut_12 rfl ?_
      refine g_sipush (v := 520) dX11_workOut_14 (by decide) ?_
      refine g_iload_n dX11_workOut_17 rfl rfl ?_
      refine g_imul dX11_workOut_18 ?_
      refine g_iload_n dX11_workOut_19 rfl rfl ?_
      refine g_iadd dX11_workOut_20 ?_
      refine g_icmp_ge (tgt := 171) dX11_workOut_21 (by decide) (fun c_21 => ?_) (fun c_21 => ?_)
      · exact absurd c_21 hlt
      · refine g_aload_n dX11_workOut_24 rfl rfl ?_
        refine g_get dX11_workOut_25 fl_X11_13 hp_46 rfl ?_
        refine g_iload dX11_workOut_28 rfl ?_
        refine g_ra dX11_workOut_30 hp_48 (k := p) rfl (by omega) (by decide) ?_
        refine g_if_eq (tgt := 45) dX11_workOut_31 (by decide) (fun c_31 => ?_) (fun c_31 => ?_)
        · exact absurd (c_31.symm.trans hc) (by decide)
        · refine g_aload_n dX11_workOut_34 rfl rfl ?_
          refine g_get dX11_workOut_35 fl_X11_13 hp_46 rfl ?_
          refine g_iload dX11_workOut_38 rfl ?_
          refine g_ra dX11_workOut_40 hp_48 (k := p) rfl (by omega) (by decide) ?_
          refine g_ic_1 dX11_workOut_41 ?_
          refine g_icmp_ne (tgt := 90) dX11_workOut_42 (by decide) (fun c_42 => ?_) (fun c_42 => ?_)
          · refine g_aload_n dX11_workOut_90 rfl rfl ?_
            refine g_get dX11_workOut_91 fl_X11_13 hp_46 rfl ?_
            refine g_iload dX11_workOut_94 rfl ?_
            refine g_ra dX11_workOut_96 hp_48 (k := p) rfl (by omega) (by decide) ?_
            refine g_bipush (v := 9) dX11_workOut_97 (by decide) ?_
            refine g_icmp_ne (tgt := 125) dX11_workOut_99 (by decide) (fun c_99 => ?_) (fun c_99 => ?_)
            · exact absurd hc c_99
            · refine g_aload_n dX11_workOut_102 rfl rfl ?_
              refine g_get dX11_workOut_103 fl_X11_37 hp_46 rfl ?_
              refine g_iload dX11_workOut_106 rfl ?_
              refine g_ic_1 dX11_workOut_108 ?_
              refine g_isub dX11_workOut_109 ?_
              refine g_ic_1 dX11_workOut_110 ?_
              refine g_aload_n dX11_workOut_111 rfl rfl ?_
              refine g_get dX11_workOut_112 fl_X11_37 hp_46 rfl ?_
              refine g_iload dX11_workOut_115 rfl ?_
              refine g_ic_1 dX11_workOut_117 ?_
              refine g_isub dX11_workOut_118 ?_
              refine g_ra dX11_workOut_119 hp_56 (k := ((S2.length + 1)) - 1) (nk_sub (show nI ((S2.length + 1)) = nI ((S2.length + 1)) from rfl) (show (1 : Int32) = nI 1 from rfl) (by omega)) (by omega) (by decide) ?_
              refine g_isub dX11_workOut_120 ?_
              refine g_wa dX11_workOut_121 hp_56 (k := ((S2.length + 1)) - 1) (nk_sub (show nI ((S2.length + 1)) = nI ((S2.length + 1)) from rfl) (show (1 : Int32) = nI 1 from rfl) (by omega)) (by omega) (by decide) ?_
              rw [hq_56]
              try simp (disch := omega) only [up_at, up_up, ud_at, Nat.add_sub_cancel]
              refine g_goto (tgt := 165) dX11_workOut_122 (by decide) ?_
              refine g_iinc1 dX11_workOut_165 rfl (by decide) ?_
              refine g_goto (tgt := 12) dX11_workOut_168 (by decide) ?_
              simp only [nI_1]
              refine g_loc (ls' := [some (.ref 46), some (.int (nI q)), some (.int (nI a)), some (.int (nI e)), some (.int (nI (S2.length + 1))), some (.int (nI (p + 1)))]) (fun i v h => by rcases i with _|_|_|_|_|_|_ <;> first | exact h | cases h) ?_
              exact ih (p + 1) ((1 - K S2.length) :: S2) _ _ h3 hT2 h2 hK2 (by omega) hw2 hQ2
          · exact absurd (c_42.symm.trans hc) (by decide)
    · obtain ⟨r, l, S2, rfl, t1, t2, t3⟩ := tyV_2 hS
      exact hbin c (sg_log hcc).1 r l S2 rfl (wo_log hcc t2 t1) (st_log hcc) (hc.trans (sg_log hcc).2)
