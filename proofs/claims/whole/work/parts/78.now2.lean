/-! THE REFERENCE: set, count, log, crop, seen -/
theorem itn_eq {σ : Type} {F G : Nat → σ → σ} {s : σ} : ∀ n, (∀ k t, k < n → F k t = G k t) → itn F n s = itn G n s
  | 0, _ => rfl
  | n + 1, h => by
    show F n (itn F n s) = G n (itn G n s)
    rw [itn_eq n (fun k t hk => h k t (by omega)), h n _ (by omega)]
theorem ripe_g : ∀ cs, cs < 6 → ∀ r, r < 2 ^ cs → itn (fun k (s : Int32) => s ||| (nI (r / 2 ^ k % 2) <<< (nI k &&& 31))) cs 0 = nI r := by decide +kernel
theorem ripe_N {ms cs : Nat} {R M C f N : ROW} (h : RJ ms cs R M C f N) : ripeS f = N 34 := by
  obtain ⟨⟨a1, a2, a3, a4, a5, a6⟩, -, -, -, -, r, hr, hr2, hr3⟩ := h
  unfold ripeS
  rw [g143_10, a6, nI_clamp (by omega), hr2, ← ripe_g cs (by omega) r hr]
  exact itn_eq cs (fun k t hk => by rw [oC_5 (by omega), hr3 k hk])
theorem cnt_all {A I : Nat → Nat → Int32} (h : INV A I) : I 46 25 = gt 143 (A 20) 9 ∧ I 46 26 = gt 143 (A 20) 10 ∧ I 46 13 = I 11 4 ∧ I 46 2 = I 1 1 ∧ I 46 29 = I 11 5 ∧ A 63 42 = gt 143 (A 20) 8 ∧ A 63 39 = gt 143 (A 20) 5 ∧ A 63 40 = gt 143 (A 20) 6 ∧ A 63 38 = gt 143 (A 20) 4 ∧ A 63 34 = ripeS (A 20) ∧ A 63 41 = gt 143 (A 20) 7 ∧ I 46 30 = I 0 14 ∧ I 46 31 = I 0 15 ∧ I 46 46 = I 34 9 ∧ A 63 43 = gt 143 (A 20) 11 ∧ I 46 35 = I 25 1 := by
  obtain ⟨hT, hL, hM, hS, hP⟩ := h
  rw [g143_9, g143_10, g143_8, g143_5, g143_6, g143_4, g143_7, g143_11]
  rcases hP with ⟨h5, h6⟩ | ⟨h5, ms, cs, h6⟩
  · obtain ⟨⟨k1, k2⟩, k3, k4, k5, ⟨k6, k7, -⟩, -⟩ := h6
    rw [k1, k2, k3, k4, k6, k7]
    refine ⟨rfl, rfl, hL.2.1, hT.2.1, hL.1, rfl, rfl, rfl, rfl, ?_, rfl, hM.2.1.1, hM.2.2.1, hS.1, rfl, rfl⟩
    decide
  · have hRJ := h6.2.1.1
    obtain ⟨⟨k1, k2⟩, ⟨⟨⟨a1, a2, a3, a4, a5, a6⟩, ⟨s0, s1, s2, s3, s4, s7, s8, s12⟩, ⟨m, d, l, d1, d2, d3, d4, d5, -⟩, hh⟩, ⟨L, nx, l1, l2, l3, l4, -⟩, -⟩, k4, ⟨a, nx2, b1, b2, b3, b4, -⟩, -⟩ := h6
    exact ⟨k1.trans a5.symm, k2.trans a6.symm, hL.2.1, hT.2.1, hL.1, s8.symm, d2.trans d1.symm, d5.trans d4.symm, s4.1.symm, (ripe_N hRJ).symm, s7.1.symm, hM.2.1.1, hM.2.2.1, hS.1, l4.trans l3.symm, b4.trans b3.symm⟩
set_option maxHeartbeats 800000 in
set_option maxRecDepth 100000 in
theorem n_count {A : Nat → Nat → Int32} {L : Nat → Nat → Int64} {I : Nat → Nat → Int32} {X : Nat → Int64} {x : Int32} (h : INV A I) : Con 1 yX11_count cX11_count 2 (some .int) [.ref 46, .int x] (hp A L I X) (fun r_ H_ => r_ = some (.int (cntS A I x)) ∧ H_ = hp A L I X) := by
  refine m_con (by decide) (Nat.le_of_ble_eq_true rfl) ?_
  refine g_iload_n dX11_count_0 rfl rfl ?_
  obtain ⟨e0, e1, e2, e3, e4, e5, e6, e7, e8, e9, e10, e11, e12, e13, e14, e15⟩ := cnt_all h
  rcases sw_15 x with z | z | z | z | z | z | z | z | z | z | z | z | z | z | z | z | z
  · refine g_tableOut (tgt := 181) dX11_count_1 z (by decide) ?_
    refine g_ldcw dX11_count_181 lc_X11_380 ?_
    exact g_iret dX11_count_184 ⟨congrArg (fun z => some (Value.int z)) (show _ = cntS A I x from (if_pos z).symm), rfl⟩
  · subst z
    refine g_tableIn (off := 79) (tgt := 80) dX11_count_1 (by decide) (by decide) rfl (by decide) ?_
    refine g_aload_n dX11_count_80 rfl rfl ?_
    refine g_get dX11_count_81 fl_X11_261 hp_46 rfl ?_
    exact g_iret dX11_count_84 ⟨congrArg (fun z => some (Value.int z)) (show _ = cntS A I 0 from by unfold cntS; rw [if_neg (by decide)]; exact e0), rfl⟩
  · subst z
    refine g_tableIn (off := 84) (tgt := 85) dX11_count_1 (by decide) (by decide) rfl (by decide) ?_
    refine g_aload_n dX11_count_85 rfl rfl ?_
    refine g_get dX11_count_86 fl_X11_267 hp_46 rfl ?_
    exact g_iret dX11_count_89 ⟨congrArg (fun z => some (Value.int z)) (show _ = cntS A I 1 from by unfold cntS; rw [if_neg (by decide)]; exact e1), rfl⟩
  · subst z
    refine g_tableIn (off := 89) (tgt := 90) dX11_count_1 (by decide) (by decide) rfl (by decide) ?_
    refine g_aload_n dX11_count_90 rfl rfl ?_
    refine g_get dX11_count_91 fl_X11_286 hp_46 rfl ?_
    exact g_iret dX11_count_94 ⟨congrArg (fun z => some (Value.int z)) (show _ = cntS A I 2 from by unfold cntS; rw [if_neg (by decide)]; exact e2), rfl⟩
  · subst z
    refine g_tableIn (off := 94) (tgt := 95) dX11_count_1 (by decide) (by decide) rfl (by decide) ?_
    refine g_aload_n dX11_count_95 rfl rfl ?_
    refine g_get dX11_count_96 fl_X11_113 hp_46 rfl ?_
    exact g_iret dX11_count_99 ⟨congrArg (fun z => some (Value.int z)) (show _ = cntS A I 3 from by unfold cntS; rw [if_neg (by decide)]; exact e3), rfl⟩
  · subst z
    refine g_tableIn (off := 99) (tgt := 100) dX11_count_1 (by decide) (by decide) rfl (by decide) ?_
    refine g_aload_n dX11_count_100 rfl rfl ?_
    refine g_get dX11_count_101 fl_X11_64 hp_46 rfl ?_
    exact g_iret dX11_count_104 ⟨congrArg (fun z => some (Value.int z)) (show _ = cntS A I 4 from by unfold cntS; rw [if_neg (by decide)]; exact e4), rfl⟩
  · subst z
    refine g_tableIn (off := 104) (tgt := 105) dX11_count_1 (by decide) (by decide) rfl (by decide) ?_
    refine g_aload_n dX11_count_105 rfl rfl ?_
    refine g_get dX11_count_106 fl_X11_58 hp_46 rfl ?_
    refine g_bipush (v := 42) dX11_count_109 (by decide) ?_
    refine g_ra dX11_count_111 hp_63 (k := 42) rfl (by decide) (by decide) ?_
    exact g_iret dX11_count_112 ⟨congrArg (fun z => some (Value.int z)) (show _ = cntS A I 5 from by unfold cntS; rw [if_neg (by decide)]; exact e5), rfl⟩
  · subst z
    refine g_tableIn (off := 112) (tgt := 113) dX11_count_1 (by decide) (by decide) rfl (by decide) ?_
    refine g_aload_n dX11_count_113 rfl rfl ?_
    refine g_get dX11_count_114 fl_X11_58 hp_46 rfl ?_
    refine g_bipush (v := 39) dX11_count_117 (by decide) ?_
    refine g_ra dX11_count_119 hp_63 (k := 39) rfl (by decide) (by decide) ?_
    exact g_iret dX11_count_120 ⟨congrArg (fun z => some (Value.int z)) (show _ = cntS A I 6 from by unfold cntS; rw [if_neg (by decide)]; exact e6), rfl⟩
  · subst z
    refine g_tableIn (off := 120) (tgt := 121) dX11_count_1 (by decide) (by decide) rfl (by decide) ?_
    refine g_aload_n dX11_count_121 rfl rfl ?_
    refine g_get dX11_count_122 fl_X11_58 hp_46 rfl ?_
    refine g_bipush (v := 40) dX11_count_125 (by decide) ?_
    refine g_ra dX11_count_127 hp_63 (k := 40) rfl (by decide) (by decide) ?_
    exact g_iret dX11_count_128 ⟨congrArg (fun z => some (Value.int z)) (show _ = cntS A I 7 from by unfold cntS; rw [if_neg (by decide)]; exact e7), rfl⟩
  · subst z
    refine g_tableIn (off := 128) (tgt := 129) dX11_count_1 (by decide) (by decide) rfl (by decide) ?_
    refine g_aload_n dX11_count_129 rfl rfl ?_
    refine g_get dX11_count_130 fl_X11_58 hp_46 rfl ?_
    refine g_bipush (v := 38) dX11_count_133 (by decide) ?_
    refine g_ra dX11_count_135 hp_63 (k := 38) rfl (by decide) (by decide) ?_
    exact g_iret dX11_count_136 ⟨congrArg (fun z => some (Value.int z)) (show _ = cntS A I 8 from by unfold cntS; rw [if_neg (by decide)]; exact e8), rfl⟩
  · subst z
    refine g_tableIn (off := 136) (tgt := 137) dX11_count_1 (by decide) (by decide) rfl (by decide) ?_
    refine g_aload_n dX11_count_137 rfl rfl ?_
    refine g_get dX11_count_138 fl_X11_58 hp_46 rfl ?_
    refine g_bipush (v := 34) dX11_count_141 (by decide) ?_
    refine g_ra dX11_count_143 hp_63 (k := 34) rfl (by decide) (by decide) ?_
    exact g_iret dX11_count_144 ⟨congrArg (fun z => some (Value.int z)) (show _ = cntS A I 9 from by unfold cntS; rw [if_neg (by decide)]; exact e9), rfl⟩
  · subst z
    refine g_tableIn (off := 144) (tgt := 145) dX11_count_1 (by decide) (by decide) rfl (by decide) ?_
    refine g_aload_n dX11_count_145 rfl rfl ?_
    refine g_get dX11_count_146 fl_X11_58 hp_46 rfl ?_
    refine g_bipush (v := 41) dX11_count_149 (by decide) ?_
    refine g_ra dX11_count_151 hp_63 (k := 41) rfl (by decide) (by decide) ?_
    exact g_iret dX11_count_152 ⟨congrArg (fun z => some (Value.int z)) (show _ = cntS A I 10 from by unfold cntS; rw [if_neg (by decide)]; exact e10), rfl⟩
  · subst z
    refine g_tableIn (off := 152) (tgt := 153) dX11_count_1 (by decide) (by decide) rfl (by decide) ?_
    refine g_aload_n dX11_count_153 rfl rfl ?_
    refine g_get dX11_count_154 fl_X11_338 hp_46 rfl ?_
    exact g_iret dX11_count_157 ⟨congrArg (fun z => some (Value.int z)) (show _ = cntS A I 11 from by unfold cntS; rw [if_neg (by decide)]; exact e11), rfl⟩
  · subst z
    refine g_tableIn (off := 157) (tgt := 158) dX11_count_1 (by decide) (by decide) rfl (by decide) ?_
    refine g_aload_n dX11_count_158 rfl rfl ?_
    refine g_get dX11_count_159 fl_X11_341 hp_46 rfl ?_
    exact g_iret dX11_count_162 ⟨congrArg (fun z => some (Value.int z)) (show _ = cntS A I 12 from by unfold cntS; rw [if_neg (by decide)]; exact e12), rfl⟩
  · subst z
    refine g_tableIn (off := 162) (tgt := 163) dX11_count_1 (by decide) (by decide) rfl (by decide) ?_
    refine g_aload_n dX11_count_163 rfl rfl ?_
    refine g_get dX11_count_164 fl_X11_273 hp_46 rfl ?_
    exact g_iret dX11_count_167 ⟨congrArg (fun z => some (Value.int z)) (show _ = cntS A I 13 from by unfold cntS; rw [if_neg (by decide)]; exact e13), rfl⟩
  · subst z
    refine g_tableIn (off := 167) (tgt := 168) dX11_count_1 (by decide) (by decide) rfl (by decide) ?_
    refine g_aload_n dX11_count_168 rfl rfl ?_
    refine g_get dX11_count_169 fl_X11_58 hp_46 rfl ?_
    refine g_bipush (v := 43) dX11_count_172 (by decide) ?_
    refine g_ra dX11_count_174 hp_63 (k := 43) rfl (by decide) (by decide) ?_
    exact g_iret dX11_count_175 ⟨congrArg (fun z => some (Value.int z)) (show _ = cntS A I 14 from by unfold cntS; rw [if_neg (by decide)]; exact e14), rfl⟩
  · subst z
    refine g_tableIn (off := 175) (tgt := 176) dX11_count_1 (by decide) (by decide) rfl (by decide) ?_
    refine g_aload_n dX11_count_176 rfl rfl ?_
    refine g_get dX11_count_177 fl_X11_276 hp_46 rfl ?_
    exact g_iret dX11_count_180 ⟨congrArg (fun z => some (Value.int z)) (show _ = cntS A I 15 from by unfold cntS; rw [if_neg (by decide)]; exact e15), rfl⟩

theorem set_6 {I : Nat → Nat → Int32} {w v : Int32} (c : inZ w 0 1 = 0) : setS I w v = 0 := if_pos ((in_0.mp c).elim Or.inl (fun z => Or.inr (Or.inl z)))
theorem set_16 {I : Nat → Nat → Int32} {w v : Int32} (c : inZ v 0 9 = 0) : setS I w v = 0 := if_pos (Or.inr (Or.inr ((in_0.mp c).elim Or.inl (fun z => Or.inr (Or.inl z)))))
theorem set_35 {A I : Nat → Nat → Int32} (h : I_M A I) {w v : Int32} (c : (if w = 0 then I 46 30 else I 46 31) = v) : setS I w v = 0 := by
  refine if_pos (Or.inr (Or.inr (Or.inr (Or.inr ?_))))
  rw [h.2.1.1, h.2.2.1] at c
  exact fun z => z c.symm
theorem set_ok {A I : Nat → Nat → Int32} (h : I_M A I) {w v : Int32} (c6 : ¬ inZ w 0 1 = 0) (c16 : ¬ inZ v 0 9 = 0) (c : ¬ (if w = 0 then I 46 30 else I 46 31) = v) : setS I w v = 1 := by
  rw [h.2.1.1, h.2.2.1] at c
  refine if_neg (fun z => ?_)
  rcases z with z | z | z | z | z
  · exact c6 (in_0.mpr (Or.inl z))
  · exact c6 (in_0.mpr (Or.inr z))
  · exact c16 (in_0.mpr (Or.inl z))
  · exact c16 (in_0.mpr (Or.inr z))
  · exact z (fun q => c q.symm)
theorem w_one {w : Int32} (c6 : ¬ inZ w 0 1 = 0) (h : ¬ w = 0) : w = 1 := by
  obtain ⟨j, j1, rfl⟩ := in_1 (b := 1) (by decide) c6
  rcases (show j = 0 ∨ j = 1 by omega) with rfl | rfl
  · exact absurd rfl h
  · rfl
set_option maxHeartbeats 800000 in
set_option maxRecDepth 100000 in
theorem n_set {A : Nat → Nat → Int32} {L : Nat → Nat → Int64} {I : Nat → Nat → Int32} {X : Nat → Int64} {w v : Int32} (h : I_M A I) : Con 2 yX11_set cX11_set 3 (some .boolean) [.ref 46, .int w, .int v] (hp A L I X) (fun r_ H_ => (setS I w v = 0 ∧ r_ = some (.int 0) ∧ H_ = hp A L I X) ∨ (setS I w v = 1 ∧ r_ = some (.int 1) ∧ H_ = hp A L (up2 I 46 (if w = 0 then 30 else 31) v) X)) := by
  refine m_con (by decide) (Nat.le_of_ble_eq_true rfl) ?_
  refine g_iload_n dX11_set_0 rfl rfl ?_
  refine g_ic_0 dX11_set_1 ?_
  refine g_ic_1 dX11_set_2 ?_
  refine g_callS dX11_set_3 cs_X11_221 (as := [_, _, _]) e_in (by decide) rfl rfl (Nat.le_of_ble_eq_true rfl) ?_
  rintro _ _ ⟨rfl, rfl⟩
  refine g_if_eq (tgt := 38) dX11_set_6 (by decide) (fun c_6 => ?_) (fun c_6 => ?_)
  · refine g_ic_0 dX11_set_38 ?_
    exact g_zret (by first | exact Or.inl rfl | exact Or.inr rfl) dX11_set_39 (Or.inl ⟨set_6 c_6, rfl, rfl⟩)
  · refine g_iload_n dX11_set_9 rfl rfl ?_
    refine g_ic_0 dX11_set_10 ?_
    refine g_bipush (v := 9) dX11_set_11 (by decide) ?_
    refine g_callS dX11_set_13 cs_X11_221 (as := [_, _, _]) e_in (by decide) rfl rfl (Nat.le_of_ble_eq_true rfl) ?_
    rintro _ _ ⟨rfl, rfl⟩
    refine g_if_eq (tgt := 38) dX11_set_16 (by decide) (fun c_16 => ?_) (fun c_16 => ?_)
    · refine g_ic_0 dX11_set_38 ?_
      exact g_zret (by first | exact Or.inl rfl | exact Or.inr rfl) dX11_set_39 (Or.inl ⟨set_16 c_16, rfl, rfl⟩)
    · refine g_iload_n dX11_set_19 rfl rfl ?_
      refine g_if_ne (tgt := 30) dX11_set_20 (by decide) (fun c_20 => ?_) (fun c_20 => ?_)
      · refine g_aload_n dX11_set_30 rfl rfl ?_
        refine g_get dX11_set_31 fl_X11_341 hp_46 rfl ?_
        refine g_iload_n dX11_set_34 rfl rfl ?_
        refine g_icmp_ne (tgt := 40) dX11_set_35 (by decide) (fun c_35 => ?_) (fun c_35 => ?_)
        · refine g_aload_n dX11_set_40 rfl rfl ?_
          refine g_iload_n dX11_set_41 rfl rfl ?_
          refine g_if_ne (tgt := 49) dX11_set_42 (by decide) (fun c_42 => ?_) (fun c_42 => ?_)
          · refine g_aload_n dX11_set_49 rfl rfl ?_
            refine g_get dX11_set_50 fl_X11_338 hp_46 rfl ?_
            refine g_puti dX11_set_53 fw_X11_338 hp_46 (Nat.le_of_ble_eq_true rfl) ?_
            rw [hq_46_30]
            try simp (disch := omega) only [up2_at, up2_ne]
            refine g_aload_n dX11_set_56 rfl rfl ?_
            refine g_iload_n dX11_set_57 rfl rfl ?_
            refine g_ic_1 dX11_set_58 ?_
            refine g_icmp_ne (tgt := 66) dX11_set_59 (by decide) (fun c_59 => ?_) (fun c_59 => ?_)
            · exact absurd (w_one c_6 c_20) c_59
            · refine g_iload_n dX11_set_62 rfl rfl ?_
              refine g_goto (tgt := 70) dX11_set_63 (by decide) ?_
              refine g_puti dX11_set_70 fw_X11_341 hp_46 (Nat.le_of_ble_eq_true rfl) ?_
              rw [hq_46_31]
              try simp (disch := omega) only [up2_at, up2_ne]
              refine g_ic_1 dX11_set_73 ?_
              exact g_zret (by first | exact Or.inl rfl | exact Or.inr rfl) dX11_set_74 (Or.inr ⟨set_ok h c_6 c_16 (fun z => c_35 ((if_neg c_20).symm.trans z)), rfl, by rw [if_neg c_20, up2_self]⟩)
          · exact absurd c_42 c_20
        · refine g_ic_0 dX11_set_38 ?_
          exact g_zret (by first | exact Or.inl rfl | exact Or.inr rfl) dX11_set_39 (Or.inl ⟨set_35 h ((if_neg c_20).trans c_35), rfl, rfl⟩)
      · refine g_aload_n dX11_set_23 rfl rfl ?_
        refine g_get dX11_set_24 fl_X11_338 hp_46 rfl ?_
        refine g_goto (tgt := 34) dX11_set_27 (by decide) ?_
        refine g_iload_n dX11_set_34 rfl rfl ?_
        refine g_icmp_ne (tgt := 40) dX11_set_35 (by decide) (fun c_35 => ?_) (fun c_35 => ?_)
        · refine g_aload_n dX11_set_40 rfl rfl ?_
          refine g_iload_n dX11_set_41 rfl rfl ?_
          refine g_if_ne (tgt := 49) dX11_set_42 (by decide) (fun c_42 => ?_) (fun c_42 => ?_)
          · exact absurd c_20 c_42
          · refine g_iload_n dX11_set_45 rfl rfl ?_
            refine g_goto (tgt := 53) dX11_set_46 (by decide) ?_
            refine g_puti dX11_set_53 fw_X11_338 hp_46 (Nat.le_of_ble_eq_true rfl) ?_
            rw [hq_46_30]
            try simp (disch := omega) only [up2_at, up2_ne]
            refine g_aload_n dX11_set_56 rfl rfl ?_
            refine g_iload_n dX11_set_57 rfl rfl ?_
            refine g_ic_1 dX11_set_58 ?_
            refine g_icmp_ne (tgt := 66) dX11_set_59 (by decide) (fun c_59 => ?_) (fun c_59 => ?_)
            · refine g_aload_n dX11_set_66 rfl rfl ?_
              refine g_get dX11_set_67 fl_X11_341 hp_46 rfl ?_
              try simp (disch := omega) only [up2_at, up2_ne]
              refine g_puti dX11_set_70 fw_X11_341 hp_46 (Nat.le_of_ble_eq_true rfl) ?_
              rw [hq_46_31]
              try simp (disch := omega) only [up2_at, up2_ne]
              refine g_ic_1 dX11_set_73 ?_
              exact g_zret (by first | exact Or.inl rfl | exact Or.inr rfl) dX11_set_74 (Or.inr ⟨set_ok h c_6 c_16 (fun z => c_35 ((if_pos c_20).symm.trans z)), rfl, by rw [if_pos c_20]; exact congrArg (fun z => hp A L z X) (up2_self (I := up2 I 46 30 v))⟩)
            · exact absurd (c_20.symm.trans c_59) (by decide)
        · refine g_ic_0 dX11_set_38 ?_
          exact g_zret (by first | exact Or.inl rfl | exact Or.inr rfl) dX11_set_39 (Or.inl ⟨set_35 h ((if_pos c_20).trans c_35), rfl, rfl⟩)

theorem sh_w : ∀ w, w < 4 → (((((3 : Int32) - nI w) * 5) &&& 31).toBitVec.smod 32).toNat = (3 - w) * 5 := by decide
theorem lg_val {f : ROW} {L nx j w : Nat} (hL : L ≤ 60) (hn : nx ≤ 59) (h12 : f 12 = nI nx) (hj : j < L) (hw : w < 4) {a b c d : Nat} (ha : a < 32) (hb : b < 32) (hc : c < 32) (hd : d < 32) (e : f (83 + (nx + 59 - j) % 60) = nI (a * 32768 + b * 1024 + c * 32 + d)) : lgF f (nI j) (nI w) = nI (if w = 0 then a else if w = 1 then b else if w = 2 then c else d) := by
  unfold lgF
  rw [g143_12, h12, show nI nx + 60 - 1 - nI j = nI (nx + 59 - j) from by rw [show (60 : Int32) = nI 60 from rfl, nI_add, show (1 : Int32) = nI 1 from rfl, pk_sub (by omega), pk_sub (by omega), show nx + 60 - 1 - j = nx + 59 - j by omega], show (60 : Int32) = nI 60 from rfl, rm_n (by omega) (by decide) (by decide), show (83 : Int32) + nI ((nx + 59 - j) % 60) = nI (83 + (nx + 59 - j) % 60) from nI_add 83 _, gt_nI (by omega) (by decide), e]
  rw [pk_shrN (by omega) _ ((3 - w) * 5) (sh_w w hw), pk_andN (by
    have := Nat.div_le_self (a * 32768 + b * 1024 + c * 32 + d) (2 ^ ((3 - w) * 5))
    omega) 5 (by decide)]
  congr 1
  rcases (show w = 0 ∨ w = 1 ∨ w = 2 ∨ w = 3 by omega) with rfl | rfl | rfl | rfl
  · show (a * 32768 + b * 1024 + c * 32 + d) / 32768 % 32 = a
    omega
  · show (a * 32768 + b * 1024 + c * 32 + d) / 1024 % 32 = b
    omega
  · show (a * 32768 + b * 1024 + c * 32 + d) / 32 % 32 = c
    omega
  · show (a * 32768 + b * 1024 + c * 32 + d) / 1 % 32 = d
    omega
/-- the log in both: what can be asked of it -/
theorem log_all {A I : Nat → Nat → Int32} (h : INV A I) {x n : Int32} (hx : ¬ inZ x 0 (A 63 43 - 1) = 0) (hn : ¬ inZ n 0 3 = 0) : ∃ L j w, L ≤ 60 ∧ j < L ∧ w < 4 ∧ A 63 43 = nI L ∧ x = nI j ∧ n = nI w ∧ loG A x n = A 63 (44 + 4 * (L - 1 - j) + w) := by
  obtain ⟨w, w1, rfl⟩ := in_1 (b := 3) (by decide) hn
  rcases h.2.2.2.2 with ⟨h5, h6⟩ | ⟨h5, ms, cs, h6⟩
  · exfalso
    apply hx
    rw [h6.2.2.1]
    refine in_0.mpr ?_
    by_cases z : x < 0
    · exact Or.inl z
    · exact Or.inr (Int32.lt_of_lt_of_le (by decide) (Int32.not_lt.mp z))
  · obtain ⟨L, nx, l1, l2, l3, l4, l5, l6⟩ := h6.2.1.2.1
    rw [l4] at hx
    have hx2 : ¬ (x < 0 ∨ nI L - 1 < x) := fun z => hx (in_0.mpr z)
    obtain ⟨j, hj, rfl⟩ := nI_of (fun z => hx2 (Or.inl z))
    have hjL : j < L := by
      apply Nat.lt_of_not_le
      intro z
      apply hx2
      refine Or.inr ?_
      rw [Int32.lt_iff_toInt_lt, nI_toInt hj, show nI L - 1 = nI L - nI 1 from rfl, pk_sub_toInt (by omega) (by decide)]
      omega
    refine ⟨L, j, w, l1, hjL, by omega, l4, rfl, rfl, ?_⟩
    obtain ⟨a, b, c, d, b1, b2, b3, b4, b5, b6, b7, b8, b9⟩ := l6 j hjL
    have hc : ¬ (nI j < 0 ∨ gt 143 (A 20) 11 ≤ nI j ∨ nI w < 0 ∨ 3 < nI w) := by
      rw [g143_11, l3]
      rintro (z | z | z | z)
      · exact absurd z (nI_pos hj)
      · exact absurd z (nI_ge hjL (by omega))
      · exact absurd z (nI_pos (by omega))
      · exact absurd z (nI_nlt (a := 3) (b := w) w1 (by decide))
    rw [show loG A (nI j) (nI w) = lgF (A 20) (nI j) (nI w) from if_neg hc, lg_val l1 l2 l5 hjL (by omega) b1 b2 b3 b4 b5]
    rcases (show w = 0 ∨ w = 1 ∨ w = 2 ∨ w = 3 by omega) with rfl | rfl | rfl | rfl
    · exact b6.symm
    · exact b7.symm
    · exact b8.symm
    · exact b9.symm
theorem log_no {A I : Nat → Nat → Int32} (h : INV A I) {x n : Int32} (hx : inZ x 0 (A 63 43 - 1) = 0 ∨ inZ n 0 3 = 0) : loG A x n = (-1) := by
  refine if_pos ?_
  have e := (cnt_all h).2.2.2.2.2.2.2.2.2.2.2.2.2.2.1
  rcases hx with hx | hx
  · rcases in_0.mp hx with z | z
    · exact Or.inl z
    · refine Or.inr (Or.inl ?_)
      rw [← e]
      have hL : ∃ L, L ≤ 60 ∧ A 63 43 = nI L := by
        rcases h.2.2.2.2 with ⟨h5, h6⟩ | ⟨h5, ms, cs, h6⟩
        · exact ⟨0, by decide, by rw [h6.2.2.1]; rfl⟩
        · obtain ⟨L, nx, l1, l2, l3, l4, -⟩ := h6.2.1.2.1
          exact ⟨L, l1, l4⟩
      obtain ⟨L, l1, l4⟩ := hL
      rw [l4] at z ⊢
      rw [Int32.lt_iff_toInt_lt, show nI L - 1 = nI L - nI 1 from rfl, pk_sub_toInt (by omega) (by decide)] at z
      rw [Int32.le_iff_toInt_le, nI_toInt (by omega)]
      omega
  · rcases in_0.mp hx with z | z
    · exact Or.inr (Or.inr (Or.inl z))
    · exact Or.inr (Or.inr (Or.inr z))
set_option maxHeartbeats 800000 in
set_option maxRecDepth 100000 in
theorem n_log {A : Nat → Nat → Int32} {L : Nat → Nat → Int64} {I : Nat → Nat → Int32} {X : Nat → Int64} {x n : Int32} (h : INV A I) : Con 2 yX11_log cX11_log 3 (some .int) [.ref 46, .int x, .int n] (hp A L I X) (fun r_ H_ => r_ = some (.int (loG A x n)) ∧ H_ = hp A L I X) := by
  refine m_con (by decide) (Nat.le_of_ble_eq_true rfl) ?_
  refine g_iload_n dX11_log_0 rfl rfl ?_
  refine g_ic_0 dX11_log_1 ?_
  refine g_aload_n dX11_log_2 rfl rfl ?_
  refine g_get dX11_log_3 fl_X11_58 hp_46 rfl ?_
  refine g_bipush (v := 43) dX11_log_6 (by decide) ?_
  refine g_ra dX11_log_8 hp_63 (k := 43) rfl (by decide) (by decide) ?_
  refine g_ic_1 dX11_log_9 ?_
  refine g_isub dX11_log_10 ?_
  refine g_callS dX11_log_11 cs_X11_221 (as := [_, _, _]) e_in (by decide) rfl rfl (Nat.le_of_ble_eq_true rfl) ?_
  rintro _ _ ⟨rfl, rfl⟩
  refine g_if_eq (tgt := 52) dX11_log_14 (by decide) (fun c_14 => ?_) (fun c_14 => ?_)
  · refine g_ic_m1 dX11_log_52 ?_
    exact g_iret dX11_log_53 ⟨congrArg (fun z => some (Value.int z)) (by exact (log_no h (Or.inl c_14)).symm), rfl⟩
  · refine g_iload_n dX11_log_17 rfl rfl ?_
    refine g_ic_0 dX11_log_18 ?_
    refine g_ic_3 dX11_log_19 ?_
    refine g_callS dX11_log_20 cs_X11_221 (as := [_, _, _]) e_in (by decide) rfl rfl (Nat.le_of_ble_eq_true rfl) ?_
    rintro _ _ ⟨rfl, rfl⟩
    refine g_if_eq (tgt := 52) dX11_log_23 (by decide) (fun c_23 => ?_) (fun c_23 => ?_)
    · refine g_ic_m1 dX11_log_52 ?_
      exact g_iret dX11_log_53 ⟨congrArg (fun z => some (Value.int z)) (by exact (log_no h (Or.inr c_23)).symm), rfl⟩
    · obtain ⟨L0, j, w, l1, hj, hw, hL, rfl, rfl, hv⟩ := log_all h c_14 c_23
      refine g_aload_n dX11_log_26 rfl rfl ?_
      refine g_get dX11_log_27 fl_X11_58 hp_46 rfl ?_
      refine g_bipush (v := 44) dX11_log_30 (by decide) ?_
      refine g_ic_4 dX11_log_32 ?_
      refine g_aload_n dX11_log_33 rfl rfl ?_
      refine g_get dX11_log_34 fl_X11_58 hp_46 rfl ?_
      refine g_bipush (v := 43) dX11_log_37 (by decide) ?_
      refine g_ra dX11_log_39 hp_63 (k := 43) rfl (by decide) (by decide) ?_
      refine g_ic_1 dX11_log_40 ?_
      refine g_isub dX11_log_41 ?_
      refine g_iload_n dX11_log_42 rfl rfl ?_
      refine g_isub dX11_log_43 ?_
      refine g_imul dX11_log_44 ?_
      refine g_iadd dX11_log_45 ?_
      refine g_iload_n dX11_log_46 rfl rfl ?_
      refine g_iadd dX11_log_47 ?_
      refine g_ra dX11_log_48 hp_63 (k := (44 + (4 * ((L0 - 1) - j))) + w) (nk_add (nk_add (show (44 : Int32) = nI 44 from rfl) (nk_mul (show (4 : Int32) = nI 4 from rfl) (nk_sub (nk_sub hL (show (1 : Int32) = nI 1 from rfl) (by omega)) (show nI (j) = nI (j) from rfl) (by omega)))) (show nI (w) = nI (w) from rfl)) (by omega) (by decide) ?_
      refine g_goto (tgt := 53) dX11_log_49 (by decide) ?_
      exact g_iret dX11_log_53 ⟨congrArg (fun z => some (Value.int z)) (by rw [hv]), rfl⟩
