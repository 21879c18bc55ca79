/-! THE REFERENCE: crop, seen, level, year, worths -/
def crZ (A : Nat → Nat → Int32) (x n : Int32) : Int32 := if hasC (A 20) x = 0 ∨ n < 0 ∨ 5 < n then 1 else 0
theorem cr_1 {A I : Nat → Nat → Int32} (h : INV A I) {x n : Int32} (c : inZ x 0 (I 46 26 - 1) = 0 ∨ inZ n 0 5 = 0) : crZ A x n = 1 := by
  refine if_pos ?_
  rcases c with c | c
  · exact Or.inl (by rw [INV_C h]; exact c)
  · exact Or.inr (in_0.mp c)
theorem cr_0 {A I : Nat → Nat → Int32} (h : INV A I) {x n : Int32} (c : ¬ inZ x 0 (I 46 26 - 1) = 0) (c2 : ¬ inZ n 0 5 = 0) : crZ A x n = 0 := by
  refine if_neg ?_
  rintro (z | z)
  · rw [INV_C h] at z
    exact c z
  · exact c2 (in_0.mpr z)
theorem cr_v {ms cs : Nat} {A I : Nat → Nat → Int32} (h : PLN ms cs A I) {m j : Nat} (hm : m < cs) (hj : j < 3) : A 62 (3 * m + j) = oC (A 20) (nI m) (nI j) := by
  have h5 : cs ≤ 5 := h.2.1.1.1.2.2.2.1
  obtain ⟨q0, q1, q2, -⟩ := h.2.1.1.2.2.2.2.1 m hm
  rcases (show j = 0 ∨ j = 1 ∨ j = 2 by omega) with rfl | rfl | rfl
  · exact (Eq.trans (oC_0 (by omega)) q0.1).symm
  · exact (Eq.trans (oC_1 (by omega)) q1.1).symm
  · exact (Eq.trans (oC_2 (by omega)) q2.1).symm
theorem cr_r {ms cs : Nat} {A I : Nat → Nat → Int32} (h : PLN ms cs A I) {m : Nat} (hm : m < cs) : oC (A 20) (nI m) 5 = haZ (A 63 34) (nI m) := by
  have h5 : cs ≤ 5 := h.2.1.1.1.2.2.2.1
  have h32 := rp_32 cs (by omega)
  obtain ⟨r, hr, hr2, hr3⟩ := h.2.1.1.2.2.2.2.2
  rw [oC_5 (by omega), hr3 m hm, hr2, rp_has r (by omega) m (by omega)]
theorem cr_5 {j : Nat} (h : j ≤ 5) (c3 : (3 : Int32) ≤ nI j) (c4 : ¬ nI j = 3) (c5 : ¬ nI j = 4) : j = 5 := by
  have h3 := (nI_leI (a := 3) (b := j) (by decide) (by omega)).mp c3
  rcases (show j = 3 ∨ j = 4 ∨ j = 5 by omega) with rfl | rfl | rfl
  · exact absurd rfl c4
  · exact absurd rfl c5
  · rfl
set_option maxHeartbeats 800000 in
set_option maxRecDepth 100000 in
theorem n_crop {A : Nat → Nat → Int32} {L : Nat → Nat → Int64} {I : Nat → Nat → Int32} {X : Nat → Int64} {x n : Int32} (h : INV A I) : Con 3 yX11_crop cX11_crop 3 (some .int) [.ref 46, .int x, .int n] (hp A L I X) (fun r_ H_ => (crZ A x n = 1 ∧ r_ = some (.int 0) ∧ H_ = hp A L (up2 I 46 0 1) X) ∨ (crZ A x n = 0 ∧ r_ = some (.int (oC (A 20) x n)) ∧ H_ = hp A L (up2 I 46 0 0) X)) := by
  refine m_con (by decide) (Nat.le_of_ble_eq_true rfl) ?_
  refine g_aload_n dX11_crop_0 rfl rfl ?_
  refine g_aload_n dX11_crop_1 rfl rfl ?_
  refine g_iload_n dX11_crop_2 rfl rfl ?_
  refine g_callV dX11_crop_3 cv_X11_320 (as' := [_]) hp_46 rfl e_isCrop (by decide) rfl rfl (Nat.le_of_ble_eq_true rfl) ?_
  rintro _ _ ⟨rfl, rfl⟩
  refine g_if_eq (tgt := 22) dX11_crop_6 (by decide) (fun c_6 => ?_) (fun c_6 => ?_)
  · refine g_ic_1 dX11_crop_22 ?_
    refine g_puti dX11_crop_23 fw_X11_106 hp_46 (Nat.le_of_ble_eq_true rfl) ?_
    rw [hq_46_0]
    try simp (disch := omega) only [up2_at, up2_ne]
    refine g_aload_n dX11_crop_26 rfl rfl ?_
    refine g_get dX11_crop_27 fl_X11_106 hp_46 rfl ?_
    try simp (disch := omega) only [up2_at, up2_ne]
    refine g_ic_1 dX11_crop_30 ?_
    refine g_icmp_ne (tgt := 36) dX11_crop_31 (by decide) (fun c_31 => ?_) (fun c_31 => ?_)
    · exact absurd rfl c_31
    · refine g_ic_0 dX11_crop_34 ?_
      exact g_iret dX11_crop_35 (Or.inl ⟨cr_1 h (Or.inl c_6), rfl, rfl⟩)
  · refine g_iload_n dX11_crop_9 rfl rfl ?_
    refine g_ic_0 dX11_crop_10 ?_
    refine g_ic_5 dX11_crop_11 ?_
    refine g_callS dX11_crop_12 cs_X11_221 (as := [_, _, _]) e_in (by decide) rfl rfl (Nat.le_of_ble_eq_true rfl) ?_
    rintro _ _ ⟨rfl, rfl⟩
    refine g_if_eq (tgt := 22) dX11_crop_15 (by decide) (fun c_15 => ?_) (fun c_15 => ?_)
    · refine g_ic_1 dX11_crop_22 ?_
      refine g_puti dX11_crop_23 fw_X11_106 hp_46 (Nat.le_of_ble_eq_true rfl) ?_
      rw [hq_46_0]
      try simp (disch := omega) only [up2_at, up2_ne]
      refine g_aload_n dX11_crop_26 rfl rfl ?_
      refine g_get dX11_crop_27 fl_X11_106 hp_46 rfl ?_
      try simp (disch := omega) only [up2_at, up2_ne]
      refine g_ic_1 dX11_crop_30 ?_
      refine g_icmp_ne (tgt := 36) dX11_crop_31 (by decide) (fun c_31 => ?_) (fun c_31 => ?_)
      · exact absurd rfl c_31
      · refine g_ic_0 dX11_crop_34 ?_
        exact g_iret dX11_crop_35 (Or.inl ⟨cr_1 h (Or.inr c_15), rfl, rfl⟩)
    · obtain ⟨ms, cs, m, hP, rfl, m1, m5⟩ := INV_Pc h c_6
      obtain ⟨j, j1, rfl⟩ := in_1 (b := 5) (by decide) c_15
      obtain ⟨q0, q1, q2, q3, q4⟩ := hP.2.1.1.2.2.2.2.1 m m1
      refine g_ic_0 dX11_crop_18 ?_
      refine g_goto (tgt := 23) dX11_crop_19 (by decide) ?_
      refine g_puti dX11_crop_23 fw_X11_106 hp_46 (Nat.le_of_ble_eq_true rfl) ?_
      rw [hq_46_0]
      try simp (disch := omega) only [up2_at, up2_ne]
      refine g_aload_n dX11_crop_26 rfl rfl ?_
      refine g_get dX11_crop_27 fl_X11_106 hp_46 rfl ?_
      try simp (disch := omega) only [up2_at, up2_ne]
      refine g_ic_1 dX11_crop_30 ?_
      refine g_icmp_ne (tgt := 36) dX11_crop_31 (by decide) (fun c_31 => ?_) (fun c_31 => ?_)
      · refine g_iload_n dX11_crop_36 rfl rfl ?_
        refine g_ic_3 dX11_crop_37 ?_
        refine g_icmp_ge (tgt := 50) dX11_crop_38 (by decide) (fun c_38 => ?_) (fun c_38 => ?_)
        · refine g_iload_n dX11_crop_50 rfl rfl ?_
          refine g_ic_3 dX11_crop_51 ?_
          refine g_icmp_ne (tgt := 67) dX11_crop_52 (by decide) (fun c_52 => ?_) (fun c_52 => ?_)
          · refine g_iload_n dX11_crop_67 rfl rfl ?_
            refine g_ic_4 dX11_crop_68 ?_
            refine g_icmp_ne (tgt := 84) dX11_crop_69 (by decide) (fun c_69 => ?_) (fun c_69 => ?_)
            · refine g_aload_n dX11_crop_84 rfl rfl ?_
              refine g_iload_n dX11_crop_85 rfl rfl ?_
              refine g_callV dX11_crop_86 cv_X11_308 (as' := [_]) hp_46 rfl e_isRipe (by decide) rfl rfl (Nat.le_of_ble_eq_true rfl) ?_
              rintro _ _ ⟨rfl, rfl⟩
              try simp (disch := omega) only [up2_at, up2_ne]
              refine g_if_eq (tgt := 96) dX11_crop_89 (by decide) (fun c_89 => ?_) (fun c_89 => ?_)
              · refine g_ic_0 dX11_crop_96 ?_
                exact g_iret dX11_crop_97 (Or.inr ⟨cr_0 h c_6 c_15, congrArg (fun z => some (Value.int z)) (by have e5 := cr_5 j1 c_38 c_52 c_69; subst e5; exact Eq.trans (c_89.symm) (cr_r hP m1).symm), rfl⟩)
              · refine g_ic_1 dX11_crop_92 ?_
                refine g_goto (tgt := 97) dX11_crop_93 (by decide) ?_
                exact g_iret dX11_crop_97 (Or.inr ⟨cr_0 h c_6 c_15, congrArg (fun z => some (Value.int z)) (by have e5 := cr_5 j1 c_38 c_52 c_69; subst e5; exact Eq.trans (((has_01 _ _).resolve_left c_89).symm) (cr_r hP m1).symm), rfl⟩)
            · refine g_aload_n dX11_crop_72 rfl rfl ?_
              refine g_get dX11_crop_73 fl_X11_58 hp_46 rfl ?_
              refine g_bipush (v := 29) dX11_crop_76 (by decide) ?_
              refine g_iload_n dX11_crop_78 rfl rfl ?_
              refine g_iadd dX11_crop_79 ?_
              refine g_ra dX11_crop_80 hp_63 (k := 29 + m) (nk_add (show (29 : Int32) = nI 29 from rfl) (show nI (m) = nI (m) from rfl)) (by omega) (by decide) ?_
              try simp (disch := omega) only [up2_at, up2_ne]
              refine g_goto (tgt := 97) dX11_crop_81 (by decide) ?_
              exact g_iret dX11_crop_97 (Or.inr ⟨cr_0 h c_6 c_15, congrArg (fun z => some (Value.int z)) (by rw [c_69, oC_4 m5]; exact q4.1.symm), rfl⟩)
          · refine g_aload_n dX11_crop_55 rfl rfl ?_
            refine g_get dX11_crop_56 fl_X11_58 hp_46 rfl ?_
            refine g_bipush (v := 24) dX11_crop_59 (by decide) ?_
            refine g_iload_n dX11_crop_61 rfl rfl ?_
            refine g_iadd dX11_crop_62 ?_
            refine g_ra dX11_crop_63 hp_63 (k := 24 + m) (nk_add (show (24 : Int32) = nI 24 from rfl) (show nI (m) = nI (m) from rfl)) (by omega) (by decide) ?_
            try simp (disch := omega) only [up2_at, up2_ne]
            refine g_goto (tgt := 97) dX11_crop_64 (by decide) ?_
            exact g_iret dX11_crop_97 (Or.inr ⟨cr_0 h c_6 c_15, congrArg (fun z => some (Value.int z)) (by rw [c_52, oC_3 m5]; exact q3.1.symm), rfl⟩)
        · have j3 : j < 3 := (nI_ltI (a := j) (b := 3) (by omega) (by decide)).mp (Int32.not_le.mp c_38)
          refine g_aload_n dX11_crop_41 rfl rfl ?_
          refine g_iload_n dX11_crop_42 rfl rfl ?_
          refine g_iload_n dX11_crop_43 rfl rfl ?_
          refine g_callV dX11_crop_44 cv_X11_296 (as' := [_, _]) hp_46 rfl (e_ofCrop (a := m) (b := j) rfl rfl (by omega)) (by decide) rfl rfl (Nat.le_of_ble_eq_true rfl) ?_
          rintro _ _ ⟨rfl, rfl⟩
          try simp (disch := omega) only [up2_at, up2_ne]
          refine g_goto (tgt := 97) dX11_crop_47 (by decide) ?_
          exact g_iret dX11_crop_97 (Or.inr ⟨cr_0 h c_6 c_15, congrArg (fun z => some (Value.int z)) (cr_v hP m1 ((nI_ltI (a := j) (b := 3) (by omega) (by decide)).mp (Int32.not_le.mp c_38))), rfl⟩)
      · exact absurd c_31 (by decide)

theorem told_M {A I : Nat → Nat → Int32} (h : INV A I) (x : Int32) : hasM (A 17) x = hasM (A 20) x := by
  have e : A 17 9 = A 20 9 := by
    rcases h.2.2.2.2 with ⟨h5, h6⟩ | ⟨h5, ms, cs, h6⟩
    · rw [h6.2.1, h6.2.2.2.1]
    · exact h6.2.2.1.1.2.2.2.2.1.trans h6.2.1.1.1.2.2.2.2.1.symm
  unfold hasM
  rw [g143_9, g143_9, e]
theorem in_41 {n : Int32} (h : ¬ inZ n 1 40 = 0) : ∃ t, 1 ≤ t ∧ t ≤ 40 ∧ n = nI t := by
  have h2 : ¬ (n < 1 ∨ 40 < n) := fun z => h (in_0.mpr z)
  have h0 : ¬ n < 0 := fun z => h2 (Or.inl (Int32.lt_trans z (by decide)))
  obtain ⟨t, t1, rfl⟩ := nI_of h0
  refine ⟨t, ?_, ?_, rfl⟩
  · apply Nat.pos_of_ne_zero
    rintro rfl
    exact h2 (Or.inl (by decide))
  · apply Nat.le_of_not_lt
    intro z
    exact h2 (Or.inr (nI_lt (a := 40) z t1))
set_option maxHeartbeats 800000 in
set_option maxRecDepth 100000 in
theorem n_seen {A : Nat → Nat → Int32} {L : Nat → Nat → Int64} {I : Nat → Nat → Int32} {X : Nat → Int64} {n x w : Int32} (h : INV A I) (hw : w = 0 ∨ w = 1) : Con 3 yX11_seen cX11_seen 4 (some .int) [.ref 46, .int n, .int x, .int w] (hp A L I X) (fun r_ H_ => ((hasM (A 17) x = 0 ∨ n < 1 ∨ 40 < n ∨ ¬ I 34 9 < 10) ∧ r_ = some (.int (-1)) ∧ H_ = hp A L I X) ∨ (¬ (hasM (A 17) x = 0 ∨ n < 1 ∨ 40 < n ∨ ¬ I 34 9 < 10) ∧ ∃ k t m, k < 10 ∧ I 34 9 = nI k ∧ 1 ≤ t ∧ t ≤ 40 ∧ n = nI t ∧ m < 8 ∧ x = nI m ∧ r_ = some (.int (I 34 9 + 1)) ∧ H_ = hp (up (up (up A 71 (upd (A 71) k n)) 72 (upd (A 72) k x)) 73 (upd (A 73) k w)) L (up2 I 46 46 (I 34 9 + 1)) X)) := by
  refine m_con (by decide) (Nat.le_of_ble_eq_true rfl) ?_
  obtain ⟨i1, i2, i3, i4, k, i5, i6, i7⟩ := h.2.2.2.1
  have hk : I 46 46 = nI k := i1.trans i6
  refine g_aload_n dX11_seen_0 rfl rfl ?_
  refine g_iload_n dX11_seen_1 rfl rfl ?_
  refine g_callV dX11_seen_2 cv_X11_317 (as' := [_]) hp_46 rfl e_isMonth (by decide) rfl rfl (Nat.le_of_ble_eq_true rfl) ?_
  rintro _ _ ⟨rfl, rfl⟩
  refine g_if_eq (tgt := 27) dX11_seen_5 (by decide) (fun c_5 => ?_) (fun c_5 => ?_)
  · refine g_ic_m1 dX11_seen_27 ?_
    exact g_iret dX11_seen_28 (Or.inl ⟨Or.inl (by rw [told_M h, INV_M h]; exact c_5), rfl, rfl⟩)
  · refine g_iload_n dX11_seen_8 rfl rfl ?_
    refine g_ic_1 dX11_seen_9 ?_
    refine g_bipush (v := 40) dX11_seen_10 (by decide) ?_
    refine g_callS dX11_seen_12 cs_X11_221 (as := [_, _, _]) e_in (by decide) rfl rfl (Nat.le_of_ble_eq_true rfl) ?_
    rintro _ _ ⟨rfl, rfl⟩
    refine g_if_eq (tgt := 27) dX11_seen_15 (by decide) (fun c_15 => ?_) (fun c_15 => ?_)
    · refine g_ic_m1 dX11_seen_27 ?_
      exact g_iret dX11_seen_28 (Or.inl ⟨Or.inr ((in_0.mp c_15).elim Or.inl (fun z => Or.inr (Or.inl z))), rfl, rfl⟩)
    · refine g_aload_n dX11_seen_18 rfl rfl ?_
      refine g_get dX11_seen_19 fl_X11_273 hp_46 rfl ?_
      refine g_bipush (v := 10) dX11_seen_22 (by decide) ?_
      refine g_icmp_ne (tgt := 29) dX11_seen_24 (by decide) (fun c_24 => ?_) (fun c_24 => ?_)
      · have k10 : k < 10 := by rcases Nat.lt_or_ge k 10 with z | z; exact z; exact absurd (hk.trans (by rw [show k = 10 by omega]; rfl)) c_24
        obtain ⟨t, t1, t2, t3⟩ := in_41 c_15
        obtain ⟨ms, cs, m, hP, m1, m2, m3⟩ := INV_Pm h c_5
        refine g_aload_n dX11_seen_29 rfl rfl ?_
        refine g_get dX11_seen_30 fl_X11_86 hp_46 rfl ?_
        refine g_aload_n dX11_seen_33 rfl rfl ?_
        refine g_get dX11_seen_34 fl_X11_273 hp_46 rfl ?_
        refine g_iload_n dX11_seen_37 rfl rfl ?_
        refine g_wa dX11_seen_38 hp_71 (k := k) hk (by omega) (by decide) ?_
        rw [hq_71]
        try simp (disch := omega) only [up_at, up_ne, up2_at, up2_ne]
        refine g_aload_n dX11_seen_39 rfl rfl ?_
        refine g_get dX11_seen_40 fl_X11_89 hp_46 rfl ?_
        refine g_aload_n dX11_seen_43 rfl rfl ?_
        refine g_get dX11_seen_44 fl_X11_273 hp_46 rfl ?_
        try simp (disch := omega) only [up_at, up_ne, up2_at, up2_ne]
        refine g_iload_n dX11_seen_47 rfl rfl ?_
        refine g_wa dX11_seen_48 hp_72 (k := k) hk (by omega) (by decide) ?_
        rw [hq_72]
        try simp (disch := omega) only [up_at, up_ne, up2_at, up2_ne]
        refine g_aload_n dX11_seen_49 rfl rfl ?_
        refine g_get dX11_seen_50 fl_X11_92 hp_46 rfl ?_
        refine g_aload_n dX11_seen_53 rfl rfl ?_
        refine g_get dX11_seen_54 fl_X11_273 hp_46 rfl ?_
        try simp (disch := omega) only [up_at, up_ne, up2_at, up2_ne]
        refine g_iload_n dX11_seen_57 rfl rfl ?_
        refine g_wz hw dX11_seen_58 hp_73 (k := k) hk (by omega) (by decide) ?_
        rw [hq_73]
        try simp (disch := omega) only [up_at, up_ne, up2_at, up2_ne]
        refine g_aload_n dX11_seen_59 rfl rfl ?_
        refine g_dup dX11_seen_60 rfl ?_
        refine g_get dX11_seen_61 fl_X11_273 hp_46 rfl ?_
        try simp (disch := omega) only [up_at, up_ne, up2_at, up2_ne]
        refine g_ic_1 dX11_seen_64 ?_
        refine g_iadd dX11_seen_65 ?_
        refine g_puti dX11_seen_66 fw_X11_273 hp_46 (Nat.le_of_ble_eq_true rfl) ?_
        rw [hq_46_46]
        try simp (disch := omega) only [up_at, up_ne, up2_at, up2_ne]
        refine g_aload_n dX11_seen_69 rfl rfl ?_
        refine g_get dX11_seen_70 fl_X11_273 hp_46 rfl ?_
        try simp (disch := omega) only [up_at, up_ne, up2_at, up2_ne]
        exact g_iret dX11_seen_73 (Or.inr ⟨fun z => by rcases z with z | z | z | z; exact c_5 (by rw [← INV_M h, ← told_M h]; exact z); exact c_15 (in_0.mpr (Or.inl z)); exact c_15 (in_0.mpr (Or.inr z)); exact z (by rw [i6]; exact nI_lt (b := 10) k10 (by decide)), k, t, m, k10, i6, t1, t2, t3, m3, m1, by rw [i1], by rw [i1]⟩)
      · refine g_ic_m1 dX11_seen_27 ?_
        exact g_iret dX11_seen_28 (Or.inl ⟨Or.inr (Or.inr (Or.inr (by rw [← i1, c_24]; decide))), rfl, rfl⟩)

set_option maxHeartbeats 800000 in
set_option maxRecDepth 100000 in
theorem n_level_loop {A : Nat → Nat → Int32} {L : Nat → Nat → Int64} {I : Nat → Nat → Int32} {X : Nat → Int64} {a b : Nat} {Q : Option Value → m_H → Prop} (ha : a < 8) (hb : b < 8) (ha0 : ¬ A 61 (5 * a + 4) = 0) (hb0 : ¬ A 61 (5 * b + 4) = 0) (h7 : gt 143 (A 20) 7 = A 63 41) : ∀ n k, n + k = 100 → Q (some (.int (lvlS (A 20) (A 61 (5 * a + 4)) (A 61 (5 * b + 4)) n k))) (hp A L I X) → G 3 RX11 cX11_level 4 (some .int) Q 20 [some (.ref 46), some (.int (nI a)), some (.int (nI b)), some (.int (nI (k)))] [] (hp A L I X) := by
  intro n
  induction n with
  | zero =>
    intro k hk hQ
    refine g_iload_n dX11_level_20 rfl rfl ?_
    refine g_bipush (v := 99) dX11_level_21 (by decide) ?_
    refine g_icmp_gt (tgt := 72) dX11_level_23 (by decide) (fun c_23 => ?_) (fun c_23 => ?_)
    · refine g_ic_m1 dX11_level_72 ?_
      exact g_iret dX11_level_73 hQ
    · exact absurd (nI_lt (a := 99) (b := k) (by omega) (by omega)) c_23
  | succ n ih =>
    intro k hk hQ
    refine g_iload_n dX11_level_20 rfl rfl ?_
    refine g_bipush (v := 99) dX11_level_21 (by decide) ?_
    refine g_icmp_gt (tgt := 72) dX11_level_23 (by decide) (fun c_23 => ?_) (fun c_23 => ?_)
    · exact absurd ((nI_ltI (a := 99) (b := k) (by decide) (by omega)).mp c_23) (by omega)
    · refine g_aload_n dX11_level_26 rfl rfl ?_
      refine g_get dX11_level_27 fl_X11_58 hp_46 rfl ?_
      refine g_bipush (v := 41) dX11_level_30 (by decide) ?_
      refine g_ra dX11_level_32 hp_63 (k := 41) rfl (by decide) (by decide) ?_
      refine g_iload_n dX11_level_33 rfl rfl ?_
      refine g_iadd dX11_level_34 ?_
      refine g_aload_n dX11_level_35 rfl rfl ?_
      refine g_iload_n dX11_level_36 rfl rfl ?_
      refine g_ic_4 dX11_level_37 ?_
      refine g_callV dX11_level_38 cv_X11_264 (as' := [_, _]) hp_46 rfl (e_of (a := a) (b := 4) rfl rfl (by omega)) (by decide) rfl rfl (Nat.le_of_ble_eq_true rfl) ?_
      rintro _ _ ⟨rfl, rfl⟩
      refine g_irem dX11_level_41 ha0 ?_
      refine g_if_ne (tgt := 66) dX11_level_42 (by decide) (fun c_42 => ?_) (fun c_42 => ?_)
      · refine g_iinc1 dX11_level_66 rfl (by decide) ?_
        refine g_goto (tgt := 20) dX11_level_69 (by decide) ?_
        rw [nI_1]
        refine g_loc (ls' := [some (.ref 46), some (.int (nI a)), some (.int (nI b)), some (.int (nI (k + 1)))]) (fun i v h => by rcases i with _|_|_|_|_ <;> first | exact h | cases h) ?_
        refine ih (k + 1) (by omega) ?_
        rw [show lvlS (A 20) (A 61 (5 * a + 4)) (A 61 (5 * b + 4)) (n + 1) k = _ from if_neg (fun z => c_42 (by rw [← h7]; exact z))] at hQ
        exact hQ
      · refine g_aload_n dX11_level_45 rfl rfl ?_
        refine g_get dX11_level_46 fl_X11_58 hp_46 rfl ?_
        refine g_bipush (v := 41) dX11_level_49 (by decide) ?_
        refine g_ra dX11_level_51 hp_63 (k := 41) rfl (by decide) (by decide) ?_
        refine g_iload_n dX11_level_52 rfl rfl ?_
        refine g_iadd dX11_level_53 ?_
        refine g_aload_n dX11_level_54 rfl rfl ?_
        refine g_iload_n dX11_level_55 rfl rfl ?_
        refine g_ic_4 dX11_level_56 ?_
        refine g_callV dX11_level_57 cv_X11_264 (as' := [_, _]) hp_46 rfl (e_of (a := b) (b := 4) rfl rfl (by omega)) (by decide) rfl rfl (Nat.le_of_ble_eq_true rfl) ?_
        rintro _ _ ⟨rfl, rfl⟩
        refine g_irem dX11_level_60 hb0 ?_
        refine g_if_ne (tgt := 66) dX11_level_61 (by decide) (fun c_61 => ?_) (fun c_61 => ?_)
        · refine g_iinc1 dX11_level_66 rfl (by decide) ?_
          refine g_goto (tgt := 20) dX11_level_69 (by decide) ?_
          rw [nI_1]
          refine g_loc (ls' := [some (.ref 46), some (.int (nI a)), some (.int (nI b)), some (.int (nI (k + 1)))]) (fun i v h => by rcases i with _|_|_|_|_ <;> first | exact h | cases h) ?_
          refine ih (k + 1) (by omega) ?_
          rw [show lvlS (A 20) (A 61 (5 * a + 4)) (A 61 (5 * b + 4)) (n + 1) k = _ from (if_pos (by rw [h7]; exact c_42)).trans (if_neg (fun z => c_61 (by rw [← h7]; exact z)))] at hQ
          exact hQ
        · refine g_iload_n dX11_level_64 rfl rfl ?_
          exact g_iret dX11_level_65 (by rw [show lvlS (A 20) (A 61 (5 * a + 4)) (A 61 (5 * b + 4)) (n + 1) k = _ from (if_pos (by rw [h7]; exact c_42)).trans (if_pos (by rw [h7]; exact c_61))] at hQ; exact hQ)

theorem lev_P {ms cs : Nat} {A I : Nat → Nat → Int32} (h : PLN ms cs A I) {m : Nat} (hm : m < ms) : oM (A 20) (nI m) 4 = A 61 (5 * m + 4) ∧ (¬ A 61 (5 * m + 4) = 0) ∧ (1 : Int32) ≤ A 61 (5 * m + 4) := by
  have h8 : ms ≤ 8 := h.2.1.1.1.2.1
  obtain ⟨-, -, -, -, q, p, p1, p2, p3⟩ := h.2.1.1.2.2.2.1 m hm
  refine ⟨(oM_4 (by omega)).trans q, ?_, ?_⟩
  · rw [p3]; exact nI_ne0 (by omega) (by omega)
  · rw [p3]; exact nI_le (a := 1) p1 (by omega)
set_option maxHeartbeats 800000 in
set_option maxRecDepth 100000 in
theorem n_level {A : Nat → Nat → Int32} {L : Nat → Nat → Int64} {I : Nat → Nat → Int32} {X : Nat → Int64} {x z : Int32} (h : INV A I) : Con 3 yX11_level cX11_level 4 (some .int) [.ref 46, .int x, .int z] (hp A L I X) (fun r_ H_ => r_ = some (.int (leV A x z)) ∧ H_ = hp A L I X) := by
  refine m_con (by decide) (Nat.le_of_ble_eq_true rfl) ?_
  refine g_aload_n dX11_level_0 rfl rfl ?_
  refine g_iload_n dX11_level_1 rfl rfl ?_
  refine g_callV dX11_level_2 cv_X11_317 (as' := [_]) hp_46 rfl e_isMonth (by decide) rfl rfl (Nat.le_of_ble_eq_true rfl) ?_
  rintro _ _ ⟨rfl, rfl⟩
  refine g_if_eq (tgt := 16) dX11_level_5 (by decide) (fun c_5 => ?_) (fun c_5 => ?_)
  · refine g_ic_m1 dX11_level_16 ?_
    exact g_iret dX11_level_17 ⟨congrArg (fun z => some (Value.int z)) (by exact (if_pos (Or.inl (by rw [INV_M h]; exact c_5))).symm), rfl⟩
  · refine g_aload_n dX11_level_8 rfl rfl ?_
    refine g_iload_n dX11_level_9 rfl rfl ?_
    refine g_callV dX11_level_10 cv_X11_317 (as' := [_]) hp_46 rfl e_isMonth (by decide) rfl rfl (Nat.le_of_ble_eq_true rfl) ?_
    rintro _ _ ⟨rfl, rfl⟩
    refine g_if_ne (tgt := 18) dX11_level_13 (by decide) (fun c_13 => ?_) (fun c_13 => ?_)
    · refine g_ic_0 dX11_level_18 ?_
      refine g_istore_n dX11_level_19 rfl (by decide) ?_
      obtain ⟨ms, cs, a, hP, rfl, a1, a2⟩ := INV_Pm h c_5
      obtain ⟨ms2, cs2, b, hP2, rfl, b1, b2⟩ := INV_Pm h c_13
      obtain ⟨u1, u2, u3⟩ := lev_P hP a1
      obtain ⟨v1, v2, v3⟩ := lev_P hP2 b1
      refine n_level_loop a2 b2 u2 v2 (by rw [g143_7]; exact hP.2.1.1.2.1.2.2.2.2.2.1.1) 100 0 rfl ⟨?_, rfl⟩
      refine congrArg (fun z => some (Value.int z)) (Eq.symm ?_)
      rw [show leV A (nI a) (nI b) = levelS (A 20) (nI a) (nI b) from if_neg (fun z => z.elim (fun w => c_5 (by rw [← INV_M h]; exact w)) (fun w => c_13 (by rw [← INV_M h]; exact w)))]
      unfold levelS
      rw [u1, v1, if_neg (Int32.not_lt.mpr u3), if_pos v3]
    · refine g_ic_m1 dX11_level_16 ?_
      exact g_iret dX11_level_17 ⟨congrArg (fun z => some (Value.int z)) (by exact (if_pos (Or.inr (by rw [INV_M h]; exact c_13))).symm), rfl⟩

set_option maxHeartbeats 800000 in
set_option maxRecDepth 100000 in
theorem n_year_loop {A : Nat → Nat → Int32} {L : Nat → Nat → Int64} {I : Nat → Nat → Int32} {X : Nat → Int64} {ms : Nat} {Q : Option Value → m_H → Prop} (h25 : I 46 25 = nI ms) (hms : ms ≤ 8) (hE : ∀ s, s = itn (fun k s => s + A 61 (5 * k)) ms 0 → G 2 RX11 cX11_year 3 (some .int) Q 27 [some (.ref 46), some (.int (s)), some (.int (nI (ms)))] [] (hp A L I X)) : ∀ n k s, s = itn (fun k s => s + A 61 (5 * k)) k 0 → k ≤ ms → ms - k < n → G 2 RX11 cX11_year 3 (some .int) Q 4 [some (.ref 46), some (.int (s)), some (.int (nI (k)))] [] (hp A L I X) := by
  intro n
  induction n with
  | zero => intro k s hs h1 h2; omega
  | succ n ih =>
    intro k s hs h1 h2
    refine g_iload_n dX11_year_4 rfl rfl ?_
    refine g_aload_n dX11_year_5 rfl rfl ?_
    refine g_get dX11_year_6 fl_X11_261 hp_46 rfl ?_
    refine g_icmp_ge (tgt := 27) dX11_year_9 (by decide) (fun c_9 => ?_) (fun c_9 => ?_)
    · have hge : ms ≤ k := by rw [h25] at c_9; exact (nI_leI (by omega) (by omega)).mp c_9
      have hkn : k = ms := by omega
      subst hkn
      exact hE s hs
    · have hlt : k < ms := by rw [h25] at c_9; exact Nat.not_le.mp (fun z => c_9 (nI_le z (by omega)))
      refine g_iload_n dX11_year_12 rfl rfl ?_
      refine g_aload_n dX11_year_13 rfl rfl ?_
      refine g_iload_n dX11_year_14 rfl rfl ?_
      refine g_ic_0 dX11_year_15 ?_
      refine g_callV dX11_year_16 cv_X11_264 (as' := [_, _]) hp_46 rfl (e_of (a := k) (b := 0) rfl rfl (by omega)) (by decide) rfl rfl (Nat.le_of_ble_eq_true rfl) ?_
      rintro _ _ ⟨rfl, rfl⟩
      refine g_iadd dX11_year_19 ?_
      refine g_istore_n dX11_year_20 rfl (by decide) ?_
      refine g_iinc1 dX11_year_21 rfl (by decide) ?_
      refine g_goto (tgt := 4) dX11_year_24 (by decide) ?_
      rw [nI_1]
      refine g_loc (ls' := [some (.ref 46), some (.int (s + A 61 (5 * k + 0))), some (.int (nI (k + 1)))]) (fun i v h => by rcases i with _|_|_|_ <;> first | exact h | cases h) ?_
      exact ih (k + 1) _ (by rw [hs]; rfl) (by omega) (by omega)

theorem year_v {A I : Nat → Nat → Int32} (h : INV A I) (c : ¬ I 46 25 = 0) : itn (fun k s => s + A 61 (5 * k)) (I 46 25).toNatClampNeg 0 = yeS A I := by
  obtain ⟨ms, cs, hP⟩ := INV_P h (fun w => c ((INV_0 h).mpr w))
  have h8 : ms ≤ 8 := hP.2.1.1.1.2.1
  rw [show yeS A I = daysS (A 20) from if_neg (fun w => c ((INV_0 h).mpr w))]
  unfold daysS
  rw [hP.1.1, g143_9, hP.2.1.1.1.2.2.2.2.1]
  refine itn_eq _ (fun k t hk => ?_)
  rw [nI_clamp (by omega)] at hk
  rw [oM_0 (by omega), (hP.2.1.1.2.2.2.1 k hk).1.1]
theorem INV_25 {A I : Nat → Nat → Int32} (h : INV A I) : ∃ ms, ms ≤ 8 ∧ I 46 25 = nI ms := by
  rcases h.2.2.2.2 with ⟨h5, h6⟩ | ⟨h5, ms, cs, h6⟩
  · exact ⟨0, by decide, h6.1.1⟩
  · exact ⟨ms, h6.2.1.1.1.2.1, h6.1.1⟩
theorem INV_26 {A I : Nat → Nat → Int32} (h : INV A I) : ∃ cs, cs ≤ 5 ∧ I 46 26 = nI cs := by
  rcases h.2.2.2.2 with ⟨h5, h6⟩ | ⟨h5, ms, cs, h6⟩
  · exact ⟨0, by decide, h6.1.2⟩
  · exact ⟨cs, h6.2.1.1.1.2.2.2.1, h6.1.2⟩
set_option maxHeartbeats 800000 in
set_option maxRecDepth 100000 in
theorem n_year {A : Nat → Nat → Int32} {L : Nat → Nat → Int64} {I : Nat → Nat → Int32} {X : Nat → Int64}  (h : INV A I) : Con 2 yX11_year cX11_year 3 (some .int) [.ref 46] (hp A L I X) (fun r_ H_ => r_ = some (.int (yeS A I)) ∧ H_ = hp A L I X) := by
  refine m_con (by decide) (Nat.le_of_ble_eq_true rfl) ?_
  refine g_ic_0 dX11_year_0 ?_
  refine g_istore_n dX11_year_1 rfl (by decide) ?_
  refine g_ic_0 dX11_year_2 ?_
  refine g_istore_n dX11_year_3 rfl (by decide) ?_
  obtain ⟨ms, m8, h25⟩ := INV_25 h
  refine n_year_loop h25 m8 (fun s hs => ?_) (ms + 1) 0 0 rfl (Nat.zero_le _) (Nat.lt_succ_self _)
  have hs : s = itn (fun k s => s + A 61 (5 * k)) (I 46 25).toNatClampNeg 0 := by rw [hs, h25, nI_clamp (by omega)]
  refine g_aload_n dX11_year_27 rfl rfl ?_
  refine g_get dX11_year_28 fl_X11_261 hp_46 rfl ?_
  refine g_if_ne (tgt := 38) dX11_year_31 (by decide) (fun c_31 => ?_) (fun c_31 => ?_)
  · refine g_iload_n dX11_year_38 rfl rfl ?_
    exact g_iret dX11_year_39 ⟨congrArg (fun z => some (Value.int z)) (by rw [hs]; exact year_v h c_31), rfl⟩
  · refine g_ic_m1 dX11_year_34 ?_
    refine g_goto (tgt := 39) dX11_year_35 (by decide) ?_
    exact g_iret dX11_year_39 ⟨congrArg (fun z => some (Value.int z)) (by exact (if_pos ((INV_0 h).mp c_31)).symm), rfl⟩

theorem wo_r {ms cs : Nat} {A I : Nat → Nat → Int32} (h : PLN ms cs A I) {k : Nat} (hk : k < cs) (c : ¬ haZ (A 63 34) (nI k) = 0) : 0 = uT (A 20) k := by
  unfold uT
  rw [if_neg (by rw [cr_r h hk]; exact c)]
theorem wo_u {ms cs : Nat} {A I : Nat → Nat → Int32} (h : PLN ms cs A I) {k : Nat} (hk : k < cs) (c : haZ (A 63 34) (nI k) = 0) : A 62 (3 * k + 2) = uT (A 20) k := by
  have h5 : cs ≤ 5 := h.2.1.1.1.2.2.2.1
  unfold uT
  rw [if_pos (by rw [cr_r h hk]; exact c), oC_2 (by omega)]
  exact ((h.2.1.1.2.2.2.2.1 k hk).2.2.1.1).symm
set_option maxHeartbeats 800000 in
set_option maxRecDepth 100000 in
theorem n_worths_loop {A : Nat → Nat → Int32} {L : Nat → Nat → Int64} {I : Nat → Nat → Int32} {X : Nat → Int64} {ms cs : Nat} {Q : Option Value → m_H → Prop} (hP : PLN ms cs A I) (hcs : cs ≤ 5) (hE : ∀ s, s = itn (fun k s => s + uT (A 20) k) cs 0 → G 3 RX11 cX11_worths 3 (some .int) Q 48 [some (.ref 46), some (.int (s)), some (.int (nI (cs)))] [] (hp A L I X)) : ∀ n k s, s = itn (fun k s => s + uT (A 20) k) k 0 → k ≤ cs → cs - k < n → G 3 RX11 cX11_worths 3 (some .int) Q 13 [some (.ref 46), some (.int (s)), some (.int (nI (k)))] [] (hp A L I X) := by
  intro n
  induction n with
  | zero => intro k s hs h1 h2; omega
  | succ n ih =>
    intro k s hs h1 h2
    refine g_iload_n dX11_worths_13 rfl rfl ?_
    refine g_aload_n dX11_worths_14 rfl rfl ?_
    refine g_get dX11_worths_15 fl_X11_267 hp_46 rfl ?_
    refine g_icmp_ge (tgt := 48) dX11_worths_18 (by decide) (fun c_18 => ?_) (fun c_18 => ?_)
    · have hge : cs ≤ k := by rw [hP.1.2] at c_18; exact (nI_leI (by omega) (by omega)).mp c_18
      have hkn : k = cs := by omega
      subst hkn
      exact hE s hs
    · have hlt : k < cs := by rw [hP.1.2] at c_18; exact Nat.not_le.mp (fun z => c_18 (nI_le z (by omega)))
      refine g_iload_n dX11_worths_21 rfl rfl ?_
      refine g_aload_n dX11_worths_22 rfl rfl ?_
      refine g_iload_n dX11_worths_23 rfl rfl ?_
      refine g_callV dX11_worths_24 cv_X11_308 (as' := [_]) hp_46 rfl e_isRipe (by decide) rfl rfl (Nat.le_of_ble_eq_true rfl) ?_
      rintro _ _ ⟨rfl, rfl⟩
      refine g_if_eq (tgt := 34) dX11_worths_27 (by decide) (fun c_27 => ?_) (fun c_27 => ?_)
      · refine g_aload_n dX11_worths_34 rfl rfl ?_
        refine g_iload_n dX11_worths_35 rfl rfl ?_
        refine g_ic_2 dX11_worths_36 ?_
        refine g_callV dX11_worths_37 cv_X11_296 (as' := [_, _]) hp_46 rfl (e_ofCrop (a := k) (b := 2) rfl rfl (by omega)) (by decide) rfl rfl (Nat.le_of_ble_eq_true rfl) ?_
        rintro _ _ ⟨rfl, rfl⟩
        refine g_iadd dX11_worths_40 ?_
        refine g_istore_n dX11_worths_41 rfl (by decide) ?_
        refine g_iinc1 dX11_worths_42 rfl (by decide) ?_
        refine g_goto (tgt := 13) dX11_worths_45 (by decide) ?_
        rw [nI_1]
        refine g_loc (ls' := [some (.ref 46), some (.int (s + A 62 (3 * k + 2))), some (.int (nI (k + 1)))]) (fun i v h => by rcases i with _|_|_|_ <;> first | exact h | cases h) ?_
        exact ih (k + 1) _ (by rw [hs]; exact congrArg (fun z => itn (fun k s => s + uT (A 20) k) k 0 + z) (wo_u hP hlt c_27)) (by omega) (by omega)
      · refine g_ic_0 dX11_worths_30 ?_
        refine g_goto (tgt := 40) dX11_worths_31 (by decide) ?_
        refine g_iadd dX11_worths_40 ?_
        refine g_istore_n dX11_worths_41 rfl (by decide) ?_
        refine g_iinc1 dX11_worths_42 rfl (by decide) ?_
        refine g_goto (tgt := 13) dX11_worths_45 (by decide) ?_
        rw [nI_1]
        refine g_loc (ls' := [some (.ref 46), some (.int (s + 0)), some (.int (nI (k + 1)))]) (fun i v h => by rcases i with _|_|_|_ <;> first | exact h | cases h) ?_
        exact ih (k + 1) _ (by rw [hs]; exact congrArg (fun z => itn (fun k s => s + uT (A 20) k) k 0 + z) (wo_r hP hlt c_27)) (by omega) (by omega)

set_option maxHeartbeats 800000 in
set_option maxRecDepth 100000 in
theorem n_worths {A : Nat → Nat → Int32} {L : Nat → Nat → Int64} {I : Nat → Nat → Int32} {X : Nat → Int64}  (h : INV A I) : Con 3 yX11_worths cX11_worths 3 (some .int) [.ref 46] (hp A L I X) (fun r_ H_ => r_ = some (.int (woS A I)) ∧ H_ = hp A L I X) := by
  refine m_con (by decide) (Nat.le_of_ble_eq_true rfl) ?_
  refine g_aload_n dX11_worths_0 rfl rfl ?_
  refine g_get dX11_worths_1 fl_X11_261 hp_46 rfl ?_
  refine g_if_ne (tgt := 9) dX11_worths_4 (by decide) (fun c_4 => ?_) (fun c_4 => ?_)
  · refine g_ic_0 dX11_worths_9 ?_
    refine g_istore_n dX11_worths_10 rfl (by decide) ?_
    refine g_ic_0 dX11_worths_11 ?_
    refine g_istore_n dX11_worths_12 rfl (by decide) ?_
    obtain ⟨ms, cs, hP⟩ := INV_P h (fun w => c_4 ((INV_0 h).mpr w))
    have hcs : cs ≤ 5 := hP.2.1.1.1.2.2.2.1
    refine n_worths_loop hP hcs (fun s hs => ?_) (cs + 1) 0 0 rfl (Nat.zero_le _) (Nat.lt_succ_self _)
    refine g_iload_n dX11_worths_48 rfl rfl ?_
    exact g_iret dX11_worths_49 ⟨congrArg (fun z => some (Value.int z)) (by rw [hs, ← unr_n hP.2.1.1.1.2.2.2.2.2 (by omega)]; exact (if_neg (fun w => c_4 ((INV_0 h).mpr w))).symm), rfl⟩
  · refine g_ic_m1 dX11_worths_7 ?_
    exact g_iret dX11_worths_8 ⟨congrArg (fun z => some (Value.int z)) (by exact (if_pos ((INV_0 h).mp c_4)).symm), rfl⟩
