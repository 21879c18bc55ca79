/-! THE REFERENCE: begin (as it was told) -/
def bgM (M N0 : ROW) (k : Nat) : ROW := fun j => if j < k then M (5 * j + 1) else if 8 ≤ j ∧ j < 8 + k then M (5 * (j - 8) + 2) else if 16 ≤ j ∧ j < 16 + k then M (5 * (j - 16) + 3) else N0 j
theorem bgM_0 {M N0 : ROW} : bgM M N0 0 = N0 := by
  funext j
  unfold bgM
  rw [if_neg (by omega), if_neg (by omega), if_neg (by omega)]
theorem bgM_s {M N0 : ROW} {k : Nat} (hk : k < 8) : upd (upd (upd (bgM M N0 k) k (M (5 * k + 1))) (8 + k) (M (5 * k + 2))) (16 + k) (M (5 * k + 3)) = bgM M N0 (k + 1) := by
  funext j
  by_cases h1 : j = 16 + k
  · rw [h1, ud_at]
    unfold bgM
    rw [if_neg (by omega), if_neg (by omega), if_pos (by omega), show 16 + k - 16 = k by omega]
  · rw [ud_ne h1]
    by_cases h2 : j = 8 + k
    · rw [h2, ud_at]
      unfold bgM
      rw [if_neg (by omega), if_pos (by omega), show 8 + k - 8 = k by omega]
    · rw [ud_ne h2]
      by_cases h3 : j = k
      · rw [h3, ud_at]
        unfold bgM
        rw [if_pos (by omega)]
      · rw [ud_ne h3]
        unfold bgM
        by_cases c1 : j < k
        · rw [if_pos c1, if_pos (by omega)]
        · rw [if_neg c1, if_neg (show ¬ j < k + 1 by omega)]
          by_cases c2 : 8 ≤ j ∧ j < 8 + k
          · rw [if_pos c2, if_pos (by omega)]
          · rw [if_neg c2, if_neg (show ¬ (8 ≤ j ∧ j < 8 + (k + 1)) by omega)]
            by_cases c3 : 16 ≤ j ∧ j < 16 + k
            · rw [if_pos c3, if_pos (by omega)]
            · rw [if_neg c3, if_neg (show ¬ (16 ≤ j ∧ j < 16 + (k + 1)) by omega)]
/-- the row as it was told -/
def bgN (R M N : ROW) (ms : Nat) : ROW := upd (upd (upd (bgM M (fl (fun _ => 0) N 43) ms) 35 (R 0)) 36 (R 1)) 37 (R 3)
theorem bgN_hi {R M N : ROW} {ms j : Nat} (hms : ms ≤ 8) (hj : 43 ≤ j) : bgN R M N ms j = N j := by
  unfold bgN
  rw [ud_ne (by omega), ud_ne (by omega), ud_ne (by omega)]
  unfold bgM
  rw [if_neg (by omega), if_neg (by omega), if_neg (by omega), fl_ge hj]
theorem bgN_lo {R M N : ROW} {ms j : Nat} (hms : ms ≤ 8) (h1 : 24 ≤ j) (h2 : j < 43) (h3 : j ≠ 35) (h4 : j ≠ 36) (h5 : j ≠ 37) : bgN R M N ms j = 0 := by
  unfold bgN
  rw [ud_ne h5, ud_ne h4, ud_ne h3]
  unfold bgM
  rw [if_neg (by omega), if_neg (by omega), if_neg (by omega), fl_lt h2]
theorem bgN_m {R M N : ROW} {ms m : Nat} (hms : ms ≤ 8) (hm : m < ms) : bgN R M N ms m = M (5 * m + 1) ∧ bgN R M N ms (8 + m) = M (5 * m + 2) ∧ bgN R M N ms (16 + m) = M (5 * m + 3) := by
  unfold bgN
  refine ⟨?_, ?_, ?_⟩
  · rw [ud_ne (by omega), ud_ne (by omega), ud_ne (by omega)]
    unfold bgM
    rw [if_pos hm]
  · rw [ud_ne (by omega), ud_ne (by omega), ud_ne (by omega)]
    unfold bgM
    rw [if_neg (by omega), if_pos (by omega), show 8 + m - 8 = m by omega]
  · rw [ud_ne (by omega), ud_ne (by omega), ud_ne (by omega)]
    unfold bgM
    rw [if_neg (by omega), if_neg (by omega), if_pos (by omega), show 16 + m - 16 = m by omega]
theorem bg_RJ {ms cs : Nat} {R M C f N : ROW} (h : TD ms cs R M C f) : RJ ms cs R M C f (bgN R M N ms) := by
  obtain ⟨⟨a1, a2, a3, a4, a5, a6⟩, ⟨r0, ⟨k0, k1, k2, k3⟩, r1, ⟨b1, b1', b1''⟩, r2, b2, r3, ⟨b3, b3', b3''⟩⟩, ⟨z4, z5, z6, z7, z8, z11, z12⟩, hM, hC⟩ := h
  have e35 : bgN R M N ms 35 = R 0 := by unfold bgN; rw [ud_ne (by decide), ud_ne (by decide), ud_at]
  have e36 : bgN R M N ms 36 = R 1 := by unfold bgN; rw [ud_ne (by decide), ud_at]
  have e37 : bgN R M N ms 37 = R 3 := by unfold bgN; rw [ud_at]
  have lo : ∀ j, 24 ≤ j → j < 43 → j ≠ 35 → j ≠ 36 → j ≠ 37 → bgN R M N ms j = 0 := fun j => bgN_lo a2
  refine ⟨⟨a1, a2, a3, a4, a5, a6⟩, ⟨⟨r0.trans e35.symm, ?_⟩, ⟨r1.trans e36.symm, ?_⟩, ⟨r2, b2⟩, ⟨r3.trans e37.symm, ?_⟩, ⟨z4.trans (lo 38 (by decide) (by decide) (by decide) (by decide) (by decide)).symm, ?_⟩, ⟨z7.trans (lo 41 (by decide) (by decide) (by decide) (by decide) (by decide)).symm, ?_⟩, z8.trans (lo 42 (by decide) (by decide) (by decide) (by decide) (by decide)).symm, ?_⟩, ?_, fun m hm => ?_, fun c hc => ?_, ?_⟩
  · rw [e35]; exact ⟨k0, k2, k3⟩
  · rw [e36]; exact ⟨b1, by omega, b1''⟩
  · rw [e37]; exact ⟨b3, by omega, b3''⟩
  · rw [lo 38 (by decide) (by decide) (by decide) (by decide) (by decide)]; exact ⟨0, by decide, rfl⟩
  · rw [lo 41 (by decide) (by decide) (by decide) (by decide) (by decide)]; exact ⟨0, by decide, rfl⟩
  · rw [z12]; exact ⟨0, by decide, rfl⟩
  · obtain ⟨⟨m1, l, l1, l9, ml⟩, -⟩ := hM 0 (by omega)
    refine ⟨0, 0, l, z5, lo 39 (by decide) (by decide) (by decide) (by decide) (by decide), by omega, z6, lo 40 (by decide) (by decide) (by decide) (by decide) (by decide), m1.trans ml, by omega, l9⟩
  · obtain ⟨q0, ⟨q1, c1⟩, ⟨q2, c2⟩, ⟨q3, c3⟩, q4⟩ := hM m hm
    obtain ⟨n0, n1, n2⟩ := bgN_m (R := R) (M := M) (N := N) a2 hm
    refine ⟨q0, ⟨q1.trans n0.symm, ?_⟩, ⟨q2.trans n1.symm, ?_⟩, ⟨q3.trans n2.symm, ?_⟩, q4⟩
    · rw [n0]; exact c1
    · rw [n1]; exact c2
    · rw [n2]; exact c3
  · obtain ⟨q0, q1, q2, q3, q4, q5⟩ := hC c hc
    have n3 := lo (24 + c) (by omega) (by omega) (by omega) (by omega) (by omega)
    have n4 := lo (29 + c) (by omega) (by omega) (by omega) (by omega) (by omega)
    refine ⟨q0, q1, q2, ⟨q3.trans n3.symm, ?_⟩, ⟨q4.trans n4.symm, ?_⟩⟩
    · rw [n3]; exact ⟨0, by decide, rfl⟩
    · rw [n4]; exact ⟨0, by decide, rfl⟩
  · refine ⟨0, Nat.two_pow_pos cs, lo 34 (by decide) (by decide) (by decide) (by decide) (by decide), fun c hc => ?_⟩
    rw [(hC c hc).2.2.2.2.2, Nat.zero_div]
    rfl
set_option maxHeartbeats 800000 in
set_option maxRecDepth 100000 in
theorem e_bg1 {A : Nat → Nat → Int32} {L : Nat → Nat → Int64} {I : Nat → Nat → Int32} {X : Nat → Int64} {N : ROW} {Q : Option Value → m_H → Prop} (hE : G 2 RX11 cX11_begin 2 none Q 21 [some (.ref 46), some (.int (nI 43))] [] (hp (up A 63 (fl (fun _ => 0) N 43)) L I X)) : ∀ f k, k ≤ 43 → 43 - k < f → G 2 RX11 cX11_begin 2 none Q 2 [some (.ref 46), some (.int (nI k))] [] (hp (up A 63 (fl (fun _ => 0) N k)) L I X) := by
  intro f
  induction f with
  | zero => intro k h1 h2; omega
  | succ f ih =>
    intro k h1 h2
    refine g_iload_n dX11_begin_2 rfl rfl ?_
    refine g_bipush (v := 43) dX11_begin_3 (by decide) ?_
    refine g_icmp_ge (tgt := 21) dX11_begin_5 (by decide) (fun c_5 => ?_) (fun c_5 => ?_)
    · have h6 : 43 ≤ k := lit_le (n := 43) (by decide) (by omega) c_5
      have hkn : k = 43 := by omega
      subst hkn
      exact hE
    · have hlt : k < 43 := by have := lit_nle (n := 43) (by decide) (by omega) c_5; omega
      refine g_aload_n dX11_begin_8 rfl rfl ?_
      refine g_get dX11_begin_9 fl_X11_58 hp_46 rfl ?_
      refine g_iload_n dX11_begin_12 rfl rfl ?_
      refine g_ic_0 dX11_begin_13 ?_
      refine g_wa dX11_begin_14 hp_63 (k := k) rfl (by omega) (by decide) ?_
      rw [hq_63]
      try simp (disch := omega) only [up_at, up_up, up_ne]
      refine g_iinc1 dX11_begin_15 rfl (by decide) ?_
      refine g_goto (tgt := 2) dX11_begin_18 (by decide) ?_
      rw [nI_1, fl_upd (F := fun _ => 0)]
      exact ih (k + 1) (by omega) (by omega)

set_option maxHeartbeats 800000 in
set_option maxRecDepth 100000 in
theorem e_bg2 {A : Nat → Nat → Int32} {L : Nat → Nat → Int64} {I : Nat → Nat → Int32} {X : Nat → Int64} {ms : Nat} {N0 : ROW} {Q : Option Value → m_H → Prop} (h25 : I 46 25 = nI ms) (hms : ms ≤ 8) (hE : G 2 RX11 cX11_begin 2 none Q 81 [some (.ref 46), some (.int (nI ms))] [] (hp (up A 63 (bgM (A 61) N0 ms)) L I X)) : ∀ f k, k ≤ ms → ms - k < f → G 2 RX11 cX11_begin 2 none Q 23 [some (.ref 46), some (.int (nI k))] [] (hp (up A 63 (bgM (A 61) N0 k)) L I X) := by
  intro f
  induction f with
  | zero => intro k h1 h2; omega
  | succ f ih =>
    intro k h1 h2
    refine g_iload_n dX11_begin_23 rfl rfl ?_
    refine g_aload_n dX11_begin_24 rfl rfl ?_
    refine g_get dX11_begin_25 fl_X11_261 hp_46 rfl ?_
    try simp (disch := omega) only [up_at, up_up, up_ne]
    refine g_icmp_ge (tgt := 81) dX11_begin_28 (by decide) (fun c_28 => ?_) (fun c_28 => ?_)
    · rw [h25] at c_28
      have h6 := (nI_leI (a := ms) (b := k) (by omega) (by omega)).mp c_28
      have hkn : k = ms := by omega
      subst hkn
      exact hE
    · have hlt : k < ms := Nat.not_le.mp (fun z => c_28 (by rw [h25]; exact (nI_leI (by omega) (by omega)).mpr z))
      refine g_aload_n dX11_begin_31 rfl rfl ?_
      refine g_get dX11_begin_32 fl_X11_58 hp_46 rfl ?_
      refine g_ic_0 dX11_begin_35 ?_
      refine g_iload_n dX11_begin_36 rfl rfl ?_
      refine g_iadd dX11_begin_37 ?_
      refine g_aload_n dX11_begin_38 rfl rfl ?_
      refine g_iload_n dX11_begin_39 rfl rfl ?_
      refine g_ic_1 dX11_begin_40 ?_
      refine g_callV dX11_begin_41 cv_X11_264 (as' := [_, _]) hp_46 rfl (e_of (a := k) (b := 1) rfl rfl (by omega)) (by decide) rfl rfl (Nat.le_of_ble_eq_true rfl) ?_
      rintro _ _ ⟨rfl, rfl⟩
      try simp (disch := omega) only [up_at, up_up, up_ne]
      refine g_wa dX11_begin_44 hp_63 (k := k) (nk_0 (show (0 : Int32) = nI 0 from rfl) (show nI (k) = nI (k) from rfl)) (by omega) (by decide) ?_
      rw [hq_63]
      try simp (disch := omega) only [up_at, up_up, up_ne]
      refine g_aload_n dX11_begin_45 rfl rfl ?_
      refine g_get dX11_begin_46 fl_X11_58 hp_46 rfl ?_
      refine g_bipush (v := 8) dX11_begin_49 (by decide) ?_
      refine g_iload_n dX11_begin_51 rfl rfl ?_
      refine g_iadd dX11_begin_52 ?_
      refine g_aload_n dX11_begin_53 rfl rfl ?_
      refine g_iload_n dX11_begin_54 rfl rfl ?_
      refine g_ic_2 dX11_begin_55 ?_
      refine g_callV dX11_begin_56 cv_X11_264 (as' := [_, _]) hp_46 rfl (e_of (a := k) (b := 2) rfl rfl (by omega)) (by decide) rfl rfl (Nat.le_of_ble_eq_true rfl) ?_
      rintro _ _ ⟨rfl, rfl⟩
      try simp (disch := omega) only [up_at, up_up, up_ne]
      refine g_wa dX11_begin_59 hp_63 (k := 8 + k) (nk_add (show (8 : Int32) = nI 8 from rfl) (show nI (k) = nI (k) from rfl)) (by omega) (by decide) ?_
      rw [hq_63]
      try simp (disch := omega) only [up_at, up_up, up_ne]
      refine g_aload_n dX11_begin_60 rfl rfl ?_
      refine g_get dX11_begin_61 fl_X11_58 hp_46 rfl ?_
      refine g_bipush (v := 16) dX11_begin_64 (by decide) ?_
      refine g_iload_n dX11_begin_66 rfl rfl ?_
      refine g_iadd dX11_begin_67 ?_
      refine g_aload_n dX11_begin_68 rfl rfl ?_
      refine g_iload_n dX11_begin_69 rfl rfl ?_
      refine g_ic_3 dX11_begin_70 ?_
      refine g_callV dX11_begin_71 cv_X11_264 (as' := [_, _]) hp_46 rfl (e_of (a := k) (b := 3) rfl rfl (by omega)) (by decide) rfl rfl (Nat.le_of_ble_eq_true rfl) ?_
      rintro _ _ ⟨rfl, rfl⟩
      try simp (disch := omega) only [up_at, up_up, up_ne]
      refine g_wa dX11_begin_74 hp_63 (k := 16 + k) (nk_add (show (16 : Int32) = nI 16 from rfl) (show nI (k) = nI (k) from rfl)) (by omega) (by decide) ?_
      rw [hq_63]
      try simp (disch := omega) only [up_at, up_up, up_ne]
      refine g_iinc1 dX11_begin_75 rfl (by decide) ?_
      refine g_goto (tgt := 23) dX11_begin_78 (by decide) ?_
      rw [nI_1, bgM_s (by omega)]
      exact ih (k + 1) (by omega) (by omega)

set_option maxHeartbeats 800000 in
set_option maxRecDepth 100000 in
theorem e_begin {A : Nat → Nat → Int32} {L : Nat → Nat → Int64} {I : Nat → Nat → Int32} {X : Nat → Int64} {ms : Nat} (h25 : I 46 25 = nI ms) (hms : ms ≤ 8) : Con 2 yX11_begin cX11_begin 2 none [.ref 46] (hp A L I X) (fun r_ H_ => r_ = none ∧ H_ = hp (up A 63 (bgN (A 60) (A 61) (A 63) ms)) L I X) := by
  refine m_con (by decide) (Nat.le_of_ble_eq_true rfl) ?_
  refine g_ic_0 dX11_begin_0 ?_
  refine g_istore_n dX11_begin_1 rfl (by decide) ?_
  have h := e_bg1 (A := A) (L := L) (I := I) (X := X) (N := A 63) (Q := (fun r_ H_ => r_ = none ∧ H_ = hp (up A 63 (bgN (A 60) (A 61) (A 63) ms)) L I X)) ?_ 44 0 (by decide) (by decide)
  · rw [fl_0, up_self] at h
    exact h
  · refine g_ic_0 dX11_begin_21 ?_
    refine g_istore_n dX11_begin_22 rfl (by decide) ?_
    have h := e_bg2 (A := A) (L := L) (I := I) (X := X) (N0 := fl (fun _ => 0) (A 63) 43) (Q := (fun r_ H_ => r_ = none ∧ H_ = hp (up A 63 (bgN (A 60) (A 61) (A 63) ms)) L I X)) h25 hms ?_ (ms + 1) 0 (Nat.zero_le _) (Nat.lt_succ_self _)
    · rw [bgM_0] at h
      exact h
    · refine g_aload_n dX11_begin_81 rfl rfl ?_
      refine g_get dX11_begin_82 fl_X11_58 hp_46 rfl ?_
      refine g_bipush (v := 35) dX11_begin_85 (by decide) ?_
      refine g_aload_n dX11_begin_87 rfl rfl ?_
      refine g_get dX11_begin_88 fl_X11_49 hp_46 rfl ?_
      refine g_ic_0 dX11_begin_91 ?_
      refine g_ra dX11_begin_92 hp_60 (k := 0) rfl (by decide) (by decide) ?_
      try simp (disch := omega) only [up_at, up_up, up_ne]
      refine g_wa dX11_begin_93 hp_63 (k := 35) rfl (by decide) (by decide) ?_
      rw [hq_63]
      try simp (disch := omega) only [up_at, up_up, up_ne]
      refine g_aload_n dX11_begin_94 rfl rfl ?_
      refine g_get dX11_begin_95 fl_X11_58 hp_46 rfl ?_
      refine g_bipush (v := 36) dX11_begin_98 (by decide) ?_
      refine g_aload_n dX11_begin_100 rfl rfl ?_
      refine g_get dX11_begin_101 fl_X11_49 hp_46 rfl ?_
      refine g_ic_1 dX11_begin_104 ?_
      refine g_ra dX11_begin_105 hp_60 (k := 1) rfl (by decide) (by decide) ?_
      try simp (disch := omega) only [up_at, up_up, up_ne]
      refine g_wa dX11_begin_106 hp_63 (k := 36) rfl (by decide) (by decide) ?_
      rw [hq_63]
      try simp (disch := omega) only [up_at, up_up, up_ne]
      refine g_aload_n dX11_begin_107 rfl rfl ?_
      refine g_get dX11_begin_108 fl_X11_58 hp_46 rfl ?_
      refine g_bipush (v := 37) dX11_begin_111 (by decide) ?_
      refine g_aload_n dX11_begin_113 rfl rfl ?_
      refine g_get dX11_begin_114 fl_X11_49 hp_46 rfl ?_
      refine g_ic_3 dX11_begin_117 ?_
      refine g_ra dX11_begin_118 hp_60 (k := 3) rfl (by decide) (by decide) ?_
      try simp (disch := omega) only [up_at, up_up, up_ne]
      refine g_wa dX11_begin_119 hp_63 (k := 37) rfl (by decide) (by decide) ?_
      rw [hq_63]
      try simp (disch := omega) only [up_at, up_up, up_ne]
      exact g_vret dX11_begin_120 ⟨rfl, rfl⟩
