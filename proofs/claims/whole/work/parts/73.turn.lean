/-! A WHOLE TURN IN THE REFERENCE, many -/
theorem ea_0 {N R : ROW} (h : N 35 ≤ 0) : upd N 42 (N 42 + 1) = upd (eaN N R) 42 (eaN N R 42 + 1) := by
  rw [show eaN N R = N from if_neg (Int32.not_lt.mpr h)]
theorem ea_1 {N R : ROW} (h : ¬ N 35 ≤ 0) (h2 : ¬ N 36 < R 2) : upd (upd (upd N 36 (N 36 - R 2)) 35 (N 35 - 0)) 42 (N 42 + 1) = upd (eaN N R) 42 (eaN N R 42 + 1) := by
  rw [show eaN N R = upd (upd N 36 (N 36 - R 2)) 35 (N 35 - 0) from (if_pos (Int32.not_le.mp h)).trans (if_pos (Int32.not_lt.mp h2))]
  simp (disch := omega) only [ud_at, ud_ne]
theorem ea_2 {N R : ROW} (h : ¬ N 35 ≤ 0) (h2 : N 36 < R 2) : upd (upd (upd N 36 0) 35 (N 35 - 1)) 42 (N 42 + 1) = upd (eaN N R) 42 (eaN N R 42 + 1) := by
  rw [show eaN N R = upd (upd N 36 0) 35 (N 35 - 1) from (if_pos (Int32.not_le.mp h)).trans (if_neg (Int32.not_le.mpr h2))]
  simp (disch := omega) only [ud_at, ud_ne]
theorem LV_scr {ms cs : Nat} {A0 I0 : Nat → Nat → Int32} {U : Int32} {s : RD} {A I : Nat → Nat → Int32} {V K : ROW} (h : LV ms cs A0 I0 U s A I) : LV ms cs A0 I0 U s (up (up A 55 V) 56 K) I := by
  obtain ⟨h1, h2, h3, h4, h5⟩ := h
  exact ⟨⟨fun i i1 i2 i3 i4 => by rw [up_ne i2, up_ne i1]; exact h1.1 i i1 i2 i3 i4, h1.2⟩, h2, h3, h4, h5⟩
theorem LV_fin {ms cs : Nat} {A0 I0 : Nat → Nat → Int32} {U : Int32} {r0 : Nat} {s : ROW × ROW × Int32} {A I : Nat → Nat → Int32} {p b : Int32} (h : DV ms cs A0 I0 U r0 s A I) {N2 : ROW} (hN : N2 = upd (eaN (A 63) (A 60)) 42 (eaN (A 63) (A 60) 42 + 1)) : LV ms cs A0 I0 U (wlF (pt 143 (ehF s.1) 8 (gt 143 (ehF s.1) 8 + 1)) p b, s.2.1) (up A 63 N2) I ∧ AC r0 s.2.2 ((up A 63 N2) 63 34) := by
  obtain ⟨⟨h1, h2, h3, h4, h5⟩, h6⟩ := h
  have e60 : A 60 = A0 60 := h1.1 60 (by decide) (by decide) (by decide) (by decide)
  rw [e60] at hN
  obtain ⟨k1, k2, k3⟩ := R_eat h2
  rw [← hN] at k1 k3
  have hu : unrS (wlF (pt 143 (ehF s.1) 8 (gt 143 (ehF s.1) 8 + 1)) p b) = unrS s.1 := by
    obtain ⟨k, hk, ek⟩ := k1.2.1.2.2.2.2.2.2.2
    have h10 : s.1 10 = nI cs := h2.1.2.2.2.2.2
    rw [wl_F hk ek]
    refine unr_ext h10 h2.1.2.2.2.1 ?_ (fun j j1 j2 => ?_)
    · simp (disch := omega) only [ud_at, ud_ne]
      exact k2 10 (by decide) (by decide) (by decide)
    · simp (disch := omega) only [ud_at, ud_ne]
      exact k2 j (by omega) (by omega) (by omega)
  refine ⟨⟨⟨fun i i1 i2 i3 i4 => by rw [up_ne i3]; exact h1.1 i i1 i2 i3 i4, h1.2⟩, ?_, fun j hj => ?_, fun j hj => ?_, ?_⟩, ?_⟩
  · rw [up_at]; exact R_log k1
  · rw [up_ne (by decide)]; exact h3 j hj
  · rw [up_at, k3 j (by omega) (by omega) (by omega)]; exact h4 j hj
  · show I 46 33 + unrS _ = U
    rw [hu]; exact h5
  · rw [up_at, k3 34 (by decide) (by decide) (by decide)]; exact h6
set_option maxHeartbeats 800000 in
set_option maxRecDepth 100000 in
theorem e_live {A : Nat → Nat → Int32} {L : Nat → Nat → Int64} {I : Nat → Nat → Int32} {X : Nat → Int64} {ms cs : Nat} {A0 I0 : Nat → Nat → Int32} {U : Int32} {s : RD} (hw : LWA A0 I0) (h25 : I0 46 25 = nI ms) (h26 : I0 46 26 = nI cs) (hL : LV ms cs A0 I0 U s A I) : Con 7 yX11_live cX11_live 4 (some .int) [.ref 46] (hp A L I X) (fun r_ H_ => r_ = some (.int (plS (A0 12) (A0 13) (I0 11 5) s.1)) ∧ ∃ A1 I1, LV ms cs A0 I0 U (tnS (A0 12) (A0 13) (I0 11 5) s) A1 I1 ∧ (∃ r, r < 32 ∧ A 63 34 = nI r ∧ AC r (dysS (plS (A0 12) (A0 13) (I0 11 5) s.1) s.1 s.2).2.2 (A1 63 34)) ∧ H_ = hp A1 L I1 X) := by
  refine m_con (by decide) (Nat.le_of_ble_eq_true rfl) ?_
  have hsm := hL.1
  have e60 : A 60 = A0 60 := hsm.1 60 (by decide) (by decide) (by decide) (by decide)
  have e61 : A 61 = A0 61 := hsm.1 61 (by decide) (by decide) (by decide) (by decide)
  have e62 : A 62 = A0 62 := hsm.1 62 (by decide) (by decide) (by decide) (by decide)
  have hR : RJ ms cs (A 60) (A 61) (A 62) s.1 (A 63) := by rw [e60, e61, e62]; exact hL.2.1
  have hw2 := LWA_N hsm hw
  have hpl : plS (A 12) (A 13) (I 11 5) s.1 = plS (A0 12) (A0 13) (I0 11 5) s.1 := by rw [hsm.1 12 (by decide) (by decide) (by decide) (by decide), hsm.1 13 (by decide) (by decide) (by decide) (by decide), hsm.2 11 5 (by decide)]
  obtain ⟨r, hr0, hr2, -⟩ := hL.2.1.2.2.2.2.2
  have hr : r < 32 := Nat.lt_of_lt_of_le hr0 (rp_32 cs (Nat.lt_succ_of_le hL.2.1.1.2.2.2.1))
  have hD0 : ∀ V K, DV ms cs A0 I0 U r (s.1, s.2, 0) (up (up A 55 V) 56 K) I := fun V K => ⟨LV_scr hL, by rw [show (up (up A 55 V) 56 K) 63 34 = nI r from hr2]; exact AC_0 hr⟩
  refine g_aload_n dX11_live_0 rfl rfl ?_
  refine g_callV dX11_live_1 cv_X11_302 (as' := []) hp_46 rfl (e_pullNow hR hw2) (by decide) rfl rfl (Nat.le_of_ble_eq_true rfl) ?_
  rintro _ _ ⟨rfl, V, K, rfl⟩
  rw [hpl]
  refine g_istore_n dX11_live_4 rfl (by decide) ?_
  refine g_ic_0 dX11_live_5 ?_
  refine g_istore_n dX11_live_6 rfl (by decide) ?_
  refine g_loc (ls' := [some (.ref 46), some (.int (plS (A0 12) (A0 13) (I0 11 5) s.1)), some (.int (nI 0)), none]) (fun i v h => by rcases i with _|_|_|_|_ <;> first | exact h | cases h) ?_
  refine e_days (f := s.1) (g := s.2) h25 h26 (fun A2 I2 hD => ?_) _ 0 (s.1, s.2, 0) _ _ rfl (hD0 V K) (Nat.zero_le _) (Nat.lt_succ_self _)
  refine g_aload_n dX11_live_51 rfl rfl ?_
  refine g_get dX11_live_52 fl_X11_58 hp_46 rfl ?_
  refine g_bipush (v := 35) dX11_live_55 (by decide) ?_
  refine g_ra dX11_live_57 hp_63 (k := 35) rfl (by decide) (by decide) ?_
  refine g_if_le (tgt := 131) dX11_live_58 (by decide) (fun c_58 => ?_) (fun c_58 => ?_)
  · refine g_aload_n dX11_live_131 rfl rfl ?_
    refine g_get dX11_live_132 fl_X11_58 hp_46 rfl ?_
    refine g_bipush (v := 42) dX11_live_135 (by decide) ?_
    refine g_dup2 dX11_live_137 rfl rfl ?_
    refine g_ra dX11_live_138 hp_63 (k := 42) rfl (by decide) (by decide) ?_
    refine g_ic_1 dX11_live_139 ?_
    refine g_iadd dX11_live_140 ?_
    refine g_wa dX11_live_141 hp_63 (k := 42) rfl (by decide) (by decide) ?_
    rw [hq_63]
    try simp (disch := omega) only [up_at, up_up, up_ne, ud_at, ud_ne]
    refine g_iload_n dX11_live_142 rfl rfl ?_
    exact g_iret dX11_live_143 (by obtain ⟨q1, q2⟩ := LV_fin (p := plS (A0 12) (A0 13) (I0 11 5) s.1) (b := (dysS (plS (A0 12) (A0 13) (I0 11 5) s.1) s.1 s.2).2.2) hD (show _ = _ from ea_0 c_58); exact ⟨rfl, _, _, q1, ⟨r, hr, hr2, q2⟩, rfl⟩)
  · refine g_aload_n dX11_live_61 rfl rfl ?_
    refine g_get dX11_live_62 fl_X11_58 hp_46 rfl ?_
    refine g_bipush (v := 36) dX11_live_65 (by decide) ?_
    refine g_ra dX11_live_67 hp_63 (k := 36) rfl (by decide) (by decide) ?_
    refine g_aload_n dX11_live_68 rfl rfl ?_
    refine g_get dX11_live_69 fl_X11_49 hp_46 rfl ?_
    refine g_ic_2 dX11_live_72 ?_
    refine g_ra dX11_live_73 hp_60 (k := 2) rfl (by decide) (by decide) ?_
    refine g_icmp_lt (tgt := 81) dX11_live_74 (by decide) (fun c_74 => ?_) (fun c_74 => ?_)
    · refine g_ic_0 dX11_live_81 ?_
      refine g_istore_n dX11_live_82 rfl (by decide) ?_
      refine g_aload_n dX11_live_83 rfl rfl ?_
      refine g_get dX11_live_84 fl_X11_58 hp_46 rfl ?_
      refine g_bipush (v := 36) dX11_live_87 (by decide) ?_
      refine g_iload_n dX11_live_89 rfl rfl ?_
      refine g_if_eq (tgt := 110) dX11_live_90 (by decide) (fun c_90 => ?_) (fun c_90 => ?_)
      · refine g_ic_0 dX11_live_110 ?_
        refine g_wa dX11_live_111 hp_63 (k := 36) rfl (by decide) (by decide) ?_
        rw [hq_63]
        try simp (disch := omega) only [up_at, up_up, up_ne, ud_at, ud_ne]
        refine g_aload_n dX11_live_112 rfl rfl ?_
        refine g_get dX11_live_113 fl_X11_58 hp_46 rfl ?_
        refine g_bipush (v := 35) dX11_live_116 (by decide) ?_
        refine g_dup2 dX11_live_118 rfl rfl ?_
        refine g_ra dX11_live_119 hp_63 (k := 35) rfl (by decide) (by decide) ?_
        try simp (disch := omega) only [up_at, up_up, up_ne, ud_at, ud_ne]
        refine g_iload_n dX11_live_120 rfl rfl ?_
        refine g_if_eq (tgt := 128) dX11_live_121 (by decide) (fun c_121 => ?_) (fun c_121 => ?_)
        · refine g_ic_1 dX11_live_128 ?_
          refine g_isub dX11_live_129 ?_
          refine g_wa dX11_live_130 hp_63 (k := 35) rfl (by decide) (by decide) ?_
          rw [hq_63]
          try simp (disch := omega) only [up_at, up_up, up_ne, ud_at, ud_ne]
          refine g_aload_n dX11_live_131 rfl rfl ?_
          refine g_get dX11_live_132 fl_X11_58 hp_46 rfl ?_
          refine g_bipush (v := 42) dX11_live_135 (by decide) ?_
          refine g_dup2 dX11_live_137 rfl rfl ?_
          refine g_ra dX11_live_138 hp_63 (k := 42) rfl (by decide) (by decide) ?_
          try simp (disch := omega) only [up_at, up_up, up_ne, ud_at, ud_ne]
          refine g_ic_1 dX11_live_139 ?_
          refine g_iadd dX11_live_140 ?_
          refine g_wa dX11_live_141 hp_63 (k := 42) rfl (by decide) (by decide) ?_
          rw [hq_63]
          try simp (disch := omega) only [up_at, up_up, up_ne, ud_at, ud_ne]
          refine g_iload_n dX11_live_142 rfl rfl ?_
          exact g_iret dX11_live_143 (by obtain ⟨q1, q2⟩ := LV_fin (p := plS (A0 12) (A0 13) (I0 11 5) s.1) (b := (dysS (plS (A0 12) (A0 13) (I0 11 5) s.1) s.1 s.2).2.2) hD (show _ = _ from ea_2 c_58 c_74); exact ⟨rfl, _, _, q1, ⟨r, hr, hr2, q2⟩, rfl⟩)
        · exact absurd rfl c_121
      · exact absurd rfl c_90
    · refine g_ic_1 dX11_live_77 ?_
      refine g_goto (tgt := 82) dX11_live_78 (by decide) ?_
      refine g_istore_n dX11_live_82 rfl (by decide) ?_
      refine g_aload_n dX11_live_83 rfl rfl ?_
      refine g_get dX11_live_84 fl_X11_58 hp_46 rfl ?_
      refine g_bipush (v := 36) dX11_live_87 (by decide) ?_
      refine g_iload_n dX11_live_89 rfl rfl ?_
      refine g_if_eq (tgt := 110) dX11_live_90 (by decide) (fun c_90 => ?_) (fun c_90 => ?_)
      · exact absurd c_90 (by decide)
      · refine g_aload_n dX11_live_93 rfl rfl ?_
        refine g_get dX11_live_94 fl_X11_58 hp_46 rfl ?_
        refine g_bipush (v := 36) dX11_live_97 (by decide) ?_
        refine g_ra dX11_live_99 hp_63 (k := 36) rfl (by decide) (by decide) ?_
        refine g_aload_n dX11_live_100 rfl rfl ?_
        refine g_get dX11_live_101 fl_X11_49 hp_46 rfl ?_
        refine g_ic_2 dX11_live_104 ?_
        refine g_ra dX11_live_105 hp_60 (k := 2) rfl (by decide) (by decide) ?_
        refine g_isub dX11_live_106 ?_
        refine g_goto (tgt := 111) dX11_live_107 (by decide) ?_
        refine g_wa dX11_live_111 hp_63 (k := 36) rfl (by decide) (by decide) ?_
        rw [hq_63]
        try simp (disch := omega) only [up_at, up_up, up_ne, ud_at, ud_ne]
        refine g_aload_n dX11_live_112 rfl rfl ?_
        refine g_get dX11_live_113 fl_X11_58 hp_46 rfl ?_
        refine g_bipush (v := 35) dX11_live_116 (by decide) ?_
        refine g_dup2 dX11_live_118 rfl rfl ?_
        refine g_ra dX11_live_119 hp_63 (k := 35) rfl (by decide) (by decide) ?_
        try simp (disch := omega) only [up_at, up_up, up_ne, ud_at, ud_ne]
        refine g_iload_n dX11_live_120 rfl rfl ?_
        refine g_if_eq (tgt := 128) dX11_live_121 (by decide) (fun c_121 => ?_) (fun c_121 => ?_)
        · exact absurd c_121 (by decide)
        · refine g_ic_0 dX11_live_124 ?_
          refine g_goto (tgt := 129) dX11_live_125 (by decide) ?_
          refine g_isub dX11_live_129 ?_
          refine g_wa dX11_live_130 hp_63 (k := 35) rfl (by decide) (by decide) ?_
          rw [hq_63]
          try simp (disch := omega) only [up_at, up_up, up_ne, ud_at, ud_ne]
          refine g_aload_n dX11_live_131 rfl rfl ?_
          refine g_get dX11_live_132 fl_X11_58 hp_46 rfl ?_
          refine g_bipush (v := 42) dX11_live_135 (by decide) ?_
          refine g_dup2 dX11_live_137 rfl rfl ?_
          refine g_ra dX11_live_138 hp_63 (k := 42) rfl (by decide) (by decide) ?_
          try simp (disch := omega) only [up_at, up_up, up_ne, ud_at, ud_ne]
          refine g_ic_1 dX11_live_139 ?_
          refine g_iadd dX11_live_140 ?_
          refine g_wa dX11_live_141 hp_63 (k := 42) rfl (by decide) (by decide) ?_
          rw [hq_63]
          try simp (disch := omega) only [up_at, up_up, up_ne, ud_at, ud_ne]
          refine g_iload_n dX11_live_142 rfl rfl ?_
          exact g_iret dX11_live_143 (by obtain ⟨q1, q2⟩ := LV_fin (p := plS (A0 12) (A0 13) (I0 11 5) s.1) (b := (dysS (plS (A0 12) (A0 13) (I0 11 5) s.1) s.1 s.2).2.2) hD (show _ = _ from ea_1 c_58 c_74); exact ⟨rfl, _, _, q1, ⟨r, hr, hr2, q2⟩, rfl⟩)

set_option maxHeartbeats 800000 in
set_option maxRecDepth 100000 in
theorem e_lm_loop {L : Nat → Nat → Int64} {X : Nat → Int64} {ms cs : Nat} {A0 I0 : Nat → Nat → Int32} {U : Int32} {s0 : RD} {n0 : Int32} (hw : LWA A0 I0) (h25 : I0 46 25 = nI ms) (h26 : I0 46 26 = nI cs) : ∀ n k s A2 I2, s = itn (fun _ => tnS (A0 12) (A0 13) (I0 11 5)) k s0 → LV ms cs A0 I0 U s A2 I2 → k ≤ n0.toNatClampNeg → n0.toNatClampNeg - k < n → G 8 RX11 cX11_liveMany 3 none (fun r_ H_ => r_ = none ∧ ∃ A1 I1, LV ms cs A0 I0 U (tnsS (A0 12) (A0 13) (I0 11 5) n0.toNatClampNeg s0) A1 I1 ∧ H_ = hp A1 L I1 X) 2 [some (.ref 46), some (.int n0), some (.int (nI k))] [] (hp A2 L I2 X) := by
  have hb := clamp_lt n0
  intro n
  induction n with
  | zero => intro k s A2 I2 hs hL h1 h2; omega
  | succ n ih =>
    intro k s A2 I2 hs hL h1 h2
    refine g_iload_n dX11_liveMany_2 rfl rfl ?_
    refine g_iload_n dX11_liveMany_3 rfl rfl ?_
    refine g_icmp_ge (tgt := 18) dX11_liveMany_4 (by decide) (fun c_4 => ?_) (fun c_4 => ?_)
    · have h6 := (nI_gen (k := k) (by omega)).mp c_4
      have hkn : k = n0.toNatClampNeg := by omega
      subst hkn
      rw [hs] at hL
      exact g_vret dX11_liveMany_18 ⟨rfl, A2, I2, hL, rfl⟩
    · refine g_aload_n dX11_liveMany_7 rfl rfl ?_
      refine g_callV dX11_liveMany_8 cv_X11_314 (as' := []) hp_46 rfl (e_live hw h25 h26 hL) (by decide) rfl rfl (Nat.le_of_ble_eq_true rfl) ?_
      rintro _ _ ⟨rfl, A3, I3, hL, -, rfl⟩
      refine g_pop dX11_liveMany_11 rfl ?_
      refine g_iinc1 dX11_liveMany_12 rfl (by decide) ?_
      refine g_goto (tgt := 2) dX11_liveMany_15 (by decide) ?_
      rw [nI_1]
      refine g_loc (ls' := [some (.ref 46), some (.int n0), some (.int (nI (k + 1)))]) (fun i v h => by rcases i with _|_|_|_ <;> first | exact h | cases h) ?_
      have hlt : k < n0.toNatClampNeg := Nat.not_le.mp (fun z => c_4 ((nI_gen (by omega)).mpr z))
      exact ih (k + 1) _ _ _ (by rw [hs]; rfl) hL (by omega) (by omega)

set_option maxHeartbeats 800000 in
set_option maxRecDepth 100000 in
theorem e_liveMany {A : Nat → Nat → Int32} {L : Nat → Nat → Int64} {I : Nat → Nat → Int32} {X : Nat → Int64} {ms cs : Nat} {A0 I0 : Nat → Nat → Int32} {U : Int32} {s0 : RD} {n0 : Int32} (hw : LWA A0 I0) (h25 : I0 46 25 = nI ms) (h26 : I0 46 26 = nI cs) (hL : LV ms cs A0 I0 U s0 A I) : Con 8 yX11_liveMany cX11_liveMany 3 none [.ref 46, .int n0] (hp A L I X) (fun r_ H_ => r_ = none ∧ ∃ A1 I1, LV ms cs A0 I0 U (tnsS (A0 12) (A0 13) (I0 11 5) n0.toNatClampNeg s0) A1 I1 ∧ H_ = hp A1 L I1 X) := by
  refine m_con (by decide) (Nat.le_of_ble_eq_true rfl) ?_
  refine g_ic_0 dX11_liveMany_0 ?_
  refine g_istore_n dX11_liveMany_1 rfl (by decide) ?_
  exact e_lm_loop hw h25 h26 _ 0 s0 A I rfl hL (Nat.zero_le _) (Nat.lt_succ_self _)
