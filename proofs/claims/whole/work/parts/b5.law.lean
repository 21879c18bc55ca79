/-! THE REFERENCE READS: a clause, a law -/
theorem clT2_l {T : Nat → Int32} {n d p : Nat} {t : TL} (h : sumP T n 6 d = .inl p) : clT2 T n (.inr (d, t)) = .inl p := by
  unfold clT2
  simp only [h]
theorem clT2_r {T : Nat → Int32} {n d e : Nat} {t u : TL} (h : sumP T n 6 d = .inr (e, u)) : clT2 T n (.inr (d, t)) = .inr (e, (some t, u)) := by
  unfold clT2
  simp only [h]
/-- within a clause -/
def CU (q n : Nat) (cs : List CLA) (A0 I0 : Nat → Nat → Int32) (k e : Nat) (s : PR TL) (A I : Nat → Nat → Int32) : Prop := mC q A0 I0 A I ∧ MSt q n (6 - 6) (flR cs) k e s A I ∧ A 51 q = nI cs.length ∧ A 52 (140 * q + cs.length) = nI (flR cs).length ∧ lyT A q 0 0 cs
theorem CU_R {q n : Nat} {cs : List CLA} {A0 I0 A I A1 I1 : Nat → Nat → Int32} {k e k1 e1 : Nat} {s s1 : PR TL} (h : CU q n cs A0 I0 k e s A I) (h1 : MS A I q n (6 - 6) (flR cs) k1 e1 s1 A1 I1) : CU q n cs A0 I0 k1 e1 s1 A1 I1 := by
  obtain ⟨a, b, c, d, f⟩ := h
  have e : ∀ i, i ≠ 48 → i ≠ 49 → i ≠ 50 → A1 i = A i := h1.1.1
  refine ⟨mC_tr a (mC_R h1.1), h1.2, ?_, ?_, ?_⟩
  · rw [e 51 (by decide) (by decide) (by decide)]; exact c
  · rw [e 52 (by decide) (by decide) (by decide)]; exact d
  · refine lyT_ext cs 0 0 (fun i _ => ?_) f
    rw [e 52 (by decide) (by decide) (by decide), e 53 (by decide) (by decide) (by decide), e 54 (by decide) (by decide) (by decide)]
    exact ⟨rfl, rfl, rfl⟩
theorem CU_at {q n : Nat} {cs : List CLA} {A0 I0 A I : Nat → Nat → Int32} {k e b : Nat} {u : TL} (h : CU q n cs A0 I0 k e (.inr (b, u)) A I) (hb : b < n) : CU q n cs A0 I0 (k + 1) e (.inr (b + 1, u)) A (up2 I 46 3 (I 46 3 + 1)) :=
  CU_R h (MS_at (A0 := A) (I0 := I) ⟨mR_rf, h.2.1⟩ hb)
theorem CU_x {q n : Nat} {cs : List CLA} {A0 I0 A I : Nat → Nat → Int32} {k e : Nat} {s : PR TL} (tp : tpM A0 I0 n) (hq : I0 46 14 = nI q) (h : CU q n cs A0 I0 k e s A I) : tpM A I n ∧ I 46 14 = nI q ∧ A 47 = A0 47 ∧ MS A I q n (6 - 6) (flR cs) k e s A I := by
  obtain ⟨a, b, c⟩ := mC_ctx tp hq h.1
  exact ⟨a, b, c, mR_rf, h.2.1⟩
theorem CU_53 {q n : Nat} {cs : List CLA} {A0 I0 A I : Nat → Nat → Int32} {k e : Nat} {s : PR TL} {v : Int32} (h : CU q n cs A0 I0 k e s A I) (hj : cs.length < 140) : CU q n cs A0 I0 k e s (up A 53 (upd (A 53) (140 * q + cs.length) v)) I := by
  obtain ⟨a, b, c, d, f⟩ := h
  refine ⟨mC_w a (Or.inr (Or.inl rfl)) hj, MSt_A b (up_ne (by decide)) (up_ne (by decide)) (up_ne (by decide)), ?_, ?_, ?_⟩
  · rw [up_ne (by decide)]; exact c
  · rw [up_ne (by decide)]; exact d
  · refine lyT_ext cs 0 0 (fun i hi => ?_) f
    rw [up_ne (show 52 ≠ 53 by decide), up_ne (show 54 ≠ 53 by decide), up_at, ud_ne (by omega)]
    exact ⟨rfl, rfl, rfl⟩
theorem CU_fin {q n : Nat} {cs : List CLA} {A0 I0 A I : Nat → Nat → Int32} {k e d : Nat} {c : CLA} (h : CU q n cs A0 I0 k e (.inr (d, c1 c ++ c.2)) A I) (h53 : A 53 (140 * q + cs.length) = nI ((flR cs).length + (c1 c).length)) (hd : 2 * (cs.length + 1) ≤ d) (hj : cs.length < 140) : mC q A0 I0 (fin A q cs.length) I ∧ CLs q n (.inr (d, cs ++ [c])) (fin A q cs.length) I :=
  ⟨mC_fin h.1 hj, CL_end h.2.1 h.2.2.2.2 h.2.2.2.1 h53 hd⟩
theorem CU_finl {q n : Nat} {cs : List CLA} {A0 I0 A I : Nat → Nat → Int32} {k e p : Nat} (h : CU q n cs A0 I0 k e (.inl p) A I) (hj : cs.length < 140) : mC q A0 I0 (fin A q cs.length) I ∧ CLs q n (.inl p) (fin A q cs.length) I :=
  ⟨mC_fin h.1 hj, h.2.1.1, h.2.1.2.1⟩
theorem CU_l {q n : Nat} {cs : List CLA} {A0 I0 A I : Nat → Nat → Int32} {k e p : Nat} (h : CU q n cs A0 I0 k e (.inl p) A I) : mC q A0 I0 A I ∧ CLs q n (.inl p) A I := ⟨h.1, h.2.1.1, h.2.1.2.1⟩
set_option maxHeartbeats 800000 in
set_option maxRecDepth 100000 in
theorem z_cl184_1 {A0 I0 A I : Nat → Nat → Int32} {L : Nat → Nat → Int64} {X : Nat → Int64} {q n : Nat} {cs : List CLA} {k e : Nat} {Q : Option Value → m_H → Prop} {s : PR TL} (tp : tpM A0 I0 n) (hq : I0 46 14 = nI q) (q4 : q ≤ 4) (h : CU q n cs A0 I0 k e s A I) (hj1 : cs.length < 140) (hb : ∀ b u, s = .inr (b, u) → 2 * (cs.length + 1) ≤ b) (hQ : ∀ A1 I1, mC q A0 I0 A1 I1 → CLs q n (nxt cs (clT (A0 47) n s)) A1 I1 → Q none (hp A1 L I1 X)) : G 36 RX11 cX11_clause 3 none Q 184 [some (.ref 46), some (.int (nI (140 * q + cs.length))), some (.int (1))] [] (hp A L I X) := by
  have hq0 : I 46 14 = nI q := (CU_x tp hq h).2.1
  refine g_aload_n dX11_clause_184 rfl rfl ?_
  refine g_get dX11_clause_185 fl_X11_28 hp_46 rfl ?_
  refine g_iload_n dX11_clause_188 rfl rfl ?_
  refine g_aload_n dX11_clause_189 rfl rfl ?_
  refine g_get dX11_clause_190 fl_X11_25 hp_46 rfl ?_
  refine g_iload_n dX11_clause_193 rfl rfl ?_
  refine g_ra dX11_clause_194 hp_52 (k := 140 * q + cs.length) rfl (by omega) (by decide) ?_
  try simp (disch := omega) only [up_at, up_up, up_ne]
  refine g_wa dX11_clause_195 hp_53 (k := 140 * q + cs.length) rfl (by omega) (by decide) ?_
  rw [hq_53]
  try simp (disch := omega) only [up_at, up_up, up_ne]
  refine g_iload_n dX11_clause_196 rfl rfl ?_
  refine g_if_eq (tgt := 251) dX11_clause_197 (by decide) (fun c_197 => ?_) (fun c_197 => ?_)
  · exact absurd c_197 (by decide)
  · have hu := CU_53 (v := A 52 (140 * q + cs.length)) h hj1
    obtain ⟨tp2, hq2, e47, hs2⟩ := CU_x tp hq hu
    refine g_aload_n dX11_clause_200 rfl rfl ?_
    refine g_get dX11_clause_201 fl_X11_123 hp_46 rfl ?_
    try simp (disch := omega) only [up_at, up_up, up_ne]
    refine g_ic_m1 dX11_clause_204 ?_
    refine g_icmp_ne (tgt := 251) dX11_clause_205 (by decide) (fun c_205 => ?_) (fun c_205 => ?_)
    · obtain ⟨p, e1⟩ := MS_ne hs2 c_205
      subst e1
      obtain ⟨f1, f2⟩ := CU_finl hu hj1
      exact z_cl251 hq2 q4 hu.2.2.1 hj1 (hQ _ _ f1 f2)
    · refine g_aload_n dX11_clause_208 rfl rfl ?_
      obtain ⟨b, u, e1⟩ := MS_eq tp.2.1 hs2 c_205
      subst e1
      refine g_callV dX11_clause_209 cv_X11_135 (as' := []) hp_46 rfl (z_look tp2 hq2 q4 hs2) (by omega) rfl rfl (Nat.le_of_ble_eq_true rfl) ?_
      rw [e47]
      rintro _ _ ⟨rfl, A2, I2, h2, rfl⟩
      try simp (disch := omega) only [up_at, up_up, up_ne]
      refine g_bipush (v := 63) dX11_clause_212 (by decide) ?_
      refine g_icmp_eq (tgt := 222) dX11_clause_214 (by decide) (fun c_214 => ?_) (fun c_214 => ?_)
      · have hu2 := CU_R hu h2
        have hlt : sk (A0 47) n b < n := bt_lt (by rw [c_214]; decide)
        have hu3 := CU_at hu2 hlt
        refine g_aload_n dX11_clause_222 rfl rfl ?_
        refine g_dup dX11_clause_223 rfl ?_
        refine g_get dX11_clause_224 fl_X11_116 hp_46 rfl ?_
        try simp (disch := omega) only [up_at, up_up, up_ne]
        refine g_ic_1 dX11_clause_227 ?_
        refine g_iadd dX11_clause_228 ?_
        refine g_puti dX11_clause_229 fw_X11_116 hp_46 (Nat.le_of_ble_eq_true rfl) ?_
        rw [hq_46_3]
        try simp (disch := omega) only [up_at, up_up, up_ne]
        refine g_aload_n dX11_clause_232 rfl rfl ?_
        refine g_get dX11_clause_233 fl_X11_28 hp_46 rfl ?_
        refine g_iload_n dX11_clause_236 rfl rfl ?_
        refine g_aload_n dX11_clause_237 rfl rfl ?_
        refine g_get dX11_clause_238 fl_X11_19 hp_46 rfl ?_
        refine g_aload_n dX11_clause_241 rfl rfl ?_
        refine g_get dX11_clause_242 fl_X11_126 hp_46 rfl ?_
        try simp (disch := omega) only [up_at, up_up, up_ne]
        refine g_ra dX11_clause_245 hp_50 (k := q) (hu3.1.2.2.2.2 46 14 (by decide) |>.trans hq) (by omega) (by decide) ?_
        try simp (disch := omega) only [up_at, up_up, up_ne]
        refine g_wa dX11_clause_246 hp_53 (k := 140 * q + cs.length) rfl (by omega) (by decide) ?_
        rw [hq_53]
        try simp (disch := omega) only [up_at, up_up, up_ne]
        refine g_aload_n dX11_clause_247 rfl rfl ?_
        have hu4 := CU_53 (v := A2 50 q) hu3 hj1
        obtain ⟨tp3, hq3, e473, hs3⟩ := CU_x tp hq hu4
        refine g_callV dX11_clause_248 cv_X11_156 (as' := []) hp_46 rfl ((z_all 6 (by decide)).2.2 tp3 hq3 q4 hs3) (by omega) rfl rfl (Nat.le_of_ble_eq_true rfl) ?_
        rw [e473]
        rintro _ _ ⟨rfl, A4, I4, h4, rfl⟩
        have hu5 := CU_R hu4 h4
        try simp (disch := omega) only [up_at, up_up, up_ne]
        have e53 : A4 53 (140 * q + cs.length) = nI ((flR cs).length + u.length) := by
          rw [h4.1.1 53 (by decide) (by decide) (by decide), up_at, ud_at, hu2.2.1.2.2.2.1, List.length_append]
        have hq5 := (CU_x tp hq hu5).2.1
        rw [show clT (A0 47) n (.inr (b, u)) = clT2 (A0 47) n (.inr (sk (A0 47) n b + 1, u)) from congrArg (clT2 (A0 47) n) (if_pos c_214)] at hQ
        cases hsp : sumP (A0 47) n 6 (sk (A0 47) n b + 1) with
        | inl p =>
          rw [bnd_eq hsp] at hu5
          obtain ⟨f1, f2⟩ := CU_finl hu5 hj1
          refine z_cl251 hq5 q4 hu5.2.2.1 hj1 (hQ _ _ f1 ?_)
          rw [clT2_l hsp]
          exact f2
        | inr x =>
          obtain ⟨d, v⟩ := x
          have hge := PG_sum (T := A0 47) (n := n) 6 (sk (A0 47) n b + 1) d v hsp
          have hsk := sk_ge (T := A0 47) (n := n) (a := b)
          have hb0 := hb b u rfl
          rw [bnd_eq hsp] at hu5
          obtain ⟨f1, f2⟩ := CU_fin (c := (some u, v)) hu5 e53 (by omega) hj1
          refine z_cl251 hq5 q4 hu5.2.2.1 hj1 (hQ _ _ f1 ?_)
          rw [clT2_r hsp]
          exact f2
      · refine g_aload_n dX11_clause_217 rfl rfl ?_
        have hu2 := CU_R hu h2
        obtain ⟨tp3, hq3, e473, hs3⟩ := CU_x tp hq hu2
        refine g_callV dX11_clause_218 cv_X11_132 (as' := []) hp_46 rfl (z_bad tp3 hs3 (Nat.le_refl _)) (by omega) rfl rfl (Nat.le_of_ble_eq_true rfl) ?_
        rintro _ _ ⟨rfl, A3, I3, h3, rfl⟩
        try simp (disch := omega) only [up_at, up_up, up_ne]
        exact g_vret dX11_clause_221 (by have hu6 := CU_R hu2 h3; obtain ⟨f1, f2⟩ := CU_l hu6; refine hQ _ _ f1 ?_; rw [show clT (A0 47) n (.inr (b, u)) = .inl (sk (A0 47) n b) from congrArg (clT2 (A0 47) n) (if_neg c_214)]; exact f2)

theorem z_cl184_n {A0 I0 A I : Nat → Nat → Int32} {L : Nat → Nat → Int64} {X : Nat → Int64} {q n : Nat} {cs : List CLA} {k e : Nat} {Q : Option Value → m_H → Prop} {s : PR TL} {r : PR CLA} (tp : tpM A0 I0 n) (hq : I0 46 14 = nI q) (q4 : q ≤ 4) (h : CU q n cs A0 I0 k e s A I) (hj1 : cs.length < 140) (hs : (∃ p, s = .inl p ∧ r = .inl p) ∨ (∃ d u, s = .inr (d, u) ∧ 2 * (cs.length + 1) ≤ d ∧ r = .inr (d, (none, u)))) (hQ : ∀ A1 I1, mC q A0 I0 A1 I1 → CLs q n (nxt cs r) A1 I1 → Q none (hp A1 L I1 X)) : G 36 RX11 cX11_clause 3 none Q 184 [some (.ref 46), some (.int (nI (140 * q + cs.length))), some (.int (0))] [] (hp A L I X) := by
  have hq0 : I 46 14 = nI q := (CU_x tp hq h).2.1
  have hu := CU_53 (v := A 52 (140 * q + cs.length)) h hj1
  refine z_cl184_0 hq0 q4 h.2.2.1 hj1 ?_
  rcases hs with ⟨p, rfl, rfl⟩ | ⟨d, u, rfl, hd, rfl⟩
  · obtain ⟨f1, f2⟩ := CU_finl hu hj1
    exact hQ _ _ f1 f2
  · obtain ⟨f1, f2⟩ := CU_fin (c := (none, u)) hu (by rw [up_at, ud_at]; exact h.2.2.2.1) hd hj1
    exact hQ _ _ f1 f2
set_option maxHeartbeats 800000 in
set_option maxRecDepth 100000 in
theorem z_cl90 {A0 I0 A I : Nat → Nat → Int32} {L : Nat → Nat → Int64} {X : Nat → Int64} {q n : Nat} {cs : List CLA} {k e : Nat} {Q : Option Value → m_H → Prop} {b : Nat} (tp : tpM A0 I0 n) (hq : I0 46 14 = nI q) (q4 : q ≤ 4) (hm : mC q A0 I0 A I) (h1 : MSt q n (6 - 6) (flR cs) k e (.inr (b, [])) A I) (hj : A 51 q = nI cs.length) (hl : lyT A q 0 0 cs) (hj1 : cs.length < 140) (hb : 2 * (cs.length + 1) ≤ b) (hQ : ∀ A1 I1, mC q A0 I0 A1 I1 → CLs q n (nxt cs (clB (A0 47) n (.inr (b, [])))) A1 I1 → Q none (hp A1 L I1 X)) : G 36 RX11 cX11_clause 3 none Q 90 [some (.ref 46), some (.int (nI (140 * q + cs.length))), none] [] (hp A L I X) := by
  have hq0 : I 46 14 = nI q := (mC_ctx tp hq hm).2.1
  have h0 : CU q n cs A0 I0 k e (.inr (b, [])) (up A 52 (upd (A 52) (140 * q + cs.length) (A 50 q))) I := by
    refine ⟨mC_w hm (Or.inl rfl) hj1, MSt_A h1 (up_ne (by decide)) (up_ne (by decide)) (up_ne (by decide)), ?_, ?_, ?_⟩
    · rw [up_ne (by decide)]; exact hj
    · rw [up_at, ud_at, h1.2.2.2.1, List.append_nil]
    · refine lyT_ext cs 0 0 (fun i hi => ?_) hl
      rw [up_at, up_ne (show 53 ≠ 52 by decide), up_ne (show 54 ≠ 52 by decide), ud_ne (by omega)]
      exact ⟨rfl, rfl, rfl⟩
  refine g_aload_n dX11_clause_90 rfl rfl ?_
  refine g_get dX11_clause_91 fl_X11_25 hp_46 rfl ?_
  refine g_iload_n dX11_clause_94 rfl rfl ?_
  refine g_aload_n dX11_clause_95 rfl rfl ?_
  refine g_get dX11_clause_96 fl_X11_19 hp_46 rfl ?_
  refine g_aload_n dX11_clause_99 rfl rfl ?_
  refine g_get dX11_clause_100 fl_X11_126 hp_46 rfl ?_
  try simp (disch := omega) only [up_at, up_up, up_ne]
  refine g_ra dX11_clause_103 hp_50 (k := q) hq0 (by omega) (by decide) ?_
  try simp (disch := omega) only [up_at, up_up, up_ne]
  refine g_wa dX11_clause_104 hp_52 (k := 140 * q + cs.length) rfl (by omega) (by decide) ?_
  rw [hq_52]
  try simp (disch := omega) only [up_at, up_up, up_ne]
  have h := h0
  obtain ⟨tp1, hq1, e471, hs1⟩ := CU_x tp hq h
  refine g_aload_n dX11_clause_105 rfl rfl ?_
  refine g_callV dX11_clause_106 cv_X11_135 (as' := []) hp_46 rfl (z_look tp1 hq1 q4 hs1) (by omega) rfl rfl (Nat.le_of_ble_eq_true rfl) ?_
  rw [e471]
  rintro _ _ ⟨rfl, A2, I2, h2, rfl⟩
  try simp (disch := omega) only [up_at, up_up, up_ne]
  refine g_bipush (v := 33) dX11_clause_109 (by decide) ?_
  refine g_icmp_eq (tgt := 123) dX11_clause_111 (by decide) (fun c_111 => ?_) (fun c_111 => ?_)
  · have hcu := CU_R h h2
    obtain ⟨tp4, hq4, e474, hs4⟩ := CU_x tp hq hcu
    refine g_ic_1 dX11_clause_123 ?_
    refine g_goto (tgt := 128) dX11_clause_124 (by decide) ?_
    refine g_istore_n dX11_clause_128 rfl (by decide) ?_
    refine g_iload_n dX11_clause_129 rfl rfl ?_
    refine g_if_eq (tgt := 140) dX11_clause_130 (by decide) (fun c_130 => ?_) (fun c_130 => ?_)
    · exact absurd c_130 (by decide)
    · refine g_aload_n dX11_clause_133 rfl rfl ?_
      refine g_callV dX11_clause_134 cv_X11_175 (as' := []) hp_46 rfl ((z_allU 6 (by decide)).2.2 tp4 hq4 q4 hs4) (by omega) rfl rfl (Nat.le_of_ble_eq_true rfl) ?_
      rw [e474]
      rintro _ _ ⟨rfl, A5, I5, h5, rfl⟩
      try simp (disch := omega) only [up_at, up_up, up_ne]
      refine g_goto (tgt := 184) dX11_clause_137 (by decide) ?_
      have huc := CU_R hcu h5
      rw [bnd_nil] at huc
      refine z_cl184_1 tp hq q4 huc hj1 (fun b' u' z => by have := PG_cond (PG_unit (T := A0 47) (n := n) 6) (sk (A0 47) n b) b' u' z; have := sk_ge (T := A0 47) (n := n) (a := b); omega) ?_
      intro A8 I8 q1 q2
      refine hQ A8 I8 q1 ?_
      rw [show clB (A0 47) n (.inr (b, [])) = clT (A0 47) n (condP (A0 47) n (sk (A0 47) n b)) from if_pos (Or.inl c_111)]
      exact q2
  · refine g_aload_n dX11_clause_114 rfl rfl ?_
    obtain ⟨tp3, hq3, e473, hs3⟩ := CU_x tp hq (CU_R h h2)
    refine g_callV dX11_clause_115 cv_X11_135 (as' := []) hp_46 rfl (z_look tp3 hq3 q4 hs3) (by omega) rfl rfl (Nat.le_of_ble_eq_true rfl) ?_
    rw [e473, sk_sk]
    rintro _ _ ⟨rfl, A3, I3, h3, rfl⟩
    try simp (disch := omega) only [up_at, up_up, up_ne]
    refine g_bipush (v := 40) dX11_clause_118 (by decide) ?_
    refine g_icmp_ne (tgt := 127) dX11_clause_120 (by decide) (fun c_120 => ?_) (fun c_120 => ?_)
    · have hcu := CU_R (CU_R h h2) h3
      obtain ⟨tp4, hq4, e474, hs4⟩ := CU_x tp hq hcu
      refine g_ic_0 dX11_clause_127 ?_
      refine g_istore_n dX11_clause_128 rfl (by decide) ?_
      refine g_iload_n dX11_clause_129 rfl rfl ?_
      refine g_if_eq (tgt := 140) dX11_clause_130 (by decide) (fun c_130 => ?_) (fun c_130 => ?_)
      · refine g_aload_n dX11_clause_140 rfl rfl ?_
        refine g_callV dX11_clause_141 cv_X11_156 (as' := []) hp_46 rfl ((z_all 6 (by decide)).2.2 tp4 hq4 q4 hs4) (by omega) rfl rfl (Nat.le_of_ble_eq_true rfl) ?_
        rw [e474]
        rintro _ _ ⟨rfl, A5, I5, h5, rfl⟩
        try simp (disch := omega) only [up_at, up_up, up_ne]
        refine g_aload_n dX11_clause_144 rfl rfl ?_
        refine g_get dX11_clause_145 fl_X11_123 hp_46 rfl ?_
        try simp (disch := omega) only [up_at, up_up, up_ne]
        refine g_ic_m1 dX11_clause_148 ?_
        refine g_icmp_ne (tgt := 166) dX11_clause_149 (by decide) (fun c_149 => ?_) (fun c_149 => ?_)
        · refine g_ic_0 dX11_clause_166 ?_
          refine g_istore_n dX11_clause_167 rfl (by decide) ?_
          refine g_iload_n dX11_clause_168 rfl rfl ?_
          refine g_if_eq (tgt := 184) dX11_clause_169 (by decide) (fun c_169 => ?_) (fun c_169 => ?_)
          · obtain ⟨p, e1⟩ := MS_ne h5 c_149
            have huc := CU_R hcu h5
            refine z_cl184_n tp hq q4 huc hj1 (Or.inl ⟨p, e1, ?_⟩) hQ
            rw [bnd_nil] at e1
            rw [show clB (A0 47) n (.inr (b, [])) = clS (A0 47) n (sumP (A0 47) n 6 (sk (A0 47) n b)) from if_neg (fun z => z.elim c_111 c_120), e1]
            rfl
          · exact absurd rfl c_169
        · refine g_aload_n dX11_clause_152 rfl rfl ?_
          obtain ⟨c, u, e6⟩ := MS_eq tp.2.1 h5 c_149
          obtain ⟨tp6, hq6, e476, hs6⟩ := CU_x tp hq (CU_R hcu h5)
          rw [e6] at hs6
          rw [bnd_nil] at e6
          refine g_callV dX11_clause_153 cv_X11_135 (as' := []) hp_46 rfl (z_look tp6 hq6 q4 hs6) (by omega) rfl rfl (Nat.le_of_ble_eq_true rfl) ?_
          rw [e476]
          rintro _ _ ⟨rfl, A7, I7, h7, rfl⟩
          try simp (disch := omega) only [up_at, up_up, up_ne]
          refine g_callS dX11_clause_156 cs_X11_169 (as := [_]) e_sign (by omega) rfl rfl (Nat.le_of_ble_eq_true rfl) ?_
          rintro _ _ ⟨rfl, rfl⟩
          try simp (disch := omega) only [up_at, up_up, up_ne]
          refine g_if_eq (tgt := 166) dX11_clause_159 (by decide) (fun c_159 => ?_) (fun c_159 => ?_)
          · refine g_ic_0 dX11_clause_166 ?_
            refine g_istore_n dX11_clause_167 rfl (by decide) ?_
            refine g_iload_n dX11_clause_168 rfl rfl ?_
            refine g_if_eq (tgt := 184) dX11_clause_169 (by decide) (fun c_169 => ?_) (fun c_169 => ?_)
            · have huc := CU_R (CU_R hcu h5) h7
              refine z_cl184_n tp hq q4 huc hj1 (Or.inr ⟨_, _, rfl, ?_, ?_⟩) hQ
              · have := PG_sum (T := A0 47) (n := n) 6 (sk (A0 47) n b) c u e6
                have := sk_ge (T := A0 47) (n := n) (a := b)
                have := sk_ge (T := A0 47) (n := n) (a := c)
                omega
              · rw [show clB (A0 47) n (.inr (b, [])) = clS (A0 47) n (sumP (A0 47) n 6 (sk (A0 47) n b)) from if_neg (fun z => z.elim c_111 c_120), e6]
                exact if_neg (fun z => op_Z.mp z c_159)
            · exact absurd rfl c_169
          · refine g_ic_1 dX11_clause_162 ?_
            refine g_goto (tgt := 167) dX11_clause_163 (by decide) ?_
            refine g_istore_n dX11_clause_167 rfl (by decide) ?_
            refine g_iload_n dX11_clause_168 rfl rfl ?_
            refine g_if_eq (tgt := 184) dX11_clause_169 (by decide) (fun c_169 => ?_) (fun c_169 => ?_)
            · exact absurd c_169 (by decide)
            · refine g_aload_n dX11_clause_172 rfl rfl ?_
              have hux := CU_R (CU_R hcu h5) h7
              obtain ⟨tp8, hq8, e478, hs8⟩ := CU_x tp hq hux
              refine g_callV dX11_clause_173 cv_X11_178 (as' := []) hp_46 rfl ((z_allU 6 (by decide)).1 tp8 hq8 q4 hs8) (by omega) rfl rfl (Nat.le_of_ble_eq_true rfl) ?_
              rw [e478]
              rintro _ _ ⟨rfl, A8, I8, h8, rfl⟩
              try simp (disch := omega) only [up_at, up_up, up_ne]
              refine g_aload_n dX11_clause_176 rfl rfl ?_
              refine g_callV dX11_clause_177 cv_X11_181 (as' := []) hp_46 rfl (z_and tp8 hq8 q4 (by decide) (z_allU 6 (by decide)).2.1 h8 (by decide)) (by omega) rfl rfl (Nat.le_of_ble_eq_true rfl) ?_
              rw [e478]
              rintro _ _ ⟨rfl, A9, I9, h9, rfl⟩
              rw [lpB_bnd] at h9
              try simp (disch := omega) only [up_at, up_up, up_ne]
              refine g_aload_n dX11_clause_180 rfl rfl ?_
              refine g_callV dX11_clause_181 cv_X11_184 (as' := []) hp_46 rfl (z_or tp8 hq8 q4 (by decide) (z_allU 6 (by decide)).2.1 h9 (by decide)) (by omega) rfl rfl (Nat.le_of_ble_eq_true rfl) ?_
              rw [e478]
              rintro _ _ ⟨rfl, A10, I10, h10, rfl⟩
              try simp (disch := omega) only [up_at, up_up, up_ne]
              have huc := CU_R hux (MS_e h10 (fun _ _ => Nat.le_refl _))
              rw [lpB_bnd] at huc
              refine z_cl184_1 (s := bnd (.inr (sk (A0 47) n c, u)) (condQ (A0 47) n)) tp hq q4 huc hj1 (fun b' u' z => by
                have g0 := PG_bnd (s := .inr (sk (A0 47) n c, u)) (a := c) (fun d v hd => by cases hd; exact sk_ge) (fun a => PG_lp (PG_truth (PG_unit (T := A0 47) (n := n) 6)) 240 _ (PG_lp (PG_unit (T := A0 47) (n := n) 6) 240 _ (PG_cmp (T := A0 47) (n := n) (r := 6) a))) b' u' z
                have := PG_sum (T := A0 47) (n := n) 6 (sk (A0 47) n b) c u e6
                have := sk_ge (T := A0 47) (n := n) (a := b)
                omega) ?_
              intro A9 I9 q1 q2
              refine hQ A9 I9 q1 ?_
              rw [show clB (A0 47) n (.inr (b, [])) = clS (A0 47) n (sumP (A0 47) n 6 (sk (A0 47) n b)) from if_neg (fun z => z.elim c_111 c_120), e6, show clS (A0 47) n (.inr (c, u)) = clT (A0 47) n (bnd (.inr (sk (A0 47) n c, u)) (condQ (A0 47) n)) from if_pos (op_Z.mpr c_159)]
              exact q2
      · exact absurd rfl c_130
    · have hcu := CU_R (CU_R h h2) h3
      obtain ⟨tp4, hq4, e474, hs4⟩ := CU_x tp hq hcu
      refine g_ic_1 dX11_clause_123 ?_
      refine g_goto (tgt := 128) dX11_clause_124 (by decide) ?_
      refine g_istore_n dX11_clause_128 rfl (by decide) ?_
      refine g_iload_n dX11_clause_129 rfl rfl ?_
      refine g_if_eq (tgt := 140) dX11_clause_130 (by decide) (fun c_130 => ?_) (fun c_130 => ?_)
      · exact absurd c_130 (by decide)
      · refine g_aload_n dX11_clause_133 rfl rfl ?_
        refine g_callV dX11_clause_134 cv_X11_175 (as' := []) hp_46 rfl ((z_allU 6 (by decide)).2.2 tp4 hq4 q4 hs4) (by omega) rfl rfl (Nat.le_of_ble_eq_true rfl) ?_
        rw [e474]
        rintro _ _ ⟨rfl, A5, I5, h5, rfl⟩
        try simp (disch := omega) only [up_at, up_up, up_ne]
        refine g_goto (tgt := 184) dX11_clause_137 (by decide) ?_
        have huc := CU_R hcu h5
        rw [bnd_nil] at huc
        refine z_cl184_1 tp hq q4 huc hj1 (fun b' u' z => by have := PG_cond (PG_unit (T := A0 47) (n := n) 6) (sk (A0 47) n b) b' u' z; have := sk_ge (T := A0 47) (n := n) (a := b); omega) ?_
        intro A8 I8 q1 q2
        refine hQ A8 I8 q1 ?_
        rw [show clB (A0 47) n (.inr (b, [])) = clT (A0 47) n (condP (A0 47) n (sk (A0 47) n b)) from if_pos (Or.inr c_120)]
        exact q2

set_option maxHeartbeats 800000 in
set_option maxRecDepth 100000 in
theorem z_cl19 {A0 I0 A I : Nat → Nat → Int32} {L : Nat → Nat → Int64} {X : Nat → Int64} {q n : Nat} {cs : List CLA} {k e : Nat} {Q : Option Value → m_H → Prop} {a : Nat} (tp : tpM A0 I0 n) (hq : I0 46 14 = nI q) (q4 : q ≤ 4) (hm : mC q A0 I0 A I) (h0 : MSt q n (6 - 6) (flR cs) k e (.inr (a, [])) A I) (hj : A 51 q = nI cs.length) (hl : lyT A q 0 0 cs) (hj1 : cs.length < 140) (hb : 2 * cs.length ≤ a) (hQ : ∀ A1 I1, mC q A0 I0 A1 I1 → CLs q n (nxt cs (clP (A0 47) n a)) A1 I1 → Q none (hp A1 L I1 X)) : G 36 RX11 cX11_clause 3 none Q 19 [some (.ref 46), some (.int (nI (140 * q + cs.length))), none] [] (hp A L I X) := by
  obtain ⟨tp1, hq1, e471⟩ := mC_ctx tp hq hm
  have h1 : MS A I q n (6 - 6) (flR cs) k e (.inr (a, [])) A I := ⟨mR_rf, h0⟩
  refine g_aload_n dX11_clause_19 rfl rfl ?_
  refine g_get dX11_clause_20 fl_X11_123 hp_46 rfl ?_
  refine g_ic_m1 dX11_clause_23 ?_
  refine g_icmp_ne (tgt := 40) dX11_clause_24 (by decide) (fun c_24 => ?_) (fun c_24 => ?_)
  · exact absurd h1.2.2.1 c_24
  · refine g_aload_n dX11_clause_27 rfl rfl ?_
    refine g_callV dX11_clause_28 cv_X11_135 (as' := []) hp_46 rfl (z_look tp1 hq1 q4 h1) (by omega) rfl rfl (Nat.le_of_ble_eq_true rfl) ?_
    rw [e471]
    rintro _ _ ⟨rfl, A2, I2, h2, rfl⟩
    refine g_bipush (v := 121) dX11_clause_31 (by decide) ?_
    refine g_icmp_eq (tgt := 40) dX11_clause_33 (by decide) (fun c_33 => ?_) (fun c_33 => ?_)
    · refine g_aload_n dX11_clause_40 rfl rfl ?_
      refine g_dup dX11_clause_41 rfl ?_
      refine g_get dX11_clause_42 fl_X11_116 hp_46 rfl ?_
      refine g_ic_1 dX11_clause_45 ?_
      refine g_iadd dX11_clause_46 ?_
      refine g_puti dX11_clause_47 fw_X11_116 hp_46 (Nat.le_of_ble_eq_true rfl) ?_
      rw [hq_46_3]
      refine g_aload_n dX11_clause_50 rfl rfl ?_
      refine g_get dX11_clause_51 fl_X11_123 hp_46 rfl ?_
      refine g_ic_m1 dX11_clause_54 ?_
      refine g_icmp_ne (tgt := 71) dX11_clause_55 (by decide) (fun c_55 => ?_) (fun c_55 => ?_)
      · exact absurd ((up2_ne (by decide)).trans h2.2.2.1) c_55
      · have hlt := bt_lt (T := A0 47) (n := n) (a := sk (A0 47) n a) (by rw [c_33]; decide)
        have h3 := MS_at h2 hlt
        have hm5 : mC q A0 I0 A2 (up2 I2 46 3 (I2 46 3 + 1)) := mC_tr hm (mC_R h3.1)
        obtain ⟨tp4, hq4, e474⟩ := mC_ctx tp hq hm5
        have hs4 : MS A2 (up2 I2 46 3 (I2 46 3 + 1)) q n (6 - 6) (flR cs) (k + 1) e (.inr (sk (A0 47) n a + 1, [])) A2 (up2 I2 46 3 (I2 46 3 + 1)) := ⟨mR_rf, h3.2⟩
        refine g_aload_n dX11_clause_58 rfl rfl ?_
        refine g_callV dX11_clause_59 cv_X11_135 (as' := []) hp_46 rfl (z_look tp4 hq4 q4 hs4) (by omega) rfl rfl (Nat.le_of_ble_eq_true rfl) ?_
        rw [e474]
        rintro _ _ ⟨rfl, A4, I4, h4, rfl⟩
        refine g_bipush (v := 58) dX11_clause_62 (by decide) ?_
        refine g_icmp_eq (tgt := 71) dX11_clause_64 (by decide) (fun c_64 => ?_) (fun c_64 => ?_)
        · refine g_aload_n dX11_clause_71 rfl rfl ?_
          refine g_dup dX11_clause_72 rfl ?_
          refine g_get dX11_clause_73 fl_X11_116 hp_46 rfl ?_
          refine g_ic_1 dX11_clause_76 ?_
          refine g_iadd dX11_clause_77 ?_
          refine g_puti dX11_clause_78 fw_X11_116 hp_46 (Nat.le_of_ble_eq_true rfl) ?_
          rw [hq_46_3]
          refine g_aload_n dX11_clause_81 rfl rfl ?_
          refine g_get dX11_clause_82 fl_X11_123 hp_46 rfl ?_
          refine g_ic_m1 dX11_clause_85 ?_
          refine g_icmp_eq (tgt := 90) dX11_clause_86 (by decide) (fun c_86 => ?_) (fun c_86 => ?_)
          · have hlt2 := bt_lt (T := A0 47) (n := n) (a := sk (A0 47) n (sk (A0 47) n a + 1)) (by rw [c_64]; decide)
            have h6 := MS_at h4 hlt2
            have hg1 := sk_ge (T := A0 47) (n := n) (a := a)
            have hg2 := sk_ge (T := A0 47) (n := n) (a := sk (A0 47) n a + 1)
            have e51 : ∀ i, i ≠ 48 → i ≠ 49 → i ≠ 50 → A4 i = A i := fun i a b c => (h4.1.1 i a b c).trans (h2.1.1 i a b c)
            refine z_cl90 (b := sk (A0 47) n (sk (A0 47) n a + 1) + 1) tp hq q4 (mC_tr hm5 (mC_R h6.1)) h6.2 ?_ ?_ hj1 (by omega) ?_
            · rw [e51 51 (by decide) (by decide) (by decide)]; exact hj
            · refine lyT_ext cs 0 0 (fun i _ => ?_) hl
              rw [e51 52 (by decide) (by decide) (by decide), e51 53 (by decide) (by decide) (by decide), e51 54 (by decide) (by decide) (by decide)]
              exact ⟨rfl, rfl, rfl⟩
            · rw [show clP (A0 47) n a = clB (A0 47) n (.inr (sk (A0 47) n (sk (A0 47) n a + 1) + 1, [])) from congrArg (clB (A0 47) n) ((congrArg (exS (A0 47) n 58) (if_pos c_33)).trans (if_pos c_64))] at hQ
              exact hQ
          · exact absurd ((up2_ne (by decide)).trans h4.2.2.1) c_86
        · refine g_aload_n dX11_clause_67 rfl rfl ?_
          refine g_callV dX11_clause_68 cv_X11_132 (as' := []) hp_46 rfl (z_bad (A0 := A2) (I0 := up2 I2 46 3 (I2 46 3 + 1)) tp4 h4 (Nat.le_refl _)) (by omega) rfl rfl (Nat.le_of_ble_eq_true rfl) ?_
          rintro _ _ ⟨rfl, A5, I5, h5, rfl⟩
          refine g_aload_n dX11_clause_71 rfl rfl ?_
          refine g_dup dX11_clause_72 rfl ?_
          refine g_get dX11_clause_73 fl_X11_116 hp_46 rfl ?_
          refine g_ic_1 dX11_clause_76 ?_
          refine g_iadd dX11_clause_77 ?_
          refine g_puti dX11_clause_78 fw_X11_116 hp_46 (Nat.le_of_ble_eq_true rfl) ?_
          rw [hq_46_3]
          refine g_aload_n dX11_clause_81 rfl rfl ?_
          refine g_get dX11_clause_82 fl_X11_123 hp_46 rfl ?_
          refine g_ic_m1 dX11_clause_85 ?_
          refine g_icmp_eq (tgt := 90) dX11_clause_86 (by decide) (fun c_86 => ?_) (fun c_86 => ?_)
          · exact absurd ((up2_ne (by decide)).symm.trans c_86 : I5 46 4 = (-1)) (MS_l tp.2.1 h5)
          · exact g_vret dX11_clause_89 (by rw [show clP (A0 47) n a = clB (A0 47) n (exS (A0 47) n 58 (exS (A0 47) n 121 (.inr (a, [])))) from rfl, show exS (A0 47) n 58 (exS (A0 47) n 121 (.inr (a, []))) = .inl (sk (A0 47) n (sk (A0 47) n a + 1)) from (congrArg (exS (A0 47) n 58) (if_pos c_33)).trans (if_neg c_64)] at hQ; exact hQ _ _ (mC_I (mC_tr hm5 (mC_R h5.1)) (Or.inl rfl)) ⟨(up2_ne (by decide)).trans h5.2.1, h5.2.2.1⟩)
    · refine g_aload_n dX11_clause_36 rfl rfl ?_
      refine g_callV dX11_clause_37 cv_X11_132 (as' := []) hp_46 rfl (z_bad (A0 := A) (I0 := I) tp1 h2 (Nat.le_refl _)) (by omega) rfl rfl (Nat.le_of_ble_eq_true rfl) ?_
      rintro _ _ ⟨rfl, A3, I3, h3, rfl⟩
      refine g_aload_n dX11_clause_40 rfl rfl ?_
      refine g_dup dX11_clause_41 rfl ?_
      refine g_get dX11_clause_42 fl_X11_116 hp_46 rfl ?_
      refine g_ic_1 dX11_clause_45 ?_
      refine g_iadd dX11_clause_46 ?_
      refine g_puti dX11_clause_47 fw_X11_116 hp_46 (Nat.le_of_ble_eq_true rfl) ?_
      rw [hq_46_3]
      refine g_aload_n dX11_clause_50 rfl rfl ?_
      refine g_get dX11_clause_51 fl_X11_123 hp_46 rfl ?_
      refine g_ic_m1 dX11_clause_54 ?_
      refine g_icmp_ne (tgt := 71) dX11_clause_55 (by decide) (fun c_55 => ?_) (fun c_55 => ?_)
      · refine g_aload_n dX11_clause_71 rfl rfl ?_
        refine g_dup dX11_clause_72 rfl ?_
        refine g_get dX11_clause_73 fl_X11_116 hp_46 rfl ?_
        refine g_ic_1 dX11_clause_76 ?_
        refine g_iadd dX11_clause_77 ?_
        refine g_puti dX11_clause_78 fw_X11_116 hp_46 (Nat.le_of_ble_eq_true rfl) ?_
        rw [hq_46_3]
        refine g_aload_n dX11_clause_81 rfl rfl ?_
        refine g_get dX11_clause_82 fl_X11_123 hp_46 rfl ?_
        refine g_ic_m1 dX11_clause_85 ?_
        refine g_icmp_eq (tgt := 90) dX11_clause_86 (by decide) (fun c_86 => ?_) (fun c_86 => ?_)
        · exact absurd (((up2_ne (by decide)).trans (up2_ne (by decide))).symm.trans c_86 : I3 46 4 = (-1)) (MS_l tp.2.1 h3)
        · exact g_vret dX11_clause_89 (by rw [show clP (A0 47) n a = clB (A0 47) n (exS (A0 47) n 58 (exS (A0 47) n 121 (.inr (a, [])))) from rfl, show exS (A0 47) n 58 (exS (A0 47) n 121 (.inr (a, []))) = .inl (sk (A0 47) n a) from congrArg (exS (A0 47) n 58) (if_neg c_33)] at hQ; exact hQ _ _ (mC_I (mC_I (mC_tr hm (mC_R h3.1)) (Or.inl rfl)) (Or.inl rfl)) ⟨(up2_ne (by decide)).trans ((up2_ne (by decide)).trans h3.2.1), h3.2.2.1⟩)
      · exact absurd ((up2_ne (by decide)).symm.trans c_55 : I3 46 4 = (-1)) (MS_l tp.2.1 h3)

set_option maxHeartbeats 800000 in
set_option maxRecDepth 100000 in
theorem z_clause {A0 I0 A I : Nat → Nat → Int32} {L : Nat → Nat → Int64} {X : Nat → Int64} {q n : Nat} {cs : List CLA} {b : Nat} (tp : tpM A0 I0 n) (hq : I0 46 14 = nI q) (q4 : q ≤ 4) (hm : mC q A0 I0 A I) (h : CLs q n (.inr (b, cs)) A I) : Con 36 yX11_clause cX11_clause 3 none [.ref 46] (hp A L I X) (fun r_ H_ => r_ = none ∧ ∃ A1 I1, mC q A0 I0 A1 I1 ∧ CLs q n (nxt cs (clP (A0 47) n b)) A1 I1 ∧ H_ = hp A1 L I1 X) := by
  have hn := tp.2.1
  obtain ⟨g1, g2, g3, g4, hj, hl, g7, g8, g9, hb⟩ := h
  have hj1 : cs.length < 140 := by omega
  obtain ⟨tp1, hq1, e471⟩ := mC_ctx tp hq hm
  have h0 : MSt q n (6 - 6) (flR cs) 0 0 (.inr (b, [])) A I := ⟨g1, g2, g3, by rw [List.append_nil]; exact g4, by rw [List.append_nil]; exact g7, g8, by rw [List.append_nil]; omega⟩
  refine m_con (by decide) (Nat.le_of_ble_eq_true rfl) ?_
  refine g_sipush (v := 140) dX11_clause_0 (by decide) ?_
  refine g_aload_n dX11_clause_3 rfl rfl ?_
  refine g_get dX11_clause_4 fl_X11_126 hp_46 rfl ?_
  refine g_imul dX11_clause_7 ?_
  refine g_aload_n dX11_clause_8 rfl rfl ?_
  refine g_get dX11_clause_9 fl_X11_22 hp_46 rfl ?_
  refine g_aload_n dX11_clause_12 rfl rfl ?_
  refine g_get dX11_clause_13 fl_X11_126 hp_46 rfl ?_
  refine g_ra dX11_clause_16 hp_51 (k := q) hq1 (by omega) (by decide) ?_
  refine g_iadd dX11_clause_17 ?_
  refine g_istore_n dX11_clause_18 rfl (by decide) ?_
  rw [hq1, hj, show (140 : Int32) = nI 140 from rfl, pk_mul, nI_add]
  refine g_loc (ls' := [some (.ref 46), some (.int (nI (140 * q + cs.length))), none]) (fun i v h => by rcases i with _|_|_|_ <;> first | exact h | cases h) ?_
  exact z_cl19 tp hq q4 hm h0 hj hl hj1 hb (fun A1 I1 q1 q2 => ⟨rfl, A1, I1, q1, q2, rfl⟩)

set_option maxHeartbeats 800000 in
set_option maxRecDepth 100000 in
theorem e_open {A : Nat → Nat → Int32} {L : Nat → Nat → Int64} {I : Nat → Nat → Int32} {X : Nat → Int64} {q : Nat} {x : Int32} (hx : x = nI q) (q4 : q ≤ 4) : Con 1 yX11_open cX11_open 2 none [.ref 46, .int x] (hp A L I X) (fun r_ H_ => r_ = none ∧ H_ = (hp (up (up A 50 (upd (A 50) q 0)) 51 (upd (A 51) q 0)) L (up2 (up2 (up2 (up2 I 46 14 x) 46 3 0) 46 4 (-1)) 46 5 0) X)) := by
  refine m_con (by decide) (Nat.le_of_ble_eq_true rfl) ?_
  refine g_aload_n dX11_open_0 rfl rfl ?_
  refine g_iload_n dX11_open_1 rfl rfl ?_
  refine g_puti dX11_open_2 fw_X11_126 hp_46 (Nat.le_of_ble_eq_true rfl) ?_
  rw [hq_46_14]
  try simp (disch := omega) only [up_at, up_up, up_ne, up2_at, up2_ne]
  refine g_aload_n dX11_open_5 rfl rfl ?_
  refine g_ic_0 dX11_open_6 ?_
  refine g_puti dX11_open_7 fw_X11_116 hp_46 (Nat.le_of_ble_eq_true rfl) ?_
  rw [hq_46_3]
  try simp (disch := omega) only [up_at, up_up, up_ne, up2_at, up2_ne]
  refine g_aload_n dX11_open_10 rfl rfl ?_
  refine g_ic_m1 dX11_open_11 ?_
  refine g_puti dX11_open_12 fw_X11_123 hp_46 (Nat.le_of_ble_eq_true rfl) ?_
  rw [hq_46_4]
  try simp (disch := omega) only [up_at, up_up, up_ne, up2_at, up2_ne]
  refine g_aload_n dX11_open_15 rfl rfl ?_
  refine g_ic_0 dX11_open_16 ?_
  refine g_puti dX11_open_17 fw_X11_129 hp_46 (Nat.le_of_ble_eq_true rfl) ?_
  rw [hq_46_5]
  try simp (disch := omega) only [up_at, up_up, up_ne, up2_at, up2_ne]
  refine g_aload_n dX11_open_20 rfl rfl ?_
  refine g_get dX11_open_21 fl_X11_19 hp_46 rfl ?_
  refine g_iload_n dX11_open_24 rfl rfl ?_
  refine g_ic_0 dX11_open_25 ?_
  refine g_wa dX11_open_26 hp_50 (k := q) hx (by omega) (by decide) ?_
  rw [hq_50]
  try simp (disch := omega) only [up_at, up_up, up_ne, up2_at, up2_ne]
  refine g_aload_n dX11_open_27 rfl rfl ?_
  refine g_get dX11_open_28 fl_X11_22 hp_46 rfl ?_
  refine g_iload_n dX11_open_31 rfl rfl ?_
  refine g_ic_0 dX11_open_32 ?_
  refine g_wa dX11_open_33 hp_51 (k := q) hx (by omega) (by decide) ?_
  rw [hq_51]
  try simp (disch := omega) only [up_at, up_up, up_ne, up2_at, up2_ne]
  exact g_vret dX11_open_34 ⟨rfl, rfl⟩

def lawN {α : Type} (s : PR α) : Int32 := lawV s
theorem lawL_stop {T : Nat → Int32} {n f b : Nat} {cs : List CLA} (hf : n ≤ b + f) (h : ¬ bt T n (sk T n b) = 59) : lawL T n f (.inr (b, cs)) = .inr (if f = 0 then b else sk T n b, cs) ∧ lawE T n (lawL T n f (.inr (b, cs))) = (if bt T n (sk T n b) = (-1) then .inr (sk T n b, cs) else .inl (sk T n b)) := by
  cases f with
  | zero =>
    have e : sk T n b = b := sk_out (by omega)
    refine ⟨rfl, ?_⟩
    rfl
  | succ f =>
    have e : lawL T n (f + 1) (.inr (b, cs)) = .inr (sk T n b, cs) := if_neg h
    refine ⟨e, ?_⟩
    rw [e]
    show (if bt T n (sk T n (sk T n b)) = (-1) then (.inr (sk T n (sk T n b), cs) : PR (List CLA)) else .inl (sk T n (sk T n b))) = _
    rw [sk_sk]
theorem lawL_l {T : Nat → Int32} {n p : Nat} : ∀ f, lawL T n f (.inl p) = .inl p
  | 0 => rfl
  | _ + 1 => rfl
theorem lawL_go {T : Nat → Int32} {n f b : Nat} {cs : List CLA} (h : bt T n (sk T n b) = 59) : lawL T n (f + 1) (.inr (b, cs)) = lawL T n f (nxt cs (clP T n (sk T n b + 1))) := if_pos h
/-- the relation of clauses on lists that were looked behind -/
theorem CLs_sk {q n b b' : Nat} {cs : List CLA} {A I : Nat → Nat → Int32} (h : CLs q n (.inr (b, cs)) A I) (hb : b ≤ b') (hn : b' ≤ n) : CLs q n (.inr (b', cs)) A (up2 I 46 3 (nI b')) := by
  obtain ⟨g1, g2, g3, g4, hj, hl, g7, g8, g9, hb2⟩ := h
  exact ⟨up2_at, (up2_ne (by decide)).trans g2, (up2_ne (by decide)).trans g3, g4, hj, hl, g7, hn, by omega, by omega⟩
theorem CLs_M {q n b : Nat} {cs : List CLA} {A I : Nat → Nat → Int32} (h : CLs q n (.inr (b, cs)) A I) : MS A I q n (6 - 6) (flR cs) 0 0 (.inr (b, [])) A I := by
  obtain ⟨g1, g2, g3, g4, hj, hl, g7, g8, g9, hb⟩ := h
  exact ⟨mR_rf, g1, g2, g3, by rw [List.append_nil]; exact g4, by rw [List.append_nil]; exact g7, g8, by rw [List.append_nil]; omega⟩
theorem CLs_R {q n b b' k e : Nat} {cs : List CLA} {A I A1 I1 : Nat → Nat → Int32} (h : CLs q n (.inr (b, cs)) A I) (h1 : MS A I q n (6 - 6) (flR cs) k e (.inr (b', [])) A1 I1) (hb : b ≤ b') : CLs q n (.inr (b', cs)) A1 I1 := by
  obtain ⟨g1, g2, g3, g4, hj, hl, g7, g8, g9, hb2⟩ := h
  have e : ∀ i, i ≠ 48 → i ≠ 49 → i ≠ 50 → A1 i = A i := h1.1.1
  obtain ⟨a1, a2, a3, a4, a5, a6, a7⟩ := h1.2
  rw [List.append_nil] at a4 a5
  refine ⟨a1, a2, a3, a4, ?_, ?_, a5, a6, by omega, by omega⟩
  · rw [e 51 (by decide) (by decide) (by decide)]; exact hj
  · refine lyT_ext cs 0 0 (fun i _ => ?_) hl
    rw [e 52 (by decide) (by decide) (by decide), e 53 (by decide) (by decide) (by decide), e 54 (by decide) (by decide) (by decide)]
    exact ⟨rfl, rfl, rfl⟩
theorem PG_clP {T : Nat → Int32} {n a : Nat} : ∀ d c, clP T n a = .inr (d, c) → a ≤ d := by
  have PT : ∀ (s : PR TL) (a : Nat), PG s a → ∀ d c, clT T n s = .inr (d, c) → a ≤ d := by
    intro s a h d c hd
    unfold clT at hd
    have h2 := PG_ex (T := T) (n := n) (c := 63) h
    cases hx : exS T n 63 s with
    | inl p => rw [hx] at hd; cases hd
    | inr x =>
      obtain ⟨b, u⟩ := x
      have h3 := h2 b u hx
      rw [hx] at hd
      cases hsp : sumP T n 6 b with
      | inl p => rw [clT2_l hsp] at hd; cases hd
      | inr y =>
        obtain ⟨e, v⟩ := y
        rw [clT2_r hsp] at hd
        have h4 := PG_sum 6 b e v hsp
        cases hd
        omega
  intro d c hd
  have h1 : PG (exS T n 58 (exS T n 121 (.inr (a, [])))) a := PG_ex (PG_ex (fun d v hd => by cases hd; exact Nat.le_refl _))
  unfold clP at hd
  cases hx : exS T n 58 (exS T n 121 (.inr (a, []))) with
  | inl p => rw [hx] at hd; cases hd
  | inr x =>
    obtain ⟨b, u⟩ := x
    have h2 := h1 b u hx
    rw [hx] at hd
    have hk := sk_ge (T := T) (n := n) (a := b)
    unfold clB at hd
    simp only at hd
    split at hd
    · have := PT _ _ (PG_cond (PG_unit 6) (sk T n b)) d c hd
      omega
    · cases hsp : sumP T n 6 (sk T n b) with
      | inl p => rw [hsp] at hd; cases hd
      | inr y =>
        obtain ⟨e, v⟩ := y
        have h4 := PG_sum 6 _ e v hsp
        have hk2 := sk_ge (T := T) (n := n) (a := e)
        rw [hsp] at hd
        unfold clS at hd
        simp only at hd
        split at hd
        · have := PT _ e (PG_bnd (s := .inr (sk T n e, v)) (a := e) (fun d v hd => by cases hd; exact hk2) (fun a => PG_lp (PG_truth (PG_unit 6)) 240 _ (PG_lp (PG_unit 6) 240 _ (PG_cmp a)))) d c hd
          omega
        · cases hd; omega