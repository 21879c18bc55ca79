/-! A TURN THAT COMES ABOUT: with its line in the log -/
theorem lgT_lo {N : ROW} {L j : Nat} (hj : j < 43) : lgT N L j = N j := by
  unfold lgT
  split
  · simp (disch := omega) only [ud_at, ud_ne]
    exact if_neg (by omega)
  · rfl
set_option maxHeartbeats 800000 in
set_option maxRecDepth 100000 in
theorem e_shift {A : Nat → Nat → Int32} {L : Nat → Nat → Int64} {I : Nat → Nat → Int32} {X : Nat → Int64} {N : ROW} {b p : Int32} {Q : Option Value → m_H → Prop} (hE : G 8 RX11 cX11_passTurn 4 none Q 60 [some (.ref 46), some (.int (b)), some (.int (p)), none] [] (hp (up A 63 (shN N 240)) L I X)) : ∀ n k, 4 ≤ k → k ≤ 240 → 240 - k < n → G 8 RX11 cX11_passTurn 4 none Q 27 [some (.ref 46), some (.int (b)), some (.int (p)), some (.int (nI k))] [] (hp (up A 63 (shN N k)) L I X) := by
  intro n
  induction n with
  | zero => intro k h4 h1 h2; omega
  | succ n ih =>
    intro k h4 h1 h2
    refine g_iload_n dX11_passTurn_27 rfl rfl ?_
    refine g_sipush (v := 240) dX11_passTurn_28 (by decide) ?_
    refine g_icmp_ge (tgt := 60) dX11_passTurn_31 (by decide) (fun c_31 => ?_) (fun c_31 => ?_)
    · have h6 : 240 ≤ k := lit_le (n := 240) (by decide) (by omega) c_31
      have hkn : k = 240 := by omega
      subst hkn
      refine g_loc (ls' := [some (.ref 46), some (.int (b)), some (.int (p)), none]) (fun i v h => by rcases i with _|_|_|_|_ <;> first | exact h | cases h) ?_
      exact hE
    · have hlt : k < 240 := lit_nle (n := 240) (by decide) (by omega) c_31
      refine g_aload_n dX11_passTurn_34 rfl rfl ?_
      refine g_get dX11_passTurn_35 fl_X11_58 hp_46 rfl ?_
      refine g_bipush (v := 44) dX11_passTurn_38 (by decide) ?_
      refine g_iload_n dX11_passTurn_40 rfl rfl ?_
      refine g_iadd dX11_passTurn_41 ?_
      refine g_ic_4 dX11_passTurn_42 ?_
      refine g_isub dX11_passTurn_43 ?_
      refine g_aload_n dX11_passTurn_44 rfl rfl ?_
      refine g_get dX11_passTurn_45 fl_X11_58 hp_46 rfl ?_
      refine g_bipush (v := 44) dX11_passTurn_48 (by decide) ?_
      refine g_iload_n dX11_passTurn_50 rfl rfl ?_
      refine g_iadd dX11_passTurn_51 ?_
      refine g_ra dX11_passTurn_52 hp_63 (k := 44 + k) (nk_add (show (44 : Int32) = nI 44 from rfl) (show nI (k) = nI (k) from rfl)) (by omega) (by decide) ?_
      refine g_wa dX11_passTurn_53 hp_63 (k := (44 + k) - 4) (nk_sub (nk_add (show (44 : Int32) = nI 44 from rfl) (show nI (k) = nI (k) from rfl)) (show (4 : Int32) = nI 4 from rfl) (by omega)) (by omega) (by decide) ?_
      rw [hq_63]
      try simp (disch := omega) only [up_at, up_up]
      refine g_iinc1 dX11_passTurn_54 rfl (by decide) ?_
      refine g_goto (tgt := 27) dX11_passTurn_57 (by decide) ?_
      rw [sh_step h4, nI_1]
      exact ih (k + 1) (by omega) (by omega) (by omega)

set_option maxHeartbeats 800000 in
set_option maxRecDepth 100000 in
theorem e_line {A : Nat → Nat → Int32} {L : Nat → Nat → Int64} {I : Nat → Nat → Int32} {X : Nat → Int64} {N : ROW} {L0 : Nat} {b p : Int32} {Q : Option Value → m_H → Prop} (hT : lgT N L0 43 = nI (lgL L0)) (hl59 : lgL L0 ≤ 59) (hE : Q none (hp (up A 63 (ptN N L0 p (N 34 &&& (b ^^^ (-1))))) L I X)) : G 8 RX11 cX11_passTurn 4 none Q 71 [some (.ref 46), some (.int (b)), some (.int (p)), none] [] (hp (up A 63 (lgT N L0)) L I X) := by
  refine g_bipush (v := 44) dX11_passTurn_71 (by decide) ?_
  refine g_ic_4 dX11_passTurn_73 ?_
  refine g_aload_n dX11_passTurn_74 rfl rfl ?_
  refine g_get dX11_passTurn_75 fl_X11_58 hp_46 rfl ?_
  refine g_bipush (v := 43) dX11_passTurn_78 (by decide) ?_
  refine g_ra dX11_passTurn_80 hp_63 (k := 43) rfl (by decide) (by decide) ?_
  refine g_imul dX11_passTurn_81 ?_
  refine g_iadd dX11_passTurn_82 ?_
  refine g_istore_n dX11_passTurn_83 rfl (by decide) ?_
  refine g_aload_n dX11_passTurn_84 rfl rfl ?_
  refine g_get dX11_passTurn_85 fl_X11_58 hp_46 rfl ?_
  refine g_iload_n dX11_passTurn_88 rfl rfl ?_
  refine g_aload_n dX11_passTurn_89 rfl rfl ?_
  refine g_get dX11_passTurn_90 fl_X11_58 hp_46 rfl ?_
  refine g_bipush (v := 39) dX11_passTurn_93 (by decide) ?_
  refine g_ra dX11_passTurn_95 hp_63 (k := 39) rfl (by decide) (by decide) ?_
  refine g_wa dX11_passTurn_96 hp_63 (k := 44 + (4 * ((lgL L0)))) (nk_add (show (44 : Int32) = nI 44 from rfl) (nk_mul (show (4 : Int32) = nI 4 from rfl) hT)) (by omega) (by decide) ?_
  rw [hq_63]
  try simp (disch := omega) only [up_at, up_up, ud_at, ud_ne]
  refine g_aload_n dX11_passTurn_97 rfl rfl ?_
  refine g_get dX11_passTurn_98 fl_X11_58 hp_46 rfl ?_
  refine g_iload_n dX11_passTurn_101 rfl rfl ?_
  refine g_ic_1 dX11_passTurn_102 ?_
  refine g_iadd dX11_passTurn_103 ?_
  refine g_aload_n dX11_passTurn_104 rfl rfl ?_
  refine g_get dX11_passTurn_105 fl_X11_58 hp_46 rfl ?_
  refine g_bipush (v := 40) dX11_passTurn_108 (by decide) ?_
  refine g_ra dX11_passTurn_110 hp_63 (k := 40) rfl (by decide) (by decide) ?_
  try simp (disch := omega) only [up_at, up_up, ud_at, ud_ne]
  refine g_wa dX11_passTurn_111 hp_63 (k := (44 + (4 * ((lgL L0)))) + 1) (nk_add (nk_add (show (44 : Int32) = nI 44 from rfl) (nk_mul (show (4 : Int32) = nI 4 from rfl) hT)) (show (1 : Int32) = nI 1 from rfl)) (by omega) (by decide) ?_
  rw [hq_63]
  try simp (disch := omega) only [up_at, up_up, ud_at, ud_ne]
  refine g_aload_n dX11_passTurn_112 rfl rfl ?_
  refine g_get dX11_passTurn_113 fl_X11_58 hp_46 rfl ?_
  refine g_iload_n dX11_passTurn_116 rfl rfl ?_
  refine g_ic_2 dX11_passTurn_117 ?_
  refine g_iadd dX11_passTurn_118 ?_
  refine g_iload_n dX11_passTurn_119 rfl rfl ?_
  refine g_wa dX11_passTurn_120 hp_63 (k := (44 + (4 * ((lgL L0)))) + 2) (nk_add (nk_add (show (44 : Int32) = nI 44 from rfl) (nk_mul (show (4 : Int32) = nI 4 from rfl) hT)) (show (2 : Int32) = nI 2 from rfl)) (by omega) (by decide) ?_
  rw [hq_63]
  try simp (disch := omega) only [up_at, up_up, ud_at, ud_ne]
  refine g_aload_n dX11_passTurn_121 rfl rfl ?_
  refine g_get dX11_passTurn_122 fl_X11_58 hp_46 rfl ?_
  refine g_iload_n dX11_passTurn_125 rfl rfl ?_
  refine g_ic_3 dX11_passTurn_126 ?_
  refine g_iadd dX11_passTurn_127 ?_
  refine g_aload_n dX11_passTurn_128 rfl rfl ?_
  refine g_get dX11_passTurn_129 fl_X11_58 hp_46 rfl ?_
  refine g_bipush (v := 34) dX11_passTurn_132 (by decide) ?_
  refine g_ra dX11_passTurn_134 hp_63 (k := 34) rfl (by decide) (by decide) ?_
  try simp (disch := omega) only [up_at, up_up, ud_at, ud_ne]
  refine g_iload_n dX11_passTurn_135 rfl rfl ?_
  refine g_ic_m1 dX11_passTurn_136 ?_
  refine g_ixor dX11_passTurn_137 ?_
  refine g_iand dX11_passTurn_138 ?_
  refine g_wa dX11_passTurn_139 hp_63 (k := (44 + (4 * ((lgL L0)))) + 3) (nk_add (nk_add (show (44 : Int32) = nI 44 from rfl) (nk_mul (show (4 : Int32) = nI 4 from rfl) hT)) (show (3 : Int32) = nI 3 from rfl)) (by omega) (by decide) ?_
  rw [hq_63]
  try simp (disch := omega) only [up_at, up_up, ud_at, ud_ne]
  refine g_aload_n dX11_passTurn_140 rfl rfl ?_
  refine g_get dX11_passTurn_141 fl_X11_58 hp_46 rfl ?_
  refine g_bipush (v := 43) dX11_passTurn_144 (by decide) ?_
  refine g_dup2 dX11_passTurn_146 rfl rfl ?_
  refine g_ra dX11_passTurn_147 hp_63 (k := 43) rfl (by decide) (by decide) ?_
  try simp (disch := omega) only [up_at, up_up, ud_at, ud_ne]
  refine g_ic_1 dX11_passTurn_148 ?_
  refine g_iadd dX11_passTurn_149 ?_
  refine g_wa dX11_passTurn_150 hp_63 (k := 43) rfl (by decide) (by decide) ?_
  rw [hq_63]
  try simp (disch := omega) only [up_at, up_up, ud_at, ud_ne]
  exact g_vret dX11_passTurn_151 (by rw [show lgT N L0 43 + 1 = nI (lgL L0 + 1) from by rw [hT, nI_1], lgT_lo (j := 39) (by decide), lgT_lo (j := 40) (by decide), lgT_lo (j := 34) (by decide)]; exact hE)

set_option maxHeartbeats 800000 in
set_option maxRecDepth 100000 in
theorem e_passTurn {A : Nat → Nat → Int32} {L : Nat → Nat → Int64} {I : Nat → Nat → Int32} {X : Nat → Int64} {ms cs : Nat} {f : ROW} (hw : LWA A I) (h25 : I 46 25 = nI ms) (h26 : I 46 26 = nI cs) (hR : RJ ms cs (A 60) (A 61) (A 62) f (A 63)) (hG : LG f (A 63)) : Con 8 yX11_passTurn cX11_passTurn 4 none [.ref 46] (hp A L I X) (fun r_ H_ => r_ = none ∧ ∃ A1 I1, smN A I A1 I1 ∧ RJ ms cs (A 60) (A 61) (A 62) (tnS (A 12) (A 13) (I 11 5) (f, A 65)).1 (A1 63) ∧ LG (tnS (A 12) (A 13) (I 11 5) (f, A 65)).1 (A1 63) ∧ H_ = hp A1 L I1 X) := by
  refine m_con (by decide) (Nat.le_of_ble_eq_true rfl) ?_
  refine g_aload_n dX11_passTurn_0 rfl rfl ?_
  refine g_get dX11_passTurn_1 fl_X11_58 hp_46 rfl ?_
  refine g_bipush (v := 34) dX11_passTurn_4 (by decide) ?_
  refine g_ra dX11_passTurn_6 hp_63 (k := 34) rfl (by decide) (by decide) ?_
  refine g_istore_n dX11_passTurn_7 rfl (by decide) ?_
  refine g_aload_n dX11_passTurn_8 rfl rfl ?_
  refine g_callV dX11_passTurn_9 cv_X11_314 (as' := []) hp_46 rfl (e_live (s := (f, A 65)) hw h25 h26 ⟨smN_rf, hR, fun _ _ => rfl, fun _ _ => rfl, rfl⟩) (by decide) rfl rfl (Nat.le_of_ble_eq_true rfl) ?_
  rintro _ _ ⟨rfl, A1, I1, hL, ⟨r0, hr0, hr1, hA⟩, rfl⟩
  obtain ⟨L0, nx, q1, q2, q3, q4, q5, q6⟩ := hG
  have hG : LG f (A 63) := ⟨L0, nx, q1, q2, q3, q4, q5, q6⟩
  have e43 : A1 63 43 = nI L0 := (hL.2.2.2.1 43 (by decide)).trans q4
  obtain ⟨cc, hc9, hcp⟩ := pl_b (C2 := A 12) (Z := A 13) (hold := I 11 5) hR
  have hfin : (fun r_ H_ => r_ = none ∧ ∃ A1 I1, smN A I A1 I1 ∧ RJ ms cs (A 60) (A 61) (A 62) (tnS (A 12) (A 13) (I 11 5) (f, A 65)).1 (A1 63) ∧ LG (tnS (A 12) (A 13) (I 11 5) (f, A 65)).1 (A1 63) ∧ H_ = hp A1 L I1 X) (none : Option Value) (hp (up A1 63 (ptN (A1 63) L0 (plS (A 12) (A 13) (I 11 5) f) (A1 63 34 &&& (A 63 34 ^^^ (-1))))) L I1 X) := by
    refine ⟨rfl, _, I1, ⟨fun i i1 i2 i3 i4 => by rw [up_ne i3]; exact hL.1.1 i i1 i2 i3 i4, hL.1.2⟩, ?_, ?_, rfl⟩
    · rw [up_at]
      have k := hL.2.1
      refine R_ext k (fun j _ _ _ => rfl) k.2.1.2.2.2.2.2.2.2 (fun j hj => pt_lo hj)
    · rw [up_at]
      obtain ⟨a, ea, ex, e32, ebits⟩ := hA
      obtain ⟨m, d, l, d1, d2, d3, d4, d5, d6, d7, d8⟩ := hL.2.1.2.2.1
      have hcs : cs ≤ 5 := hR.1.2.2.2.1
      have h10 : f 10 = nI cs := hR.1.2.2.2.2.2
      have hms : ms ≤ 8 := hR.1.2.1
      have hx : A1 63 34 &&& (A 63 34 ^^^ (-1)) = nI a := by rw [ex, hr1]; exact AC_end r0 hr0 a (by omega) ebits
      -- the class's row ahead of its line
      have hq : ∀ j, (j = 11 ∨ j = 12 ∨ 83 ≤ j) → pt 143 (ehF (dysS (plS (A 12) (A 13) (I 11 5) f) f (A 65)).1) 8 (gt 143 (ehF (dysS (plS (A 12) (A 13) (I 11 5) f) f (A 65)).1) 8 + 1) j = f j := by
        intro j hj
        rw [p143_8, ud_ne (by omega)]
        refine Eq.trans ?_ (dys_hi (p := plS (A 12) (A 13) (I 11 5) f) (g := A 65) hcs h10 (Or.inr hj))
        unfold ehF
        split
        · split
          · rw [p143_1, ud_ne (by omega)]
          · rw [p143_0, p143_1, ud_ne (by omega), ud_ne (by omega)]
        · rfl
      have hF : (tnS (A 12) (A 13) (I 11 5) (f, A 65)).1 = wlF (pt 143 (ehF (dysS (plS (A 12) (A 13) (I 11 5) f) f (A 65)).1) 8 (gt 143 (ehF (dysS (plS (A 12) (A 13) (I 11 5) f) f (A 65)).1) 8 + 1)) (plS (A 12) (A 13) (I 11 5) f) (dysS (plS (A 12) (A 13) (I 11 5) f) f (A 65)).2.2 := rfl
      rw [wl_F q2 ((hq 12 (by omega)).trans q5)] at hF
      have s5 : (tnS (A 12) (A 13) (I 11 5) (f, A 65)).1 5 = pt 143 (ehF (dysS (plS (A 12) (A 13) (I 11 5) f) f (A 65)).1) 8 (gt 143 (ehF (dysS (plS (A 12) (A 13) (I 11 5) f) f (A 65)).1) 8 + 1) 5 := by rw [hF]; simp (disch := omega) only [ud_at, ud_ne]
      have s6 : (tnS (A 12) (A 13) (I 11 5) (f, A 65)).1 6 = pt 143 (ehF (dysS (plS (A 12) (A 13) (I 11 5) f) f (A 65)).1) 8 (gt 143 (ehF (dysS (plS (A 12) (A 13) (I 11 5) f) f (A 65)).1) 8 + 1) 6 := by rw [hF]; simp (disch := omega) only [ud_at, ud_ne]
      have hG2 : LG f (A1 63) := LG_ext hG rfl rfl (fun _ _ => rfl) (fun j hj => hL.2.2.2.1 j hj)
      refine LG_put hG2 q3 q1 q5 q2 d2 d5 hcp hx (by omega) (by omega) (by omega) (by omega) ?_ ?_ ?_ (fun j j1 j2 => ?_)
      · rw [hF]; simp (disch := omega) only [ud_at, ud_ne]
        rw [hq 11 (by omega)]
      · rw [hF]; simp (disch := omega) only [ud_at, ud_ne]
      · rw [hF]; simp (disch := omega) only [ud_at, ud_ne]
        exact ln_n (s5.symm.trans d1) (s6.symm.trans d4) hcp ea (by omega) (by omega) (by omega) (by omega)
      · rw [hF]; simp (disch := omega) only [ud_at, ud_ne]
        exact hq j (by omega)
  refine g_istore_n dX11_passTurn_12 rfl (by decide) ?_
  refine g_aload_n dX11_passTurn_13 rfl rfl ?_
  refine g_get dX11_passTurn_14 fl_X11_58 hp_46 rfl ?_
  refine g_bipush (v := 43) dX11_passTurn_17 (by decide) ?_
  refine g_ra dX11_passTurn_19 hp_63 (k := 43) rfl (by decide) (by decide) ?_
  refine g_bipush (v := 60) dX11_passTurn_20 (by decide) ?_
  refine g_icmp_ne (tgt := 71) dX11_passTurn_22 (by decide) (fun c_22 => ?_) (fun c_22 => ?_)
  · refine g_loc (ls' := [some (.ref 46), some (.int (A 63 34)), some (.int (plS (A 12) (A 13) (I 11 5) f)), none]) (fun i v h => by rcases i with _|_|_|_|_ <;> first | exact h | cases h) ?_
    have hL60 : ¬ L0 = 60 := fun z => c_22 (by rw [show A1 63 43 = nI L0 from e43, z]; rfl)
    refine g_eq (Hp2 := hp (up A1 63 (lgT (A1 63) L0)) L I1 X) (by rw [show lgT (A1 63) L0 = A1 63 from if_neg hL60, up_self]) ?_
    exact e_line (L0 := L0) (by unfold lgT lgL; rw [if_neg hL60, if_neg hL60]; exact e43) (by unfold lgL; rw [if_neg hL60]; omega) hfin
  · refine g_ic_4 dX11_passTurn_25 ?_
    refine g_istore_n dX11_passTurn_26 rfl (by decide) ?_
    refine g_loc (ls' := [some (.ref 46), some (.int (A 63 34)), some (.int (plS (A 12) (A 13) (I 11 5) f)), some (.int (nI 4))]) (fun i v h => by rcases i with _|_|_|_|_ <;> first | exact h | cases h) ?_
    have hL60 : L0 = 60 := (nI_eq (by omega) (by omega)).mp (e43.symm.trans c_22)
    subst hL60
    refine g_eq (Hp2 := hp (up A1 63 (shN (A1 63) 4)) L I1 X) (by rw [sh_4, up_self]) ?_
    refine e_shift ?_ 240 4 (by decide) (by decide) (by decide)
    refine g_aload_n dX11_passTurn_60 rfl rfl ?_
    refine g_get dX11_passTurn_61 fl_X11_58 hp_46 rfl ?_
    refine g_bipush (v := 43) dX11_passTurn_64 (by decide) ?_
    refine g_dup2 dX11_passTurn_66 rfl rfl ?_
    refine g_ra dX11_passTurn_67 hp_63 (k := 43) rfl (by decide) (by decide) ?_
    refine g_ic_1 dX11_passTurn_68 ?_
    refine g_isub dX11_passTurn_69 ?_
    refine g_wa dX11_passTurn_70 hp_63 (k := 43) rfl (by decide) (by decide) ?_
    rw [hq_63]
    try simp (disch := omega) only [up_at, up_up, ud_at, ud_ne]
    rw [show shN (A1 63) 240 43 - 1 = nI 59 from by rw [show shN (A1 63) 240 43 = A1 63 43 from if_neg (by omega), e43, show (1 : Int32) = nI 1 from rfl, pk_sub (by omega)], show upd (shN (A1 63) 240) 43 (nI 59) = lgT (A1 63) 60 from (if_pos rfl).symm]
    exact e_line (L0 := 60) (by unfold lgT lgL; rw [if_pos rfl, if_pos rfl, ud_at]) (by decide) hfin
