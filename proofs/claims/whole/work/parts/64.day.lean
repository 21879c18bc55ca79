/-! THE REFERENCE: a day, a crop's growing -/
def dnT (N : ROW) : Int32 := N 40 + (if N 38 = 0 then 1 else (-1))
def dyN (N M : ROW) (m q : Nat) : ROW × Nat :=
  if dnT N = M (5 * m) then (upd (upd (upd (upd N 40 (dnT N)) 39 (nI ((m + 1) % q))) 40 0) 41 (rm (N 41 + 1) 2520), (m + 1) % q)
  else if 0 ≤ dnT N then (upd (upd N 40 (dnT N)) 41 (rm (N 41 + 1) 2520), m)
  else (upd (upd (upd (upd N 40 (dnT N)) 39 (nI ((m + q - 1) % q))) 40 (M (5 * ((m + q - 1) % q)) - 1)) 41 (rm (N 41 + 1) 2520), (m + q - 1) % q)
def gwN (N C : ROW) (m c : Nat) : ROW × Int32 :=
  if mn 999 (N (24 + c) + N (8 + m)) < C (3 * c) then (upd (upd N (24 + c) (mn 999 (N (24 + c) + N (8 + m)))) (29 + c) (mn 999 (N (29 + c) + N (16 + m))), 0)
  else if mn 999 (N (29 + c) + N (16 + m)) < C (3 * c + 1) then (upd (upd N (24 + c) (mn 999 (N (24 + c) + N (8 + m)))) (29 + c) (mn 999 (N (29 + c) + N (16 + m))), 0)
  else (upd (upd (upd (upd N (24 + c) (mn 999 (N (24 + c) + N (8 + m)))) (29 + c) (mn 999 (N (29 + c) + N (16 + m)))) 34 (N 34 ||| (1 <<< (nI c &&& 31)))) 37 (mn 999 (N 37 + C (3 * c + 2))), C (3 * c + 2))
set_option maxHeartbeats 4000000 in
set_option maxRecDepth 100000 in
theorem e_dayOn {A : Nat → Nat → Int32} {L : Nat → Nat → Int64} {I : Nat → Nat → Int32} {X : Nat → Int64} {m q : Nat} (hm : A 63 39 = nI m) (hq : I 46 25 = nI q) (hmq : m < q) (hq8 : q ≤ 8) : Con 2 yX11_dayOn cX11_dayOn 1 none [.ref 46] (hp A L I X) (fun r_ H_ => r_ = none ∧ H_ = hp (up (up A 63 (dyN (A 63) (A 61) m q).1) 65 (upd (A 65) (dyN (A 63) (A 61) m q).2 (A 65 (dyN (A 63) (A 61) m q).2 + 1))) L I X) := by
  refine m_con (by decide) (Nat.le_of_ble_eq_true rfl) ?_
  have hq0 : ¬ I 46 25 = 0 := by rw [hq]; exact nI_ne0 (by omega) (by omega)
  have h1 : A 63 39 + 1 - (A 63 39 + 1) / I 46 25 * I 46 25 = nI ((m + 1) % q) := by rw [hm, hq, nI_1]; exact pk_rem (by omega) (by omega) (by omega)
  have h2 : A 63 39 + I 46 25 - 1 - (A 63 39 + I 46 25 - 1) / I 46 25 * I 46 25 = nI ((m + q - 1) % q) := by
    rw [hm, hq, nI_add, show (1 : Int32) = nI 1 from rfl, pk_sub (by omega)]
    exact pk_rem (by omega) (by omega) (by omega)
  have hb1 : (m + 1) % q < q := Nat.mod_lt _ (by omega)
  have hb2 : (m + q - 1) % q < q := Nat.mod_lt _ (by omega)
  refine g_aload_n dX11_dayOn_0 rfl rfl ?_
  refine g_get dX11_dayOn_1 fl_X11_58 hp_46 rfl ?_
  refine g_bipush (v := 40) dX11_dayOn_4 (by decide) ?_
  refine g_dup2 dX11_dayOn_6 rfl rfl ?_
  refine g_ra dX11_dayOn_7 hp_63 (k := 40) rfl (by decide) (by decide) ?_
  refine g_aload_n dX11_dayOn_8 rfl rfl ?_
  refine g_get dX11_dayOn_9 fl_X11_58 hp_46 rfl ?_
  refine g_bipush (v := 38) dX11_dayOn_12 (by decide) ?_
  refine g_ra dX11_dayOn_14 hp_63 (k := 38) rfl (by decide) (by decide) ?_
  refine g_if_ne (tgt := 22) dX11_dayOn_15 (by decide) (fun c_15 => ?_) (fun c_15 => ?_)
  · refine g_ic_m1 dX11_dayOn_22 ?_
    refine g_iadd dX11_dayOn_23 ?_
    refine g_wa dX11_dayOn_24 hp_63 (k := 40) rfl (by decide) (by decide) ?_
    rw [hq_63]
    try simp (disch := omega) only [up_at, up_up, up_ne, up2_at, up2_up2, up2_ne, ud_at, ud_ne]
    refine g_aload_n dX11_dayOn_25 rfl rfl ?_
    refine g_get dX11_dayOn_26 fl_X11_58 hp_46 rfl ?_
    refine g_bipush (v := 40) dX11_dayOn_29 (by decide) ?_
    refine g_ra dX11_dayOn_31 hp_63 (k := 40) rfl (by decide) (by decide) ?_
    try simp (disch := omega) only [up_at, up_up, up_ne, up2_at, up2_up2, up2_ne, ud_at, ud_ne]
    refine g_aload_n dX11_dayOn_32 rfl rfl ?_
    refine g_aload_n dX11_dayOn_33 rfl rfl ?_
    refine g_get dX11_dayOn_34 fl_X11_58 hp_46 rfl ?_
    refine g_bipush (v := 39) dX11_dayOn_37 (by decide) ?_
    refine g_ra dX11_dayOn_39 hp_63 (k := 39) rfl (by decide) (by decide) ?_
    try simp (disch := omega) only [up_at, up_up, up_ne, up2_at, up2_up2, up2_ne, ud_at, ud_ne]
    refine g_ic_0 dX11_dayOn_40 ?_
    refine g_callV dX11_dayOn_41 cv_X11_264 (as' := [_, _]) hp_46 rfl (e_of (a := m) (b := 0) hm rfl (by omega)) (by decide) rfl rfl (Nat.le_of_ble_eq_true rfl) ?_
    rintro _ _ ⟨rfl, rfl⟩
    try simp (disch := omega) only [up_at, up_up, up_ne, up2_at, up2_up2, up2_ne, ud_at, ud_ne]
    refine g_icmp_ne (tgt := 76) dX11_dayOn_44 (by decide) (fun c_44 => ?_) (fun c_44 => ?_)
    · refine g_aload_n dX11_dayOn_76 rfl rfl ?_
      refine g_get dX11_dayOn_77 fl_X11_58 hp_46 rfl ?_
      refine g_bipush (v := 40) dX11_dayOn_80 (by decide) ?_
      refine g_ra dX11_dayOn_82 hp_63 (k := 40) rfl (by decide) (by decide) ?_
      try simp (disch := omega) only [up_at, up_up, up_ne, up2_at, up2_up2, up2_ne, ud_at, ud_ne]
      refine g_if_ge (tgt := 133) dX11_dayOn_83 (by decide) (fun c_83 => ?_) (fun c_83 => ?_)
      · refine g_aload_n dX11_dayOn_133 rfl rfl ?_
        refine g_get dX11_dayOn_134 fl_X11_58 hp_46 rfl ?_
        refine g_bipush (v := 41) dX11_dayOn_137 (by decide) ?_
        refine g_aload_n dX11_dayOn_139 rfl rfl ?_
        refine g_get dX11_dayOn_140 fl_X11_58 hp_46 rfl ?_
        refine g_bipush (v := 41) dX11_dayOn_143 (by decide) ?_
        refine g_ra dX11_dayOn_145 hp_63 (k := 41) rfl (by decide) (by decide) ?_
        try simp (disch := omega) only [up_at, up_up, up_ne, up2_at, up2_up2, up2_ne, ud_at, ud_ne]
        refine g_ic_1 dX11_dayOn_146 ?_
        refine g_iadd dX11_dayOn_147 ?_
        refine g_sipush (v := 2520) dX11_dayOn_148 (by decide) ?_
        refine g_irem dX11_dayOn_151 (by decide) ?_
        refine g_wa dX11_dayOn_152 hp_63 (k := 41) rfl (by decide) (by decide) ?_
        rw [hq_63]
        try simp (disch := omega) only [up_at, up_up, up_ne, up2_at, up2_up2, up2_ne, ud_at, ud_ne]
        refine g_aload_n dX11_dayOn_153 rfl rfl ?_
        refine g_get dX11_dayOn_154 fl_X11_68 hp_46 rfl ?_
        refine g_aload_n dX11_dayOn_157 rfl rfl ?_
        refine g_get dX11_dayOn_158 fl_X11_58 hp_46 rfl ?_
        refine g_bipush (v := 39) dX11_dayOn_161 (by decide) ?_
        refine g_ra dX11_dayOn_163 hp_63 (k := 39) rfl (by decide) (by decide) ?_
        try simp (disch := omega) only [up_at, up_up, up_ne, up2_at, up2_up2, up2_ne, ud_at, ud_ne]
        refine g_dup2 dX11_dayOn_164 rfl rfl ?_
        refine g_ra dX11_dayOn_165 hp_65 (k := m) hm (by omega) (by decide) ?_
        try simp (disch := omega) only [up_at, up_up, up_ne, up2_at, up2_up2, up2_ne, ud_at, ud_ne]
        refine g_ic_1 dX11_dayOn_166 ?_
        refine g_iadd dX11_dayOn_167 ?_
        refine g_wa dX11_dayOn_168 hp_65 (k := m) hm (by omega) (by decide) ?_
        rw [hq_65]
        try simp (disch := omega) only [up_at, up_up, up_ne, up2_at, up2_up2, up2_ne, ud_at, ud_ne]
        exact g_vret dX11_dayOn_169 ⟨rfl, by have e : dnT (A 63) = A 63 40 + (-1) := (by unfold dnT; rw [if_neg c_15]); rw [show dyN (A 63) (A 61) m q = _ from (if_neg (fun z => c_44 (e.symm.trans z))).trans (if_pos (by rw [e]; exact c_83)), e]; rfl⟩
      · refine g_aload_n dX11_dayOn_86 rfl rfl ?_
        refine g_get dX11_dayOn_87 fl_X11_58 hp_46 rfl ?_
        refine g_bipush (v := 39) dX11_dayOn_90 (by decide) ?_
        refine g_aload_n dX11_dayOn_92 rfl rfl ?_
        refine g_get dX11_dayOn_93 fl_X11_58 hp_46 rfl ?_
        refine g_bipush (v := 39) dX11_dayOn_96 (by decide) ?_
        refine g_ra dX11_dayOn_98 hp_63 (k := 39) rfl (by decide) (by decide) ?_
        try simp (disch := omega) only [up_at, up_up, up_ne, up2_at, up2_up2, up2_ne, ud_at, ud_ne]
        refine g_aload_n dX11_dayOn_99 rfl rfl ?_
        refine g_get dX11_dayOn_100 fl_X11_261 hp_46 rfl ?_
        try simp (disch := omega) only [up_at, up_up, up_ne, up2_at, up2_up2, up2_ne, ud_at, ud_ne]
        refine g_iadd dX11_dayOn_103 ?_
        refine g_ic_1 dX11_dayOn_104 ?_
        refine g_isub dX11_dayOn_105 ?_
        refine g_aload_n dX11_dayOn_106 rfl rfl ?_
        refine g_get dX11_dayOn_107 fl_X11_261 hp_46 rfl ?_
        try simp (disch := omega) only [up_at, up_up, up_ne, up2_at, up2_up2, up2_ne, ud_at, ud_ne]
        refine g_irem dX11_dayOn_110 hq0 ?_
        rw [h2]
        refine g_wa dX11_dayOn_111 hp_63 (k := 39) rfl (by decide) (by decide) ?_
        rw [hq_63]
        try simp (disch := omega) only [up_at, up_up, up_ne, up2_at, up2_up2, up2_ne, ud_at, ud_ne]
        refine g_aload_n dX11_dayOn_112 rfl rfl ?_
        refine g_get dX11_dayOn_113 fl_X11_58 hp_46 rfl ?_
        refine g_bipush (v := 40) dX11_dayOn_116 (by decide) ?_
        refine g_aload_n dX11_dayOn_118 rfl rfl ?_
        refine g_aload_n dX11_dayOn_119 rfl rfl ?_
        refine g_get dX11_dayOn_120 fl_X11_58 hp_46 rfl ?_
        refine g_bipush (v := 39) dX11_dayOn_123 (by decide) ?_
        refine g_ra dX11_dayOn_125 hp_63 (k := 39) rfl (by decide) (by decide) ?_
        try simp (disch := omega) only [up_at, up_up, up_ne, up2_at, up2_up2, up2_ne, ud_at, ud_ne]
        refine g_ic_0 dX11_dayOn_126 ?_
        refine g_callV dX11_dayOn_127 cv_X11_264 (as' := [_, _]) hp_46 rfl (e_of (a := ((m + q - 1) % q)) (b := 0) rfl rfl (by omega)) (by decide) rfl rfl (Nat.le_of_ble_eq_true rfl) ?_
        rintro _ _ ⟨rfl, rfl⟩
        try simp (disch := omega) only [up_at, up_up, up_ne, up2_at, up2_up2, up2_ne, ud_at, ud_ne]
        refine g_ic_1 dX11_dayOn_130 ?_
        refine g_isub dX11_dayOn_131 ?_
        refine g_wa dX11_dayOn_132 hp_63 (k := 40) rfl (by decide) (by decide) ?_
        rw [hq_63]
        try simp (disch := omega) only [up_at, up_up, up_ne, up2_at, up2_up2, up2_ne, ud_at, ud_ne]
        refine g_aload_n dX11_dayOn_133 rfl rfl ?_
        refine g_get dX11_dayOn_134 fl_X11_58 hp_46 rfl ?_
        refine g_bipush (v := 41) dX11_dayOn_137 (by decide) ?_
        refine g_aload_n dX11_dayOn_139 rfl rfl ?_
        refine g_get dX11_dayOn_140 fl_X11_58 hp_46 rfl ?_
        refine g_bipush (v := 41) dX11_dayOn_143 (by decide) ?_
        refine g_ra dX11_dayOn_145 hp_63 (k := 41) rfl (by decide) (by decide) ?_
        try simp (disch := omega) only [up_at, up_up, up_ne, up2_at, up2_up2, up2_ne, ud_at, ud_ne]
        refine g_ic_1 dX11_dayOn_146 ?_
        refine g_iadd dX11_dayOn_147 ?_
        refine g_sipush (v := 2520) dX11_dayOn_148 (by decide) ?_
        refine g_irem dX11_dayOn_151 (by decide) ?_
        refine g_wa dX11_dayOn_152 hp_63 (k := 41) rfl (by decide) (by decide) ?_
        rw [hq_63]
        try simp (disch := omega) only [up_at, up_up, up_ne, up2_at, up2_up2, up2_ne, ud_at, ud_ne]
        refine g_aload_n dX11_dayOn_153 rfl rfl ?_
        refine g_get dX11_dayOn_154 fl_X11_68 hp_46 rfl ?_
        refine g_aload_n dX11_dayOn_157 rfl rfl ?_
        refine g_get dX11_dayOn_158 fl_X11_58 hp_46 rfl ?_
        refine g_bipush (v := 39) dX11_dayOn_161 (by decide) ?_
        refine g_ra dX11_dayOn_163 hp_63 (k := 39) rfl (by decide) (by decide) ?_
        try simp (disch := omega) only [up_at, up_up, up_ne, up2_at, up2_up2, up2_ne, ud_at, ud_ne]
        refine g_dup2 dX11_dayOn_164 rfl rfl ?_
        refine g_ra dX11_dayOn_165 hp_65 (k := ((m + q - 1) % q)) rfl (Nat.lt_of_lt_of_le (Nat.mod_lt _ (by omega)) hq8) (by decide) ?_
        try simp (disch := omega) only [up_at, up_up, up_ne, up2_at, up2_up2, up2_ne, ud_at, ud_ne]
        refine g_ic_1 dX11_dayOn_166 ?_
        refine g_iadd dX11_dayOn_167 ?_
        refine g_wa dX11_dayOn_168 hp_65 (k := ((m + q - 1) % q)) rfl (Nat.lt_of_lt_of_le (Nat.mod_lt _ (by omega)) hq8) (by decide) ?_
        rw [hq_65]
        try simp (disch := omega) only [up_at, up_up, up_ne, up2_at, up2_up2, up2_ne, ud_at, ud_ne]
        exact g_vret dX11_dayOn_169 ⟨rfl, by have e : dnT (A 63) = A 63 40 + (-1) := (by unfold dnT; rw [if_neg c_15]); rw [show dyN (A 63) (A 61) m q = _ from (if_neg (fun z => c_44 (e.symm.trans z))).trans (if_neg (fun z => c_83 (by rw [← e]; exact z))), e]; rfl⟩
    · refine g_aload_n dX11_dayOn_47 rfl rfl ?_
      refine g_get dX11_dayOn_48 fl_X11_58 hp_46 rfl ?_
      refine g_bipush (v := 39) dX11_dayOn_51 (by decide) ?_
      refine g_aload_n dX11_dayOn_53 rfl rfl ?_
      refine g_get dX11_dayOn_54 fl_X11_58 hp_46 rfl ?_
      refine g_bipush (v := 39) dX11_dayOn_57 (by decide) ?_
      refine g_ra dX11_dayOn_59 hp_63 (k := 39) rfl (by decide) (by decide) ?_
      try simp (disch := omega) only [up_at, up_up, up_ne, up2_at, up2_up2, up2_ne, ud_at, ud_ne]
      refine g_ic_1 dX11_dayOn_60 ?_
      refine g_iadd dX11_dayOn_61 ?_
      refine g_aload_n dX11_dayOn_62 rfl rfl ?_
      refine g_get dX11_dayOn_63 fl_X11_261 hp_46 rfl ?_
      try simp (disch := omega) only [up_at, up_up, up_ne, up2_at, up2_up2, up2_ne, ud_at, ud_ne]
      refine g_irem dX11_dayOn_66 hq0 ?_
      rw [h1]
      refine g_wa dX11_dayOn_67 hp_63 (k := 39) rfl (by decide) (by decide) ?_
      rw [hq_63]
      try simp (disch := omega) only [up_at, up_up, up_ne, up2_at, up2_up2, up2_ne, ud_at, ud_ne]
      refine g_aload_n dX11_dayOn_68 rfl rfl ?_
      refine g_get dX11_dayOn_69 fl_X11_58 hp_46 rfl ?_
      refine g_bipush (v := 40) dX11_dayOn_72 (by decide) ?_
      refine g_ic_0 dX11_dayOn_74 ?_
      refine g_wa dX11_dayOn_75 hp_63 (k := 40) rfl (by decide) (by decide) ?_
      rw [hq_63]
      try simp (disch := omega) only [up_at, up_up, up_ne, up2_at, up2_up2, up2_ne, ud_at, ud_ne]
      refine g_aload_n dX11_dayOn_76 rfl rfl ?_
      refine g_get dX11_dayOn_77 fl_X11_58 hp_46 rfl ?_
      refine g_bipush (v := 40) dX11_dayOn_80 (by decide) ?_
      refine g_ra dX11_dayOn_82 hp_63 (k := 40) rfl (by decide) (by decide) ?_
      try simp (disch := omega) only [up_at, up_up, up_ne, up2_at, up2_up2, up2_ne, ud_at, ud_ne]
      refine g_if_ge (tgt := 133) dX11_dayOn_83 (by decide) (fun c_83 => ?_) (fun c_83 => ?_)
      · refine g_aload_n dX11_dayOn_133 rfl rfl ?_
        refine g_get dX11_dayOn_134 fl_X11_58 hp_46 rfl ?_
        refine g_bipush (v := 41) dX11_dayOn_137 (by decide) ?_
        refine g_aload_n dX11_dayOn_139 rfl rfl ?_
        refine g_get dX11_dayOn_140 fl_X11_58 hp_46 rfl ?_
        refine g_bipush (v := 41) dX11_dayOn_143 (by decide) ?_
        refine g_ra dX11_dayOn_145 hp_63 (k := 41) rfl (by decide) (by decide) ?_
        try simp (disch := omega) only [up_at, up_up, up_ne, up2_at, up2_up2, up2_ne, ud_at, ud_ne]
        refine g_ic_1 dX11_dayOn_146 ?_
        refine g_iadd dX11_dayOn_147 ?_
        refine g_sipush (v := 2520) dX11_dayOn_148 (by decide) ?_
        refine g_irem dX11_dayOn_151 (by decide) ?_
        refine g_wa dX11_dayOn_152 hp_63 (k := 41) rfl (by decide) (by decide) ?_
        rw [hq_63]
        try simp (disch := omega) only [up_at, up_up, up_ne, up2_at, up2_up2, up2_ne, ud_at, ud_ne]
        refine g_aload_n dX11_dayOn_153 rfl rfl ?_
        refine g_get dX11_dayOn_154 fl_X11_68 hp_46 rfl ?_
        refine g_aload_n dX11_dayOn_157 rfl rfl ?_
        refine g_get dX11_dayOn_158 fl_X11_58 hp_46 rfl ?_
        refine g_bipush (v := 39) dX11_dayOn_161 (by decide) ?_
        refine g_ra dX11_dayOn_163 hp_63 (k := 39) rfl (by decide) (by decide) ?_
        try simp (disch := omega) only [up_at, up_up, up_ne, up2_at, up2_up2, up2_ne, ud_at, ud_ne]
        refine g_dup2 dX11_dayOn_164 rfl rfl ?_
        refine g_ra dX11_dayOn_165 hp_65 (k := ((m + 1) % q)) rfl (Nat.lt_of_lt_of_le (Nat.mod_lt _ (by omega)) hq8) (by decide) ?_
        try simp (disch := omega) only [up_at, up_up, up_ne, up2_at, up2_up2, up2_ne, ud_at, ud_ne]
        refine g_ic_1 dX11_dayOn_166 ?_
        refine g_iadd dX11_dayOn_167 ?_
        refine g_wa dX11_dayOn_168 hp_65 (k := ((m + 1) % q)) rfl (Nat.lt_of_lt_of_le (Nat.mod_lt _ (by omega)) hq8) (by decide) ?_
        rw [hq_65]
        try simp (disch := omega) only [up_at, up_up, up_ne, up2_at, up2_up2, up2_ne, ud_at, ud_ne]
        exact g_vret dX11_dayOn_169 ⟨rfl, by have e : dnT (A 63) = A 63 40 + (-1) := (by unfold dnT; rw [if_neg c_15]); rw [show dyN (A 63) (A 61) m q = _ from if_pos (e.trans c_44), e]; rfl⟩
      · exact absurd (Int32.le_refl 0) c_83
  · refine g_ic_1 dX11_dayOn_18 ?_
    refine g_goto (tgt := 23) dX11_dayOn_19 (by decide) ?_
    refine g_iadd dX11_dayOn_23 ?_
    refine g_wa dX11_dayOn_24 hp_63 (k := 40) rfl (by decide) (by decide) ?_
    rw [hq_63]
    try simp (disch := omega) only [up_at, up_up, up_ne, up2_at, up2_up2, up2_ne, ud_at, ud_ne]
    refine g_aload_n dX11_dayOn_25 rfl rfl ?_
    refine g_get dX11_dayOn_26 fl_X11_58 hp_46 rfl ?_
    refine g_bipush (v := 40) dX11_dayOn_29 (by decide) ?_
    refine g_ra dX11_dayOn_31 hp_63 (k := 40) rfl (by decide) (by decide) ?_
    try simp (disch := omega) only [up_at, up_up, up_ne, up2_at, up2_up2, up2_ne, ud_at, ud_ne]
    refine g_aload_n dX11_dayOn_32 rfl rfl ?_
    refine g_aload_n dX11_dayOn_33 rfl rfl ?_
    refine g_get dX11_dayOn_34 fl_X11_58 hp_46 rfl ?_
    refine g_bipush (v := 39) dX11_dayOn_37 (by decide) ?_
    refine g_ra dX11_dayOn_39 hp_63 (k := 39) rfl (by decide) (by decide) ?_
    try simp (disch := omega) only [up_at, up_up, up_ne, up2_at, up2_up2, up2_ne, ud_at, ud_ne]
    refine g_ic_0 dX11_dayOn_40 ?_
    refine g_callV dX11_dayOn_41 cv_X11_264 (as' := [_, _]) hp_46 rfl (e_of (a := m) (b := 0) hm rfl (by omega)) (by decide) rfl rfl (Nat.le_of_ble_eq_true rfl) ?_
    rintro _ _ ⟨rfl, rfl⟩
    try simp (disch := omega) only [up_at, up_up, up_ne, up2_at, up2_up2, up2_ne, ud_at, ud_ne]
    refine g_icmp_ne (tgt := 76) dX11_dayOn_44 (by decide) (fun c_44 => ?_) (fun c_44 => ?_)
    · refine g_aload_n dX11_dayOn_76 rfl rfl ?_
      refine g_get dX11_dayOn_77 fl_X11_58 hp_46 rfl ?_
      refine g_bipush (v := 40) dX11_dayOn_80 (by decide) ?_
      refine g_ra dX11_dayOn_82 hp_63 (k := 40) rfl (by decide) (by decide) ?_
      try simp (disch := omega) only [up_at, up_up, up_ne, up2_at, up2_up2, up2_ne, ud_at, ud_ne]
      refine g_if_ge (tgt := 133) dX11_dayOn_83 (by decide) (fun c_83 => ?_) (fun c_83 => ?_)
      · refine g_aload_n dX11_dayOn_133 rfl rfl ?_
        refine g_get dX11_dayOn_134 fl_X11_58 hp_46 rfl ?_
        refine g_bipush (v := 41) dX11_dayOn_137 (by decide) ?_
        refine g_aload_n dX11_dayOn_139 rfl rfl ?_
        refine g_get dX11_dayOn_140 fl_X11_58 hp_46 rfl ?_
        refine g_bipush (v := 41) dX11_dayOn_143 (by decide) ?_
        refine g_ra dX11_dayOn_145 hp_63 (k := 41) rfl (by decide) (by decide) ?_
        try simp (disch := omega) only [up_at, up_up, up_ne, up2_at, up2_up2, up2_ne, ud_at, ud_ne]
        refine g_ic_1 dX11_dayOn_146 ?_
        refine g_iadd dX11_dayOn_147 ?_
        refine g_sipush (v := 2520) dX11_dayOn_148 (by decide) ?_
        refine g_irem dX11_dayOn_151 (by decide) ?_
        refine g_wa dX11_dayOn_152 hp_63 (k := 41) rfl (by decide) (by decide) ?_
        rw [hq_63]
        try simp (disch := omega) only [up_at, up_up, up_ne, up2_at, up2_up2, up2_ne, ud_at, ud_ne]
        refine g_aload_n dX11_dayOn_153 rfl rfl ?_
        refine g_get dX11_dayOn_154 fl_X11_68 hp_46 rfl ?_
        refine g_aload_n dX11_dayOn_157 rfl rfl ?_
        refine g_get dX11_dayOn_158 fl_X11_58 hp_46 rfl ?_
        refine g_bipush (v := 39) dX11_dayOn_161 (by decide) ?_
        refine g_ra dX11_dayOn_163 hp_63 (k := 39) rfl (by decide) (by decide) ?_
        try simp (disch := omega) only [up_at, up_up, up_ne, up2_at, up2_up2, up2_ne, ud_at, ud_ne]
        refine g_dup2 dX11_dayOn_164 rfl rfl ?_
        refine g_ra dX11_dayOn_165 hp_65 (k := m) hm (by omega) (by decide) ?_
        try simp (disch := omega) only [up_at, up_up, up_ne, up2_at, up2_up2, up2_ne, ud_at, ud_ne]
        refine g_ic_1 dX11_dayOn_166 ?_
        refine g_iadd dX11_dayOn_167 ?_
        refine g_wa dX11_dayOn_168 hp_65 (k := m) hm (by omega) (by decide) ?_
        rw [hq_65]
        try simp (disch := omega) only [up_at, up_up, up_ne, up2_at, up2_up2, up2_ne, ud_at, ud_ne]
        exact g_vret dX11_dayOn_169 ⟨rfl, by have e : dnT (A 63) = A 63 40 + 1 := (by unfold dnT; rw [if_pos c_15]); rw [show dyN (A 63) (A 61) m q = _ from (if_neg (fun z => c_44 (e.symm.trans z))).trans (if_pos (by rw [e]; exact c_83)), e]; rfl⟩
      · refine g_aload_n dX11_dayOn_86 rfl rfl ?_
        refine g_get dX11_dayOn_87 fl_X11_58 hp_46 rfl ?_
        refine g_bipush (v := 39) dX11_dayOn_90 (by decide) ?_
        refine g_aload_n dX11_dayOn_92 rfl rfl ?_
        refine g_get dX11_dayOn_93 fl_X11_58 hp_46 rfl ?_
        refine g_bipush (v := 39) dX11_dayOn_96 (by decide) ?_
        refine g_ra dX11_dayOn_98 hp_63 (k := 39) rfl (by decide) (by decide) ?_
        try simp (disch := omega) only [up_at, up_up, up_ne, up2_at, up2_up2, up2_ne, ud_at, ud_ne]
        refine g_aload_n dX11_dayOn_99 rfl rfl ?_
        refine g_get dX11_dayOn_100 fl_X11_261 hp_46 rfl ?_
        try simp (disch := omega) only [up_at, up_up, up_ne, up2_at, up2_up2, up2_ne, ud_at, ud_ne]
        refine g_iadd dX11_dayOn_103 ?_
        refine g_ic_1 dX11_dayOn_104 ?_
        refine g_isub dX11_dayOn_105 ?_
        refine g_aload_n dX11_dayOn_106 rfl rfl ?_
        refine g_get dX11_dayOn_107 fl_X11_261 hp_46 rfl ?_
        try simp (disch := omega) only [up_at, up_up, up_ne, up2_at, up2_up2, up2_ne, ud_at, ud_ne]
        refine g_irem dX11_dayOn_110 hq0 ?_
        rw [h2]
        refine g_wa dX11_dayOn_111 hp_63 (k := 39) rfl (by decide) (by decide) ?_
        rw [hq_63]
        try simp (disch := omega) only [up_at, up_up, up_ne, up2_at, up2_up2, up2_ne, ud_at, ud_ne]
        refine g_aload_n dX11_dayOn_112 rfl rfl ?_
        refine g_get dX11_dayOn_113 fl_X11_58 hp_46 rfl ?_
        refine g_bipush (v := 40) dX11_dayOn_116 (by decide) ?_
        refine g_aload_n dX11_dayOn_118 rfl rfl ?_
        refine g_aload_n dX11_dayOn_119 rfl rfl ?_
        refine g_get dX11_dayOn_120 fl_X11_58 hp_46 rfl ?_
        refine g_bipush (v := 39) dX11_dayOn_123 (by decide) ?_
        refine g_ra dX11_dayOn_125 hp_63 (k := 39) rfl (by decide) (by decide) ?_
        try simp (disch := omega) only [up_at, up_up, up_ne, up2_at, up2_up2, up2_ne, ud_at, ud_ne]
        refine g_ic_0 dX11_dayOn_126 ?_
        refine g_callV dX11_dayOn_127 cv_X11_264 (as' := [_, _]) hp_46 rfl (e_of (a := ((m + q - 1) % q)) (b := 0) rfl rfl (by omega)) (by decide) rfl rfl (Nat.le_of_ble_eq_true rfl) ?_
        rintro _ _ ⟨rfl, rfl⟩
        try simp (disch := omega) only [up_at, up_up, up_ne, up2_at, up2_up2, up2_ne, ud_at, ud_ne]
        refine g_ic_1 dX11_dayOn_130 ?_
        refine g_isub dX11_dayOn_131 ?_
        refine g_wa dX11_dayOn_132 hp_63 (k := 40) rfl (by decide) (by decide) ?_
        rw [hq_63]
        try simp (disch := omega) only [up_at, up_up, up_ne, up2_at, up2_up2, up2_ne, ud_at, ud_ne]
        refine g_aload_n dX11_dayOn_133 rfl rfl ?_
        refine g_get dX11_dayOn_134 fl_X11_58 hp_46 rfl ?_
        refine g_bipush (v := 41) dX11_dayOn_137 (by decide) ?_
        refine g_aload_n dX11_dayOn_139 rfl rfl ?_
        refine g_get dX11_dayOn_140 fl_X11_58 hp_46 rfl ?_
        refine g_bipush (v := 41) dX11_dayOn_143 (by decide) ?_
        refine g_ra dX11_dayOn_145 hp_63 (k := 41) rfl (by decide) (by decide) ?_
        try simp (disch := omega) only [up_at, up_up, up_ne, up2_at, up2_up2, up2_ne, ud_at, ud_ne]
        refine g_ic_1 dX11_dayOn_146 ?_
        refine g_iadd dX11_dayOn_147 ?_
        refine g_sipush (v := 2520) dX11_dayOn_148 (by decide) ?_
        refine g_irem dX11_dayOn_151 (by decide) ?_
        refine g_wa dX11_dayOn_152 hp_63 (k := 41) rfl (by decide) (by decide) ?_
        rw [hq_63]
        try simp (disch := omega) only [up_at, up_up, up_ne, up2_at, up2_up2, up2_ne, ud_at, ud_ne]
        refine g_aload_n dX11_dayOn_153 rfl rfl ?_
        refine g_get dX11_dayOn_154 fl_X11_68 hp_46 rfl ?_
        refine g_aload_n dX11_dayOn_157 rfl rfl ?_
        refine g_get dX11_dayOn_158 fl_X11_58 hp_46 rfl ?_
        refine g_bipush (v := 39) dX11_dayOn_161 (by decide) ?_
        refine g_ra dX11_dayOn_163 hp_63 (k := 39) rfl (by decide) (by decide) ?_
        try simp (disch := omega) only [up_at, up_up, up_ne, up2_at, up2_up2, up2_ne, ud_at, ud_ne]
        refine g_dup2 dX11_dayOn_164 rfl rfl ?_
        refine g_ra dX11_dayOn_165 hp_65 (k := ((m + q - 1) % q)) rfl (Nat.lt_of_lt_of_le (Nat.mod_lt _ (by omega)) hq8) (by decide) ?_
        try simp (disch := omega) only [up_at, up_up, up_ne, up2_at, up2_up2, up2_ne, ud_at, ud_ne]
        refine g_ic_1 dX11_dayOn_166 ?_
        refine g_iadd dX11_dayOn_167 ?_
        refine g_wa dX11_dayOn_168 hp_65 (k := ((m + q - 1) % q)) rfl (Nat.lt_of_lt_of_le (Nat.mod_lt _ (by omega)) hq8) (by decide) ?_
        rw [hq_65]
        try simp (disch := omega) only [up_at, up_up, up_ne, up2_at, up2_up2, up2_ne, ud_at, ud_ne]
        exact g_vret dX11_dayOn_169 ⟨rfl, by have e : dnT (A 63) = A 63 40 + 1 := (by unfold dnT; rw [if_pos c_15]); rw [show dyN (A 63) (A 61) m q = _ from (if_neg (fun z => c_44 (e.symm.trans z))).trans (if_neg (fun z => c_83 (by rw [← e]; exact z))), e]; rfl⟩
    · refine g_aload_n dX11_dayOn_47 rfl rfl ?_
      refine g_get dX11_dayOn_48 fl_X11_58 hp_46 rfl ?_
      refine g_bipush (v := 39) dX11_dayOn_51 (by decide) ?_
      refine g_aload_n dX11_dayOn_53 rfl rfl ?_
      refine g_get dX11_dayOn_54 fl_X11_58 hp_46 rfl ?_
      refine g_bipush (v := 39) dX11_dayOn_57 (by decide) ?_
      refine g_ra dX11_dayOn_59 hp_63 (k := 39) rfl (by decide) (by decide) ?_
      try simp (disch := omega) only [up_at, up_up, up_ne, up2_at, up2_up2, up2_ne, ud_at, ud_ne]
      refine g_ic_1 dX11_dayOn_60 ?_
      refine g_iadd dX11_dayOn_61 ?_
      refine g_aload_n dX11_dayOn_62 rfl rfl ?_
      refine g_get dX11_dayOn_63 fl_X11_261 hp_46 rfl ?_
      try simp (disch := omega) only [up_at, up_up, up_ne, up2_at, up2_up2, up2_ne, ud_at, ud_ne]
      refine g_irem dX11_dayOn_66 hq0 ?_
      rw [h1]
      refine g_wa dX11_dayOn_67 hp_63 (k := 39) rfl (by decide) (by decide) ?_
      rw [hq_63]
      try simp (disch := omega) only [up_at, up_up, up_ne, up2_at, up2_up2, up2_ne, ud_at, ud_ne]
      refine g_aload_n dX11_dayOn_68 rfl rfl ?_
      refine g_get dX11_dayOn_69 fl_X11_58 hp_46 rfl ?_
      refine g_bipush (v := 40) dX11_dayOn_72 (by decide) ?_
      refine g_ic_0 dX11_dayOn_74 ?_
      refine g_wa dX11_dayOn_75 hp_63 (k := 40) rfl (by decide) (by decide) ?_
      rw [hq_63]
      try simp (disch := omega) only [up_at, up_up, up_ne, up2_at, up2_up2, up2_ne, ud_at, ud_ne]
      refine g_aload_n dX11_dayOn_76 rfl rfl ?_
      refine g_get dX11_dayOn_77 fl_X11_58 hp_46 rfl ?_
      refine g_bipush (v := 40) dX11_dayOn_80 (by decide) ?_
      refine g_ra dX11_dayOn_82 hp_63 (k := 40) rfl (by decide) (by decide) ?_
      try simp (disch := omega) only [up_at, up_up, up_ne, up2_at, up2_up2, up2_ne, ud_at, ud_ne]
      refine g_if_ge (tgt := 133) dX11_dayOn_83 (by decide) (fun c_83 => ?_) (fun c_83 => ?_)
      · refine g_aload_n dX11_dayOn_133 rfl rfl ?_
        refine g_get dX11_dayOn_134 fl_X11_58 hp_46 rfl ?_
        refine g_bipush (v := 41) dX11_dayOn_137 (by decide) ?_
        refine g_aload_n dX11_dayOn_139 rfl rfl ?_
        refine g_get dX11_dayOn_140 fl_X11_58 hp_46 rfl ?_
        refine g_bipush (v := 41) dX11_dayOn_143 (by decide) ?_
        refine g_ra dX11_dayOn_145 hp_63 (k := 41) rfl (by decide) (by decide) ?_
        try simp (disch := omega) only [up_at, up_up, up_ne, up2_at, up2_up2, up2_ne, ud_at, ud_ne]
        refine g_ic_1 dX11_dayOn_146 ?_
        refine g_iadd dX11_dayOn_147 ?_
        refine g_sipush (v := 2520) dX11_dayOn_148 (by decide) ?_
        refine g_irem dX11_dayOn_151 (by decide) ?_
        refine g_wa dX11_dayOn_152 hp_63 (k := 41) rfl (by decide) (by decide) ?_
        rw [hq_63]
        try simp (disch := omega) only [up_at, up_up, up_ne, up2_at, up2_up2, up2_ne, ud_at, ud_ne]
        refine g_aload_n dX11_dayOn_153 rfl rfl ?_
        refine g_get dX11_dayOn_154 fl_X11_68 hp_46 rfl ?_
        refine g_aload_n dX11_dayOn_157 rfl rfl ?_
        refine g_get dX11_dayOn_158 fl_X11_58 hp_46 rfl ?_
        refine g_bipush (v := 39) dX11_dayOn_161 (by decide) ?_
        refine g_ra dX11_dayOn_163 hp_63 (k := 39) rfl (by decide) (by decide) ?_
        try simp (disch := omega) only [up_at, up_up, up_ne, up2_at, up2_up2, up2_ne, ud_at, ud_ne]
        refine g_dup2 dX11_dayOn_164 rfl rfl ?_
        refine g_ra dX11_dayOn_165 hp_65 (k := ((m + 1) % q)) rfl (Nat.lt_of_lt_of_le (Nat.mod_lt _ (by omega)) hq8) (by decide) ?_
        try simp (disch := omega) only [up_at, up_up, up_ne, up2_at, up2_up2, up2_ne, ud_at, ud_ne]
        refine g_ic_1 dX11_dayOn_166 ?_
        refine g_iadd dX11_dayOn_167 ?_
        refine g_wa dX11_dayOn_168 hp_65 (k := ((m + 1) % q)) rfl (Nat.lt_of_lt_of_le (Nat.mod_lt _ (by omega)) hq8) (by decide) ?_
        rw [hq_65]
        try simp (disch := omega) only [up_at, up_up, up_ne, up2_at, up2_up2, up2_ne, ud_at, ud_ne]
        exact g_vret dX11_dayOn_169 ⟨rfl, by have e : dnT (A 63) = A 63 40 + 1 := (by unfold dnT; rw [if_pos c_15]); rw [show dyN (A 63) (A 61) m q = _ from if_pos (e.trans c_44), e]; rfl⟩
      · exact absurd (Int32.le_refl 0) c_83

set_option maxHeartbeats 4000000 in
set_option maxRecDepth 100000 in
theorem e_grow {A : Nat → Nat → Int32} {L : Nat → Nat → Int64} {I : Nat → Nat → Int32} {X : Nat → Int64} {x : Int32} {m c : Nat} (hx : x = nI c) (hm : A 63 39 = nI m) (hm8 : m < 8) (hc : c < 5) : Con 3 yX11_grow cX11_grow 2 none [.ref 46, .int x] (hp A L I X) (fun r_ H_ => r_ = none ∧ H_ = hp (up A 63 (gwN (A 63) (A 62) m c).1) L (up2 I 46 33 (I 46 33 + (gwN (A 63) (A 62) m c).2)) X) := by
  refine m_con (by decide) (Nat.le_of_ble_eq_true rfl) ?_
  subst hx
  refine g_aload_n dX11_grow_0 rfl rfl ?_
  refine g_get dX11_grow_1 fl_X11_58 hp_46 rfl ?_
  refine g_bipush (v := 24) dX11_grow_4 (by decide) ?_
  refine g_iload_n dX11_grow_6 rfl rfl ?_
  refine g_iadd dX11_grow_7 ?_
  refine g_sipush (v := 999) dX11_grow_8 (by decide) ?_
  refine g_aload_n dX11_grow_11 rfl rfl ?_
  refine g_get dX11_grow_12 fl_X11_58 hp_46 rfl ?_
  refine g_bipush (v := 24) dX11_grow_15 (by decide) ?_
  refine g_iload_n dX11_grow_17 rfl rfl ?_
  refine g_iadd dX11_grow_18 ?_
  refine g_ra dX11_grow_19 hp_63 (k := 24 + c) (nk_add (show (24 : Int32) = nI 24 from rfl) (show nI (c) = nI (c) from rfl)) (by omega) (by decide) ?_
  refine g_aload_n dX11_grow_20 rfl rfl ?_
  refine g_get dX11_grow_21 fl_X11_58 hp_46 rfl ?_
  refine g_bipush (v := 8) dX11_grow_24 (by decide) ?_
  refine g_aload_n dX11_grow_26 rfl rfl ?_
  refine g_get dX11_grow_27 fl_X11_58 hp_46 rfl ?_
  refine g_bipush (v := 39) dX11_grow_30 (by decide) ?_
  refine g_ra dX11_grow_32 hp_63 (k := 39) rfl (by decide) (by decide) ?_
  refine g_iadd dX11_grow_33 ?_
  refine g_ra dX11_grow_34 hp_63 (k := 8 + m) (nk_add (show (8 : Int32) = nI 8 from rfl) hm) (by omega) (by decide) ?_
  refine g_iadd dX11_grow_35 ?_
  refine g_min dX11_grow_36 ml_X11_292 ms_min mi_math mc_min (by decide) (Nat.le_of_ble_eq_true rfl) ?_
  refine g_wa dX11_grow_39 hp_63 (k := 24 + c) (nk_add (show (24 : Int32) = nI 24 from rfl) (show nI (c) = nI (c) from rfl)) (by omega) (by decide) ?_
  rw [hq_63]
  try simp (disch := omega) only [up_at, up_up, up_ne, up2_at, up2_up2, up2_ne, ud_at, ud_ne]
  refine g_aload_n dX11_grow_40 rfl rfl ?_
  refine g_get dX11_grow_41 fl_X11_58 hp_46 rfl ?_
  refine g_bipush (v := 29) dX11_grow_44 (by decide) ?_
  refine g_iload_n dX11_grow_46 rfl rfl ?_
  refine g_iadd dX11_grow_47 ?_
  refine g_sipush (v := 999) dX11_grow_48 (by decide) ?_
  refine g_aload_n dX11_grow_51 rfl rfl ?_
  refine g_get dX11_grow_52 fl_X11_58 hp_46 rfl ?_
  refine g_bipush (v := 29) dX11_grow_55 (by decide) ?_
  refine g_iload_n dX11_grow_57 rfl rfl ?_
  refine g_iadd dX11_grow_58 ?_
  refine g_ra dX11_grow_59 hp_63 (k := 29 + c) (nk_add (show (29 : Int32) = nI 29 from rfl) (show nI (c) = nI (c) from rfl)) (by omega) (by decide) ?_
  try simp (disch := omega) only [up_at, up_up, up_ne, up2_at, up2_up2, up2_ne, ud_at, ud_ne]
  refine g_aload_n dX11_grow_60 rfl rfl ?_
  refine g_get dX11_grow_61 fl_X11_58 hp_46 rfl ?_
  refine g_bipush (v := 16) dX11_grow_64 (by decide) ?_
  refine g_aload_n dX11_grow_66 rfl rfl ?_
  refine g_get dX11_grow_67 fl_X11_58 hp_46 rfl ?_
  refine g_bipush (v := 39) dX11_grow_70 (by decide) ?_
  refine g_ra dX11_grow_72 hp_63 (k := 39) rfl (by decide) (by decide) ?_
  try simp (disch := omega) only [up_at, up_up, up_ne, up2_at, up2_up2, up2_ne, ud_at, ud_ne]
  refine g_iadd dX11_grow_73 ?_
  refine g_ra dX11_grow_74 hp_63 (k := 16 + m) (nk_add (show (16 : Int32) = nI 16 from rfl) hm) (by omega) (by decide) ?_
  try simp (disch := omega) only [up_at, up_up, up_ne, up2_at, up2_up2, up2_ne, ud_at, ud_ne]
  refine g_iadd dX11_grow_75 ?_
  refine g_min dX11_grow_76 ml_X11_292 ms_min mi_math mc_min (by decide) (Nat.le_of_ble_eq_true rfl) ?_
  refine g_wa dX11_grow_79 hp_63 (k := 29 + c) (nk_add (show (29 : Int32) = nI 29 from rfl) (show nI (c) = nI (c) from rfl)) (by omega) (by decide) ?_
  rw [hq_63]
  try simp (disch := omega) only [up_at, up_up, up_ne, up2_at, up2_up2, up2_ne, ud_at, ud_ne]
  refine g_aload_n dX11_grow_80 rfl rfl ?_
  refine g_get dX11_grow_81 fl_X11_58 hp_46 rfl ?_
  refine g_bipush (v := 24) dX11_grow_84 (by decide) ?_
  refine g_iload_n dX11_grow_86 rfl rfl ?_
  refine g_iadd dX11_grow_87 ?_
  refine g_ra dX11_grow_88 hp_63 (k := 24 + c) (nk_add (show (24 : Int32) = nI 24 from rfl) (show nI (c) = nI (c) from rfl)) (by omega) (by decide) ?_
  try simp (disch := omega) only [up_at, up_up, up_ne, up2_at, up2_up2, up2_ne, ud_at, ud_ne]
  refine g_aload_n dX11_grow_89 rfl rfl ?_
  refine g_iload_n dX11_grow_90 rfl rfl ?_
  refine g_ic_0 dX11_grow_91 ?_
  refine g_callV dX11_grow_92 cv_X11_296 (as' := [_, _]) hp_46 rfl (e_ofCrop (a := c) (b := 0) rfl rfl (by omega)) (by decide) rfl rfl (Nat.le_of_ble_eq_true rfl) ?_
  rintro _ _ ⟨rfl, rfl⟩
  try simp (disch := omega) only [up_at, up_up, up_ne, up2_at, up2_up2, up2_ne, ud_at, ud_ne]
  refine g_icmp_lt (tgt := 171) dX11_grow_95 (by decide) (fun c_95 => ?_) (fun c_95 => ?_)
  · exact g_vret dX11_grow_171 ⟨rfl, by rw [show gwN (A 63) (A 62) m c = _ from if_pos c_95, show I 46 33 + (0 : Int32) = I 46 33 from Int32.add_zero _, up2_self]; rfl⟩
  · refine g_aload_n dX11_grow_98 rfl rfl ?_
    refine g_get dX11_grow_99 fl_X11_58 hp_46 rfl ?_
    refine g_bipush (v := 29) dX11_grow_102 (by decide) ?_
    refine g_iload_n dX11_grow_104 rfl rfl ?_
    refine g_iadd dX11_grow_105 ?_
    refine g_ra dX11_grow_106 hp_63 (k := 29 + c) (nk_add (show (29 : Int32) = nI 29 from rfl) (show nI (c) = nI (c) from rfl)) (by omega) (by decide) ?_
    try simp (disch := omega) only [up_at, up_up, up_ne, up2_at, up2_up2, up2_ne, ud_at, ud_ne]
    refine g_aload_n dX11_grow_107 rfl rfl ?_
    refine g_iload_n dX11_grow_108 rfl rfl ?_
    refine g_ic_1 dX11_grow_109 ?_
    refine g_callV dX11_grow_110 cv_X11_296 (as' := [_, _]) hp_46 rfl (e_ofCrop (a := c) (b := 1) rfl rfl (by omega)) (by decide) rfl rfl (Nat.le_of_ble_eq_true rfl) ?_
    rintro _ _ ⟨rfl, rfl⟩
    try simp (disch := omega) only [up_at, up_up, up_ne, up2_at, up2_up2, up2_ne, ud_at, ud_ne]
    refine g_icmp_lt (tgt := 171) dX11_grow_113 (by decide) (fun c_113 => ?_) (fun c_113 => ?_)
    · exact g_vret dX11_grow_171 ⟨rfl, by rw [show gwN (A 63) (A 62) m c = _ from (if_neg c_95).trans (if_pos c_113), show I 46 33 + (0 : Int32) = I 46 33 from Int32.add_zero _, up2_self]; rfl⟩
    · refine g_aload_n dX11_grow_116 rfl rfl ?_
      refine g_get dX11_grow_117 fl_X11_58 hp_46 rfl ?_
      refine g_bipush (v := 34) dX11_grow_120 (by decide) ?_
      refine g_dup2 dX11_grow_122 rfl rfl ?_
      refine g_ra dX11_grow_123 hp_63 (k := 34) rfl (by decide) (by decide) ?_
      try simp (disch := omega) only [up_at, up_up, up_ne, up2_at, up2_up2, up2_ne, ud_at, ud_ne]
      refine g_ic_1 dX11_grow_124 ?_
      refine g_iload_n dX11_grow_125 rfl rfl ?_
      refine g_ishl dX11_grow_126 ?_
      refine g_ior dX11_grow_127 ?_
      refine g_wa dX11_grow_128 hp_63 (k := 34) rfl (by decide) (by decide) ?_
      rw [hq_63]
      try simp (disch := omega) only [up_at, up_up, up_ne, up2_at, up2_up2, up2_ne, ud_at, ud_ne]
      refine g_aload_n dX11_grow_129 rfl rfl ?_
      refine g_get dX11_grow_130 fl_X11_58 hp_46 rfl ?_
      refine g_bipush (v := 37) dX11_grow_133 (by decide) ?_
      refine g_sipush (v := 999) dX11_grow_135 (by decide) ?_
      refine g_aload_n dX11_grow_138 rfl rfl ?_
      refine g_get dX11_grow_139 fl_X11_58 hp_46 rfl ?_
      refine g_bipush (v := 37) dX11_grow_142 (by decide) ?_
      refine g_ra dX11_grow_144 hp_63 (k := 37) rfl (by decide) (by decide) ?_
      try simp (disch := omega) only [up_at, up_up, up_ne, up2_at, up2_up2, up2_ne, ud_at, ud_ne]
      refine g_aload_n dX11_grow_145 rfl rfl ?_
      refine g_iload_n dX11_grow_146 rfl rfl ?_
      refine g_ic_2 dX11_grow_147 ?_
      refine g_callV dX11_grow_148 cv_X11_296 (as' := [_, _]) hp_46 rfl (e_ofCrop (a := c) (b := 2) rfl rfl (by omega)) (by decide) rfl rfl (Nat.le_of_ble_eq_true rfl) ?_
      rintro _ _ ⟨rfl, rfl⟩
      try simp (disch := omega) only [up_at, up_up, up_ne, up2_at, up2_up2, up2_ne, ud_at, ud_ne]
      refine g_iadd dX11_grow_151 ?_
      refine g_min dX11_grow_152 ml_X11_292 ms_min mi_math mc_min (by decide) (Nat.le_of_ble_eq_true rfl) ?_
      refine g_wa dX11_grow_155 hp_63 (k := 37) rfl (by decide) (by decide) ?_
      rw [hq_63]
      try simp (disch := omega) only [up_at, up_up, up_ne, up2_at, up2_up2, up2_ne, ud_at, ud_ne]
      refine g_aload_n dX11_grow_156 rfl rfl ?_
      refine g_dup dX11_grow_157 rfl ?_
      refine g_get dX11_grow_158 fl_X11_299 hp_46 rfl ?_
      try simp (disch := omega) only [up_at, up_up, up_ne, up2_at, up2_up2, up2_ne, ud_at, ud_ne]
      refine g_aload_n dX11_grow_161 rfl rfl ?_
      refine g_iload_n dX11_grow_162 rfl rfl ?_
      refine g_ic_2 dX11_grow_163 ?_
      refine g_callV dX11_grow_164 cv_X11_296 (as' := [_, _]) hp_46 rfl (e_ofCrop (a := c) (b := 2) rfl rfl (by omega)) (by decide) rfl rfl (Nat.le_of_ble_eq_true rfl) ?_
      rintro _ _ ⟨rfl, rfl⟩
      try simp (disch := omega) only [up_at, up_up, up_ne, up2_at, up2_up2, up2_ne, ud_at, ud_ne]
      refine g_iadd dX11_grow_167 ?_
      refine g_puti dX11_grow_168 fw_X11_299 hp_46 (Nat.le_of_ble_eq_true rfl) ?_
      rw [hq_46_33]
      try simp (disch := omega) only [up_at, up_up, up_ne, up2_at, up2_up2, up2_ne, ud_at, ud_ne]
      exact g_vret dX11_grow_171 ⟨rfl, by rw [show gwN (A 63) (A 62) m c = _ from (if_neg c_95).trans (if_neg c_113)]; rfl⟩
