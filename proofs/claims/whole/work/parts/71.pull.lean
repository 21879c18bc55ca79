/-! HOW FAR THE MULE PULLS, A TURN: the reference against the class's own season -/
def LWA (A I : Nat → Nat → Int32) : Prop := I 46 29 = I 11 5 ∧ (I 11 5 = (-1) ∨ ∃ q, q < 4 ∧ I 11 5 = nI q ∧ LRel A q)
theorem rwd_A {A A' : Nat → Nat → Int32} (e48 : A' 48 = A 48) (e49 : A' 49 = A 49) {p : Nat} {w : TL} (h : rwd A p w) : rwd A' p w := fun j x hj => by
  rw [e48, e49]
  exact h j x hj
theorem lyR_A {A A' : Nat → Nat → Int32} (e48 : A' 48 = A 48) (e49 : A' 49 = A 49) (e52 : A' 52 = A 52) (e53 : A' 53 = A 53) (e54 : A' 54 = A 54) {q : Nat} : ∀ (cl : List CLA) (j p : Nat), lyR A q j p cl → lyR A' q j p cl
  | [], _, _, _ => trivial
  | c :: cl, j, p, h => by
    obtain ⟨h1, h2, h3, h4, h5, h6⟩ := h
    exact ⟨by rw [e52]; exact h1, by rw [e53]; exact h2, by rw [e54]; exact h3, rwd_A e48 e49 h4, rwd_A e48 e49 h5, lyR_A e48 e49 e52 e53 e54 cl _ _ h6⟩
section PL
variable {ms cs : Nat} {R M C f N C2 Z : ROW} {hold : Int32}
theorem pl_0 (h : RJ ms cs R M C f N) (hz : N 35 = 0) : plS C2 Z hold f = 0 := by
  refine if_neg ?_
  rw [g143_0, h.2.1.1.1, hz]
  decide
theorem pl_pos (h : RJ ms cs R M C f N) (hz : ¬ N 35 = 0) : (1 : Int32) ≤ gt 143 f 0 := by
  obtain ⟨s0, k, hk, ek⟩ := h.2.1.1
  rw [g143_0, s0, ek]
  refine nI_le (a := 1) ?_ (by omega)
  rcases Nat.eq_zero_or_pos k with rfl | z
  · exact absurd ek hz
  · exact z
theorem pl_m (h : RJ ms cs R M C f N) : ∃ m, m < ms ∧ m < 8 ∧ f 5 = nI m ∧ N 39 = nI m ∧ oM f (gt 143 f 5) 1 = N m ∧ oM f (gt 143 f 5) 0 = M (5 * m) := by
  obtain ⟨⟨a1, a2, -⟩, -, ⟨m, d, l, d1, d2, d3, -⟩, hM, -⟩ := h
  refine ⟨m, d3, by omega, d1, d2, ?_, ?_⟩
  · rw [g143_5, d1, oM_1 (by omega)]
    exact (hM m d3).2.1.1
  · rw [g143_5, d1, oM_0 (by omega)]
    exact (hM m d3).1.1
theorem pl_1 (h : RJ ms cs R M C f N) {m : Nat} (hm : N 39 = nI m) (hm8 : m < 8) (hz : ¬ N 35 = 0) (hh : hold = (-1)) : mx 0 (mn 9 ((N 35 + 2 * N m) / 6)) = plS C2 Z hold f := by
  obtain ⟨m2, b1, b2, b3, b4, b5, b6⟩ := pl_m h
  have e : m2 = m := (nI_eq (by omega) (by omega)).mp (b4.symm.trans hm)
  subst e
  have hp := pl_pos h hz
  unfold plS
  rw [if_pos hp, if_pos hh, b5, g143_0]
  obtain ⟨s0, k, hk, ek⟩ := h.2.1.1
  obtain ⟨g0, j, hj, ej⟩ := (h.2.2.2.1 m2 b1).2.1
  rw [s0, ek, ej, show (2 : Int32) = nI 2 from rfl, pk_mul, nI_add, show (6 : Int32) = nI 6 from rfl, pk_div (by omega) (by decide) (by decide), show (9 : Int32) = nI 9 from rfl, mn_n (by decide) (by omega), show (0 : Int32) = nI 0 from rfl, mx_n (by decide) (by omega), Nat.min_eq_right (by omega), Nat.max_eq_right (by omega)]
theorem V_l (h : RJ ms cs R M C f N) {m : Nat} (hm : N 39 = nI m) (hm8 : m < 8) {V0 : ROW} : ∀ l, l < 6 → (upd (upd (upd (upd (upd (upd V0 0 (N 35)) 1 (N 36)) 2 (N m)) 3 (M (5 * m + 0))) 4 (N 40)) 5 (N 39)) l = ltrs f l ∧ vOk true (ltrs f l) := by
  obtain ⟨m2, b1, b2, b3, b4, b5, b6⟩ := pl_m h
  have e : m2 = m := (nI_eq (by omega) (by omega)).mp (b4.symm.trans hm)
  subst e
  obtain ⟨-, ⟨⟨s0, k0, k1, k2⟩, ⟨s1, a0, a1, a2⟩, -⟩, ⟨m3, d, l3, d1, d2, d3, d4, d5, d6, d7, d8⟩, hM, -⟩ := h
  obtain ⟨⟨-, l0, -, l1, l2⟩, ⟨g0, j, hj, ej⟩, -⟩ := hM m2 b1
  intro l hl
  rcases (show l = 0 ∨ l = 1 ∨ l = 2 ∨ l = 3 ∨ l = 4 ∨ l = 5 by omega) with rfl | rfl | rfl | rfl | rfl | rfl
  · simp (disch := omega) only [ud_at, ud_ne]
    show N 35 = gt 143 f 0 ∧ vOk true (gt 143 f 0)
    rw [g143_0, s0, k2]
    exact ⟨rfl, vk_n (by omega)⟩
  · simp (disch := omega) only [ud_at, ud_ne]
    show N 36 = gt 143 f 1 ∧ vOk true (gt 143 f 1)
    rw [g143_1, s1, a2]
    exact ⟨rfl, vk_n (by omega)⟩
  · simp (disch := omega) only [ud_at, ud_ne]
    show N m2 = oM f (gt 143 f 5) 1 ∧ vOk true (oM f (gt 143 f 5) 1)
    rw [b5, ej]
    exact ⟨rfl, vk_n (by omega)⟩
  · simp (disch := omega) only [ud_at, ud_ne]
    show M (5 * m2 + 0) = oM f (gt 143 f 5) 0 ∧ vOk true (oM f (gt 143 f 5) 0)
    rw [b6]
    refine ⟨rfl, ?_⟩
    rw [l2]
    exact vk_n (by omega)
  · simp (disch := omega) only [ud_at, ud_ne]
    show N 40 = gt 143 f 6 ∧ vOk true (gt 143 f 6)
    rw [g143_6, d4, d5]
    exact ⟨rfl, vk_n (by omega)⟩
  · simp (disch := omega) only [ud_at, ud_ne]
    show N 39 = gt 143 f 5 ∧ vOk true (gt 143 f 5)
    rw [g143_5, b3, b4]
    exact ⟨rfl, vk_n (by omega)⟩
theorem pl_2 (h : RJ ms cs R M C f N) {A : Nat → Nat → Int32} {V : ROW} (hV : ∀ l, l < 6 → V l = ltrs f l ∧ vOk true (ltrs f l)) (hz : ¬ N 35 = 0) {q : Nat} (hq : q < 4) (hh : hold = nI q) {cl : List CLA} (hc : ∀ c ∈ cl, okC c) (h13 : A 13 q = nI (flW cl).length) (hl : (flW cl).length ≤ 240) (hw : ∀ i x, (flW cl)[i]? = some x → A 12 (240 * q + i) = x) : mx 0 (mn 9 (evC V cl)) = plS (A 12) (A 13) hold f := by
  unfold plS
  rw [if_pos (pl_pos h hz), if_neg (by rw [hh]; exact fun z => m1_ne (x := -1) (k := q) (N := 10) z.symm (by omega) (by decide) rfl), hh, cl_wrt (fun l hl => (hV l hl).2) hq hc h13 hl hw, evC_V (fun l hl => (hV l hl).1)]
end PL
set_option maxHeartbeats 800000 in
set_option maxRecDepth 100000 in
theorem e_pullNow {A : Nat → Nat → Int32} {L : Nat → Nat → Int64} {I : Nat → Nat → Int32} {X : Nat → Int64} {ms cs : Nat} {f : ROW} (h : RJ ms cs (A 60) (A 61) (A 62) f (A 63)) (hw : LWA A I) : Con 6 yX11_pullNow cX11_pullNow 3 (some .int) [.ref 46] (hp A L I X) (fun r_ H_ => r_ = some (.int (plS (A 12) (A 13) (I 11 5) f)) ∧ ∃ V K, H_ = hp (up (up A 55 V) 56 K) L I X) := by
  refine m_con (by decide) (Nat.le_of_ble_eq_true rfl) ?_
  obtain ⟨m, b1, hm8, b3, hm, b5, b6⟩ := pl_m h
  obtain ⟨hw1, hw2⟩ := hw
  refine g_aload_n dX11_pullNow_0 rfl rfl ?_
  refine g_get dX11_pullNow_1 fl_X11_58 hp_46 rfl ?_
  refine g_bipush (v := 35) dX11_pullNow_4 (by decide) ?_
  refine g_ra dX11_pullNow_6 hp_63 (k := 35) rfl (by decide) (by decide) ?_
  refine g_if_ne (tgt := 12) dX11_pullNow_7 (by decide) (fun c_7 => ?_) (fun c_7 => ?_)
  · refine g_aload_n dX11_pullNow_12 rfl rfl ?_
    refine g_get dX11_pullNow_13 fl_X11_58 hp_46 rfl ?_
    refine g_bipush (v := 39) dX11_pullNow_16 (by decide) ?_
    refine g_ra dX11_pullNow_18 hp_63 (k := 39) rfl (by decide) (by decide) ?_
    refine g_istore_n dX11_pullNow_19 rfl (by decide) ?_
    refine g_aload_n dX11_pullNow_20 rfl rfl ?_
    refine g_get dX11_pullNow_21 fl_X11_58 hp_46 rfl ?_
    refine g_bipush (v := 35) dX11_pullNow_24 (by decide) ?_
    refine g_ra dX11_pullNow_26 hp_63 (k := 35) rfl (by decide) (by decide) ?_
    refine g_ic_2 dX11_pullNow_27 ?_
    refine g_aload_n dX11_pullNow_28 rfl rfl ?_
    refine g_get dX11_pullNow_29 fl_X11_58 hp_46 rfl ?_
    refine g_ic_0 dX11_pullNow_32 ?_
    refine g_iload_n dX11_pullNow_33 rfl rfl ?_
    refine g_iadd dX11_pullNow_34 ?_
    refine g_ra dX11_pullNow_35 hp_63 (k := m) (nk_0 (show (0 : Int32) = nI 0 from rfl) hm) (by omega) (by decide) ?_
    refine g_imul dX11_pullNow_36 ?_
    refine g_iadd dX11_pullNow_37 ?_
    refine g_bipush (v := 6) dX11_pullNow_38 (by decide) ?_
    refine g_idiv dX11_pullNow_40 (by decide) ?_
    refine g_istore_n dX11_pullNow_41 rfl (by decide) ?_
    refine g_aload_n dX11_pullNow_42 rfl rfl ?_
    refine g_get dX11_pullNow_43 fl_X11_64 hp_46 rfl ?_
    refine g_ic_m1 dX11_pullNow_46 ?_
    refine g_icmp_eq (tgt := 131) dX11_pullNow_47 (by decide) (fun c_47 => ?_) (fun c_47 => ?_)
    · refine g_ic_0 dX11_pullNow_131 ?_
      refine g_bipush (v := 9) dX11_pullNow_132 (by decide) ?_
      refine g_iload_n dX11_pullNow_134 rfl rfl ?_
      refine g_min dX11_pullNow_135 ml_X11_292 ms_min mi_math mc_min (by decide) (Nat.le_of_ble_eq_true rfl) ?_
      refine g_max dX11_pullNow_138 ml_X11_294 ms_max mi_math mc_max (by decide) (Nat.le_of_ble_eq_true rfl) ?_
      exact g_iret dX11_pullNow_141 ⟨congrArg (fun z => some (Value.int z)) (pl_1 h hm hm8 c_7 (hw1.symm.trans c_47)), A 55, A 56, by rw [up_self, up_self]⟩
    · rcases hw2 with hh | ⟨q, hq, hq2, cl, k1, k2, k3, k4, k5, k6, k7, k8⟩
      · exact absurd (hw1.trans hh) c_47
      refine g_aload_n dX11_pullNow_50 rfl rfl ?_
      refine g_get dX11_pullNow_51 fl_X11_34 hp_46 rfl ?_
      refine g_ic_0 dX11_pullNow_54 ?_
      refine g_aload_n dX11_pullNow_55 rfl rfl ?_
      refine g_get dX11_pullNow_56 fl_X11_58 hp_46 rfl ?_
      refine g_bipush (v := 35) dX11_pullNow_59 (by decide) ?_
      refine g_ra dX11_pullNow_61 hp_63 (k := 35) rfl (by decide) (by decide) ?_
      refine g_wa dX11_pullNow_62 hp_55 (k := 0) rfl (by decide) (by decide) ?_
      rw [hq_55]
      try simp (disch := omega) only [up_at, up_up, up_ne, ud_at, ud_ne]
      refine g_aload_n dX11_pullNow_63 rfl rfl ?_
      refine g_get dX11_pullNow_64 fl_X11_34 hp_46 rfl ?_
      refine g_ic_1 dX11_pullNow_67 ?_
      refine g_aload_n dX11_pullNow_68 rfl rfl ?_
      refine g_get dX11_pullNow_69 fl_X11_58 hp_46 rfl ?_
      refine g_bipush (v := 36) dX11_pullNow_72 (by decide) ?_
      refine g_ra dX11_pullNow_74 hp_63 (k := 36) rfl (by decide) (by decide) ?_
      try simp (disch := omega) only [up_at, up_up, up_ne, ud_at, ud_ne]
      refine g_wa dX11_pullNow_75 hp_55 (k := 1) rfl (by decide) (by decide) ?_
      rw [hq_55]
      try simp (disch := omega) only [up_at, up_up, up_ne, ud_at, ud_ne]
      refine g_aload_n dX11_pullNow_76 rfl rfl ?_
      refine g_get dX11_pullNow_77 fl_X11_34 hp_46 rfl ?_
      refine g_ic_2 dX11_pullNow_80 ?_
      refine g_aload_n dX11_pullNow_81 rfl rfl ?_
      refine g_get dX11_pullNow_82 fl_X11_58 hp_46 rfl ?_
      refine g_ic_0 dX11_pullNow_85 ?_
      refine g_iload_n dX11_pullNow_86 rfl rfl ?_
      refine g_iadd dX11_pullNow_87 ?_
      refine g_ra dX11_pullNow_88 hp_63 (k := m) (nk_0 (show (0 : Int32) = nI 0 from rfl) hm) (by omega) (by decide) ?_
      try simp (disch := omega) only [up_at, up_up, up_ne, ud_at, ud_ne]
      refine g_wa dX11_pullNow_89 hp_55 (k := 2) rfl (by decide) (by decide) ?_
      rw [hq_55]
      try simp (disch := omega) only [up_at, up_up, up_ne, ud_at, ud_ne]
      refine g_aload_n dX11_pullNow_90 rfl rfl ?_
      refine g_get dX11_pullNow_91 fl_X11_34 hp_46 rfl ?_
      refine g_ic_3 dX11_pullNow_94 ?_
      refine g_aload_n dX11_pullNow_95 rfl rfl ?_
      refine g_iload_n dX11_pullNow_96 rfl rfl ?_
      refine g_ic_0 dX11_pullNow_97 ?_
      refine g_callV dX11_pullNow_98 cv_X11_264 (as' := [_, _]) hp_46 rfl (e_of (a := m) (b := 0) hm rfl (by omega)) (by decide) rfl rfl (Nat.le_of_ble_eq_true rfl) ?_
      rintro _ _ ⟨rfl, rfl⟩
      try simp (disch := omega) only [up_at, up_up, up_ne, ud_at, ud_ne]
      refine g_wa dX11_pullNow_101 hp_55 (k := 3) rfl (by decide) (by decide) ?_
      rw [hq_55]
      try simp (disch := omega) only [up_at, up_up, up_ne, ud_at, ud_ne]
      refine g_aload_n dX11_pullNow_102 rfl rfl ?_
      refine g_get dX11_pullNow_103 fl_X11_34 hp_46 rfl ?_
      refine g_ic_4 dX11_pullNow_106 ?_
      refine g_aload_n dX11_pullNow_107 rfl rfl ?_
      refine g_get dX11_pullNow_108 fl_X11_58 hp_46 rfl ?_
      refine g_bipush (v := 40) dX11_pullNow_111 (by decide) ?_
      refine g_ra dX11_pullNow_113 hp_63 (k := 40) rfl (by decide) (by decide) ?_
      try simp (disch := omega) only [up_at, up_up, up_ne, ud_at, ud_ne]
      refine g_wa dX11_pullNow_114 hp_55 (k := 4) rfl (by decide) (by decide) ?_
      rw [hq_55]
      try simp (disch := omega) only [up_at, up_up, up_ne, ud_at, ud_ne]
      refine g_aload_n dX11_pullNow_115 rfl rfl ?_
      refine g_get dX11_pullNow_116 fl_X11_34 hp_46 rfl ?_
      refine g_ic_5 dX11_pullNow_119 ?_
      refine g_iload_n dX11_pullNow_120 rfl rfl ?_
      refine g_wa dX11_pullNow_121 hp_55 (k := 5) rfl (by decide) (by decide) ?_
      rw [hq_55]
      try simp (disch := omega) only [up_at, up_up, up_ne, ud_at, ud_ne]
      refine g_aload_n dX11_pullNow_122 rfl rfl ?_
      refine g_aload_n dX11_pullNow_123 rfl rfl ?_
      refine g_get dX11_pullNow_124 fl_X11_64 hp_46 rfl ?_
      try simp (disch := omega) only [up_at, up_up, up_ne, ud_at, ud_ne]
      have hVl := V_l h hm hm8 (V0 := A 55)
      refine g_callV dX11_pullNow_127 cv_X11_289 (as' := [_]) hp_46 rfl (e_worthOf (A := up A 55 (upd (upd (upd (upd (upd (upd (A 55) 0 (A 63 35)) 1 (A 63 36)) 2 (A 63 m)) 3 (A 61 (5 * m + 0))) 4 (A 63 40)) 5 (A 63 39))) (q := q) (cs := cl) (hw1.trans hq2) (by omega) (fun l hl => by rw [show (up A 55 (upd (upd (upd (upd (upd (upd (A 55) 0 (A 63 35)) 1 (A 63 36)) 2 (A 63 m)) 3 (A 61 (5 * m + 0))) 4 (A 63 40)) 5 (A 63 39)) 55) l = _ from (hVl l hl).1]; exact (hVl l hl).2) k2 k3 k5 k1 (lyR_A (A := A) (by rfl) (by rfl) (by rfl) (by rfl) (by rfl) cl 0 0 k4)) (by decide) rfl rfl (Nat.le_of_ble_eq_true rfl) ?_
      rintro _ _ ⟨rfl, K, rfl⟩
      try simp (disch := omega) only [up_at, up_up, up_ne, ud_at, ud_ne]
      refine g_istore_n dX11_pullNow_130 rfl (by decide) ?_
      refine g_ic_0 dX11_pullNow_131 ?_
      refine g_bipush (v := 9) dX11_pullNow_132 (by decide) ?_
      refine g_iload_n dX11_pullNow_134 rfl rfl ?_
      refine g_min dX11_pullNow_135 ml_X11_292 ms_min mi_math mc_min (by decide) (Nat.le_of_ble_eq_true rfl) ?_
      refine g_max dX11_pullNow_138 ml_X11_294 ms_max mi_math mc_max (by decide) (Nat.le_of_ble_eq_true rfl) ?_
      exact g_iret dX11_pullNow_141 ⟨congrArg (fun z => some (Value.int z)) (pl_2 h hVl c_7 hq hq2 k1 k6 k7 k8), _, K, rfl⟩
  · refine g_ic_0 dX11_pullNow_10 ?_
    exact g_iret dX11_pullNow_11 ⟨congrArg (fun z => some (Value.int z)) (pl_0 h c_7).symm, A 55, A 56, by rw [up_self, up_self]⟩
