/-! THE REFERENCE'S ACTS: hay, grease, chip, reverse, buy, sow -/
/-- the reference's act: refused on ground gd, or done with answer v and row N2 -/
def actN (A : Nat → Nat → Int32) (L : Nat → Nat → Int64) (I : Nat → Nat → Int32) (X : Nat → Int64) (a : Nat) (gd v : Int32) (N2 : ROW) : Option Value → m_H → Prop := fun r_ H_ =>
  (∃ k, k < 5 ∧ gd = nI k ∧ r_ = some (.int (-1)) ∧ H_ = hp (up A 64 (upd (A 64) k (A 64 k + 1))) L I X) ∨ (gd = (-1) ∧ r_ = some (.int v) ∧ H_ = hp (up (up A 66 (kpN (A 66) (A 63) a)) 63 N2) L (up2 I 46 35 (nI (ka1 a + 1))) X)
theorem in_1' {v : Int32} {a b : Nat} (hb : b < 2 ^ 31) (ha : a < 2 ^ 31) (h : ¬ inZ v (nI a) (nI b) = 0) : ∃ j, a ≤ j ∧ j ≤ b ∧ v = nI j := by
  have h2 : ¬ (v < nI a ∨ nI b < v) := fun z => h (in_0.mpr z)
  have h0 : ¬ v < 0 := fun z => h2 (Or.inl (Int32.lt_of_lt_of_le z (nI_pos' ha)))
  obtain ⟨j, j1, rfl⟩ := nI_of h0
  refine ⟨j, ?_, ?_, rfl⟩
  · apply Nat.le_of_not_lt
    intro z
    exact h2 (Or.inl (nI_lt z ha))
  · apply Nat.le_of_not_lt
    intro z
    exact h2 (Or.inr (nI_lt z j1))
def gyN (N : ROW) (n : Int32) : Int32 := if inZ n 1 99 = 0 then 1 else if 99 < N 36 + n then 1 else if n ≤ N 37 then (-1) else 2
set_option maxHeartbeats 800000 in
set_option maxRecDepth 100000 in
theorem e_hay {A : Nat → Nat → Int32} {L : Nat → Nat → Int64} {I : Nat → Nat → Int32} {X : Nat → Int64} {a : Nat} {n : Int32} (ha : I 46 35 = nI a) (ha40 : a ≤ 40) (h0 : ¬ I 46 25 = 0) : Con 2 yX11_hay cX11_hay 2 (some .int) [.ref 46, .int n] (hp A L I X) (actN A L I X a (gyN (A 63) n) (A 63 36 + n) (upd (upd (A 63) 36 (A 63 36 + n)) 37 (A 63 37 - n))) := by
  refine m_con (by decide) (Nat.le_of_ble_eq_true rfl) ?_
  refine g_aload_n dX11_hay_0 rfl rfl ?_
  refine g_aload_n dX11_hay_1 rfl rfl ?_
  refine g_get dX11_hay_2 fl_X11_261 hp_46 rfl ?_
  refine g_if_ne (tgt := 12) dX11_hay_5 (by decide) (fun c_5 => ?_) (fun c_5 => ?_)
  · refine g_iload_n dX11_hay_12 rfl rfl ?_
    refine g_ic_1 dX11_hay_13 ?_
    refine g_bipush (v := 99) dX11_hay_14 (by decide) ?_
    refine g_callS dX11_hay_16 cs_X11_221 (as := [_, _, _]) e_in (by decide) rfl rfl (Nat.le_of_ble_eq_true rfl) ?_
    rintro _ _ ⟨rfl, rfl⟩
    refine g_if_eq (tgt := 36) dX11_hay_19 (by decide) (fun c_19 => ?_) (fun c_19 => ?_)
    · refine g_ic_1 dX11_hay_36 ?_
      refine g_goto (tgt := 56) dX11_hay_37 (by decide) ?_
      refine g_callV dX11_hay_56 cv_X11_326 (as' := [_]) hp_46 rfl (e_ref0 (k := 1) rfl (by decide)) (by decide) rfl rfl (Nat.le_of_ble_eq_true rfl) ?_
      rintro _ _ ⟨rfl, rfl⟩
      refine g_if_eq (tgt := 64) dX11_hay_59 (by decide) (fun c_59 => ?_) (fun c_59 => ?_)
      · exact absurd c_59 (by decide)
      · refine g_ic_m1 dX11_hay_62 ?_
        exact g_iret dX11_hay_63 (Or.inl ⟨1, by decide, (if_pos c_19), rfl, rfl⟩)
    · refine g_aload_n dX11_hay_22 rfl rfl ?_
      refine g_get dX11_hay_23 fl_X11_58 hp_46 rfl ?_
      refine g_bipush (v := 36) dX11_hay_26 (by decide) ?_
      refine g_ra dX11_hay_28 hp_63 (k := 36) rfl (by decide) (by decide) ?_
      refine g_iload_n dX11_hay_29 rfl rfl ?_
      refine g_iadd dX11_hay_30 ?_
      refine g_bipush (v := 99) dX11_hay_31 (by decide) ?_
      refine g_icmp_le (tgt := 40) dX11_hay_33 (by decide) (fun c_33 => ?_) (fun c_33 => ?_)
      · refine g_aload_n dX11_hay_40 rfl rfl ?_
        refine g_get dX11_hay_41 fl_X11_58 hp_46 rfl ?_
        refine g_bipush (v := 37) dX11_hay_44 (by decide) ?_
        refine g_ra dX11_hay_46 hp_63 (k := 37) rfl (by decide) (by decide) ?_
        refine g_iload_n dX11_hay_47 rfl rfl ?_
        refine g_icmp_ge (tgt := 55) dX11_hay_48 (by decide) (fun c_48 => ?_) (fun c_48 => ?_)
        · refine g_ic_m1 dX11_hay_55 ?_
          refine g_callV dX11_hay_56 cv_X11_326 (as' := [_]) hp_46 rfl e_ref1 (by decide) rfl rfl (Nat.le_of_ble_eq_true rfl) ?_
          rintro _ _ ⟨rfl, rfl⟩
          refine g_if_eq (tgt := 64) dX11_hay_59 (by decide) (fun c_59 => ?_) (fun c_59 => ?_)
          · refine g_aload_n dX11_hay_64 rfl rfl ?_
            refine g_callV dX11_hay_65 cv_X11_329 (as' := []) hp_46 rfl (e_keep ha ha40) (by decide) rfl rfl (Nat.le_of_ble_eq_true rfl) ?_
            rintro _ _ ⟨rfl, rfl⟩
            try simp (disch := omega) only [up_at, up_up, up_ne, up2_at, up2_ne, ud_at, ud_ne]
            refine g_aload_n dX11_hay_68 rfl rfl ?_
            refine g_get dX11_hay_69 fl_X11_58 hp_46 rfl ?_
            refine g_bipush (v := 36) dX11_hay_72 (by decide) ?_
            refine g_dup2 dX11_hay_74 rfl rfl ?_
            refine g_ra dX11_hay_75 hp_63 (k := 36) rfl (by decide) (by decide) ?_
            try simp (disch := omega) only [up_at, up_up, up_ne, up2_at, up2_ne, ud_at, ud_ne]
            refine g_iload_n dX11_hay_76 rfl rfl ?_
            refine g_iadd dX11_hay_77 ?_
            refine g_wa dX11_hay_78 hp_63 (k := 36) rfl (by decide) (by decide) ?_
            rw [hq_63]
            try simp (disch := omega) only [up_at, up_up, up_ne, up2_at, up2_ne, ud_at, ud_ne]
            refine g_aload_n dX11_hay_79 rfl rfl ?_
            refine g_get dX11_hay_80 fl_X11_58 hp_46 rfl ?_
            refine g_bipush (v := 37) dX11_hay_83 (by decide) ?_
            refine g_dup2 dX11_hay_85 rfl rfl ?_
            refine g_ra dX11_hay_86 hp_63 (k := 37) rfl (by decide) (by decide) ?_
            try simp (disch := omega) only [up_at, up_up, up_ne, up2_at, up2_ne, ud_at, ud_ne]
            refine g_iload_n dX11_hay_87 rfl rfl ?_
            refine g_isub dX11_hay_88 ?_
            refine g_wa dX11_hay_89 hp_63 (k := 37) rfl (by decide) (by decide) ?_
            rw [hq_63]
            try simp (disch := omega) only [up_at, up_up, up_ne, up2_at, up2_ne, ud_at, ud_ne]
            refine g_aload_n dX11_hay_90 rfl rfl ?_
            refine g_get dX11_hay_91 fl_X11_58 hp_46 rfl ?_
            refine g_bipush (v := 36) dX11_hay_94 (by decide) ?_
            refine g_ra dX11_hay_96 hp_63 (k := 36) rfl (by decide) (by decide) ?_
            try simp (disch := omega) only [up_at, up_up, up_ne, up2_at, up2_ne, ud_at, ud_ne]
            exact g_iret dX11_hay_97 (Or.inr ⟨(if_neg c_19).trans ((if_neg (Int32.not_lt.mpr c_33)).trans (if_pos c_48)), rfl, rfl⟩)
          · exact absurd rfl c_59
        · refine g_ic_2 dX11_hay_51 ?_
          refine g_goto (tgt := 56) dX11_hay_52 (by decide) ?_
          refine g_callV dX11_hay_56 cv_X11_326 (as' := [_]) hp_46 rfl (e_ref0 (k := 2) rfl (by decide)) (by decide) rfl rfl (Nat.le_of_ble_eq_true rfl) ?_
          rintro _ _ ⟨rfl, rfl⟩
          refine g_if_eq (tgt := 64) dX11_hay_59 (by decide) (fun c_59 => ?_) (fun c_59 => ?_)
          · exact absurd c_59 (by decide)
          · refine g_ic_m1 dX11_hay_62 ?_
            exact g_iret dX11_hay_63 (Or.inl ⟨2, by decide, ((if_neg c_19).trans ((if_neg (Int32.not_lt.mpr c_33)).trans (if_neg c_48))), rfl, rfl⟩)
      · refine g_ic_1 dX11_hay_36 ?_
        refine g_goto (tgt := 56) dX11_hay_37 (by decide) ?_
        refine g_callV dX11_hay_56 cv_X11_326 (as' := [_]) hp_46 rfl (e_ref0 (k := 1) rfl (by decide)) (by decide) rfl rfl (Nat.le_of_ble_eq_true rfl) ?_
        rintro _ _ ⟨rfl, rfl⟩
        refine g_if_eq (tgt := 64) dX11_hay_59 (by decide) (fun c_59 => ?_) (fun c_59 => ?_)
        · exact absurd c_59 (by decide)
        · refine g_ic_m1 dX11_hay_62 ?_
          exact g_iret dX11_hay_63 (Or.inl ⟨1, by decide, ((if_neg c_19).trans (if_pos (Int32.not_le.mp c_33))), rfl, rfl⟩)
  · exact absurd c_5 h0

def rfN (A : Nat → Nat → Int32) (L : Nat → Nat → Int64) (I : Nat → Nat → Int32) (X : Nat → Int64) (k : Nat) : Option Value → m_H → Prop := fun r_ H_ => r_ = some (.int (-1)) ∧ H_ = hp (up A 64 (upd (A 64) k (A 64 k + 1))) L I X
set_option maxHeartbeats 800000 in
set_option maxRecDepth 100000 in
theorem e_grease0 {A : Nat → Nat → Int32} {L : Nat → Nat → Int64} {I : Nat → Nat → Int32} {X : Nat → Int64} {x : Int32} (hz : inZ x 0 (I 46 25 - 1) = 0) : Con 3 yX11_grease cX11_grease 2 (some .int) [.ref 46, .int x] (hp A L I X) (rfN A L I X 0) := by
  refine m_con (by decide) (Nat.le_of_ble_eq_true rfl) ?_
  refine g_aload_n dX11_grease_0 rfl rfl ?_
  refine g_aload_n dX11_grease_1 rfl rfl ?_
  refine g_iload_n dX11_grease_2 rfl rfl ?_
  refine g_callV dX11_grease_3 cv_X11_317 (as' := [_]) hp_46 rfl e_isMonth (by decide) rfl rfl (Nat.le_of_ble_eq_true rfl) ?_
  rintro _ _ ⟨rfl, rfl⟩
  refine g_if_ne (tgt := 13) dX11_grease_6 (by decide) (fun c_6 => ?_) (fun c_6 => ?_)
  · exact absurd hz c_6
  · refine g_ic_0 dX11_grease_9 ?_
    refine g_goto (tgt := 46) dX11_grease_10 (by decide) ?_
    refine g_callV dX11_grease_46 cv_X11_326 (as' := [_]) hp_46 rfl (e_ref0 (k := 0) rfl (by decide)) (by decide) rfl rfl (Nat.le_of_ble_eq_true rfl) ?_
    rintro _ _ ⟨rfl, rfl⟩
    refine g_if_eq (tgt := 54) dX11_grease_49 (by decide) (fun c_49 => ?_) (fun c_49 => ?_)
    · exact absurd c_49 (by decide)
    · refine g_ic_m1 dX11_grease_52 ?_
      exact g_iret dX11_grease_53 ⟨rfl, rfl⟩

set_option maxHeartbeats 800000 in
set_option maxRecDepth 100000 in
theorem e_grease {A : Nat → Nat → Int32} {L : Nat → Nat → Int64} {I : Nat → Nat → Int32} {X : Nat → Int64} {a : Nat} {x : Int32} {m : Nat} (ha : I 46 35 = nI a) (ha40 : a ≤ 40) (hz : ¬ inZ x 0 (I 46 25 - 1) = 0) (hx : x = nI m) (hm : m < 8) : Con 3 yX11_grease cX11_grease 2 (some .int) [.ref 46, .int x] (hp A L I X) (actN A L I X a (if A 63 m = 9 then 1 else if 1 ≤ A 63 37 then (-1) else 2) (A 63 m + 1) (upd (upd (A 63) m (A 63 m + 1)) 37 (A 63 37 - 1))) := by
  refine m_con (by decide) (Nat.le_of_ble_eq_true rfl) ?_
  refine g_aload_n dX11_grease_0 rfl rfl ?_
  refine g_aload_n dX11_grease_1 rfl rfl ?_
  refine g_iload_n dX11_grease_2 rfl rfl ?_
  refine g_callV dX11_grease_3 cv_X11_317 (as' := [_]) hp_46 rfl e_isMonth (by decide) rfl rfl (Nat.le_of_ble_eq_true rfl) ?_
  rintro _ _ ⟨rfl, rfl⟩
  refine g_if_ne (tgt := 13) dX11_grease_6 (by decide) (fun c_6 => ?_) (fun c_6 => ?_)
  · refine g_aload_n dX11_grease_13 rfl rfl ?_
    refine g_get dX11_grease_14 fl_X11_58 hp_46 rfl ?_
    refine g_ic_0 dX11_grease_17 ?_
    refine g_iload_n dX11_grease_18 rfl rfl ?_
    refine g_iadd dX11_grease_19 ?_
    refine g_ra dX11_grease_20 hp_63 (k := m) (nk_0 (show (0 : Int32) = nI 0 from rfl) hx) (by omega) (by decide) ?_
    refine g_bipush (v := 9) dX11_grease_21 (by decide) ?_
    refine g_icmp_ne (tgt := 30) dX11_grease_23 (by decide) (fun c_23 => ?_) (fun c_23 => ?_)
    · refine g_aload_n dX11_grease_30 rfl rfl ?_
      refine g_get dX11_grease_31 fl_X11_58 hp_46 rfl ?_
      refine g_bipush (v := 37) dX11_grease_34 (by decide) ?_
      refine g_ra dX11_grease_36 hp_63 (k := 37) rfl (by decide) (by decide) ?_
      refine g_ic_1 dX11_grease_37 ?_
      refine g_icmp_ge (tgt := 45) dX11_grease_38 (by decide) (fun c_38 => ?_) (fun c_38 => ?_)
      · refine g_ic_m1 dX11_grease_45 ?_
        refine g_callV dX11_grease_46 cv_X11_326 (as' := [_]) hp_46 rfl e_ref1 (by decide) rfl rfl (Nat.le_of_ble_eq_true rfl) ?_
        rintro _ _ ⟨rfl, rfl⟩
        refine g_if_eq (tgt := 54) dX11_grease_49 (by decide) (fun c_49 => ?_) (fun c_49 => ?_)
        · refine g_aload_n dX11_grease_54 rfl rfl ?_
          refine g_callV dX11_grease_55 cv_X11_329 (as' := []) hp_46 rfl (e_keep ha ha40) (by decide) rfl rfl (Nat.le_of_ble_eq_true rfl) ?_
          rintro _ _ ⟨rfl, rfl⟩
          try simp (disch := omega) only [up_at, up_up, up_ne, up2_at, up2_ne, ud_at, ud_ne]
          refine g_aload_n dX11_grease_58 rfl rfl ?_
          refine g_get dX11_grease_59 fl_X11_58 hp_46 rfl ?_
          refine g_ic_0 dX11_grease_62 ?_
          refine g_iload_n dX11_grease_63 rfl rfl ?_
          refine g_iadd dX11_grease_64 ?_
          refine g_dup2 dX11_grease_65 rfl rfl ?_
          refine g_ra dX11_grease_66 hp_63 (k := m) (nk_0 (show (0 : Int32) = nI 0 from rfl) hx) (by omega) (by decide) ?_
          try simp (disch := omega) only [up_at, up_up, up_ne, up2_at, up2_ne, ud_at, ud_ne]
          refine g_ic_1 dX11_grease_67 ?_
          refine g_iadd dX11_grease_68 ?_
          refine g_wa dX11_grease_69 hp_63 (k := m) (nk_0 (show (0 : Int32) = nI 0 from rfl) hx) (by omega) (by decide) ?_
          rw [hq_63]
          try simp (disch := omega) only [up_at, up_up, up_ne, up2_at, up2_ne, ud_at, ud_ne]
          refine g_aload_n dX11_grease_70 rfl rfl ?_
          refine g_get dX11_grease_71 fl_X11_58 hp_46 rfl ?_
          refine g_bipush (v := 37) dX11_grease_74 (by decide) ?_
          refine g_dup2 dX11_grease_76 rfl rfl ?_
          refine g_ra dX11_grease_77 hp_63 (k := 37) rfl (by decide) (by decide) ?_
          try simp (disch := omega) only [up_at, up_up, up_ne, up2_at, up2_ne, ud_at, ud_ne]
          refine g_ic_1 dX11_grease_78 ?_
          refine g_isub dX11_grease_79 ?_
          refine g_wa dX11_grease_80 hp_63 (k := 37) rfl (by decide) (by decide) ?_
          rw [hq_63]
          try simp (disch := omega) only [up_at, up_up, up_ne, up2_at, up2_ne, ud_at, ud_ne]
          refine g_aload_n dX11_grease_81 rfl rfl ?_
          refine g_get dX11_grease_82 fl_X11_58 hp_46 rfl ?_
          refine g_ic_0 dX11_grease_85 ?_
          refine g_iload_n dX11_grease_86 rfl rfl ?_
          refine g_iadd dX11_grease_87 ?_
          refine g_ra dX11_grease_88 hp_63 (k := m) (nk_0 (show (0 : Int32) = nI 0 from rfl) hx) (by omega) (by decide) ?_
          try simp (disch := omega) only [up_at, up_up, up_ne, up2_at, up2_ne, ud_at, ud_ne]
          exact g_iret dX11_grease_89 (Or.inr ⟨((if_neg c_23).trans (if_pos c_38)), rfl, rfl⟩)
        · exact absurd rfl c_49
      · refine g_ic_2 dX11_grease_41 ?_
        refine g_goto (tgt := 46) dX11_grease_42 (by decide) ?_
        refine g_callV dX11_grease_46 cv_X11_326 (as' := [_]) hp_46 rfl (e_ref0 (k := 2) rfl (by decide)) (by decide) rfl rfl (Nat.le_of_ble_eq_true rfl) ?_
        rintro _ _ ⟨rfl, rfl⟩
        refine g_if_eq (tgt := 54) dX11_grease_49 (by decide) (fun c_49 => ?_) (fun c_49 => ?_)
        · exact absurd c_49 (by decide)
        · refine g_ic_m1 dX11_grease_52 ?_
          exact g_iret dX11_grease_53 (Or.inl ⟨2, by decide, ((if_neg c_23).trans (if_neg c_38)), rfl, rfl⟩)
    · refine g_ic_1 dX11_grease_26 ?_
      refine g_goto (tgt := 46) dX11_grease_27 (by decide) ?_
      refine g_callV dX11_grease_46 cv_X11_326 (as' := [_]) hp_46 rfl (e_ref0 (k := 1) rfl (by decide)) (by decide) rfl rfl (Nat.le_of_ble_eq_true rfl) ?_
      rintro _ _ ⟨rfl, rfl⟩
      refine g_if_eq (tgt := 54) dX11_grease_49 (by decide) (fun c_49 => ?_) (fun c_49 => ?_)
      · exact absurd c_49 (by decide)
      · refine g_ic_m1 dX11_grease_52 ?_
        exact g_iret dX11_grease_53 (Or.inl ⟨1, by decide, (if_pos c_23), rfl, rfl⟩)
  · exact absurd c_6 hz

set_option maxHeartbeats 800000 in
set_option maxRecDepth 100000 in
theorem e_chip0 {A : Nat → Nat → Int32} {L : Nat → Nat → Int64} {I : Nat → Nat → Int32} {X : Nat → Int64} {x : Int32} (hz : inZ x 0 (I 46 25 - 1) = 0) : Con 3 yX11_chip cX11_chip 2 (some .int) [.ref 46, .int x] (hp A L I X) (rfN A L I X 0) := by
  refine m_con (by decide) (Nat.le_of_ble_eq_true rfl) ?_
  refine g_aload_n dX11_chip_0 rfl rfl ?_
  refine g_aload_n dX11_chip_1 rfl rfl ?_
  refine g_iload_n dX11_chip_2 rfl rfl ?_
  refine g_callV dX11_chip_3 cv_X11_317 (as' := [_]) hp_46 rfl e_isMonth (by decide) rfl rfl (Nat.le_of_ble_eq_true rfl) ?_
  rintro _ _ ⟨rfl, rfl⟩
  refine g_if_ne (tgt := 13) dX11_chip_6 (by decide) (fun c_6 => ?_) (fun c_6 => ?_)
  · exact absurd hz c_6
  · refine g_ic_0 dX11_chip_9 ?_
    refine g_goto (tgt := 30) dX11_chip_10 (by decide) ?_
    refine g_callV dX11_chip_30 cv_X11_326 (as' := [_]) hp_46 rfl (e_ref0 (k := 0) rfl (by decide)) (by decide) rfl rfl (Nat.le_of_ble_eq_true rfl) ?_
    rintro _ _ ⟨rfl, rfl⟩
    refine g_if_eq (tgt := 38) dX11_chip_33 (by decide) (fun c_33 => ?_) (fun c_33 => ?_)
    · exact absurd c_33 (by decide)
    · refine g_ic_m1 dX11_chip_36 ?_
      exact g_iret dX11_chip_37 ⟨rfl, rfl⟩

set_option maxHeartbeats 800000 in
set_option maxRecDepth 100000 in
theorem e_chip {A : Nat → Nat → Int32} {L : Nat → Nat → Int64} {I : Nat → Nat → Int32} {X : Nat → Int64} {a : Nat} {x : Int32} {m : Nat} (ha : I 46 35 = nI a) (ha40 : a ≤ 40) (hz : ¬ inZ x 0 (I 46 25 - 1) = 0) (hx : x = nI m) (hm : m < 8) : Con 3 yX11_chip cX11_chip 2 (some .int) [.ref 46, .int x] (hp A L I X) (actN A L I X a (if A 63 (8 + m) = 0 then 3 else (-1)) (chN (A 63) m (8 + m)) (chN (A 63) m)) := by
  refine m_con (by decide) (Nat.le_of_ble_eq_true rfl) ?_
  refine g_aload_n dX11_chip_0 rfl rfl ?_
  refine g_aload_n dX11_chip_1 rfl rfl ?_
  refine g_iload_n dX11_chip_2 rfl rfl ?_
  refine g_callV dX11_chip_3 cv_X11_317 (as' := [_]) hp_46 rfl e_isMonth (by decide) rfl rfl (Nat.le_of_ble_eq_true rfl) ?_
  rintro _ _ ⟨rfl, rfl⟩
  refine g_if_ne (tgt := 13) dX11_chip_6 (by decide) (fun c_6 => ?_) (fun c_6 => ?_)
  · refine g_aload_n dX11_chip_13 rfl rfl ?_
    refine g_get dX11_chip_14 fl_X11_58 hp_46 rfl ?_
    refine g_bipush (v := 8) dX11_chip_17 (by decide) ?_
    refine g_iload_n dX11_chip_19 rfl rfl ?_
    refine g_iadd dX11_chip_20 ?_
    refine g_ra dX11_chip_21 hp_63 (k := 8 + m) (nk_add (show (8 : Int32) = nI 8 from rfl) hx) (by omega) (by decide) ?_
    refine g_if_ne (tgt := 29) dX11_chip_22 (by decide) (fun c_22 => ?_) (fun c_22 => ?_)
    · refine g_ic_m1 dX11_chip_29 ?_
      refine g_callV dX11_chip_30 cv_X11_326 (as' := [_]) hp_46 rfl e_ref1 (by decide) rfl rfl (Nat.le_of_ble_eq_true rfl) ?_
      rintro _ _ ⟨rfl, rfl⟩
      refine g_if_eq (tgt := 38) dX11_chip_33 (by decide) (fun c_33 => ?_) (fun c_33 => ?_)
      · refine g_aload_n dX11_chip_38 rfl rfl ?_
        refine g_callV dX11_chip_39 cv_X11_329 (as' := []) hp_46 rfl (e_keep ha ha40) (by decide) rfl rfl (Nat.le_of_ble_eq_true rfl) ?_
        rintro _ _ ⟨rfl, rfl⟩
        try simp (disch := omega) only [up_at, up_up, up_ne, up2_at, up2_ne, ud_at, ud_ne]
        refine g_aload_n dX11_chip_42 rfl rfl ?_
        refine g_iload_n dX11_chip_43 rfl rfl ?_
        refine g_callV dX11_chip_44 cv_X11_335 (as' := [_]) hp_46 rfl (e_chipNow (m := m) hx (by omega)) (by decide) rfl rfl (Nat.le_of_ble_eq_true rfl) ?_
        rintro _ _ ⟨rfl, rfl⟩
        try simp (disch := omega) only [up_at, up_up, up_ne, up2_at, up2_up2, up2_ne, ud_at, ud_ne]
        try simp (disch := omega) only [up_at, up_up, up_ne, up2_at, up2_ne, ud_at, ud_ne]
        refine g_aload_n dX11_chip_47 rfl rfl ?_
        refine g_get dX11_chip_48 fl_X11_58 hp_46 rfl ?_
        refine g_bipush (v := 8) dX11_chip_51 (by decide) ?_
        refine g_iload_n dX11_chip_53 rfl rfl ?_
        refine g_iadd dX11_chip_54 ?_
        refine g_ra dX11_chip_55 hp_63 (k := 8 + m) (nk_add (show (8 : Int32) = nI 8 from rfl) hx) (by omega) (by decide) ?_
        try simp (disch := omega) only [up_at, up_up, up_ne, up2_at, up2_ne, ud_at, ud_ne]
        exact g_iret dX11_chip_56 (Or.inr ⟨(if_neg c_22), rfl, rfl⟩)
      · exact absurd rfl c_33
    · refine g_ic_3 dX11_chip_25 ?_
      refine g_goto (tgt := 30) dX11_chip_26 (by decide) ?_
      refine g_callV dX11_chip_30 cv_X11_326 (as' := [_]) hp_46 rfl (e_ref0 (k := 3) rfl (by decide)) (by decide) rfl rfl (Nat.le_of_ble_eq_true rfl) ?_
      rintro _ _ ⟨rfl, rfl⟩
      refine g_if_eq (tgt := 38) dX11_chip_33 (by decide) (fun c_33 => ?_) (fun c_33 => ?_)
      · exact absurd c_33 (by decide)
      · refine g_ic_m1 dX11_chip_36 ?_
        exact g_iret dX11_chip_37 (Or.inl ⟨3, by decide, (if_pos c_22), rfl, rfl⟩)
  · exact absurd c_6 hz

set_option maxHeartbeats 800000 in
set_option maxRecDepth 100000 in
theorem e_rev0 {A : Nat → Nat → Int32} {L : Nat → Nat → Int64} {I : Nat → Nat → Int32} {X : Nat → Int64}  (hz : I 46 25 = 0) : Con 2 yX11_reverse cX11_reverse 1 (some .int) [.ref 46] (hp A L I X) (rfN A L I X 0) := by
  refine m_con (by decide) (Nat.le_of_ble_eq_true rfl) ?_
  refine g_aload_n dX11_reverse_0 rfl rfl ?_
  refine g_aload_n dX11_reverse_1 rfl rfl ?_
  refine g_get dX11_reverse_2 fl_X11_261 hp_46 rfl ?_
  refine g_if_ne (tgt := 12) dX11_reverse_5 (by decide) (fun c_5 => ?_) (fun c_5 => ?_)
  · exact absurd hz c_5
  · refine g_ic_0 dX11_reverse_8 ?_
    refine g_goto (tgt := 13) dX11_reverse_9 (by decide) ?_
    refine g_callV dX11_reverse_13 cv_X11_326 (as' := [_]) hp_46 rfl (e_ref0 (k := 0) rfl (by decide)) (by decide) rfl rfl (Nat.le_of_ble_eq_true rfl) ?_
    rintro _ _ ⟨rfl, rfl⟩
    refine g_if_eq (tgt := 21) dX11_reverse_16 (by decide) (fun c_16 => ?_) (fun c_16 => ?_)
    · exact absurd c_16 (by decide)
    · refine g_ic_m1 dX11_reverse_19 ?_
      exact g_iret dX11_reverse_20 ⟨rfl, rfl⟩

set_option maxHeartbeats 800000 in
set_option maxRecDepth 100000 in
theorem e_rev {A : Nat → Nat → Int32} {L : Nat → Nat → Int64} {I : Nat → Nat → Int32} {X : Nat → Int64} {a : Nat} (ha : I 46 35 = nI a) (ha40 : a ≤ 40) (hz : ¬ I 46 25 = 0) : Con 2 yX11_reverse cX11_reverse 1 (some .int) [.ref 46] (hp A L I X) (actN A L I X a (-1) (1 - A 63 38) (upd (A 63) 38 (1 - A 63 38))) := by
  refine m_con (by decide) (Nat.le_of_ble_eq_true rfl) ?_
  refine g_aload_n dX11_reverse_0 rfl rfl ?_
  refine g_aload_n dX11_reverse_1 rfl rfl ?_
  refine g_get dX11_reverse_2 fl_X11_261 hp_46 rfl ?_
  refine g_if_ne (tgt := 12) dX11_reverse_5 (by decide) (fun c_5 => ?_) (fun c_5 => ?_)
  · refine g_ic_m1 dX11_reverse_12 ?_
    refine g_callV dX11_reverse_13 cv_X11_326 (as' := [_]) hp_46 rfl e_ref1 (by decide) rfl rfl (Nat.le_of_ble_eq_true rfl) ?_
    rintro _ _ ⟨rfl, rfl⟩
    refine g_if_eq (tgt := 21) dX11_reverse_16 (by decide) (fun c_16 => ?_) (fun c_16 => ?_)
    · refine g_aload_n dX11_reverse_21 rfl rfl ?_
      refine g_callV dX11_reverse_22 cv_X11_329 (as' := []) hp_46 rfl (e_keep ha ha40) (by decide) rfl rfl (Nat.le_of_ble_eq_true rfl) ?_
      rintro _ _ ⟨rfl, rfl⟩
      try simp (disch := omega) only [up_at, up_up, up_ne, up2_at, up2_ne, ud_at, ud_ne]
      refine g_aload_n dX11_reverse_25 rfl rfl ?_
      refine g_get dX11_reverse_26 fl_X11_58 hp_46 rfl ?_
      refine g_bipush (v := 38) dX11_reverse_29 (by decide) ?_
      refine g_ic_1 dX11_reverse_31 ?_
      refine g_aload_n dX11_reverse_32 rfl rfl ?_
      refine g_get dX11_reverse_33 fl_X11_58 hp_46 rfl ?_
      refine g_bipush (v := 38) dX11_reverse_36 (by decide) ?_
      refine g_ra dX11_reverse_38 hp_63 (k := 38) rfl (by decide) (by decide) ?_
      try simp (disch := omega) only [up_at, up_up, up_ne, up2_at, up2_ne, ud_at, ud_ne]
      refine g_isub dX11_reverse_39 ?_
      refine g_wa dX11_reverse_40 hp_63 (k := 38) rfl (by decide) (by decide) ?_
      rw [hq_63]
      try simp (disch := omega) only [up_at, up_up, up_ne, up2_at, up2_ne, ud_at, ud_ne]
      refine g_aload_n dX11_reverse_41 rfl rfl ?_
      refine g_get dX11_reverse_42 fl_X11_58 hp_46 rfl ?_
      refine g_bipush (v := 38) dX11_reverse_45 (by decide) ?_
      refine g_ra dX11_reverse_47 hp_63 (k := 38) rfl (by decide) (by decide) ?_
      try simp (disch := omega) only [up_at, up_up, up_ne, up2_at, up2_ne, ud_at, ud_ne]
      exact g_iret dX11_reverse_48 (Or.inr ⟨rfl, rfl, rfl⟩)
    · exact absurd rfl c_16
  · exact absurd c_5 hz

set_option maxHeartbeats 800000 in
set_option maxRecDepth 100000 in
theorem e_buy0 {A : Nat → Nat → Int32} {L : Nat → Nat → Int64} {I : Nat → Nat → Int32} {X : Nat → Int64}  (hz : I 46 25 = 0) : Con 2 yX11_buy cX11_buy 1 (some .int) [.ref 46] (hp A L I X) (rfN A L I X 0) := by
  refine m_con (by decide) (Nat.le_of_ble_eq_true rfl) ?_
  refine g_aload_n dX11_buy_0 rfl rfl ?_
  refine g_aload_n dX11_buy_1 rfl rfl ?_
  refine g_get dX11_buy_2 fl_X11_261 hp_46 rfl ?_
  refine g_if_ne (tgt := 12) dX11_buy_5 (by decide) (fun c_5 => ?_) (fun c_5 => ?_)
  · exact absurd hz c_5
  · refine g_ic_0 dX11_buy_8 ?_
    refine g_goto (tgt := 29) dX11_buy_9 (by decide) ?_
    refine g_callV dX11_buy_29 cv_X11_326 (as' := [_]) hp_46 rfl (e_ref0 (k := 0) rfl (by decide)) (by decide) rfl rfl (Nat.le_of_ble_eq_true rfl) ?_
    rintro _ _ ⟨rfl, rfl⟩
    refine g_if_eq (tgt := 37) dX11_buy_32 (by decide) (fun c_32 => ?_) (fun c_32 => ?_)
    · exact absurd c_32 (by decide)
    · refine g_ic_m1 dX11_buy_35 ?_
      exact g_iret dX11_buy_36 ⟨rfl, rfl⟩

set_option maxHeartbeats 800000 in
set_option maxRecDepth 100000 in
theorem e_buy {A : Nat → Nat → Int32} {L : Nat → Nat → Int64} {I : Nat → Nat → Int32} {X : Nat → Int64} {a : Nat} (ha : I 46 35 = nI a) (ha40 : a ≤ 40) (hz : ¬ I 46 25 = 0) : Con 2 yX11_buy cX11_buy 1 (some .int) [.ref 46] (hp A L I X) (actN A L I X a (if 20 ≤ A 63 37 then (-1) else 2) (A 63 37 - 20) (upd (upd (A 63) 35 (A 60 0)) 37 (A 63 37 - 20))) := by
  refine m_con (by decide) (Nat.le_of_ble_eq_true rfl) ?_
  refine g_aload_n dX11_buy_0 rfl rfl ?_
  refine g_aload_n dX11_buy_1 rfl rfl ?_
  refine g_get dX11_buy_2 fl_X11_261 hp_46 rfl ?_
  refine g_if_ne (tgt := 12) dX11_buy_5 (by decide) (fun c_5 => ?_) (fun c_5 => ?_)
  · refine g_aload_n dX11_buy_12 rfl rfl ?_
    refine g_get dX11_buy_13 fl_X11_58 hp_46 rfl ?_
    refine g_bipush (v := 37) dX11_buy_16 (by decide) ?_
    refine g_ra dX11_buy_18 hp_63 (k := 37) rfl (by decide) (by decide) ?_
    refine g_bipush (v := 20) dX11_buy_19 (by decide) ?_
    refine g_icmp_ge (tgt := 28) dX11_buy_21 (by decide) (fun c_21 => ?_) (fun c_21 => ?_)
    · refine g_ic_m1 dX11_buy_28 ?_
      refine g_callV dX11_buy_29 cv_X11_326 (as' := [_]) hp_46 rfl e_ref1 (by decide) rfl rfl (Nat.le_of_ble_eq_true rfl) ?_
      rintro _ _ ⟨rfl, rfl⟩
      refine g_if_eq (tgt := 37) dX11_buy_32 (by decide) (fun c_32 => ?_) (fun c_32 => ?_)
      · refine g_aload_n dX11_buy_37 rfl rfl ?_
        refine g_callV dX11_buy_38 cv_X11_329 (as' := []) hp_46 rfl (e_keep ha ha40) (by decide) rfl rfl (Nat.le_of_ble_eq_true rfl) ?_
        rintro _ _ ⟨rfl, rfl⟩
        try simp (disch := omega) only [up_at, up_up, up_ne, up2_at, up2_ne, ud_at, ud_ne]
        refine g_aload_n dX11_buy_41 rfl rfl ?_
        refine g_get dX11_buy_42 fl_X11_58 hp_46 rfl ?_
        refine g_bipush (v := 35) dX11_buy_45 (by decide) ?_
        refine g_aload_n dX11_buy_47 rfl rfl ?_
        refine g_get dX11_buy_48 fl_X11_49 hp_46 rfl ?_
        refine g_ic_0 dX11_buy_51 ?_
        refine g_ra dX11_buy_52 hp_60 (k := 0) rfl (by decide) (by decide) ?_
        try simp (disch := omega) only [up_at, up_up, up_ne, up2_at, up2_ne, ud_at, ud_ne]
        refine g_wa dX11_buy_53 hp_63 (k := 35) rfl (by decide) (by decide) ?_
        rw [hq_63]
        try simp (disch := omega) only [up_at, up_up, up_ne, up2_at, up2_ne, ud_at, ud_ne]
        refine g_aload_n dX11_buy_54 rfl rfl ?_
        refine g_get dX11_buy_55 fl_X11_58 hp_46 rfl ?_
        refine g_bipush (v := 37) dX11_buy_58 (by decide) ?_
        refine g_dup2 dX11_buy_60 rfl rfl ?_
        refine g_ra dX11_buy_61 hp_63 (k := 37) rfl (by decide) (by decide) ?_
        try simp (disch := omega) only [up_at, up_up, up_ne, up2_at, up2_ne, ud_at, ud_ne]
        refine g_bipush (v := 20) dX11_buy_62 (by decide) ?_
        refine g_isub dX11_buy_64 ?_
        refine g_wa dX11_buy_65 hp_63 (k := 37) rfl (by decide) (by decide) ?_
        rw [hq_63]
        try simp (disch := omega) only [up_at, up_up, up_ne, up2_at, up2_ne, ud_at, ud_ne]
        refine g_aload_n dX11_buy_66 rfl rfl ?_
        refine g_get dX11_buy_67 fl_X11_58 hp_46 rfl ?_
        refine g_bipush (v := 37) dX11_buy_70 (by decide) ?_
        refine g_ra dX11_buy_72 hp_63 (k := 37) rfl (by decide) (by decide) ?_
        try simp (disch := omega) only [up_at, up_up, up_ne, up2_at, up2_ne, ud_at, ud_ne]
        exact g_iret dX11_buy_73 (Or.inr ⟨(if_pos c_21), rfl, rfl⟩)
      · exact absurd rfl c_32
    · refine g_ic_2 dX11_buy_24 ?_
      refine g_goto (tgt := 29) dX11_buy_25 (by decide) ?_
      refine g_callV dX11_buy_29 cv_X11_326 (as' := [_]) hp_46 rfl (e_ref0 (k := 2) rfl (by decide)) (by decide) rfl rfl (Nat.le_of_ble_eq_true rfl) ?_
      rintro _ _ ⟨rfl, rfl⟩
      refine g_if_eq (tgt := 37) dX11_buy_32 (by decide) (fun c_32 => ?_) (fun c_32 => ?_)
      · exact absurd c_32 (by decide)
      · refine g_ic_m1 dX11_buy_35 ?_
        exact g_iret dX11_buy_36 (Or.inl ⟨2, by decide, (if_neg c_21), rfl, rfl⟩)
  · exact absurd c_5 hz

set_option maxHeartbeats 800000 in
set_option maxRecDepth 100000 in
theorem e_sow0 {A : Nat → Nat → Int32} {L : Nat → Nat → Int64} {I : Nat → Nat → Int32} {X : Nat → Int64} {x : Int32} (hz : inZ x 0 (I 46 26 - 1) = 0) : Con 3 yX11_sow cX11_sow 2 (some .int) [.ref 46, .int x] (hp A L I X) (rfN A L I X 0) := by
  refine m_con (by decide) (Nat.le_of_ble_eq_true rfl) ?_
  refine g_aload_n dX11_sow_0 rfl rfl ?_
  refine g_aload_n dX11_sow_1 rfl rfl ?_
  refine g_iload_n dX11_sow_2 rfl rfl ?_
  refine g_callV dX11_sow_3 cv_X11_320 (as' := [_]) hp_46 rfl e_isCrop (by decide) rfl rfl (Nat.le_of_ble_eq_true rfl) ?_
  rintro _ _ ⟨rfl, rfl⟩
  refine g_if_ne (tgt := 13) dX11_sow_6 (by decide) (fun c_6 => ?_) (fun c_6 => ?_)
  · exact absurd hz c_6
  · refine g_ic_0 dX11_sow_9 ?_
    refine g_goto (tgt := 41) dX11_sow_10 (by decide) ?_
    refine g_callV dX11_sow_41 cv_X11_326 (as' := [_]) hp_46 rfl (e_ref0 (k := 0) rfl (by decide)) (by decide) rfl rfl (Nat.le_of_ble_eq_true rfl) ?_
    rintro _ _ ⟨rfl, rfl⟩
    refine g_if_eq (tgt := 49) dX11_sow_44 (by decide) (fun c_44 => ?_) (fun c_44 => ?_)
    · exact absurd c_44 (by decide)
    · refine g_ic_m1 dX11_sow_47 ?_
      exact g_iret dX11_sow_48 ⟨rfl, rfl⟩

set_option maxHeartbeats 800000 in
set_option maxRecDepth 100000 in
theorem e_sow {A : Nat → Nat → Int32} {L : Nat → Nat → Int64} {I : Nat → Nat → Int32} {X : Nat → Int64} {a : Nat} {x : Int32} {c : Nat} (ha : I 46 35 = nI a) (ha40 : a ≤ 40) (hz : ¬ inZ x 0 (I 46 26 - 1) = 0) (hx : x = nI c) (hc : c < 5) : Con 3 yX11_sow cX11_sow 2 (some .int) [.ref 46, .int x] (hp A L I X) (actN A L I X a (if 2 ≤ A 63 37 then (if haZ (A 63 34) x = 0 then 3 else (-1)) else 2) (A 63 37 - 2) (upd (upd (upd (upd (A 63) (24 + c) 0) (29 + c) 0) 34 (A 63 34 &&& ((1 <<< (x &&& 31)) ^^^ (-1)))) 37 (A 63 37 - 2))) := by
  refine m_con (by decide) (Nat.le_of_ble_eq_true rfl) ?_
  refine g_aload_n dX11_sow_0 rfl rfl ?_
  refine g_aload_n dX11_sow_1 rfl rfl ?_
  refine g_iload_n dX11_sow_2 rfl rfl ?_
  refine g_callV dX11_sow_3 cv_X11_320 (as' := [_]) hp_46 rfl e_isCrop (by decide) rfl rfl (Nat.le_of_ble_eq_true rfl) ?_
  rintro _ _ ⟨rfl, rfl⟩
  refine g_if_ne (tgt := 13) dX11_sow_6 (by decide) (fun c_6 => ?_) (fun c_6 => ?_)
  · refine g_aload_n dX11_sow_13 rfl rfl ?_
    refine g_get dX11_sow_14 fl_X11_58 hp_46 rfl ?_
    refine g_bipush (v := 37) dX11_sow_17 (by decide) ?_
    refine g_ra dX11_sow_19 hp_63 (k := 37) rfl (by decide) (by decide) ?_
    refine g_ic_2 dX11_sow_20 ?_
    refine g_icmp_ge (tgt := 28) dX11_sow_21 (by decide) (fun c_21 => ?_) (fun c_21 => ?_)
    · refine g_aload_n dX11_sow_28 rfl rfl ?_
      refine g_iload_n dX11_sow_29 rfl rfl ?_
      refine g_callV dX11_sow_30 cv_X11_308 (as' := [_]) hp_46 rfl e_isRipe (by decide) rfl rfl (Nat.le_of_ble_eq_true rfl) ?_
      rintro _ _ ⟨rfl, rfl⟩
      refine g_if_ne (tgt := 40) dX11_sow_33 (by decide) (fun c_33 => ?_) (fun c_33 => ?_)
      · refine g_ic_m1 dX11_sow_40 ?_
        refine g_callV dX11_sow_41 cv_X11_326 (as' := [_]) hp_46 rfl e_ref1 (by decide) rfl rfl (Nat.le_of_ble_eq_true rfl) ?_
        rintro _ _ ⟨rfl, rfl⟩
        refine g_if_eq (tgt := 49) dX11_sow_44 (by decide) (fun c_44 => ?_) (fun c_44 => ?_)
        · refine g_aload_n dX11_sow_49 rfl rfl ?_
          refine g_callV dX11_sow_50 cv_X11_329 (as' := []) hp_46 rfl (e_keep ha ha40) (by decide) rfl rfl (Nat.le_of_ble_eq_true rfl) ?_
          rintro _ _ ⟨rfl, rfl⟩
          try simp (disch := omega) only [up_at, up_up, up_ne, up2_at, up2_ne, ud_at, ud_ne]
          refine g_aload_n dX11_sow_53 rfl rfl ?_
          refine g_get dX11_sow_54 fl_X11_58 hp_46 rfl ?_
          refine g_bipush (v := 24) dX11_sow_57 (by decide) ?_
          refine g_iload_n dX11_sow_59 rfl rfl ?_
          refine g_iadd dX11_sow_60 ?_
          refine g_ic_0 dX11_sow_61 ?_
          refine g_wa dX11_sow_62 hp_63 (k := 24 + c) (nk_add (show (24 : Int32) = nI 24 from rfl) hx) (by omega) (by decide) ?_
          rw [hq_63]
          try simp (disch := omega) only [up_at, up_up, up_ne, up2_at, up2_ne, ud_at, ud_ne]
          refine g_aload_n dX11_sow_63 rfl rfl ?_
          refine g_get dX11_sow_64 fl_X11_58 hp_46 rfl ?_
          refine g_bipush (v := 29) dX11_sow_67 (by decide) ?_
          refine g_iload_n dX11_sow_69 rfl rfl ?_
          refine g_iadd dX11_sow_70 ?_
          refine g_ic_0 dX11_sow_71 ?_
          refine g_wa dX11_sow_72 hp_63 (k := 29 + c) (nk_add (show (29 : Int32) = nI 29 from rfl) hx) (by omega) (by decide) ?_
          rw [hq_63]
          try simp (disch := omega) only [up_at, up_up, up_ne, up2_at, up2_ne, ud_at, ud_ne]
          refine g_aload_n dX11_sow_73 rfl rfl ?_
          refine g_get dX11_sow_74 fl_X11_58 hp_46 rfl ?_
          refine g_bipush (v := 34) dX11_sow_77 (by decide) ?_
          refine g_dup2 dX11_sow_79 rfl rfl ?_
          refine g_ra dX11_sow_80 hp_63 (k := 34) rfl (by decide) (by decide) ?_
          try simp (disch := omega) only [up_at, up_up, up_ne, up2_at, up2_ne, ud_at, ud_ne]
          refine g_ic_1 dX11_sow_81 ?_
          refine g_iload_n dX11_sow_82 rfl rfl ?_
          refine g_ishl dX11_sow_83 ?_
          refine g_ic_m1 dX11_sow_84 ?_
          refine g_ixor dX11_sow_85 ?_
          refine g_iand dX11_sow_86 ?_
          refine g_wa dX11_sow_87 hp_63 (k := 34) rfl (by decide) (by decide) ?_
          rw [hq_63]
          try simp (disch := omega) only [up_at, up_up, up_ne, up2_at, up2_ne, ud_at, ud_ne]
          refine g_aload_n dX11_sow_88 rfl rfl ?_
          refine g_get dX11_sow_89 fl_X11_58 hp_46 rfl ?_
          refine g_bipush (v := 37) dX11_sow_92 (by decide) ?_
          refine g_dup2 dX11_sow_94 rfl rfl ?_
          refine g_ra dX11_sow_95 hp_63 (k := 37) rfl (by decide) (by decide) ?_
          try simp (disch := omega) only [up_at, up_up, up_ne, up2_at, up2_ne, ud_at, ud_ne]
          refine g_ic_2 dX11_sow_96 ?_
          refine g_isub dX11_sow_97 ?_
          refine g_wa dX11_sow_98 hp_63 (k := 37) rfl (by decide) (by decide) ?_
          rw [hq_63]
          try simp (disch := omega) only [up_at, up_up, up_ne, up2_at, up2_ne, ud_at, ud_ne]
          refine g_aload_n dX11_sow_99 rfl rfl ?_
          refine g_get dX11_sow_100 fl_X11_58 hp_46 rfl ?_
          refine g_bipush (v := 37) dX11_sow_103 (by decide) ?_
          refine g_ra dX11_sow_105 hp_63 (k := 37) rfl (by decide) (by decide) ?_
          try simp (disch := omega) only [up_at, up_up, up_ne, up2_at, up2_ne, ud_at, ud_ne]
          exact g_iret dX11_sow_106 (Or.inr ⟨((if_pos c_21).trans (if_neg c_33)), rfl, rfl⟩)
        · exact absurd rfl c_44
      · refine g_ic_3 dX11_sow_36 ?_
        refine g_goto (tgt := 41) dX11_sow_37 (by decide) ?_
        refine g_callV dX11_sow_41 cv_X11_326 (as' := [_]) hp_46 rfl (e_ref0 (k := 3) rfl (by decide)) (by decide) rfl rfl (Nat.le_of_ble_eq_true rfl) ?_
        rintro _ _ ⟨rfl, rfl⟩
        refine g_if_eq (tgt := 49) dX11_sow_44 (by decide) (fun c_44 => ?_) (fun c_44 => ?_)
        · exact absurd c_44 (by decide)
        · refine g_ic_m1 dX11_sow_47 ?_
          exact g_iret dX11_sow_48 (Or.inl ⟨3, by decide, ((if_pos c_21).trans (if_pos c_33)), rfl, rfl⟩)
    · refine g_ic_2 dX11_sow_24 ?_
      refine g_goto (tgt := 41) dX11_sow_25 (by decide) ?_
      refine g_callV dX11_sow_41 cv_X11_326 (as' := [_]) hp_46 rfl (e_ref0 (k := 2) rfl (by decide)) (by decide) rfl rfl (Nat.le_of_ble_eq_true rfl) ?_
      rintro _ _ ⟨rfl, rfl⟩
      refine g_if_eq (tgt := 49) dX11_sow_44 (by decide) (fun c_44 => ?_) (fun c_44 => ?_)
      · exact absurd c_44 (by decide)
      · refine g_ic_m1 dX11_sow_47 ?_
        exact g_iret dX11_sow_48 (Or.inl ⟨2, by decide, (if_neg c_21), rfl, rfl⟩)
  · exact absurd c_6 hz

set_option maxHeartbeats 800000 in
set_option maxRecDepth 100000 in
theorem e_hay0 {A : Nat → Nat → Int32} {L : Nat → Nat → Int64} {I : Nat → Nat → Int32} {X : Nat → Int64} {n : Int32} (hz : I 46 25 = 0) : Con 2 yX11_hay cX11_hay 2 (some .int) [.ref 46, .int n] (hp A L I X) (rfN A L I X 0) := by
  refine m_con (by decide) (Nat.le_of_ble_eq_true rfl) ?_
  refine g_aload_n dX11_hay_0 rfl rfl ?_
  refine g_aload_n dX11_hay_1 rfl rfl ?_
  refine g_get dX11_hay_2 fl_X11_261 hp_46 rfl ?_
  refine g_if_ne (tgt := 12) dX11_hay_5 (by decide) (fun c_5 => ?_) (fun c_5 => ?_)
  · exact absurd hz c_5
  · refine g_ic_0 dX11_hay_8 ?_
    refine g_goto (tgt := 56) dX11_hay_9 (by decide) ?_
    refine g_callV dX11_hay_56 cv_X11_326 (as' := [_]) hp_46 rfl (e_ref0 (k := 0) rfl (by decide)) (by decide) rfl rfl (Nat.le_of_ble_eq_true rfl) ?_
    rintro _ _ ⟨rfl, rfl⟩
    refine g_if_eq (tgt := 64) dX11_hay_59 (by decide) (fun c_59 => ?_) (fun c_59 => ?_)
    · exact absurd c_59 (by decide)
    · refine g_ic_m1 dX11_hay_62 ?_
      exact g_iret dX11_hay_63 ⟨rfl, rfl⟩
