/-! THE REFERENCE: takePlain, fault, text -/
set_option maxHeartbeats 800000 in
set_option maxRecDepth 100000 in
theorem e_tp18 {A : Nat → Nat → Int32} {L : Nat → Nat → Int64} {I : Nat → Nat → Int32} {X : Nat → Int64} {Q : Option Value → m_H → Prop} (hE : G 3 RX11 cX11_takePlain 2 (some .int) Q 41 [some (.ref 46), some (.int (nI 4))] [] (hp (up A 60 (fl (A 57) (A 60) (4))) L I X)) : ∀ f k, k ≤ 4 → 4 - k < f → G 3 RX11 cX11_takePlain 2 (some .int) Q 18 [some (.ref 46), some (.int (nI k))] [] (hp (up A 60 (fl (A 57) (A 60) (k))) L I X) := by
  intro f
  induction f with
  | zero => intro k h1 h2; omega
  | succ f ih =>
    intro k h1 h2
    refine g_iload_n dX11_takePlain_18 rfl rfl ?_
    refine g_ic_4 dX11_takePlain_19 ?_
    refine g_icmp_ge (tgt := 41) dX11_takePlain_20 (by decide) (fun c_20 => ?_) (fun c_20 => ?_)
    · have h6 : 4 ≤ k := lit_le (n := 4) (by decide) (by omega) c_20
      have hkn : k = 4 := by omega
      subst hkn
      exact hE
    · refine g_aload_n dX11_takePlain_23 rfl rfl ?_
      have hlt : k < 4 := by have := lit_nle (n := 4) (by decide) (by omega) c_20; omega
      refine g_get dX11_takePlain_24 fl_X11_49 hp_46 rfl ?_
      refine g_iload_n dX11_takePlain_27 rfl rfl ?_
      refine g_aload_n dX11_takePlain_28 rfl rfl ?_
      refine g_get dX11_takePlain_29 fl_X11_40 hp_46 rfl ?_
      refine g_iload_n dX11_takePlain_32 rfl rfl ?_
      refine g_ra dX11_takePlain_33 hp_57 (k := k) rfl (by omega) (by decide) ?_
      try simp (disch := omega) only [up_at, up_up, up_ne]
      refine g_wa dX11_takePlain_34 hp_60 (k := k) rfl (by omega) (by decide) ?_
      rw [hq_60]
      try simp (disch := omega) only [up_at, up_up, up_ne]
      refine g_iinc1 dX11_takePlain_35 rfl (by decide) ?_
      refine g_goto (tgt := 18) dX11_takePlain_38 (by decide) ?_
      rw [nI_1, fl_upd (F := A 57) (f := A 60)]
      exact ih (k + 1) (by omega) (by omega)

set_option maxHeartbeats 800000 in
set_option maxRecDepth 100000 in
theorem e_tp43 {A : Nat → Nat → Int32} {L : Nat → Nat → Int64} {I : Nat → Nat → Int32} {X : Nat → Int64} {Q : Option Value → m_H → Prop} (hE : G 3 RX11 cX11_takePlain 2 (some .int) Q 67 [some (.ref 46), some (.int (nI 40))] [] (hp (up A 61 (fl (A 58) (A 61) (40))) L I X)) : ∀ f k, k ≤ 40 → 40 - k < f → G 3 RX11 cX11_takePlain 2 (some .int) Q 43 [some (.ref 46), some (.int (nI k))] [] (hp (up A 61 (fl (A 58) (A 61) (k))) L I X) := by
  intro f
  induction f with
  | zero => intro k h1 h2; omega
  | succ f ih =>
    intro k h1 h2
    refine g_iload_n dX11_takePlain_43 rfl rfl ?_
    refine g_bipush (v := 40) dX11_takePlain_44 (by decide) ?_
    refine g_icmp_ge (tgt := 67) dX11_takePlain_46 (by decide) (fun c_46 => ?_) (fun c_46 => ?_)
    · have h6 : 40 ≤ k := lit_le (n := 40) (by decide) (by omega) c_46
      have hkn : k = 40 := by omega
      subst hkn
      exact hE
    · refine g_aload_n dX11_takePlain_49 rfl rfl ?_
      have hlt : k < 40 := by have := lit_nle (n := 40) (by decide) (by omega) c_46; omega
      refine g_get dX11_takePlain_50 fl_X11_52 hp_46 rfl ?_
      refine g_iload_n dX11_takePlain_53 rfl rfl ?_
      refine g_aload_n dX11_takePlain_54 rfl rfl ?_
      refine g_get dX11_takePlain_55 fl_X11_43 hp_46 rfl ?_
      refine g_iload_n dX11_takePlain_58 rfl rfl ?_
      refine g_ra dX11_takePlain_59 hp_58 (k := k) rfl (by omega) (by decide) ?_
      try simp (disch := omega) only [up_at, up_up, up_ne]
      refine g_wa dX11_takePlain_60 hp_61 (k := k) rfl (by omega) (by decide) ?_
      rw [hq_61]
      try simp (disch := omega) only [up_at, up_up, up_ne]
      refine g_iinc1 dX11_takePlain_61 rfl (by decide) ?_
      refine g_goto (tgt := 43) dX11_takePlain_64 (by decide) ?_
      rw [nI_1, fl_upd (F := A 58) (f := A 61)]
      exact ih (k + 1) (by omega) (by omega)

set_option maxHeartbeats 800000 in
set_option maxRecDepth 100000 in
theorem e_tp69 {A : Nat → Nat → Int32} {L : Nat → Nat → Int64} {I : Nat → Nat → Int32} {X : Nat → Int64} {Q : Option Value → m_H → Prop} (hE : G 3 RX11 cX11_takePlain 2 (some .int) Q 93 [some (.ref 46), some (.int (nI 15))] [] (hp (up A 62 (fl (A 59) (A 62) (15))) L I X)) : ∀ f k, k ≤ 15 → 15 - k < f → G 3 RX11 cX11_takePlain 2 (some .int) Q 69 [some (.ref 46), some (.int (nI k))] [] (hp (up A 62 (fl (A 59) (A 62) (k))) L I X) := by
  intro f
  induction f with
  | zero => intro k h1 h2; omega
  | succ f ih =>
    intro k h1 h2
    refine g_iload_n dX11_takePlain_69 rfl rfl ?_
    refine g_bipush (v := 15) dX11_takePlain_70 (by decide) ?_
    refine g_icmp_ge (tgt := 93) dX11_takePlain_72 (by decide) (fun c_72 => ?_) (fun c_72 => ?_)
    · have h6 : 15 ≤ k := lit_le (n := 15) (by decide) (by omega) c_72
      have hkn : k = 15 := by omega
      subst hkn
      exact hE
    · refine g_aload_n dX11_takePlain_75 rfl rfl ?_
      have hlt : k < 15 := by have := lit_nle (n := 15) (by decide) (by omega) c_72; omega
      refine g_get dX11_takePlain_76 fl_X11_55 hp_46 rfl ?_
      refine g_iload_n dX11_takePlain_79 rfl rfl ?_
      refine g_aload_n dX11_takePlain_80 rfl rfl ?_
      refine g_get dX11_takePlain_81 fl_X11_46 hp_46 rfl ?_
      refine g_iload_n dX11_takePlain_84 rfl rfl ?_
      refine g_ra dX11_takePlain_85 hp_59 (k := k) rfl (by omega) (by decide) ?_
      try simp (disch := omega) only [up_at, up_up, up_ne]
      refine g_wa dX11_takePlain_86 hp_62 (k := k) rfl (by omega) (by decide) ?_
      rw [hq_62]
      try simp (disch := omega) only [up_at, up_up, up_ne]
      refine g_iinc1 dX11_takePlain_87 rfl (by decide) ?_
      refine g_goto (tgt := 69) dX11_takePlain_90 (by decide) ?_
      rw [nI_1, fl_upd (F := A 59) (f := A 62)]
      exact ih (k + 1) (by omega) (by omega)

/-- the rows that were read are the rows told -/
def tkA (A : Nat → Nat → Int32) : Nat → Nat → Int32 := up (up (up A 60 (fl (A 57) (A 60) 4)) 61 (fl (A 58) (A 61) 40)) 62 (fl (A 59) (A 62) 15)
def tkJ (I : Nat → Nat → Int32) : Nat → Nat → Int32 := up2 (up2 I 46 25 (I 46 20)) 46 26 (I 46 21)
def tkN (A : Nat → Nat → Int32) (ms : Nat) : ROW := upd (bgN (fl (A 57) (A 60) 4) (fl (A 58) (A 61) 40) (A 63) ms) 43 0
def tkI (I : Nat → Nat → Int32) : Nat → Nat → Int32 := up2 (up2 (up2 (tkJ I) 46 46 0) 46 35 0) 46 50 0
set_option maxHeartbeats 800000 in
set_option maxRecDepth 100000 in
theorem e_takePlain {A : Nat → Nat → Int32} {L : Nat → Nat → Int64} {I : Nat → Nat → Int32} {X : Nat → Int64} {ms : Nat} (hm : I 46 20 = nI ms) (hms : ms ≤ 8) : Con 3 yX11_takePlain cX11_takePlain 2 (some .int) [.ref 46] (hp A L I X) (fun r_ H_ => r_ = some (.int (I 46 20)) ∧ H_ = hp (up (tkA A) 63 (tkN A ms)) L (tkI I) X) := by
  refine m_con (by decide) (Nat.le_of_ble_eq_true rfl) ?_
  refine g_aload_n dX11_takePlain_0 rfl rfl ?_
  refine g_aload_n dX11_takePlain_1 rfl rfl ?_
  refine g_get dX11_takePlain_2 fl_X11_245 hp_46 rfl ?_
  refine g_puti dX11_takePlain_5 fw_X11_261 hp_46 (Nat.le_of_ble_eq_true rfl) ?_
  rw [hq_46_25]
  refine g_aload_n dX11_takePlain_8 rfl rfl ?_
  refine g_aload_n dX11_takePlain_9 rfl rfl ?_
  refine g_get dX11_takePlain_10 fl_X11_248 hp_46 rfl ?_
  refine g_puti dX11_takePlain_13 fw_X11_267 hp_46 (Nat.le_of_ble_eq_true rfl) ?_
  rw [hq_46_26]
  refine g_ic_0 dX11_takePlain_16 ?_
  refine g_istore_n dX11_takePlain_17 rfl (by decide) ?_
  have h := e_tp18 (A := A) (L := L) (I := (tkJ I)) (X := X) (Q := (fun r_ H_ => r_ = some (.int (I 46 20)) ∧ H_ = hp (up (tkA A) 63 (tkN A ms)) L (tkI I) X)) ?_ 5 0 (by decide) (by decide)
  · rw [fl_0, up_self] at h
    exact h
  · refine g_ic_0 dX11_takePlain_41 ?_
    refine g_istore_n dX11_takePlain_42 rfl (by decide) ?_
    have h := e_tp43 (A := (up A 60 (fl (A 57) (A 60) 4))) (L := L) (I := (tkJ I)) (X := X) (Q := (fun r_ H_ => r_ = some (.int (I 46 20)) ∧ H_ = hp (up (tkA A) 63 (tkN A ms)) L (tkI I) X)) ?_ 41 0 (by decide) (by decide)
    · rw [fl_0, up_self] at h
      exact h
    · refine g_ic_0 dX11_takePlain_67 ?_
      refine g_istore_n dX11_takePlain_68 rfl (by decide) ?_
      have h := e_tp69 (A := (up (up A 60 (fl (A 57) (A 60) 4)) 61 (fl (A 58) (A 61) 40))) (L := L) (I := (tkJ I)) (X := X) (Q := (fun r_ H_ => r_ = some (.int (I 46 20)) ∧ H_ = hp (up (tkA A) 63 (tkN A ms)) L (tkI I) X)) ?_ 16 0 (by decide) (by decide)
      · rw [fl_0, up_self] at h
        exact h
      · have h25 : tkJ I 46 25 = nI ms := (up2_ne (by decide)).trans (up2_at.trans hm)
        refine g_aload_n dX11_takePlain_93 rfl rfl ?_
        refine g_callV dX11_takePlain_94 cv_X11_270 (as' := []) hp_46 rfl (e_begin (ms := ms) h25 hms) (by decide) rfl rfl (Nat.le_of_ble_eq_true rfl) ?_
        rintro _ _ ⟨rfl, rfl⟩
        refine g_aload_n dX11_takePlain_97 rfl rfl ?_
        refine g_get dX11_takePlain_98 fl_X11_58 hp_46 rfl ?_
        refine g_bipush (v := 43) dX11_takePlain_101 (by decide) ?_
        refine g_ic_0 dX11_takePlain_103 ?_
        refine g_wa dX11_takePlain_104 hp_63 (k := 43) rfl (by decide) (by decide) ?_
        rw [hq_63]
        refine g_aload_n dX11_takePlain_105 rfl rfl ?_
        refine g_ic_0 dX11_takePlain_106 ?_
        refine g_puti dX11_takePlain_107 fw_X11_273 hp_46 (Nat.le_of_ble_eq_true rfl) ?_
        rw [hq_46_46]
        refine g_aload_n dX11_takePlain_110 rfl rfl ?_
        refine g_ic_0 dX11_takePlain_111 ?_
        refine g_puti dX11_takePlain_112 fw_X11_276 hp_46 (Nat.le_of_ble_eq_true rfl) ?_
        rw [hq_46_35]
        refine g_aload_n dX11_takePlain_115 rfl rfl ?_
        refine g_ic_0 dX11_takePlain_116 ?_
        refine g_putz dX11_takePlain_117 fw_X11_279 hp_46 (by first | exact Or.inl rfl | exact Or.inr rfl) (Nat.le_of_ble_eq_true rfl) ?_
        rw [hq_46_50]
        refine g_aload_n dX11_takePlain_120 rfl rfl ?_
        refine g_get dX11_takePlain_121 fl_X11_261 hp_46 rfl ?_
        exact g_iret dX11_takePlain_124 ⟨by first | rfl | exact (up2_ne (by decide)).trans ((up2_ne (by decide)).trans ((up2_ne (by decide)).trans ((up2_ne (by decide)).trans up2_at))), by first | rfl | (rw [up_at, up_up]; rfl)⟩

set_option maxHeartbeats 800000 in
set_option maxRecDepth 100000 in
theorem e_fault0 {A : Nat → Nat → Int32} {L : Nat → Nat → Int64} {I : Nat → Nat → Int32} {X : Nat → Int64} {n : Nat} (tp : tpM A I n) : Con 38 yX11_fault cX11_fault 2 (some .int) [.ref 46, .int 0] (hp A L I X) (fun r_ H_ => r_ = some (.int (lawV (plainP (A 47) n))) ∧ ∃ A1 I1, mP A I A1 I1 ∧ PLQ (A 47) n (plainP (A 47) n) A1 I1 ∧ H_ = hp A1 L I1 X) := by
  refine m_con (by decide) (Nat.le_of_ble_eq_true rfl) ?_
  refine g_iload_n dX11_fault_0 rfl rfl ?_
  refine g_if_ne (tgt := 11) dX11_fault_1 (by decide) (fun c_1 => ?_) (fun c_1 => ?_)
  · exact absurd rfl c_1
  · refine g_aload_n dX11_fault_4 rfl rfl ?_
    refine g_callV dX11_fault_5 cv_X11_255 (as' := []) hp_46 rfl (e_readPlain tp) (by decide) rfl rfl (Nat.le_of_ble_eq_true rfl) ?_
    rintro _ _ ⟨rfl, A1, I1, h1, h2, rfl⟩
    refine g_goto (tgt := 26) dX11_fault_8 (by decide) ?_
    exact g_iret dX11_fault_26 ⟨rfl, A1, I1, h1, h2, rfl⟩

set_option maxHeartbeats 800000 in
set_option maxRecDepth 100000 in
theorem e_fault1 {A : Nat → Nat → Int32} {L : Nat → Nat → Int64} {I : Nat → Nat → Int32} {X : Nat → Int64} {n : Nat} (tp : tpM A I n) : Con 38 yX11_fault cX11_fault 2 (some .int) [.ref 46, .int 1] (hp A L I X) (fun r_ H_ => r_ = some (.int (lawV (lawP (A 47) n))) ∧ ∃ A1 I1, mL 4 A I A1 I1 ∧ CLs 4 n (lawP (A 47) n) A1 I1 ∧ H_ = hp A1 L I1 X) := by
  refine m_con (by decide) (Nat.le_of_ble_eq_true rfl) ?_
  refine g_iload_n dX11_fault_0 rfl rfl ?_
  refine g_if_ne (tgt := 11) dX11_fault_1 (by decide) (fun c_1 => ?_) (fun c_1 => ?_)
  · refine g_iload_n dX11_fault_11 rfl rfl ?_
    refine g_ic_1 dX11_fault_12 ?_
    refine g_icmp_ne (tgt := 24) dX11_fault_13 (by decide) (fun c_13 => ?_) (fun c_13 => ?_)
    · exact absurd rfl c_13
    · refine g_aload_n dX11_fault_16 rfl rfl ?_
      refine g_ic_4 dX11_fault_17 ?_
      refine g_callV dX11_fault_18 cv_X11_258 (as' := [_]) hp_46 rfl (z_readLaw (q := 4) tp rfl (by decide)) (by decide) rfl rfl (Nat.le_of_ble_eq_true rfl) ?_
      rintro _ _ ⟨rfl, A1, I1, h1, h2, rfl⟩
      refine g_goto (tgt := 26) dX11_fault_21 (by decide) ?_
      exact g_iret dX11_fault_26 ⟨rfl, A1, I1, h1, h2, rfl⟩
  · exact absurd c_1 (by decide)

set_option maxHeartbeats 800000 in
set_option maxRecDepth 100000 in
theorem e_faultn {A : Nat → Nat → Int32} {L : Nat → Nat → Int64} {I : Nat → Nat → Int32} {X : Nat → Int64} {x : Int32} (h0 : ¬ x = 0) (h1 : ¬ x = 1) : Con 38 yX11_fault cX11_fault 2 (some .int) [.ref 46, .int x] (hp A L I X) (fun r_ H_ => r_ = some (.int (-2)) ∧ H_ = hp A L I X) := by
  refine m_con (by decide) (Nat.le_of_ble_eq_true rfl) ?_
  refine g_iload_n dX11_fault_0 rfl rfl ?_
  refine g_if_ne (tgt := 11) dX11_fault_1 (by decide) (fun c_1 => ?_) (fun c_1 => ?_)
  · refine g_iload_n dX11_fault_11 rfl rfl ?_
    refine g_ic_1 dX11_fault_12 ?_
    refine g_icmp_ne (tgt := 24) dX11_fault_13 (by decide) (fun c_13 => ?_) (fun c_13 => ?_)
    · refine g_bipush (v := (-2)) dX11_fault_24 (by decide) ?_
      exact g_iret dX11_fault_26 ⟨rfl, rfl⟩
    · exact absurd c_13 h1
  · exact absurd c_1 h0

set_option maxHeartbeats 800000 in
set_option maxRecDepth 100000 in
theorem e_text0 {A : Nat → Nat → Int32} {L : Nat → Nat → Int64} {I : Nat → Nat → Int32} {X : Nat → Int64} {n : Nat} (tp : tpM A I n) (hb : ∀ p, plainP (A 47) n = .inl p → p < 2 ^ 31) : Con 38 yX11_text cX11_text 2 (some .int) [.ref 46, .int 0] (hp A L I X) (fun r_ H_ => ∃ A1 I1, mP A I A1 I1 ∧ PLQ (A 47) n (plainP (A 47) n) A1 I1 ∧ ((¬ lawV (plainP (A 47) n) = (-1) ∧ r_ = some (.int (-1)) ∧ H_ = hp A1 L I1 X) ∨ (lawV (plainP (A 47) n) = (-1) ∧ ∃ b D h m c, plainP (A 47) n = .inr (b, (D, h)) ∧ 2 ≤ m ∧ 1 ≤ c ∧ I1 46 20 = nI m ∧ I1 46 21 = nI c ∧ PW m c D A1 ∧ r_ = some (.int (nI m)) ∧ H_ = hp (up (tkA A1) 63 (tkN A1 m)) L (tkI (up2 I1 46 2 0)) X))) := by
  refine m_con (by decide) (Nat.le_of_ble_eq_true rfl) ?_
  refine g_iload_n dX11_text_0 rfl rfl ?_
  refine g_if_ne (tgt := 22) dX11_text_1 (by decide) (fun c_1 => ?_) (fun c_1 => ?_)
  · exact absurd rfl c_1
  · refine g_aload_n dX11_text_4 rfl rfl ?_
    refine g_callV dX11_text_5 cv_X11_255 (as' := []) hp_46 rfl (e_readPlain tp) (by decide) rfl rfl (Nat.le_of_ble_eq_true rfl) ?_
    rintro _ _ ⟨rfl, A1, I1, h1, h2, rfl⟩
    refine g_ic_m1 dX11_text_8 ?_
    refine g_icmp_ne (tgt := 22) dX11_text_9 (by decide) (fun c_9 => ?_) (fun c_9 => ?_)
    · refine g_iload_n dX11_text_22 rfl rfl ?_
      refine g_ic_1 dX11_text_23 ?_
      refine g_icmp_ne (tgt := 69) dX11_text_24 (by decide) (fun c_24 => ?_) (fun c_24 => ?_)
      · refine g_ic_m1 dX11_text_69 ?_
        exact g_iret dX11_text_70 ⟨A1, I1, h1, h2, Or.inl ⟨c_9, rfl, rfl⟩⟩
      · exact absurd c_24 (by decide)
    · obtain ⟨⟨b, D, h⟩, e1⟩ := lawV_r hb c_9
      obtain ⟨m, c, m2, c1, r20, r21, hw⟩ := h2 b D h e1
      refine g_aload_n dX11_text_12 rfl rfl ?_
      refine g_ic_0 dX11_text_13 ?_
      refine g_puti dX11_text_14 fw_X11_113 hp_46 (Nat.le_of_ble_eq_true rfl) ?_
      rw [hq_46_2]
      refine g_aload_n dX11_text_17 rfl rfl ?_
      refine g_callV dX11_text_18 cv_X11_283 (as' := []) hp_46 rfl (e_takePlain (ms := m) ((up2_ne (by decide)).trans r20) hw.1.1) (by decide) rfl rfl (Nat.le_of_ble_eq_true rfl) ?_
      rintro _ _ ⟨rfl, rfl⟩
      exact g_iret dX11_text_21 ⟨A1, I1, h1, h2, Or.inr ⟨c_9, b, D, h, m, c, e1, m2, c1, r20, r21, hw, by rw [← r20]; rfl, rfl⟩⟩

set_option maxHeartbeats 800000 in
set_option maxRecDepth 100000 in
theorem e_text1 {A : Nat → Nat → Int32} {L : Nat → Nat → Int64} {I : Nat → Nat → Int32} {X : Nat → Int64} {n q : Nat} (tp : tpM A I n) (hq : I 46 13 = nI q) (q4 : q ≤ 4) : Con 38 yX11_text cX11_text 2 (some .int) [.ref 46, .int 1] (hp A L I X) (fun r_ H_ => (¬ I 46 13 < 4 ∧ r_ = some (.int (-1)) ∧ H_ = hp A L I X) ∨ (I 46 13 < 4 ∧ ∃ A1 I1, mL q A I A1 I1 ∧ CLs q n (lawP (A 47) n) A1 I1 ∧ ((¬ lawV (lawP (A 47) n) = (-1) ∧ r_ = some (.int (-1)) ∧ H_ = hp A1 L I1 X) ∨ (lawV (lawP (A 47) n) = (-1) ∧ r_ = some (.int (I 46 13 + 1 - 1)) ∧ H_ = hp A1 L (up2 (up2 I1 46 2 0) 46 13 (I 46 13 + 1)) X)))) := by
  refine m_con (by decide) (Nat.le_of_ble_eq_true rfl) ?_
  refine g_iload_n dX11_text_0 rfl rfl ?_
  refine g_if_ne (tgt := 22) dX11_text_1 (by decide) (fun c_1 => ?_) (fun c_1 => ?_)
  · refine g_iload_n dX11_text_22 rfl rfl ?_
    refine g_ic_1 dX11_text_23 ?_
    refine g_icmp_ne (tgt := 69) dX11_text_24 (by decide) (fun c_24 => ?_) (fun c_24 => ?_)
    · exact absurd rfl c_24
    · refine g_aload_n dX11_text_27 rfl rfl ?_
      refine g_get dX11_text_28 fl_X11_286 hp_46 rfl ?_
      refine g_ic_4 dX11_text_31 ?_
      refine g_icmp_ge (tgt := 69) dX11_text_32 (by decide) (fun c_32 => ?_) (fun c_32 => ?_)
      · refine g_ic_m1 dX11_text_69 ?_
        exact g_iret dX11_text_70 (Or.inl ⟨Int32.not_lt.mpr c_32, rfl, rfl⟩)
      · refine g_aload_n dX11_text_35 rfl rfl ?_
        refine g_aload_n dX11_text_36 rfl rfl ?_
        refine g_get dX11_text_37 fl_X11_286 hp_46 rfl ?_
        refine g_callV dX11_text_40 cv_X11_258 (as' := [_]) hp_46 rfl (z_readLaw (q := q) tp hq q4) (by decide) rfl rfl (Nat.le_of_ble_eq_true rfl) ?_
        rintro _ _ ⟨rfl, A1, I1, h1, h2, rfl⟩
        refine g_ic_m1 dX11_text_43 ?_
        refine g_icmp_ne (tgt := 69) dX11_text_44 (by decide) (fun c_44 => ?_) (fun c_44 => ?_)
        · refine g_ic_m1 dX11_text_69 ?_
          exact g_iret dX11_text_70 (Or.inr ⟨Int32.not_le.mp c_32, A1, I1, h1, h2, Or.inl ⟨c_44, rfl, rfl⟩⟩)
        · have e27 : I1 46 13 = I 46 13 := h1.2.2.2.2 46 13 (by decide)
          refine g_aload_n dX11_text_47 rfl rfl ?_
          refine g_ic_0 dX11_text_48 ?_
          refine g_puti dX11_text_49 fw_X11_113 hp_46 (Nat.le_of_ble_eq_true rfl) ?_
          rw [hq_46_2]
          refine g_aload_n dX11_text_52 rfl rfl ?_
          refine g_dup dX11_text_53 rfl ?_
          refine g_get dX11_text_54 fl_X11_286 hp_46 rfl ?_
          refine g_ic_1 dX11_text_57 ?_
          refine g_iadd dX11_text_58 ?_
          refine g_puti dX11_text_59 fw_X11_286 hp_46 (Nat.le_of_ble_eq_true rfl) ?_
          rw [hq_46_13]
          refine g_aload_n dX11_text_62 rfl rfl ?_
          refine g_get dX11_text_63 fl_X11_286 hp_46 rfl ?_
          refine g_ic_1 dX11_text_66 ?_
          refine g_isub dX11_text_67 ?_
          exact g_iret dX11_text_68 (Or.inr ⟨Int32.not_le.mp c_32, A1, I1, h1, h2, Or.inr ⟨c_44, by rw [up2_at, up2_ne (by decide), e27], by rw [up2_ne (by decide), e27]⟩⟩)
  · exact absurd c_1 (by decide)

set_option maxHeartbeats 800000 in
set_option maxRecDepth 100000 in
theorem e_textn {A : Nat → Nat → Int32} {L : Nat → Nat → Int64} {I : Nat → Nat → Int32} {X : Nat → Int64} {x : Int32} (h0 : ¬ x = 0) (h1 : ¬ x = 1) : Con 38 yX11_text cX11_text 2 (some .int) [.ref 46, .int x] (hp A L I X) (fun r_ H_ => r_ = some (.int (-1)) ∧ H_ = hp A L I X) := by
  refine m_con (by decide) (Nat.le_of_ble_eq_true rfl) ?_
  refine g_iload_n dX11_text_0 rfl rfl ?_
  refine g_if_ne (tgt := 22) dX11_text_1 (by decide) (fun c_1 => ?_) (fun c_1 => ?_)
  · refine g_iload_n dX11_text_22 rfl rfl ?_
    refine g_ic_1 dX11_text_23 ?_
    refine g_icmp_ne (tgt := 69) dX11_text_24 (by decide) (fun c_24 => ?_) (fun c_24 => ?_)
    · refine g_ic_m1 dX11_text_69 ?_
      exact g_iret dX11_text_70 ⟨rfl, rfl⟩
    · exact absurd c_24 h1
  · exact absurd c_1 h0
