/-- FORECAST: how a search over turns ends: what is answered, and where the trial is then -/
def fnd {σ : Type} (F : σ → σ) (P : σ → Bool) : Nat → Nat → σ → Int32 × σ
  | 0, _, s => ((-1), s)
  | n + 1, t, s => if P s = true then (nI t, s) else fnd F P n (t + 1) (F s)
theorem fnd_y {σ : Type} {F : σ → σ} {P : σ → Bool} {n t : Nat} {s : σ} (h : P s = true) : fnd F P (n + 1) t s = (nI t, s) := if_pos h
theorem fnd_n {σ : Type} {F : σ → σ} {P : σ → Bool} {n t : Nat} {s : σ} (h : ¬ P s = true) : fnd F P (n + 1) t s = fnd F P n (t + 1) (F s) := if_neg h
abbrev RD : Type := (Nat → Int32) × (Nat → Int32)
def isM (m : Int32) (s : RD) : Bool := decide (gt 143 s.1 5 = m)
def isR (k : Int32) (s : RD) : Bool := decide (oC s.1 k 5 = 1)
def isD (s : RD) : Bool := decide (gt 143 s.1 0 < 1)
theorem lit_lt {n k : Nat} (hn : n < 2 ^ 31) (hk : k < 2 ^ 31) (h : nI n < nI k) : n < k := (nI_ltI hn hk).mp h
theorem lit_nlt {n k : Nat} (hn : n < 2 ^ 31) (hk : k < 2 ^ 31) (h : ¬ nI n < nI k) : k ≤ n := Nat.not_lt.mp fun z => h ((nI_ltI hn hk).mpr z)

def othS (f : Nat → Int32) (w : Int32) : Nat → Int32 := if w = 0 then f else trn f
set_option maxHeartbeats 4000000 in
set_option maxRecDepth 100000 in
theorem w_place {A : Nat → Nat → Int32} {L : Nat → Nat → Int64} {I : Nat → Nat → Int32} {X : Nat → Int64} {n w p : Int32}  : Con 6 yX3_placeBehind cX3_placeBehind 4 (some .int) [.ref 27, .int n, .int w, .int p] (hp A L I X) (fun r_ H_ => r_ = some (.int (gt 143 (fc A I n.toNatClampNeg (othS (A 20) w)).1 p)) ∧ ∃ A9 L9 I9, sm A L I A9 L9 I9 ∧ H_ = hp A9 L9 I9 X) := by
  refine m_con (by decide) (Nat.le_of_ble_eq_true rfl) ?_
  refine g_aload_n dX3_placeBehind_0 rfl rfl ?_
  refine g_get dX3_placeBehind_1 fl_X3_12 hp_27 rfl ?_
  refine g_aload_n dX3_placeBehind_4 rfl rfl ?_
  refine g_get dX3_placeBehind_5 fl_X3_29 hp_27 rfl ?_
  refine g_callV dX3_placeBehind_8 cv_X3_36 (as' := [_]) hp_28 rfl (f_become28 isS_19 (by decide)) (by decide) rfl rfl (Nat.le_of_ble_eq_true rfl) ?_
  rintro _ _ ⟨rfl, A0, m0, b1, b2, rfl⟩
  refine g_iload_n dX3_placeBehind_11 rfl rfl ?_
  refine g_if_eq (tgt := 22) dX3_placeBehind_12 (by decide) (fun c_12 => ?_) (fun c_12 => ?_)
  · refine g_aload_n dX3_placeBehind_22 rfl rfl ?_
    refine g_get dX3_placeBehind_23 fl_X3_12 hp_27 rfl ?_
    refine g_iload_n dX3_placeBehind_26 rfl rfl ?_
    refine g_aload_n dX3_placeBehind_27 rfl rfl ?_
    refine g_get dX3_placeBehind_28 fl_X3_32 hp_27 rfl ?_
    refine g_callV dX3_placeBehind_31 cv_X3_43 (as' := [_, _]) hp_28 rfl f_turns28 (by decide) rfl rfl (Nat.le_of_ble_eq_true rfl) ?_
    rintro _ _ ⟨rfl, A1, I1, m1, e1, rfl⟩
    refine g_aload_n dX3_placeBehind_34 rfl rfl ?_
    refine g_get dX3_placeBehind_35 fl_X3_12 hp_27 rfl ?_
    refine g_iload_n dX3_placeBehind_38 rfl rfl ?_
    refine g_callV dX3_placeBehind_39 cv_X3_47 (as' := [_]) hp_28 rfl (h_get isS_28) (by decide) rfl rfl (Nat.le_of_ble_eq_true rfl) ?_
    rintro _ _ ⟨rfl, rfl⟩
    exact g_iret dX3_placeBehind_42 ⟨by rw [show A1 29 = (A1 29, A1 30).1 from rfl, e1, tns_sm m0, b1, b2]; unfold fc othS; rw [if_pos c_12], A1, L, I1, sm_tr m0 m1, rfl⟩
  · refine g_aload_n dX3_placeBehind_15 rfl rfl ?_
    refine g_get dX3_placeBehind_16 fl_X3_12 hp_27 rfl ?_
    refine g_callV dX3_placeBehind_19 cv_X3_40 (as' := []) hp_28 rfl (h_turnRound isS_28) (by decide) rfl rfl (Nat.le_of_ble_eq_true rfl) ?_
    rintro _ _ ⟨rfl, rfl⟩
    refine g_aload_n dX3_placeBehind_22 rfl rfl ?_
    refine g_get dX3_placeBehind_23 fl_X3_12 hp_27 rfl ?_
    refine g_iload_n dX3_placeBehind_26 rfl rfl ?_
    refine g_aload_n dX3_placeBehind_27 rfl rfl ?_
    refine g_get dX3_placeBehind_28 fl_X3_32 hp_27 rfl ?_
    refine g_callV dX3_placeBehind_31 cv_X3_43 (as' := [_, _]) hp_28 rfl f_turns28 (by decide) rfl rfl (Nat.le_of_ble_eq_true rfl) ?_
    rintro _ _ ⟨rfl, A1, I1, m1, e1, rfl⟩
    refine g_aload_n dX3_placeBehind_34 rfl rfl ?_
    refine g_get dX3_placeBehind_35 fl_X3_12 hp_27 rfl ?_
    refine g_iload_n dX3_placeBehind_38 rfl rfl ?_
    refine g_callV dX3_placeBehind_39 cv_X3_47 (as' := [_]) hp_28 rfl (h_get isS_28) (by decide) rfl rfl (Nat.le_of_ble_eq_true rfl) ?_
    rintro _ _ ⟨rfl, rfl⟩
    exact g_iret dX3_placeBehind_42 ⟨by rw [show A1 29 = (A1 29, A1 30).1 from rfl, e1, tns_sm (sm_tr m0 (sm_upS (r := 29) (c := 30) (by decide) (by decide))), upS_r (by decide), upS_c, b1, b2]; unfold fc othS; rw [if_neg c_12], A1, L, I1, sm_tr (sm_tr m0 (sm_upS (by decide) (by decide))) m1, rfl⟩

def fdS (f : Nat → Int32) (k : Int32) : Nat → Int32 := pt 143 f 1 (gt 143 f 1 + k)
set_option maxHeartbeats 4000000 in
set_option maxRecDepth 100000 in
theorem w_run {A : Nat → Nat → Int32} {L : Nat → Nat → Int64} {I : Nat → Nat → Int32} {X : Nat → Int64} {k n : Int32}  : Con 6 yX3_runWith cX3_runWith 3 none [.ref 27, .int k, .int n] (hp A L I X) (fun r_ H_ => r_ = none ∧ ∃ A9 I9, sm A L I A9 L I9 ∧ (A9 29, A9 30) = fc A I n.toNatClampNeg (fdS (A 20) k) ∧ H_ = hp A9 L I9 X) := by
  refine m_con (by decide) (Nat.le_of_ble_eq_true rfl) ?_
  refine g_aload_n dX3_runWith_0 rfl rfl ?_
  refine g_get dX3_runWith_1 fl_X3_12 hp_27 rfl ?_
  refine g_aload_n dX3_runWith_4 rfl rfl ?_
  refine g_get dX3_runWith_5 fl_X3_29 hp_27 rfl ?_
  refine g_callV dX3_runWith_8 cv_X3_36 (as' := [_]) hp_28 rfl (f_become28 isS_19 (by decide)) (by decide) rfl rfl (Nat.le_of_ble_eq_true rfl) ?_
  rintro _ _ ⟨rfl, A0, m0, b1, b2, rfl⟩
  refine g_aload_n dX3_runWith_11 rfl rfl ?_
  refine g_get dX3_runWith_12 fl_X3_12 hp_27 rfl ?_
  refine g_ic_1 dX3_runWith_15 ?_
  refine g_iload_n dX3_runWith_16 rfl rfl ?_
  refine g_callV dX3_runWith_17 cv_X3_58 (as' := [_, _]) hp_28 rfl (h_add isS_28) (by decide) rfl rfl (Nat.le_of_ble_eq_true rfl) ?_
  rintro _ _ ⟨rfl, rfl⟩
  refine g_aload_n dX3_runWith_20 rfl rfl ?_
  refine g_get dX3_runWith_21 fl_X3_12 hp_27 rfl ?_
  refine g_iload_n dX3_runWith_24 rfl rfl ?_
  refine g_aload_n dX3_runWith_25 rfl rfl ?_
  refine g_get dX3_runWith_26 fl_X3_32 hp_27 rfl ?_
  refine g_callV dX3_runWith_29 cv_X3_43 (as' := [_, _]) hp_28 rfl f_turns28 (by decide) rfl rfl (Nat.le_of_ble_eq_true rfl) ?_
  rintro _ _ ⟨rfl, A1, I1, m1, e1, rfl⟩
  exact g_vret dX3_runWith_32 ⟨rfl, A1, I1, sm_tr (sm_tr m0 (sm_upS (by decide) (by decide))) m1, by rw [e1, tns_sm (sm_tr m0 (sm_upS (r := 29) (c := 30) (by decide) (by decide))), upS_r (by decide), upS_c, b1, b2]; rfl, rfl⟩

set_option maxHeartbeats 4000000 in
set_option maxRecDepth 100000 in
theorem w_until_loop {A : Nat → Nat → Int32} {L : Nat → Nat → Int64} {I : Nat → Nat → Int32} {X : Nat → Int64} {m f0 : Int32} {Q : Option Value → m_H → Prop} : ∀ n k (s : RD) A2 I2, sm A L I A2 L I2 → (A2 29, A2 30) = s → n + k = 201 → (∀ A9 I9, sm A L I A9 L I9 → (A9 29, A9 30) = (fnd (tn1 A I) (isM m) n k s).2 → Q (some (.int (fnd (tn1 A I) (isM m) n k s).1)) (hp A9 L I9 X)) → G 6 RX3 cX3_turnsUntil 4 (some .int) Q 14 [some (.ref 27), some (.int (m)), some (.int (f0)), some (.int (nI k))] [] (hp A2 L I2 X) := by
  intro n
  induction n with
  | zero =>
    intro k s A2 I2 hm hs1 hk hQ
    refine g_iload_n dX3_turnsUntil_14 rfl rfl ?_
    refine g_sipush (v := 200) dX3_turnsUntil_15 (by decide) ?_
    refine g_icmp_gt (tgt := 53) dX3_turnsUntil_18 (by decide) (fun c_18 => ?_) (fun c_18 => ?_)
    · refine g_ic_m1 dX3_turnsUntil_53 ?_
      exact g_iret dX3_turnsUntil_54 (hQ A2 I2 hm hs1)
    · exact absurd (lit_nlt (n := 200) (by decide) (by omega) c_18) (by omega)
  | succ n ih =>
    intro k s A2 I2 hm hs1 hk hQ
    refine g_iload_n dX3_turnsUntil_14 rfl rfl ?_
    refine g_sipush (v := 200) dX3_turnsUntil_15 (by decide) ?_
    refine g_icmp_gt (tgt := 53) dX3_turnsUntil_18 (by decide) (fun c_18 => ?_) (fun c_18 => ?_)
    · exact absurd (lit_lt (n := 200) (by decide) (by omega) c_18) (by omega)
    · refine g_aload_n dX3_turnsUntil_21 rfl rfl ?_
      refine g_get dX3_turnsUntil_22 fl_X3_12 hp_27 rfl ?_
      refine g_ic_5 dX3_turnsUntil_25 ?_
      refine g_callV dX3_turnsUntil_26 cv_X3_47 (as' := [_]) hp_28 rfl (h_get isS_28) (by decide) rfl rfl (Nat.le_of_ble_eq_true rfl) ?_
      rintro _ _ ⟨rfl, rfl⟩
      rw [show A2 29 = s.1 from congrArg Prod.fst hs1]
      refine g_iload_n dX3_turnsUntil_29 rfl rfl ?_
      refine g_icmp_ne (tgt := 35) dX3_turnsUntil_30 (by decide) (fun c_30 => ?_) (fun c_30 => ?_)
      · refine g_aload_n dX3_turnsUntil_35 rfl rfl ?_
        refine g_get dX3_turnsUntil_36 fl_X3_12 hp_27 rfl ?_
        refine g_ic_1 dX3_turnsUntil_39 ?_
        refine g_aload_n dX3_turnsUntil_40 rfl rfl ?_
        refine g_get dX3_turnsUntil_41 fl_X3_32 hp_27 rfl ?_
        refine g_callV dX3_turnsUntil_44 cv_X3_43 (as' := [_, _]) hp_28 rfl f_turns28 (by decide) rfl rfl (Nat.le_of_ble_eq_true rfl) ?_
        rintro _ _ ⟨rfl, A1, I1, m1, e1, rfl⟩
        refine g_iinc1 dX3_turnsUntil_47 rfl (by decide) ?_
        refine g_goto (tgt := 14) dX3_turnsUntil_50 (by decide) ?_
        rw [nI_1]
        exact ih (k + 1) _ A1 I1 (sm_tr hm m1) (by rw [e1, hs1]) (by omega) (fun A9 I9 h9 e9 => Eq.mp (by rw [fnd_n (show ¬ isM m s = true from fun z => c_30 (of_decide_eq_true z)), show tn1 A I s = tnsS (A2 12) (A2 13) (I2 11 5) (1 : Int32).toNatClampNeg s by rw [tns_sm hm]; rfl]) (hQ A9 I9 h9 (by rw [e9]; rw [fnd_n (show ¬ isM m s = true from fun z => c_30 (of_decide_eq_true z)), show tn1 A I s = tnsS (A2 12) (A2 13) (I2 11 5) (1 : Int32).toNatClampNeg s by rw [tns_sm hm]; rfl])))
      · refine g_iload_n dX3_turnsUntil_33 rfl rfl ?_
        exact g_iret dX3_turnsUntil_34 (by have h9 := hQ A2 I2 hm (by rw [fnd_y (show isM m s = true from decide_eq_true c_30)]; exact hs1); rw [fnd_y (show isM m s = true from decide_eq_true c_30)] at h9; exact h9)

set_option maxHeartbeats 4000000 in
set_option maxRecDepth 100000 in
theorem w_toRipe_loop {A : Nat → Nat → Int32} {L : Nat → Nat → Int64} {I : Nat → Nat → Int32} {X : Nat → Int64} {m : Int32} {Q : Option Value → m_H → Prop} : ∀ n k (s : RD) A2 I2, sm A L I A2 L I2 → (A2 29, A2 30) = s → n + k = 201 → (∀ A9 I9, sm A L I A9 L I9 → (A9 29, A9 30) = (fnd (tn1 A I) (isR m) n k s).2 → Q (some (.int (fnd (tn1 A I) (isR m) n k s).1)) (hp A9 L I9 X)) → G 6 RX3 cX3_turnsToRipe 3 (some .int) Q 13 [some (.ref 27), some (.int (m)), some (.int (nI k))] [] (hp A2 L I2 X) := by
  intro n
  induction n with
  | zero =>
    intro k s A2 I2 hm hs1 hk hQ
    refine g_iload_n dX3_turnsToRipe_13 rfl rfl ?_
    refine g_sipush (v := 200) dX3_turnsToRipe_14 (by decide) ?_
    refine g_icmp_gt (tgt := 53) dX3_turnsToRipe_17 (by decide) (fun c_17 => ?_) (fun c_17 => ?_)
    · refine g_ic_m1 dX3_turnsToRipe_53 ?_
      exact g_iret dX3_turnsToRipe_54 (hQ A2 I2 hm hs1)
    · exact absurd (lit_nlt (n := 200) (by decide) (by omega) c_17) (by omega)
  | succ n ih =>
    intro k s A2 I2 hm hs1 hk hQ
    refine g_iload_n dX3_turnsToRipe_13 rfl rfl ?_
    refine g_sipush (v := 200) dX3_turnsToRipe_14 (by decide) ?_
    refine g_icmp_gt (tgt := 53) dX3_turnsToRipe_17 (by decide) (fun c_17 => ?_) (fun c_17 => ?_)
    · exact absurd (lit_lt (n := 200) (by decide) (by omega) c_17) (by omega)
    · refine g_aload_n dX3_turnsToRipe_20 rfl rfl ?_
      refine g_get dX3_turnsToRipe_21 fl_X3_12 hp_27 rfl ?_
      refine g_iload_n dX3_turnsToRipe_24 rfl rfl ?_
      refine g_ic_5 dX3_turnsToRipe_25 ?_
      refine g_callV dX3_turnsToRipe_26 cv_X3_55 (as' := [_, _]) hp_28 rfl (h_oC isS_28) (by decide) rfl rfl (Nat.le_of_ble_eq_true rfl) ?_
      rintro _ _ ⟨rfl, rfl⟩
      rw [show A2 29 = s.1 from congrArg Prod.fst hs1]
      refine g_ic_1 dX3_turnsToRipe_29 ?_
      refine g_icmp_ne (tgt := 35) dX3_turnsToRipe_30 (by decide) (fun c_30 => ?_) (fun c_30 => ?_)
      · refine g_aload_n dX3_turnsToRipe_35 rfl rfl ?_
        refine g_get dX3_turnsToRipe_36 fl_X3_12 hp_27 rfl ?_
        refine g_ic_1 dX3_turnsToRipe_39 ?_
        refine g_aload_n dX3_turnsToRipe_40 rfl rfl ?_
        refine g_get dX3_turnsToRipe_41 fl_X3_32 hp_27 rfl ?_
        refine g_callV dX3_turnsToRipe_44 cv_X3_43 (as' := [_, _]) hp_28 rfl f_turns28 (by decide) rfl rfl (Nat.le_of_ble_eq_true rfl) ?_
        rintro _ _ ⟨rfl, A1, I1, m1, e1, rfl⟩
        refine g_iinc1 dX3_turnsToRipe_47 rfl (by decide) ?_
        refine g_goto (tgt := 13) dX3_turnsToRipe_50 (by decide) ?_
        rw [nI_1]
        exact ih (k + 1) _ A1 I1 (sm_tr hm m1) (by rw [e1, hs1]) (by omega) (fun A9 I9 h9 e9 => Eq.mp (by rw [fnd_n (show ¬ isR m s = true from fun z => c_30 (of_decide_eq_true z)), show tn1 A I s = tnsS (A2 12) (A2 13) (I2 11 5) (1 : Int32).toNatClampNeg s by rw [tns_sm hm]; rfl]) (hQ A9 I9 h9 (by rw [e9]; rw [fnd_n (show ¬ isR m s = true from fun z => c_30 (of_decide_eq_true z)), show tn1 A I s = tnsS (A2 12) (A2 13) (I2 11 5) (1 : Int32).toNatClampNeg s by rw [tns_sm hm]; rfl])))
      · refine g_iload_n dX3_turnsToRipe_33 rfl rfl ?_
        exact g_iret dX3_turnsToRipe_34 (by have h9 := hQ A2 I2 hm (by rw [fnd_y (show isR m s = true from decide_eq_true c_30)]; exact hs1); rw [fnd_y (show isR m s = true from decide_eq_true c_30)] at h9; exact h9)

set_option maxHeartbeats 4000000 in
set_option maxRecDepth 100000 in
theorem w_toDeath_loop {A : Nat → Nat → Int32} {L : Nat → Nat → Int64} {I : Nat → Nat → Int32} {X : Nat → Int64}  {Q : Option Value → m_H → Prop} : ∀ n k (s : RD) A2 I2, sm A L I A2 L I2 → (A2 29, A2 30) = s → n + k = 201 → (∀ A9 I9, sm A L I A9 L I9 → (A9 29, A9 30) = (fnd (tn1 A I) (isD) n k s).2 → Q (some (.int (fnd (tn1 A I) (isD) n k s).1)) (hp A9 L I9 X)) → G 6 RX3 cX3_turnsToDeath 2 (some .int) Q 13 [some (.ref 27), some (.int (nI k))] [] (hp A2 L I2 X) := by
  intro n
  induction n with
  | zero =>
    intro k s A2 I2 hm hs1 hk hQ
    refine g_iload_n dX3_turnsToDeath_13 rfl rfl ?_
    refine g_sipush (v := 200) dX3_turnsToDeath_14 (by decide) ?_
    refine g_icmp_gt (tgt := 52) dX3_turnsToDeath_17 (by decide) (fun c_17 => ?_) (fun c_17 => ?_)
    · refine g_ic_m1 dX3_turnsToDeath_52 ?_
      exact g_iret dX3_turnsToDeath_53 (hQ A2 I2 hm hs1)
    · exact absurd (lit_nlt (n := 200) (by decide) (by omega) c_17) (by omega)
  | succ n ih =>
    intro k s A2 I2 hm hs1 hk hQ
    refine g_iload_n dX3_turnsToDeath_13 rfl rfl ?_
    refine g_sipush (v := 200) dX3_turnsToDeath_14 (by decide) ?_
    refine g_icmp_gt (tgt := 52) dX3_turnsToDeath_17 (by decide) (fun c_17 => ?_) (fun c_17 => ?_)
    · exact absurd (lit_lt (n := 200) (by decide) (by omega) c_17) (by omega)
    · refine g_aload_n dX3_turnsToDeath_20 rfl rfl ?_
      refine g_get dX3_turnsToDeath_21 fl_X3_12 hp_27 rfl ?_
      refine g_ic_0 dX3_turnsToDeath_24 ?_
      refine g_callV dX3_turnsToDeath_25 cv_X3_47 (as' := [_]) hp_28 rfl (h_get isS_28) (by decide) rfl rfl (Nat.le_of_ble_eq_true rfl) ?_
      rintro _ _ ⟨rfl, rfl⟩
      rw [show A2 29 = s.1 from congrArg Prod.fst hs1]
      refine g_ic_1 dX3_turnsToDeath_28 ?_
      refine g_icmp_ge (tgt := 34) dX3_turnsToDeath_29 (by decide) (fun c_29 => ?_) (fun c_29 => ?_)
      · refine g_aload_n dX3_turnsToDeath_34 rfl rfl ?_
        refine g_get dX3_turnsToDeath_35 fl_X3_12 hp_27 rfl ?_
        refine g_ic_1 dX3_turnsToDeath_38 ?_
        refine g_aload_n dX3_turnsToDeath_39 rfl rfl ?_
        refine g_get dX3_turnsToDeath_40 fl_X3_32 hp_27 rfl ?_
        refine g_callV dX3_turnsToDeath_43 cv_X3_43 (as' := [_, _]) hp_28 rfl f_turns28 (by decide) rfl rfl (Nat.le_of_ble_eq_true rfl) ?_
        rintro _ _ ⟨rfl, A1, I1, m1, e1, rfl⟩
        refine g_iinc1 dX3_turnsToDeath_46 rfl (by decide) ?_
        refine g_goto (tgt := 13) dX3_turnsToDeath_49 (by decide) ?_
        rw [nI_1]
        exact ih (k + 1) _ A1 I1 (sm_tr hm m1) (by rw [e1, hs1]) (by omega) (fun A9 I9 h9 e9 => Eq.mp (by rw [fnd_n (show ¬ isD s = true from fun z => Int32.not_lt.mpr c_29 (of_decide_eq_true z)), show tn1 A I s = tnsS (A2 12) (A2 13) (I2 11 5) (1 : Int32).toNatClampNeg s by rw [tns_sm hm]; rfl]) (hQ A9 I9 h9 (by rw [e9]; rw [fnd_n (show ¬ isD s = true from fun z => Int32.not_lt.mpr c_29 (of_decide_eq_true z)), show tn1 A I s = tnsS (A2 12) (A2 13) (I2 11 5) (1 : Int32).toNatClampNeg s by rw [tns_sm hm]; rfl])))
      · refine g_iload_n dX3_turnsToDeath_32 rfl rfl ?_
        exact g_iret dX3_turnsToDeath_33 (by have h9 := hQ A2 I2 hm (by rw [fnd_y (show isD s = true from decide_eq_true (Int32.not_le.mp c_29))]; exact hs1); rw [fnd_y (show isD s = true from decide_eq_true (Int32.not_le.mp c_29))] at h9; exact h9)
