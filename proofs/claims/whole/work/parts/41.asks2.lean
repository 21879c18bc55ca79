/-! leastFeed -/
def leP (A I : Nat → Nat → Int32) (n : Int32) (k : Nat) : Bool := decide (¬ allS (fc A I n.toNatClampNeg (fdS (A 20) (nI k))).1 = 0)
def leL (P : Nat → Bool) : Nat → Nat → Int32
  | 0, _ => (-1)
  | n + 1, k => if P k = true then nI k else leL P n (k + 1)
def leS (A I : Nat → Nat → Int32) (n : Int32) : Int32 := leL (leP A I n) 100 0
set_option maxHeartbeats 4000000 in
set_option maxRecDepth 100000 in
theorem w_least_loop {A : Nat → Nat → Int32} {L : Nat → Nat → Int64} {I : Nat → Nat → Int32} {X : Nat → Int64} {n0 : Int32} {Q : Option Value → m_H → Prop} : ∀ n k A2 I2, sm A L I A2 L I2 → n + k = 100 → (∀ A8 I8, sm A L I A8 L I8 → Q (some (.int (leL (leP A I n0) n k))) (hp A8 L I8 X)) → G 7 RX3 cX3_leastFeed 3 (some .int) Q 2 [some (.ref 27), some (.int n0), some (.int (nI k))] [] (hp A2 L I2 X) := by
  intro n
  induction n with
  | zero =>
    intro k A2 I2 hm hk hQ
    refine g_iload_n dX3_leastFeed_2 rfl rfl ?_
    refine g_bipush (v := 99) dX3_leastFeed_3 (by decide) ?_
    refine g_icmp_gt (tgt := 32) dX3_leastFeed_5 (by decide) (fun c_5 => ?_) (fun c_5 => ?_)
    · refine g_ic_m1 dX3_leastFeed_32 ?_
      exact g_iret dX3_leastFeed_33 (hQ A2 I2 hm)
    · exact absurd (lit_nlt (n := 99) (by decide) (by omega) c_5) (by omega)
  | succ n ih =>
    intro k A2 I2 hm hk hQ
    refine g_iload_n dX3_leastFeed_2 rfl rfl ?_
    refine g_bipush (v := 99) dX3_leastFeed_3 (by decide) ?_
    refine g_icmp_gt (tgt := 32) dX3_leastFeed_5 (by decide) (fun c_5 => ?_) (fun c_5 => ?_)
    · exact absurd (lit_lt (n := 99) (by decide) (by omega) c_5) (by omega)
    · refine g_aload_n dX3_leastFeed_8 rfl rfl ?_
      refine g_iload_n dX3_leastFeed_9 rfl rfl ?_
      refine g_iload_n dX3_leastFeed_10 rfl rfl ?_
      refine g_callV dX3_leastFeed_11 cv_X3_62 (as' := [_, _]) hp_27 rfl w_run (by decide) rfl rfl (Nat.le_of_ble_eq_true rfl) ?_
      rintro _ _ ⟨rfl, A1, I1, m1, e1, rfl⟩
      have e2 : A1 29 = (fc A I n0.toNatClampNeg (fdS (A 20) (nI k))).1 := by rw [show A1 29 = (A1 29, A1 30).1 from rfl, e1, fc_sm hm, hm.1 20 (by decide)]
      refine g_aload_n dX3_leastFeed_14 rfl rfl ?_
      refine g_get dX3_leastFeed_15 fl_X3_12 hp_27 rfl ?_
      refine g_callV dX3_leastFeed_18 cv_X3_65 (as' := []) hp_28 rfl (h_all isS_28) (by decide) rfl rfl (Nat.le_of_ble_eq_true rfl) ?_
      rintro _ _ ⟨rfl, rfl⟩
      rw [e2]
      refine g_if_eq (tgt := 26) dX3_leastFeed_21 (by decide) (fun c_21 => ?_) (fun c_21 => ?_)
      · refine g_iinc1 dX3_leastFeed_26 rfl (by decide) ?_
        refine g_goto (tgt := 2) dX3_leastFeed_29 (by decide) ?_
        rw [nI_1]
        exact ih (k + 1) A1 I1 (sm_tr hm m1) (by omega) (fun A8 I8 h8 => Eq.mp (congrArg (fun z => Q (some (Value.int z)) (hp A8 L I8 X)) (if_neg (fun z => (of_decide_eq_true z) c_21))) (hQ A8 I8 h8))
      · refine g_iload_n dX3_leastFeed_24 rfl rfl ?_
        exact g_iret dX3_leastFeed_25 (Eq.mp (congrArg (fun z => Q (some (Value.int z)) (hp A1 L I1 X)) (if_pos (decide_eq_true c_21))) (hQ A1 I1 (sm_tr hm m1)))

set_option maxHeartbeats 4000000 in
set_option maxRecDepth 100000 in
theorem w_least {A : Nat → Nat → Int32} {L : Nat → Nat → Int64} {I : Nat → Nat → Int32} {X : Nat → Int64} {n : Int32}  : Con 7 yX3_leastFeed cX3_leastFeed 3 (some .int) [.ref 27, .int n] (hp A L I X) (fun r_ H_ => r_ = some (.int (leS A I n)) ∧ ∃ A9 L9 I9, sm A L I A9 L9 I9 ∧ H_ = hp A9 L9 I9 X) := by
  refine m_con (by decide) (Nat.le_of_ble_eq_true rfl) ?_
  refine g_ic_0 dX3_leastFeed_0 ?_
  refine g_istore_n dX3_leastFeed_1 rfl (by decide) ?_
  exact w_least_loop (A := A) (L := L) (I := I) 100 0 A I sm_rf rfl (fun A8 I8 h8 => ⟨rfl, A8, L, I8, h8, rfl⟩)

def ruS (A I : Nat → Nat → Int32) (n : Int32) : Int32 := if I 0 12 = 0 ∨ n < 0 ∨ 3 < n then (-1) else gt 143 (A 20) n
set_option maxHeartbeats 4000000 in
set_option maxRecDepth 100000 in
theorem m_rule {A : Nat → Nat → Int32} {L : Nat → Nat → Int64} {I : Nat → Nat → Int32} {X : Nat → Int64} {n : Int32}  : Con 4 yX10_rule cX10_rule 2 (some .int) [.ref 0, .int n] (hp A L I X) (fun r_ H_ => r_ = some (.int (ruS A I n)) ∧ H_ = hp A L I X) := by
  refine m_con (by decide) (Nat.le_of_ble_eq_true rfl) ?_
  refine g_aload_n dX10_rule_0 rfl rfl ?_
  refine g_get dX10_rule_1 fl_X10_128 hp_0 rfl ?_
  refine g_if_eq (tgt := 27) dX10_rule_4 (by decide) (fun c_4 => ?_) (fun c_4 => ?_)
  · refine g_ic_m1 dX10_rule_27 ?_
    exact g_iret dX10_rule_28 ⟨by simp [ruS, c_4], rfl⟩
  · refine g_iload_n dX10_rule_7 rfl rfl ?_
    refine g_if_lt (tgt := 27) dX10_rule_8 (by decide) (fun c_8 => ?_) (fun c_8 => ?_)
    · refine g_ic_m1 dX10_rule_27 ?_
      exact g_iret dX10_rule_28 ⟨by simp [ruS, c_4, c_8], rfl⟩
    · refine g_iload_n dX10_rule_11 rfl rfl ?_
      refine g_ic_3 dX10_rule_12 ?_
      refine g_icmp_gt (tgt := 27) dX10_rule_13 (by decide) (fun c_13 => ?_) (fun c_13 => ?_)
      · refine g_ic_m1 dX10_rule_27 ?_
        exact g_iret dX10_rule_28 ⟨by simp [ruS, c_4, c_8, c_13], rfl⟩
      · refine g_aload_n dX10_rule_16 rfl rfl ?_
        refine g_get dX10_rule_17 fl_X10_46 hp_0 rfl ?_
        refine g_iload_n dX10_rule_20 rfl rfl ?_
        refine g_callV dX10_rule_21 cv_X10_135 (as' := [_]) hp_19 rfl (h_get isS_19) (by decide) rfl rfl (Nat.le_of_ble_eq_true rfl) ?_
        rintro _ _ ⟨rfl, rfl⟩
        refine g_goto (tgt := 28) dX10_rule_24 (by decide) ?_
        exact g_iret dX10_rule_28 ⟨by simp [ruS, c_4, c_8, c_13], rfl⟩

def moS (A : Nat → Nat → Int32) (m n : Int32) : Int32 := if hasM (A 20) m = 0 ∨ n < 0 ∨ 4 < n then (-1) else oM (A 20) m n
set_option maxHeartbeats 4000000 in
set_option maxRecDepth 100000 in
theorem m_month {A : Nat → Nat → Int32} {L : Nat → Nat → Int64} {I : Nat → Nat → Int32} {X : Nat → Int64} {m n : Int32}  : Con 4 yX10_month cX10_month 3 (some .int) [.ref 0, .int m, .int n] (hp A L I X) (fun r_ H_ => r_ = some (.int (moS A m n)) ∧ H_ = hp A L I X) := by
  refine m_con (by decide) (Nat.le_of_ble_eq_true rfl) ?_
  refine g_aload_n dX10_month_0 rfl rfl ?_
  refine g_get dX10_month_1 fl_X10_46 hp_0 rfl ?_
  refine g_iload_n dX10_month_4 rfl rfl ?_
  refine g_callV dX10_month_5 cv_X10_147 (as' := [_]) hp_19 rfl (h_hasMonth isS_19) (by decide) rfl rfl (Nat.le_of_ble_eq_true rfl) ?_
  rintro _ _ ⟨rfl, rfl⟩
  refine g_if_eq (tgt := 32) dX10_month_8 (by decide) (fun c_8 => ?_) (fun c_8 => ?_)
  · refine g_ic_m1 dX10_month_32 ?_
    exact g_iret dX10_month_33 ⟨by simp [moS, c_8], rfl⟩
  · refine g_iload_n dX10_month_11 rfl rfl ?_
    refine g_if_lt (tgt := 32) dX10_month_12 (by decide) (fun c_12 => ?_) (fun c_12 => ?_)
    · refine g_ic_m1 dX10_month_32 ?_
      exact g_iret dX10_month_33 ⟨by simp [moS, c_8, c_12], rfl⟩
    · refine g_iload_n dX10_month_15 rfl rfl ?_
      refine g_ic_4 dX10_month_16 ?_
      refine g_icmp_gt (tgt := 32) dX10_month_17 (by decide) (fun c_17 => ?_) (fun c_17 => ?_)
      · refine g_ic_m1 dX10_month_32 ?_
        exact g_iret dX10_month_33 ⟨by simp [moS, c_8, c_12, c_17], rfl⟩
      · refine g_aload_n dX10_month_20 rfl rfl ?_
        refine g_get dX10_month_21 fl_X10_46 hp_0 rfl ?_
        refine g_iload_n dX10_month_24 rfl rfl ?_
        refine g_iload_n dX10_month_25 rfl rfl ?_
        refine g_callV dX10_month_26 cv_X10_151 (as' := [_, _]) hp_19 rfl (h_oM isS_19) (by decide) rfl rfl (Nat.le_of_ble_eq_true rfl) ?_
        rintro _ _ ⟨rfl, rfl⟩
        refine g_goto (tgt := 33) dX10_month_29 (by decide) ?_
        exact g_iret dX10_month_33 ⟨by simp [moS, c_8, c_12, c_17], rfl⟩

def staS (A : Nat → Nat → Int32) (n : Int32) : Int32 := if n < 0 ∨ 5 ≤ n then (-1) else gt 5 (A 45) n
set_option maxHeartbeats 4000000 in
set_option maxRecDepth 100000 in
theorem m_status {A : Nat → Nat → Int32} {L : Nat → Nat → Int64} {I : Nat → Nat → Int32} {X : Nat → Int64} {n : Int32}  : Con 4 yX10_status cX10_status 2 (some .int) [.ref 0, .int n] (hp A L I X) (fun r_ H_ => r_ = some (.int (staS A n)) ∧ H_ = hp A L I X) := by
  refine m_con (by decide) (Nat.le_of_ble_eq_true rfl) ?_
  refine g_iload_n dX10_status_0 rfl rfl ?_
  refine g_if_lt (tgt := 20) dX10_status_1 (by decide) (fun c_1 => ?_) (fun c_1 => ?_)
  · refine g_ic_m1 dX10_status_20 ?_
    exact g_iret dX10_status_21 ⟨by simp [staS, c_1], rfl⟩
  · refine g_iload_n dX10_status_4 rfl rfl ?_
    refine g_ic_5 dX10_status_5 ?_
    refine g_icmp_ge (tgt := 20) dX10_status_6 (by decide) (fun c_6 => ?_) (fun c_6 => ?_)
    · refine g_ic_m1 dX10_status_20 ?_
      exact g_iret dX10_status_21 ⟨by simp [staS, c_1, c_6], rfl⟩
    · refine g_aload_n dX10_status_9 rfl rfl ?_
      refine g_get dX10_status_10 fl_X10_82 hp_0 rfl ?_
      refine g_iload_n dX10_status_13 rfl rfl ?_
      refine g_callS dX10_status_14 cs_X10_175 (as := [_, _]) (k_cell (Hp := _) (q := 45) ha_45 (by decide)) (by decide) rfl rfl (Nat.le_of_ble_eq_true rfl) ?_
      rintro _ _ ⟨rfl, rfl⟩
      refine g_goto (tgt := 21) dX10_status_17 (by decide) ?_
      exact g_iret dX10_status_21 ⟨by simp [staS, c_1, c_6], rfl⟩

def loG (A : Nat → Nat → Int32) (i n : Int32) : Int32 := if i < 0 ∨ gt 143 (A 20) 11 ≤ i ∨ n < 0 ∨ 3 < n then (-1) else lgF (A 20) i n
set_option maxHeartbeats 4000000 in
set_option maxRecDepth 100000 in
theorem m_log {A : Nat → Nat → Int32} {L : Nat → Nat → Int64} {I : Nat → Nat → Int32} {X : Nat → Int64} {i n : Int32}  : Con 4 yX10_log cX10_log 3 (some .int) [.ref 0, .int i, .int n] (hp A L I X) (fun r_ H_ => r_ = some (.int (loG A i n)) ∧ H_ = hp A L I X) := by
  refine m_con (by decide) (Nat.le_of_ble_eq_true rfl) ?_
  refine g_iload_n dX10_log_0 rfl rfl ?_
  refine g_if_lt (tgt := 38) dX10_log_1 (by decide) (fun c_1 => ?_) (fun c_1 => ?_)
  · refine g_ic_m1 dX10_log_38 ?_
    exact g_iret dX10_log_39 ⟨by simp [loG, c_1], rfl⟩
  · refine g_iload_n dX10_log_4 rfl rfl ?_
    refine g_aload_n dX10_log_5 rfl rfl ?_
    refine g_get dX10_log_6 fl_X10_46 hp_0 rfl ?_
    refine g_bipush (v := 11) dX10_log_9 (by decide) ?_
    refine g_callV dX10_log_11 cv_X10_135 (as' := [_]) hp_19 rfl (h_get isS_19) (by decide) rfl rfl (Nat.le_of_ble_eq_true rfl) ?_
    rintro _ _ ⟨rfl, rfl⟩
    refine g_icmp_ge (tgt := 38) dX10_log_14 (by decide) (fun c_14 => ?_) (fun c_14 => ?_)
    · refine g_ic_m1 dX10_log_38 ?_
      exact g_iret dX10_log_39 ⟨by simp [loG, c_1, c_14], rfl⟩
    · refine g_iload_n dX10_log_17 rfl rfl ?_
      refine g_if_lt (tgt := 38) dX10_log_18 (by decide) (fun c_18 => ?_) (fun c_18 => ?_)
      · refine g_ic_m1 dX10_log_38 ?_
        exact g_iret dX10_log_39 ⟨by simp [loG, c_1, c_14, c_18], rfl⟩
      · refine g_iload_n dX10_log_21 rfl rfl ?_
        refine g_ic_3 dX10_log_22 ?_
        refine g_icmp_gt (tgt := 38) dX10_log_23 (by decide) (fun c_23 => ?_) (fun c_23 => ?_)
        · refine g_ic_m1 dX10_log_38 ?_
          exact g_iret dX10_log_39 ⟨by simp [loG, c_1, c_14, c_18, c_23], rfl⟩
        · refine g_aload_n dX10_log_26 rfl rfl ?_
          refine g_get dX10_log_27 fl_X10_46 hp_0 rfl ?_
          refine g_iload_n dX10_log_30 rfl rfl ?_
          refine g_iload_n dX10_log_31 rfl rfl ?_
          refine g_callV dX10_log_32 cv_X10_178 (as' := [_, _]) hp_19 rfl (h_logged isS_19) (by decide) rfl rfl (Nat.le_of_ble_eq_true rfl) ?_
          rintro _ _ ⟨rfl, rfl⟩
          refine g_goto (tgt := 39) dX10_log_35 (by decide) ?_
          exact g_iret dX10_log_39 ⟨by simp [loG, c_1, c_14, c_18, c_23], rfl⟩

def yeS (A I : Nat → Nat → Int32) : Int32 := if I 0 12 = 0 then (-1) else daysS (A 20)
set_option maxHeartbeats 4000000 in
set_option maxRecDepth 100000 in
theorem m_year {A : Nat → Nat → Int32} {L : Nat → Nat → Int64} {I : Nat → Nat → Int32} {X : Nat → Int64}   : Con 4 yX10_year cX10_year 1 (some .int) [.ref 0] (hp A L I X) (fun r_ H_ => r_ = some (.int (yeS A I)) ∧ H_ = hp A L I X) := by
  refine m_con (by decide) (Nat.le_of_ble_eq_true rfl) ?_
  refine g_aload_n dX10_year_0 rfl rfl ?_
  refine g_get dX10_year_1 fl_X10_128 hp_0 rfl ?_
  refine g_if_eq (tgt := 17) dX10_year_4 (by decide) (fun c_4 => ?_) (fun c_4 => ?_)
  · refine g_ic_m1 dX10_year_17 ?_
    exact g_iret dX10_year_18 ⟨by simp [yeS, c_4], rfl⟩
  · refine g_aload_n dX10_year_7 rfl rfl ?_
    refine g_get dX10_year_8 fl_X10_46 hp_0 rfl ?_
    refine g_callV dX10_year_11 cv_X10_181 (as' := []) hp_19 rfl (h_days isS_19) (by decide) rfl rfl (Nat.le_of_ble_eq_true rfl) ?_
    rintro _ _ ⟨rfl, rfl⟩
    refine g_goto (tgt := 18) dX10_year_14 (by decide) ?_
    exact g_iret dX10_year_18 ⟨by simp [yeS, c_4], rfl⟩

def leV (A : Nat → Nat → Int32) (m n : Int32) : Int32 := if hasM (A 20) m = 0 ∨ hasM (A 20) n = 0 then (-1) else levelS (A 20) m n
set_option maxHeartbeats 4000000 in
set_option maxRecDepth 100000 in
theorem m_level {A : Nat → Nat → Int32} {L : Nat → Nat → Int64} {I : Nat → Nat → Int32} {X : Nat → Int64} {m n : Int32}  : Con 4 yX10_level cX10_level 3 (some .int) [.ref 0, .int m, .int n] (hp A L I X) (fun r_ H_ => r_ = some (.int (leV A m n)) ∧ H_ = hp A L I X) := by
  refine m_con (by decide) (Nat.le_of_ble_eq_true rfl) ?_
  refine g_aload_n dX10_level_0 rfl rfl ?_
  refine g_get dX10_level_1 fl_X10_46 hp_0 rfl ?_
  refine g_iload_n dX10_level_4 rfl rfl ?_
  refine g_callV dX10_level_5 cv_X10_147 (as' := [_]) hp_19 rfl (h_hasMonth isS_19) (by decide) rfl rfl (Nat.le_of_ble_eq_true rfl) ?_
  rintro _ _ ⟨rfl, rfl⟩
  refine g_if_eq (tgt := 34) dX10_level_8 (by decide) (fun c_8 => ?_) (fun c_8 => ?_)
  · refine g_ic_m1 dX10_level_34 ?_
    exact g_iret dX10_level_35 ⟨by simp [leV, c_8], rfl⟩
  · refine g_aload_n dX10_level_11 rfl rfl ?_
    refine g_get dX10_level_12 fl_X10_46 hp_0 rfl ?_
    refine g_iload_n dX10_level_15 rfl rfl ?_
    refine g_callV dX10_level_16 cv_X10_147 (as' := [_]) hp_19 rfl (h_hasMonth isS_19) (by decide) rfl rfl (Nat.le_of_ble_eq_true rfl) ?_
    rintro _ _ ⟨rfl, rfl⟩
    refine g_if_eq (tgt := 34) dX10_level_19 (by decide) (fun c_19 => ?_) (fun c_19 => ?_)
    · refine g_ic_m1 dX10_level_34 ?_
      exact g_iret dX10_level_35 ⟨by simp [leV, c_8, c_19], rfl⟩
    · refine g_aload_n dX10_level_22 rfl rfl ?_
      refine g_get dX10_level_23 fl_X10_46 hp_0 rfl ?_
      refine g_iload_n dX10_level_26 rfl rfl ?_
      refine g_iload_n dX10_level_27 rfl rfl ?_
      refine g_callV dX10_level_28 cv_X10_184 (as' := [_, _]) hp_19 rfl (h_level isS_19) (by decide) rfl rfl (Nat.le_of_ble_eq_true rfl) ?_
      rintro _ _ ⟨rfl, rfl⟩
      refine g_goto (tgt := 35) dX10_level_31 (by decide) ?_
      exact g_iret dX10_level_35 ⟨by simp [leV, c_8, c_19], rfl⟩

def woS (A I : Nat → Nat → Int32) : Int32 := if I 0 12 = 0 then (-1) else unrS (A 20)
set_option maxHeartbeats 4000000 in
set_option maxRecDepth 100000 in
theorem m_worths {A : Nat → Nat → Int32} {L : Nat → Nat → Int64} {I : Nat → Nat → Int32} {X : Nat → Int64}   : Con 4 yX10_worths cX10_worths 1 (some .int) [.ref 0] (hp A L I X) (fun r_ H_ => r_ = some (.int (woS A I)) ∧ H_ = hp A L I X) := by
  refine m_con (by decide) (Nat.le_of_ble_eq_true rfl) ?_
  refine g_aload_n dX10_worths_0 rfl rfl ?_
  refine g_get dX10_worths_1 fl_X10_128 hp_0 rfl ?_
  refine g_if_eq (tgt := 17) dX10_worths_4 (by decide) (fun c_4 => ?_) (fun c_4 => ?_)
  · refine g_ic_m1 dX10_worths_17 ?_
    exact g_iret dX10_worths_18 ⟨by simp [woS, c_4], rfl⟩
  · refine g_aload_n dX10_worths_7 rfl rfl ?_
    refine g_get dX10_worths_8 fl_X10_46 hp_0 rfl ?_
    refine g_callV dX10_worths_11 cv_X10_196 (as' := []) hp_19 rfl (h_unr isS_19) (by decide) rfl rfl (Nat.le_of_ble_eq_true rfl) ?_
    rintro _ _ ⟨rfl, rfl⟩
    refine g_goto (tgt := 18) dX10_worths_14 (by decide) ?_
    exact g_iret dX10_worths_18 ⟨by simp [woS, c_4], rfl⟩

def ahS (A I : Nat → Nat → Int32) (n w p : Int32) : Int32 := if I 0 12 = 0 ∨ n < 0 ∨ 60 < n ∨ p < 0 ∨ ¬ p ≤ 1 then (-1) else gt 143 (fc A I n.toNatClampNeg (othS (A 20) w)).1 (if p = 0 then 5 else 6)
set_option maxHeartbeats 4000000 in
set_option maxRecDepth 100000 in
theorem m_ahead {A : Nat → Nat → Int32} {L : Nat → Nat → Int64} {I : Nat → Nat → Int32} {X : Nat → Int64} {n w p : Int32}  : Con 8 yX10_ahead cX10_ahead 4 (some .int) [.ref 0, .int n, .int w, .int p] (hp A L I X) (fun r_ H_ => r_ = some (.int (ahS A I n w p)) ∧ ∃ A9 L9 I9, sm A L I A9 L9 I9 ∧ H_ = hp A9 L9 I9 X) := by
  refine m_con (by decide) (Nat.le_of_ble_eq_true rfl) ?_
  refine g_aload_n dX10_ahead_0 rfl rfl ?_
  refine g_get dX10_ahead_1 fl_X10_128 hp_0 rfl ?_
  refine g_if_eq (tgt := 26) dX10_ahead_4 (by decide) (fun c_4 => ?_) (fun c_4 => ?_)
  · refine g_ic_m1 dX10_ahead_26 ?_
    exact g_iret dX10_ahead_27 (by first | exact ⟨by simp [ahS, c_4], A9, L9, I9, h9, rfl⟩ | exact ⟨by simp [ahS, c_4], A, L, I, sm_rf, rfl⟩)
  · refine g_iload_n dX10_ahead_7 rfl rfl ?_
    refine g_if_lt (tgt := 26) dX10_ahead_8 (by decide) (fun c_8 => ?_) (fun c_8 => ?_)
    · refine g_ic_m1 dX10_ahead_26 ?_
      exact g_iret dX10_ahead_27 (by first | exact ⟨by simp [ahS, c_4, c_8], A9, L9, I9, h9, rfl⟩ | exact ⟨by simp [ahS, c_4, c_8], A, L, I, sm_rf, rfl⟩)
    · refine g_iload_n dX10_ahead_11 rfl rfl ?_
      refine g_bipush (v := 60) dX10_ahead_12 (by decide) ?_
      refine g_icmp_gt (tgt := 26) dX10_ahead_14 (by decide) (fun c_14 => ?_) (fun c_14 => ?_)
      · refine g_ic_m1 dX10_ahead_26 ?_
        exact g_iret dX10_ahead_27 (by first | exact ⟨by simp [ahS, c_4, c_8, c_14], A9, L9, I9, h9, rfl⟩ | exact ⟨by simp [ahS, c_4, c_8, c_14], A, L, I, sm_rf, rfl⟩)
      · refine g_iload_n dX10_ahead_17 rfl rfl ?_
        refine g_if_lt (tgt := 26) dX10_ahead_18 (by decide) (fun c_18 => ?_) (fun c_18 => ?_)
        · refine g_ic_m1 dX10_ahead_26 ?_
          exact g_iret dX10_ahead_27 (by first | exact ⟨by simp [ahS, c_4, c_8, c_14, c_18], A9, L9, I9, h9, rfl⟩ | exact ⟨by simp [ahS, c_4, c_8, c_14, c_18], A, L, I, sm_rf, rfl⟩)
        · refine g_iload_n dX10_ahead_21 rfl rfl ?_
          refine g_ic_1 dX10_ahead_22 ?_
          refine g_icmp_le (tgt := 28) dX10_ahead_23 (by decide) (fun c_23 => ?_) (fun c_23 => ?_)
          · refine g_aload_n dX10_ahead_28 rfl rfl ?_
            refine g_get dX10_ahead_29 fl_X10_64 hp_0 rfl ?_
            refine g_iload_n dX10_ahead_32 rfl rfl ?_
            refine g_iload_n dX10_ahead_33 rfl rfl ?_
            refine g_iload_n dX10_ahead_34 rfl rfl ?_
            refine g_if_ne (tgt := 42) dX10_ahead_35 (by decide) (fun c_35 => ?_) (fun c_35 => ?_)
            · refine g_bipush (v := 6) dX10_ahead_42 (by decide) ?_
              refine g_callV dX10_ahead_44 cv_X10_258 (as' := [_, _, _]) hp_27 rfl w_place (by decide) rfl rfl (Nat.le_of_ble_eq_true rfl) ?_
              rintro _ _ ⟨rfl, A9, L9, I9, h9, rfl⟩
              exact g_iret dX10_ahead_47 (by first | exact ⟨by simp [ahS, c_4, c_8, c_14, c_18, c_23, c_35], A9, L9, I9, h9, rfl⟩ | exact ⟨by simp [ahS, c_4, c_8, c_14, c_18, c_23, c_35], A, L, I, sm_rf, rfl⟩)
            · refine g_ic_5 dX10_ahead_38 ?_
              refine g_goto (tgt := 44) dX10_ahead_39 (by decide) ?_
              refine g_callV dX10_ahead_44 cv_X10_258 (as' := [_, _, _]) hp_27 rfl w_place (by decide) rfl rfl (Nat.le_of_ble_eq_true rfl) ?_
              rintro _ _ ⟨rfl, A9, L9, I9, h9, rfl⟩
              exact g_iret dX10_ahead_47 (by first | exact ⟨by simp [ahS, c_4, c_8, c_14, c_18, c_23, c_35], A9, L9, I9, h9, rfl⟩ | exact ⟨by simp [ahS, c_4, c_8, c_14, c_18, c_23, c_35], A, L, I, sm_rf, rfl⟩)
          · refine g_ic_m1 dX10_ahead_26 ?_
            exact g_iret dX10_ahead_27 (by first | exact ⟨by simp [ahS, c_4, c_8, c_14, c_18, c_23], A9, L9, I9, h9, rfl⟩ | exact ⟨by simp [ahS, c_4, c_8, c_14, c_18, c_23], A, L, I, sm_rf, rfl⟩)

def sonS (A I : Nat → Nat → Int32) (m : Int32) : Int32 := if hasM (A 20) m = 0 then (-1) else (soS A I m).1
set_option maxHeartbeats 4000000 in
set_option maxRecDepth 100000 in
theorem m_soonest {A : Nat → Nat → Int32} {L : Nat → Nat → Int64} {I : Nat → Nat → Int32} {X : Nat → Int64} {m : Int32}  : Con 8 yX10_soonest cX10_soonest 2 (some .int) [.ref 0, .int m] (hp A L I X) (fun r_ H_ => r_ = some (.int (sonS A I m)) ∧ ∃ A9 L9 I9, sm A L I A9 L9 I9 ∧ H_ = hp A9 L9 I9 X) := by
  refine m_con (by decide) (Nat.le_of_ble_eq_true rfl) ?_
  refine g_aload_n dX10_soonest_0 rfl rfl ?_
  refine g_get dX10_soonest_1 fl_X10_46 hp_0 rfl ?_
  refine g_iload_n dX10_soonest_4 rfl rfl ?_
  refine g_callV dX10_soonest_5 cv_X10_147 (as' := [_]) hp_19 rfl (h_hasMonth isS_19) (by decide) rfl rfl (Nat.le_of_ble_eq_true rfl) ?_
  rintro _ _ ⟨rfl, rfl⟩
  refine g_if_eq (tgt := 22) dX10_soonest_8 (by decide) (fun c_8 => ?_) (fun c_8 => ?_)
  · refine g_ic_m1 dX10_soonest_22 ?_
    exact g_iret dX10_soonest_23 (by first | exact ⟨by simp [sonS, c_8], A9, L9, I9, h9, rfl⟩ | exact ⟨by simp [sonS, c_8], A, L, I, sm_rf, rfl⟩)
  · refine g_aload_n dX10_soonest_11 rfl rfl ?_
    refine g_get dX10_soonest_12 fl_X10_64 hp_0 rfl ?_
    refine g_iload_n dX10_soonest_15 rfl rfl ?_
    refine g_callV dX10_soonest_16 cv_X10_262 (as' := [_]) hp_27 rfl w_to (by decide) rfl rfl (Nat.le_of_ble_eq_true rfl) ?_
    rintro _ _ ⟨rfl, A9, L9, I9, h9, rfl⟩
    refine g_goto (tgt := 23) dX10_soonest_19 (by decide) ?_
    exact g_iret dX10_soonest_23 (by first | exact ⟨by simp [sonS, c_8], A9, L9, I9, h9, rfl⟩ | exact ⟨by simp [sonS, c_8], A, L, I, sm_rf, rfl⟩)

def lstS (A I : Nat → Nat → Int32) (n : Int32) : Int32 := if I 0 12 = 0 ∨ n < 1 ∨ 60 < n then (-1) else leS A I n
set_option maxHeartbeats 4000000 in
set_option maxRecDepth 100000 in
theorem m_least {A : Nat → Nat → Int32} {L : Nat → Nat → Int64} {I : Nat → Nat → Int32} {X : Nat → Int64} {n : Int32}  : Con 8 yX10_least cX10_least 2 (some .int) [.ref 0, .int n] (hp A L I X) (fun r_ H_ => r_ = some (.int (lstS A I n)) ∧ ∃ A9 L9 I9, sm A L I A9 L9 I9 ∧ H_ = hp A9 L9 I9 X) := by
  refine m_con (by decide) (Nat.le_of_ble_eq_true rfl) ?_
  refine g_aload_n dX10_least_0 rfl rfl ?_
  refine g_get dX10_least_1 fl_X10_128 hp_0 rfl ?_
  refine g_if_eq (tgt := 29) dX10_least_4 (by decide) (fun c_4 => ?_) (fun c_4 => ?_)
  · refine g_ic_m1 dX10_least_29 ?_
    exact g_iret dX10_least_30 (by first | exact ⟨by simp [lstS, c_4], A9, L9, I9, h9, rfl⟩ | exact ⟨by simp [lstS, c_4], A, L, I, sm_rf, rfl⟩)
  · refine g_iload_n dX10_least_7 rfl rfl ?_
    refine g_ic_1 dX10_least_8 ?_
    refine g_icmp_lt (tgt := 29) dX10_least_9 (by decide) (fun c_9 => ?_) (fun c_9 => ?_)
    · refine g_ic_m1 dX10_least_29 ?_
      exact g_iret dX10_least_30 (by first | exact ⟨by simp [lstS, c_4, c_9], A9, L9, I9, h9, rfl⟩ | exact ⟨by simp [lstS, c_4, c_9], A, L, I, sm_rf, rfl⟩)
    · refine g_iload_n dX10_least_12 rfl rfl ?_
      refine g_bipush (v := 60) dX10_least_13 (by decide) ?_
      refine g_icmp_gt (tgt := 29) dX10_least_15 (by decide) (fun c_15 => ?_) (fun c_15 => ?_)
      · refine g_ic_m1 dX10_least_29 ?_
        exact g_iret dX10_least_30 (by first | exact ⟨by simp [lstS, c_4, c_9, c_15], A9, L9, I9, h9, rfl⟩ | exact ⟨by simp [lstS, c_4, c_9, c_15], A, L, I, sm_rf, rfl⟩)
      · refine g_aload_n dX10_least_18 rfl rfl ?_
        refine g_get dX10_least_19 fl_X10_64 hp_0 rfl ?_
        refine g_iload_n dX10_least_22 rfl rfl ?_
        refine g_callV dX10_least_23 cv_X10_265 (as' := [_]) hp_27 rfl w_least (by decide) rfl rfl (Nat.le_of_ble_eq_true rfl) ?_
        rintro _ _ ⟨rfl, A9, L9, I9, h9, rfl⟩
        refine g_goto (tgt := 30) dX10_least_26 (by decide) ?_
        exact g_iret dX10_least_30 (by first | exact ⟨by simp [lstS, c_4, c_9, c_15], A9, L9, I9, h9, rfl⟩ | exact ⟨by simp [lstS, c_4, c_9, c_15], A, L, I, sm_rf, rfl⟩)

def rpnS (A I : Nat → Nat → Int32) (m : Int32) : Int32 := if hasC (A 20) m = 0 then (-1) else rpS A I m
set_option maxHeartbeats 4000000 in
set_option maxRecDepth 100000 in
theorem m_ripens {A : Nat → Nat → Int32} {L : Nat → Nat → Int64} {I : Nat → Nat → Int32} {X : Nat → Int64} {m : Int32}  : Con 8 yX10_ripens cX10_ripens 2 (some .int) [.ref 0, .int m] (hp A L I X) (fun r_ H_ => r_ = some (.int (rpnS A I m)) ∧ ∃ A9 L9 I9, sm A L I A9 L9 I9 ∧ H_ = hp A9 L9 I9 X) := by
  refine m_con (by decide) (Nat.le_of_ble_eq_true rfl) ?_
  refine g_aload_n dX10_ripens_0 rfl rfl ?_
  refine g_get dX10_ripens_1 fl_X10_46 hp_0 rfl ?_
  refine g_iload_n dX10_ripens_4 rfl rfl ?_
  refine g_callV dX10_ripens_5 cv_X10_155 (as' := [_]) hp_19 rfl (h_hasCrop isS_19) (by decide) rfl rfl (Nat.le_of_ble_eq_true rfl) ?_
  rintro _ _ ⟨rfl, rfl⟩
  refine g_if_eq (tgt := 22) dX10_ripens_8 (by decide) (fun c_8 => ?_) (fun c_8 => ?_)
  · refine g_ic_m1 dX10_ripens_22 ?_
    exact g_iret dX10_ripens_23 (by first | exact ⟨by simp [rpnS, c_8], A9, L9, I9, h9, rfl⟩ | exact ⟨by simp [rpnS, c_8], A, L, I, sm_rf, rfl⟩)
  · refine g_aload_n dX10_ripens_11 rfl rfl ?_
    refine g_get dX10_ripens_12 fl_X10_64 hp_0 rfl ?_
    refine g_iload_n dX10_ripens_15 rfl rfl ?_
    refine g_callV dX10_ripens_16 cv_X10_268 (as' := [_]) hp_27 rfl w_toRipe (by decide) rfl rfl (Nat.le_of_ble_eq_true rfl) ?_
    rintro _ _ ⟨rfl, A9, L9, I9, h9, rfl⟩
    refine g_goto (tgt := 23) dX10_ripens_19 (by decide) ?_
    exact g_iret dX10_ripens_23 (by first | exact ⟨by simp [rpnS, c_8], A9, L9, I9, h9, rfl⟩ | exact ⟨by simp [rpnS, c_8], A, L, I, sm_rf, rfl⟩)

def shaS (A I : Nat → Nat → Int32) (m n c : Int32) : Int32 := if hasM (A 20) m = 0 ∨ n < 1 ∨ 60 < n ∨ c < 0 ∨ ¬ c ≤ 999 then (-1) else shS A I m n c
set_option maxHeartbeats 4000000 in
set_option maxRecDepth 100000 in
theorem m_shares {A : Nat → Nat → Int32} {L : Nat → Nat → Int64} {I : Nat → Nat → Int32} {X : Nat → Int64} {m n c : Int32}  : Con 8 yX10_shares cX10_shares 4 (some .int) [.ref 0, .int m, .int n, .int c] (hp A L I X) (fun r_ H_ => r_ = some (.int (shaS A I m n c)) ∧ ∃ A9 L9 I9, sm A L I A9 L9 I9 ∧ H_ = hp A9 L9 I9 X) := by
  refine m_con (by decide) (Nat.le_of_ble_eq_true rfl) ?_
  refine g_aload_n dX10_shares_0 rfl rfl ?_
  refine g_get dX10_shares_1 fl_X10_46 hp_0 rfl ?_
  refine g_iload_n dX10_shares_4 rfl rfl ?_
  refine g_callV dX10_shares_5 cv_X10_147 (as' := [_]) hp_19 rfl (h_hasMonth isS_19) (by decide) rfl rfl (Nat.le_of_ble_eq_true rfl) ?_
  rintro _ _ ⟨rfl, rfl⟩
  refine g_if_eq (tgt := 33) dX10_shares_8 (by decide) (fun c_8 => ?_) (fun c_8 => ?_)
  · refine g_ic_m1 dX10_shares_33 ?_
    exact g_iret dX10_shares_34 (by first | exact ⟨by simp [shaS, c_8], A9, L9, I9, h9, rfl⟩ | exact ⟨by simp [shaS, c_8], A, L, I, sm_rf, rfl⟩)
  · refine g_iload_n dX10_shares_11 rfl rfl ?_
    refine g_ic_1 dX10_shares_12 ?_
    refine g_icmp_lt (tgt := 33) dX10_shares_13 (by decide) (fun c_13 => ?_) (fun c_13 => ?_)
    · refine g_ic_m1 dX10_shares_33 ?_
      exact g_iret dX10_shares_34 (by first | exact ⟨by simp [shaS, c_8, c_13], A9, L9, I9, h9, rfl⟩ | exact ⟨by simp [shaS, c_8, c_13], A, L, I, sm_rf, rfl⟩)
    · refine g_iload_n dX10_shares_16 rfl rfl ?_
      refine g_bipush (v := 60) dX10_shares_17 (by decide) ?_
      refine g_icmp_gt (tgt := 33) dX10_shares_19 (by decide) (fun c_19 => ?_) (fun c_19 => ?_)
      · refine g_ic_m1 dX10_shares_33 ?_
        exact g_iret dX10_shares_34 (by first | exact ⟨by simp [shaS, c_8, c_13, c_19], A9, L9, I9, h9, rfl⟩ | exact ⟨by simp [shaS, c_8, c_13, c_19], A, L, I, sm_rf, rfl⟩)
      · refine g_iload_n dX10_shares_22 rfl rfl ?_
        refine g_if_lt (tgt := 33) dX10_shares_23 (by decide) (fun c_23 => ?_) (fun c_23 => ?_)
        · refine g_ic_m1 dX10_shares_33 ?_
          exact g_iret dX10_shares_34 (by first | exact ⟨by simp [shaS, c_8, c_13, c_19, c_23], A9, L9, I9, h9, rfl⟩ | exact ⟨by simp [shaS, c_8, c_13, c_19, c_23], A, L, I, sm_rf, rfl⟩)
        · refine g_iload_n dX10_shares_26 rfl rfl ?_
          refine g_sipush (v := 999) dX10_shares_27 (by decide) ?_
          refine g_icmp_le (tgt := 35) dX10_shares_30 (by decide) (fun c_30 => ?_) (fun c_30 => ?_)
          · refine g_aload_n dX10_shares_35 rfl rfl ?_
            refine g_get dX10_shares_36 fl_X10_64 hp_0 rfl ?_
            refine g_iload_n dX10_shares_39 rfl rfl ?_
            refine g_iload_n dX10_shares_40 rfl rfl ?_
            refine g_iload_n dX10_shares_41 rfl rfl ?_
            refine g_callV dX10_shares_42 cv_X10_292 (as' := [_, _, _]) hp_27 rfl w_share (by decide) rfl rfl (Nat.le_of_ble_eq_true rfl) ?_
            rintro _ _ ⟨rfl, A9, L9, I9, h9, rfl⟩
            exact g_iret dX10_shares_45 (by first | exact ⟨by simp [shaS, c_8, c_13, c_19, c_23, c_30], A9, L9, I9, h9, rfl⟩ | exact ⟨by simp [shaS, c_8, c_13, c_19, c_23, c_30], A, L, I, sm_rf, rfl⟩)
          · refine g_ic_m1 dX10_shares_33 ?_
            exact g_iret dX10_shares_34 (by first | exact ⟨by simp [shaS, c_8, c_13, c_19, c_23, c_30], A9, L9, I9, h9, rfl⟩ | exact ⟨by simp [shaS, c_8, c_13, c_19, c_23, c_30], A, L, I, sm_rf, rfl⟩)

def ridS (A I : Nat → Nat → Int32) (m n : Int32) : Int32 := if hasM (A 20) m = 0 ∨ hasM (A 20) n = 0 ∨ m = n then (-1) else riS A I m n
set_option maxHeartbeats 4000000 in
set_option maxRecDepth 100000 in
theorem m_ride {A : Nat → Nat → Int32} {L : Nat → Nat → Int64} {I : Nat → Nat → Int32} {X : Nat → Int64} {m n : Int32}  : Con 8 yX10_ride cX10_ride 3 (some .int) [.ref 0, .int m, .int n] (hp A L I X) (fun r_ H_ => r_ = some (.int (ridS A I m n)) ∧ ∃ A9 L9 I9, sm A L I A9 L9 I9 ∧ H_ = hp A9 L9 I9 X) := by
  refine m_con (by decide) (Nat.le_of_ble_eq_true rfl) ?_
  refine g_aload_n dX10_ride_0 rfl rfl ?_
  refine g_get dX10_ride_1 fl_X10_46 hp_0 rfl ?_
  refine g_iload_n dX10_ride_4 rfl rfl ?_
  refine g_callV dX10_ride_5 cv_X10_147 (as' := [_]) hp_19 rfl (h_hasMonth isS_19) (by decide) rfl rfl (Nat.le_of_ble_eq_true rfl) ?_
  rintro _ _ ⟨rfl, rfl⟩
  refine g_if_eq (tgt := 39) dX10_ride_8 (by decide) (fun c_8 => ?_) (fun c_8 => ?_)
  · refine g_ic_m1 dX10_ride_39 ?_
    exact g_iret dX10_ride_40 (by first | exact ⟨by simp [ridS, c_8], A9, L9, I9, h9, rfl⟩ | exact ⟨by simp [ridS, c_8], A, L, I, sm_rf, rfl⟩)
  · refine g_aload_n dX10_ride_11 rfl rfl ?_
    refine g_get dX10_ride_12 fl_X10_46 hp_0 rfl ?_
    refine g_iload_n dX10_ride_15 rfl rfl ?_
    refine g_callV dX10_ride_16 cv_X10_147 (as' := [_]) hp_19 rfl (h_hasMonth isS_19) (by decide) rfl rfl (Nat.le_of_ble_eq_true rfl) ?_
    rintro _ _ ⟨rfl, rfl⟩
    refine g_if_eq (tgt := 39) dX10_ride_19 (by decide) (fun c_19 => ?_) (fun c_19 => ?_)
    · refine g_ic_m1 dX10_ride_39 ?_
      exact g_iret dX10_ride_40 (by first | exact ⟨by simp [ridS, c_8, c_19], A9, L9, I9, h9, rfl⟩ | exact ⟨by simp [ridS, c_8, c_19], A, L, I, sm_rf, rfl⟩)
    · refine g_iload_n dX10_ride_22 rfl rfl ?_
      refine g_iload_n dX10_ride_23 rfl rfl ?_
      refine g_icmp_eq (tgt := 39) dX10_ride_24 (by decide) (fun c_24 => ?_) (fun c_24 => ?_)
      · refine g_ic_m1 dX10_ride_39 ?_
        exact g_iret dX10_ride_40 (by first | exact ⟨by simp [ridS, c_8, c_19, c_24], A9, L9, I9, h9, rfl⟩ | exact ⟨by simp [ridS, c_8, c_19, c_24], A, L, I, sm_rf, rfl⟩)
      · refine g_aload_n dX10_ride_27 rfl rfl ?_
        refine g_get dX10_ride_28 fl_X10_64 hp_0 rfl ?_
        refine g_iload_n dX10_ride_31 rfl rfl ?_
        refine g_iload_n dX10_ride_32 rfl rfl ?_
        refine g_callV dX10_ride_33 cv_X10_295 (as' := [_, _]) hp_27 rfl w_ride (by decide) rfl rfl (Nat.le_of_ble_eq_true rfl) ?_
        rintro _ _ ⟨rfl, A9, L9, I9, h9, rfl⟩
        refine g_goto (tgt := 40) dX10_ride_36 (by decide) ?_
        exact g_iret dX10_ride_40 (by first | exact ⟨by simp [ridS, c_8, c_19, c_24], A9, L9, I9, h9, rfl⟩ | exact ⟨by simp [ridS, c_8, c_19, c_24], A, L, I, sm_rf, rfl⟩)

def nevS (A I : Nat → Nat → Int32) (n : Int32) : Int32 := if I 0 12 = 0 ∨ n < 1 ∨ 60 < n then (-1) else nvS A I n
set_option maxHeartbeats 4000000 in
set_option maxRecDepth 100000 in
theorem m_never {A : Nat → Nat → Int32} {L : Nat → Nat → Int64} {I : Nat → Nat → Int32} {X : Nat → Int64} {n : Int32}  : Con 8 yX10_never cX10_never 2 (some .int) [.ref 0, .int n] (hp A L I X) (fun r_ H_ => r_ = some (.int (nevS A I n)) ∧ ∃ A9 L9 I9, sm A L I A9 L9 I9 ∧ H_ = hp A9 L9 I9 X) := by
  refine m_con (by decide) (Nat.le_of_ble_eq_true rfl) ?_
  refine g_aload_n dX10_never_0 rfl rfl ?_
  refine g_get dX10_never_1 fl_X10_128 hp_0 rfl ?_
  refine g_if_eq (tgt := 29) dX10_never_4 (by decide) (fun c_4 => ?_) (fun c_4 => ?_)
  · refine g_ic_m1 dX10_never_29 ?_
    exact g_iret dX10_never_30 (by first | exact ⟨by simp [nevS, c_4], A9, L9, I9, h9, rfl⟩ | exact ⟨by simp [nevS, c_4], A, L, I, sm_rf, rfl⟩)
  · refine g_iload_n dX10_never_7 rfl rfl ?_
    refine g_ic_1 dX10_never_8 ?_
    refine g_icmp_lt (tgt := 29) dX10_never_9 (by decide) (fun c_9 => ?_) (fun c_9 => ?_)
    · refine g_ic_m1 dX10_never_29 ?_
      exact g_iret dX10_never_30 (by first | exact ⟨by simp [nevS, c_4, c_9], A9, L9, I9, h9, rfl⟩ | exact ⟨by simp [nevS, c_4, c_9], A, L, I, sm_rf, rfl⟩)
    · refine g_iload_n dX10_never_12 rfl rfl ?_
      refine g_bipush (v := 60) dX10_never_13 (by decide) ?_
      refine g_icmp_gt (tgt := 29) dX10_never_15 (by decide) (fun c_15 => ?_) (fun c_15 => ?_)
      · refine g_ic_m1 dX10_never_29 ?_
        exact g_iret dX10_never_30 (by first | exact ⟨by simp [nevS, c_4, c_9, c_15], A9, L9, I9, h9, rfl⟩ | exact ⟨by simp [nevS, c_4, c_9, c_15], A, L, I, sm_rf, rfl⟩)
      · refine g_aload_n dX10_never_18 rfl rfl ?_
        refine g_get dX10_never_19 fl_X10_64 hp_0 rfl ?_
        refine g_iload_n dX10_never_22 rfl rfl ?_
        refine g_callV dX10_never_23 cv_X10_298 (as' := [_]) hp_27 rfl w_never (by decide) rfl rfl (Nat.le_of_ble_eq_true rfl) ?_
        rintro _ _ ⟨rfl, A9, L9, I9, h9, rfl⟩
        refine g_goto (tgt := 30) dX10_never_26 (by decide) ?_
        exact g_iret dX10_never_30 (by first | exact ⟨by simp [nevS, c_4, c_9, c_15], A9, L9, I9, h9, rfl⟩ | exact ⟨by simp [nevS, c_4, c_9, c_15], A, L, I, sm_rf, rfl⟩)

def lasS (A I : Nat → Nat → Int32) : Int32 := if I 0 12 = 0 then (-1) else laS A I
set_option maxHeartbeats 4000000 in
set_option maxRecDepth 100000 in
theorem m_lasts {A : Nat → Nat → Int32} {L : Nat → Nat → Int64} {I : Nat → Nat → Int32} {X : Nat → Int64}   : Con 8 yX10_lasts cX10_lasts 1 (some .int) [.ref 0] (hp A L I X) (fun r_ H_ => r_ = some (.int (lasS A I)) ∧ ∃ A9 L9 I9, sm A L I A9 L9 I9 ∧ H_ = hp A9 L9 I9 X) := by
  refine m_con (by decide) (Nat.le_of_ble_eq_true rfl) ?_
  refine g_aload_n dX10_lasts_0 rfl rfl ?_
  refine g_get dX10_lasts_1 fl_X10_128 hp_0 rfl ?_
  refine g_if_eq (tgt := 17) dX10_lasts_4 (by decide) (fun c_4 => ?_) (fun c_4 => ?_)
  · refine g_ic_m1 dX10_lasts_17 ?_
    exact g_iret dX10_lasts_18 (by first | exact ⟨by simp [lasS, c_4], A9, L9, I9, h9, rfl⟩ | exact ⟨by simp [lasS, c_4], A, L, I, sm_rf, rfl⟩)
  · refine g_aload_n dX10_lasts_7 rfl rfl ?_
    refine g_get dX10_lasts_8 fl_X10_64 hp_0 rfl ?_
    refine g_callV dX10_lasts_11 cv_X10_301 (as' := []) hp_27 rfl w_toDeath (by decide) rfl rfl (Nat.le_of_ble_eq_true rfl) ?_
    rintro _ _ ⟨rfl, A9, L9, I9, h9, rfl⟩
    refine g_goto (tgt := 18) dX10_lasts_14 (by decide) ?_
    exact g_iret dX10_lasts_18 (by first | exact ⟨by simp [lasS, c_4], A9, L9, I9, h9, rfl⟩ | exact ⟨by simp [lasS, c_4], A, L, I, sm_rf, rfl⟩)
