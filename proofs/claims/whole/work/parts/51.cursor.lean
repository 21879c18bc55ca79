/-! THE TAPE AND A CURSOR ON IT -/
def isC (c : Nat) : Prop := c = 4 ∨ c = 9
section HPC
variable {A : Nat → Nat → Int32} {L : Nat → Nat → Int64} {I : Nat → Nat → Int32} {X : Nat → Int64}
theorem hpC {c : Nat} (hc : isC c) : hp A L I X c = ob 1 [.ref 1, .int (I c 1), .int (I c 2)] := by
  rcases hc with rfl | rfl
  · exact hp_4
  · exact hp_9
theorem hqC_1 {c : Nat} {v : Int32} (hc : isC c) : m_set (hp A L I X) c (ob 1 (List.set [.ref 1, .int (I c 1), .int (I c 2)] 1 (.int v))) = hp A L (up2 I c 1 v) X := by
  rcases hc with rfl | rfl
  · exact hq_4_1
  · exact hq_9_1
theorem hqC_2 {c : Nat} {v : Int32} (hc : isC c) : m_set (hp A L I X) c (ob 1 (List.set [.ref 1, .int (I c 1), .int (I c 2)] 2 (.int v))) = hp A L (up2 I c 2 v) X := by
  rcases hc with rfl | rfl
  · exact hq_4_2
  · exact hq_9_2
end HPC
theorem up2_ne {σ : Type} {I : Nat → Nat → σ} {i k j l : Nat} {v : σ} (h : ¬ (j = i ∧ l = k)) : up2 I i k v j l = I j l := if_neg h
theorem up2_11 {c : Nat} (hc : isC c) {I : Nat → Nat → Int32} {v : Int32} {l : Nat} : up2 I c l v 1 1 = I 1 1 := up2_ne (by rcases hc with rfl | rfl <;> omega)
/-- a byte of the tape, none beyond its end -/
def btI (T : Nat → Int32) (m x : Int32) : Int32 := if x < 0 ∨ m ≤ x ∨ ¬ x < 240 then (-1) else T x.toNatClampNeg
def skI (T : Nat → Int32) (m : Int32) : Nat → Int32 → Int32
  | 0, y => y
  | f + 1, y => if y < m ∧ btI T m y = 32 then skI T m f (y + 1) else y
/-- behind the blanks -/
def skY (T : Nat → Int32) (m y : Int32) : Int32 := skI T m (m.toNatClampNeg + 1) y
theorem in_lit {x : Int32} {n : Nat} (hn : n < 2 ^ 31) (h0 : ¬ x < 0) (h : x < nI n) : vp_in x n := ix_in' hn h0 (Int32.not_le.mpr h)
theorem bt32 {T : Nat → Int32} {m y : Int32} (h : btI T m y = 32) : ∃ j, j < 240 ∧ y = nI j := by
  unfold btI at h
  split at h
  · exact absurd h (by decide)
  · rename_i h1
    have h2 : ¬ y < 0 := fun z => h1 (Or.inl z)
    have h3 : y < 240 := Int32.not_le.mp (fun z => h1 (Or.inr (Or.inr (Int32.not_lt.mpr z))))
    obtain ⟨j, hj, rfl⟩ := nI_of h2
    exact ⟨j, (nI_ltI (b := 240) hj (by omega)).mp h3, rfl⟩
theorem skI_le {T : Nat → Int32} {m : Int32} : ∀ f f' y, m.toNatClampNeg - y.toNatClampNeg < f → m.toNatClampNeg - y.toNatClampNeg < f' → skI T m f y = skI T m f' y := by
  intro f
  induction f with
  | zero => intro f' y h; omega
  | succ f ih =>
    intro f' y h h'
    cases f' with
    | zero => omega
    | succ f' =>
      unfold skI
      by_cases hc : y < m ∧ btI T m y = 32
      · rw [if_pos hc, if_pos hc]
        obtain ⟨j, hj, rfl⟩ := bt32 hc.2
        have h1 := (nI_ltn (by omega)).mp hc.1
        have h2 : (nI j).toNatClampNeg = j := nI_clamp (by omega)
        have h3 : (nI (j + 1)).toNatClampNeg = j + 1 := nI_clamp (by omega)
        rw [nI_1]
        exact ih f' _ (by omega) (by omega)
      · rw [if_neg hc, if_neg hc]
set_option maxHeartbeats 4000000 in
set_option maxRecDepth 100000 in
theorem u_byteAt {A : Nat → Nat → Int32} {L : Nat → Nat → Int64} {I : Nat → Nat → Int32} {X : Nat → Int64} {x : Int32}  : Con 1 yX8_byteAt cX8_byteAt 2 (some .int) [.ref 1, .int x] (hp A L I X) (fun r_ H_ => r_ = some (.int (btI (A 2) (I 1 1) x)) ∧ H_ = hp A L I X) := by
  refine m_con (by decide) (Nat.le_of_ble_eq_true rfl) ?_
  refine g_iload_n dX8_byteAt_0 rfl rfl ?_
  refine g_if_lt (tgt := 21) dX8_byteAt_1 (by decide) (fun c_1 => ?_) (fun c_1 => ?_)
  · refine g_ic_m1 dX8_byteAt_21 ?_
    refine g_goto (tgt := 31) dX8_byteAt_22 (by decide) ?_
    exact g_iret dX8_byteAt_31 ⟨by rw [btI, if_pos (Or.inl c_1)], rfl⟩
  · refine g_iload_n dX8_byteAt_4 rfl rfl ?_
    refine g_aload_n dX8_byteAt_5 rfl rfl ?_
    refine g_get dX8_byteAt_6 fl_X8_15 hp_1 rfl ?_
    refine g_icmp_ge (tgt := 21) dX8_byteAt_9 (by decide) (fun c_9 => ?_) (fun c_9 => ?_)
    · refine g_ic_m1 dX8_byteAt_21 ?_
      refine g_goto (tgt := 31) dX8_byteAt_22 (by decide) ?_
      exact g_iret dX8_byteAt_31 ⟨by rw [btI, if_pos (Or.inr (Or.inl c_9))], rfl⟩
    · refine g_iload_n dX8_byteAt_12 rfl rfl ?_
      refine g_aload_n dX8_byteAt_13 rfl rfl ?_
      refine g_get dX8_byteAt_14 fl_X8_9 hp_1 rfl ?_
      refine g_ilenW dX8_byteAt_17 hp_2 rfl ?_
      refine g_icmp_lt (tgt := 25) dX8_byteAt_18 (by decide) (fun c_18 => ?_) (fun c_18 => ?_)
      · refine g_aload_n dX8_byteAt_25 rfl rfl ?_
        refine g_get dX8_byteAt_26 fl_X8_9 hp_1 rfl ?_
        refine g_iload_n dX8_byteAt_29 rfl rfl ?_
        refine g_ialdW dX8_byteAt_30 hp_2 (in_lit (by decide) c_1 c_18) ?_
        exact g_iret dX8_byteAt_31 ⟨by rw [btI, if_neg (fun h => h.elim c_1 (fun h => h.elim c_9 (fun h => h c_18)))], rfl⟩
      · refine g_ic_m1 dX8_byteAt_21 ?_
        refine g_goto (tgt := 31) dX8_byteAt_22 (by decide) ?_
        exact g_iret dX8_byteAt_31 ⟨by rw [btI, if_pos (Or.inr (Or.inr (show ¬ x < 240 from c_18)))], rfl⟩

set_option maxHeartbeats 4000000 in
set_option maxRecDepth 100000 in
theorem u_look_loop {A : Nat → Nat → Int32} {L : Nat → Nat → Int64} {I : Nat → Nat → Int32} {X : Nat → Int64} {c : Nat} {Q : Option Value → m_H → Prop} (hc : isC c) : ∀ f y, (I 1 1).toNatClampNeg - y.toNatClampNeg < f → Q (some (.int (btI (A 2) (I 1 1) (skI (A 2) (I 1 1) f y)))) (hp A L (up2 I c 1 (skI (A 2) (I 1 1) f y)) X) → G 2 RX1 cX1_look 2 (some .int) Q 8 [some (.ref c), some (.int (I 1 1))] [] (hp A L (up2 I c 1 y) X) := by
  intro f
  induction f with
  | zero => intro y h; omega
  | succ f ih =>
    intro y hf hQ
    refine g_aload_n dX1_look_8 rfl rfl ?_
    refine g_get dX1_look_9 fl_X1_15 (hpC hc) rfl ?_
    refine g_iload_n dX1_look_12 rfl rfl ?_
    refine g_icmp_ge (tgt := 45) dX1_look_13 (by decide) (fun c_13 => ?_) (fun c_13 => ?_)
    · refine g_aload_n dX1_look_45 rfl rfl ?_
      refine g_get dX1_look_46 fl_X1_9 (hpC hc) rfl ?_
      refine g_aload_n dX1_look_49 rfl rfl ?_
      refine g_get dX1_look_50 fl_X1_15 (hpC hc) rfl ?_
      refine g_callV dX1_look_53 cv_X1_28 (as' := [_]) hp_1 rfl u_byteAt (by decide) rfl rfl (Nat.le_of_ble_eq_true rfl) ?_
      rintro _ _ ⟨rfl, rfl⟩
      exact g_iret dX1_look_56 (by rw [up2_at] at c_13; rw [skI, if_neg (fun z => absurd z.1 (Int32.not_lt.mpr c_13))] at hQ; rw [up2_at, up2_11 hc]; exact hQ)
    · refine g_aload_n dX1_look_16 rfl rfl ?_
      refine g_get dX1_look_17 fl_X1_9 (hpC hc) rfl ?_
      refine g_aload_n dX1_look_20 rfl rfl ?_
      refine g_get dX1_look_21 fl_X1_15 (hpC hc) rfl ?_
      refine g_callV dX1_look_24 cv_X1_28 (as' := [_]) hp_1 rfl u_byteAt (by decide) rfl rfl (Nat.le_of_ble_eq_true rfl) ?_
      rintro _ _ ⟨rfl, rfl⟩
      refine g_bipush (v := 32) dX1_look_27 (by decide) ?_
      refine g_icmp_ne (tgt := 45) dX1_look_29 (by decide) (fun c_29 => ?_) (fun c_29 => ?_)
      · refine g_aload_n dX1_look_45 rfl rfl ?_
        refine g_get dX1_look_46 fl_X1_9 (hpC hc) rfl ?_
        refine g_aload_n dX1_look_49 rfl rfl ?_
        refine g_get dX1_look_50 fl_X1_15 (hpC hc) rfl ?_
        refine g_callV dX1_look_53 cv_X1_28 (as' := [_]) hp_1 rfl u_byteAt (by decide) rfl rfl (Nat.le_of_ble_eq_true rfl) ?_
        rintro _ _ ⟨rfl, rfl⟩
        exact g_iret dX1_look_56 (by rw [up2_at, up2_11 hc] at c_29; rw [skI, if_neg (fun z => c_29 z.2)] at hQ; rw [up2_at, up2_11 hc]; exact hQ)
      · refine g_aload_n dX1_look_32 rfl rfl ?_
        refine g_dup dX1_look_33 rfl ?_
        refine g_get dX1_look_34 fl_X1_15 (hpC hc) rfl ?_
        refine g_ic_1 dX1_look_37 ?_
        refine g_iadd dX1_look_38 ?_
        refine g_puti dX1_look_39 fw_X1_15 (hpC hc) (Nat.le_of_ble_eq_true rfl) ?_
        rw [hqC_1 hc]
        refine g_goto (tgt := 8) dX1_look_42 (by decide) ?_
        rw [up2_at] at c_13
        rw [up2_at, up2_11 hc] at c_29
        rw [up2_up2]
        rw [up2_at]
        obtain ⟨j, hj, rfl⟩ := bt32 c_29
        have h1 := (nI_ltn (by omega)).mp (Int32.not_le.mp c_13)
        have h2 : (nI j).toNatClampNeg = j := nI_clamp (by omega)
        have h3 : (nI (j + 1)).toNatClampNeg = j + 1 := nI_clamp (by omega)
        rw [nI_1]
        refine ih _ (by omega) ?_
        rw [skI, if_pos ⟨Int32.not_le.mp c_13, c_29⟩, nI_1] at hQ
        exact hQ

set_option maxHeartbeats 4000000 in
set_option maxRecDepth 100000 in
theorem u_look {A : Nat → Nat → Int32} {L : Nat → Nat → Int64} {I : Nat → Nat → Int32} {X : Nat → Int64} {c : Nat} (hc : isC c) : Con 2 yX1_look cX1_look 2 (some .int) [.ref c] (hp A L I X) (fun r_ H_ => r_ = some (.int (btI (A 2) (I 1 1) (skY (A 2) (I 1 1) (I c 1)))) ∧ H_ = hp A L (up2 I c 1 (skY (A 2) (I 1 1) (I c 1))) X) := by
  refine m_con (by decide) (Nat.le_of_ble_eq_true rfl) ?_
  refine g_aload_n dX1_look_0 rfl rfl ?_
  refine g_get dX1_look_1 fl_X1_9 (hpC hc) rfl ?_
  refine g_callV dX1_look_4 cv_X1_22 (as' := []) hp_1 rfl t_size (by decide) rfl rfl (Nat.le_of_ble_eq_true rfl) ?_
  rintro _ _ ⟨rfl, rfl⟩
  refine g_istore_n dX1_look_7 rfl (by decide) ?_
  have h := u_look_loop (A := A) (L := L) (I := I) (X := X) (Q := (fun r_ H_ => r_ = some (.int (btI (A 2) (I 1 1) (skY (A 2) (I 1 1) (I c 1)))) ∧ H_ = hp A L (up2 I c 1 (skY (A 2) (I 1 1) (I c 1))) X)) hc ((I 1 1).toNatClampNeg + 1) (I c 1) (by omega) ⟨rfl, rfl⟩
  rw [up2_self] at h
  exact h

set_option maxHeartbeats 4000000 in
set_option maxRecDepth 100000 in
theorem u_begin {A : Nat → Nat → Int32} {L : Nat → Nat → Int64} {I : Nat → Nat → Int32} {X : Nat → Int64} {c : Nat} (hc : isC c) : Con 1 yX1_begin cX1_begin 1 none [.ref c] (hp A L I X) (fun r_ H_ => r_ = none ∧ H_ = hp A L (up2 (up2 I c 1 0) c 2 (-1)) X) := by
  refine m_con (by decide) (Nat.le_of_ble_eq_true rfl) ?_
  refine g_aload_n dX1_begin_0 rfl rfl ?_
  refine g_ic_0 dX1_begin_1 ?_
  refine g_puti dX1_begin_2 fw_X1_15 (hpC hc) (Nat.le_of_ble_eq_true rfl) ?_
  rw [hqC_1 hc]
  refine g_aload_n dX1_begin_5 rfl rfl ?_
  refine g_ic_m1 dX1_begin_6 ?_
  refine g_puti dX1_begin_7 fw_X1_19 (hpC hc) (Nat.le_of_ble_eq_true rfl) ?_
  rw [hqC_2 hc]
  exact g_vret dX1_begin_10 ⟨rfl, rfl⟩

set_option maxHeartbeats 4000000 in
set_option maxRecDepth 100000 in
theorem u_failed {A : Nat → Nat → Int32} {L : Nat → Nat → Int64} {I : Nat → Nat → Int32} {X : Nat → Int64} {c : Nat} (hc : isC c) : Con 1 yX1_failed cX1_failed 1 (some .boolean) [.ref c] (hp A L I X) (fun r_ H_ => r_ = some (.int (if I c 2 = (-1) then 0 else 1)) ∧ H_ = hp A L I X) := by
  refine m_con (by decide) (Nat.le_of_ble_eq_true rfl) ?_
  refine g_aload_n dX1_failed_0 rfl rfl ?_
  refine g_get dX1_failed_1 fl_X1_19 (hpC hc) rfl ?_
  refine g_ic_m1 dX1_failed_4 ?_
  refine g_icmp_eq (tgt := 12) dX1_failed_5 (by decide) (fun c_5 => ?_) (fun c_5 => ?_)
  · refine g_ic_0 dX1_failed_12 ?_
    exact g_zret (by first | exact Or.inl rfl | exact Or.inr rfl) dX1_failed_13 ⟨by rw [if_pos c_5], rfl⟩
  · refine g_ic_1 dX1_failed_8 ?_
    refine g_goto (tgt := 13) dX1_failed_9 (by decide) ?_
    exact g_zret (by first | exact Or.inl rfl | exact Or.inr rfl) dX1_failed_13 ⟨by rw [if_neg c_5], rfl⟩

def flI (I : Nat → Nat → Int32) (c : Nat) : Nat → Nat → Int32 := if I c 2 = (-1) then up2 I c 2 (I c 1) else I
set_option maxHeartbeats 4000000 in
set_option maxRecDepth 100000 in
theorem u_fail {A : Nat → Nat → Int32} {L : Nat → Nat → Int64} {I : Nat → Nat → Int32} {X : Nat → Int64} {c : Nat} (hc : isC c) : Con 1 yX1_fail cX1_fail 1 none [.ref c] (hp A L I X) (fun r_ H_ => r_ = none ∧ H_ = hp A L (flI I c) X) := by
  refine m_con (by decide) (Nat.le_of_ble_eq_true rfl) ?_
  refine g_aload_n dX1_fail_0 rfl rfl ?_
  refine g_get dX1_fail_1 fl_X1_19 (hpC hc) rfl ?_
  refine g_ic_m1 dX1_fail_4 ?_
  refine g_icmp_ne (tgt := 16) dX1_fail_5 (by decide) (fun c_5 => ?_) (fun c_5 => ?_)
  · exact g_vret dX1_fail_16 ⟨rfl, by rw [flI, if_neg c_5]⟩
  · refine g_aload_n dX1_fail_8 rfl rfl ?_
    refine g_aload_n dX1_fail_9 rfl rfl ?_
    refine g_get dX1_fail_10 fl_X1_15 (hpC hc) rfl ?_
    refine g_puti dX1_fail_13 fw_X1_19 (hpC hc) (Nat.le_of_ble_eq_true rfl) ?_
    rw [hqC_2 hc]
    exact g_vret dX1_fail_16 ⟨rfl, by rw [flI, if_pos c_5]⟩

set_option maxHeartbeats 4000000 in
set_option maxRecDepth 100000 in
theorem u_step {A : Nat → Nat → Int32} {L : Nat → Nat → Int64} {I : Nat → Nat → Int32} {X : Nat → Int64} {c : Nat} (hc : isC c) : Con 1 yX1_step cX1_step 1 none [.ref c] (hp A L I X) (fun r_ H_ => r_ = none ∧ H_ = hp A L (up2 I c 1 (I c 1 + 1)) X) := by
  refine m_con (by decide) (Nat.le_of_ble_eq_true rfl) ?_
  refine g_aload_n dX1_step_0 rfl rfl ?_
  refine g_dup dX1_step_1 rfl ?_
  refine g_get dX1_step_2 fl_X1_15 (hpC hc) rfl ?_
  refine g_ic_1 dX1_step_5 ?_
  refine g_iadd dX1_step_6 ?_
  refine g_puti dX1_step_7 fw_X1_15 (hpC hc) (Nat.le_of_ble_eq_true rfl) ?_
  rw [hqC_1 hc]
  exact g_vret dX1_step_10 ⟨rfl, rfl⟩

def exI (T : Nat → Int32) (I : Nat → Nat → Int32) (c : Nat) (s : Int32) : Nat → Nat → Int32 := if btI T (I 1 1) (skY T (I 1 1) (I c 1)) = s then up2 I c 1 (skY T (I 1 1) (I c 1) + 1) else flI (up2 I c 1 (skY T (I 1 1) (I c 1))) c
set_option maxHeartbeats 4000000 in
set_option maxRecDepth 100000 in
theorem u_expect {A : Nat → Nat → Int32} {L : Nat → Nat → Int64} {I : Nat → Nat → Int32} {X : Nat → Int64} {c : Nat} {s : Int32} (hc : isC c) : Con 3 yX1_expect cX1_expect 2 none [.ref c, .int s] (hp A L I X) (fun r_ H_ => r_ = none ∧ H_ = hp A L (exI (A 2) I c s) X) := by
  refine m_con (by decide) (Nat.le_of_ble_eq_true rfl) ?_
  refine g_aload_n dX1_expect_0 rfl rfl ?_
  refine g_callV dX1_expect_1 cv_X1_32 (as' := []) (hpC hc) rfl (u_look hc) (by decide) rfl rfl (Nat.le_of_ble_eq_true rfl) ?_
  rintro _ _ ⟨rfl, rfl⟩
  refine g_iload_n dX1_expect_4 rfl rfl ?_
  refine g_icmp_ne (tgt := 21) dX1_expect_5 (by decide) (fun c_5 => ?_) (fun c_5 => ?_)
  · refine g_aload_n dX1_expect_21 rfl rfl ?_
    refine g_callV dX1_expect_22 cv_X1_40 (as' := []) (hpC hc) rfl (u_fail hc) (by decide) rfl rfl (Nat.le_of_ble_eq_true rfl) ?_
    rintro _ _ ⟨rfl, rfl⟩
    exact g_vret dX1_expect_25 ⟨rfl, by rw [exI, if_neg c_5]⟩
  · refine g_aload_n dX1_expect_8 rfl rfl ?_
    refine g_dup dX1_expect_9 rfl ?_
    refine g_get dX1_expect_10 fl_X1_15 (hpC hc) rfl ?_
    refine g_ic_1 dX1_expect_13 ?_
    refine g_iadd dX1_expect_14 ?_
    refine g_puti dX1_expect_15 fw_X1_15 (hpC hc) (Nat.le_of_ble_eq_true rfl) ?_
    rw [hqC_1 hc]
    refine g_goto (tgt := 25) dX1_expect_18 (by decide) ?_
    exact g_vret dX1_expect_25 ⟨rfl, by rw [exI, if_pos c_5, up2_up2, up2_at]⟩

abbrev isDg (c : Int32) : Prop := 48 ≤ c ∧ c ≤ 57
set_option maxHeartbeats 4000000 in
set_option maxRecDepth 100000 in
theorem u_onDigit {A : Nat → Nat → Int32} {L : Nat → Nat → Int64} {I : Nat → Nat → Int32} {X : Nat → Int64} {c : Nat} (hc : isC c) : Con 2 yX1_onDigit cX1_onDigit 2 (some .boolean) [.ref c] (hp A L I X) (fun r_ H_ => r_ = some (.int (if isDg (btI (A 2) (I 1 1) (I c 1)) then 1 else 0)) ∧ H_ = hp A L I X) := by
  refine m_con (by decide) (Nat.le_of_ble_eq_true rfl) ?_
  refine g_aload_n dX1_onDigit_0 rfl rfl ?_
  refine g_get dX1_onDigit_1 fl_X1_9 (hpC hc) rfl ?_
  refine g_aload_n dX1_onDigit_4 rfl rfl ?_
  refine g_get dX1_onDigit_5 fl_X1_15 (hpC hc) rfl ?_
  refine g_callV dX1_onDigit_8 cv_X1_28 (as' := [_]) hp_1 rfl u_byteAt (by decide) rfl rfl (Nat.le_of_ble_eq_true rfl) ?_
  rintro _ _ ⟨rfl, rfl⟩
  refine g_istore_n dX1_onDigit_11 rfl (by decide) ?_
  refine g_iload_n dX1_onDigit_12 rfl rfl ?_
  refine g_bipush (v := 48) dX1_onDigit_13 (by decide) ?_
  refine g_icmp_lt (tgt := 28) dX1_onDigit_15 (by decide) (fun c_15 => ?_) (fun c_15 => ?_)
  · refine g_ic_0 dX1_onDigit_28 ?_
    exact g_zret (by first | exact Or.inl rfl | exact Or.inr rfl) dX1_onDigit_29 ⟨by rw [if_neg (fun z => absurd z.1 (Int32.not_le.mpr c_15))], rfl⟩
  · refine g_iload_n dX1_onDigit_18 rfl rfl ?_
    refine g_bipush (v := 57) dX1_onDigit_19 (by decide) ?_
    refine g_icmp_gt (tgt := 28) dX1_onDigit_21 (by decide) (fun c_21 => ?_) (fun c_21 => ?_)
    · refine g_ic_0 dX1_onDigit_28 ?_
      exact g_zret (by first | exact Or.inl rfl | exact Or.inr rfl) dX1_onDigit_29 ⟨by rw [if_neg (fun z => absurd z.2 (Int32.not_le.mpr c_21))], rfl⟩
    · refine g_ic_1 dX1_onDigit_24 ?_
      refine g_goto (tgt := 29) dX1_onDigit_25 (by decide) ?_
      exact g_zret (by first | exact Or.inl rfl | exact Or.inr rfl) dX1_onDigit_29 ⟨by rw [if_pos ⟨Int32.not_lt.mp c_15, Int32.not_lt.mp c_21⟩], rfl⟩

/-- a byte that a tape holds is one of 255, or there is none -/
def okT (T : Nat → Int32) (m : Int32) : Prop := ∀ x, btI T m x = (-1) ∨ ∃ v, 0 < v ∧ v < 256 ∧ btI T m x = nI v
theorem i2c_n {v : Nat} (h : v < 256) : ((nI v).toUInt32 % 65536).toInt32 = nI v := by
  have h2 : ∀ v, v < 256 → ((nI v).toUInt32 % 65536).toInt32 = nI v := by decide +kernel
  exact h2 v h
def lfS (i : Nat) (s : Int32) : Int32 := if s < 0 then (-1) else ixS i s
set_option maxHeartbeats 4000000 in
set_option maxRecDepth 100000 in
theorem u_lookFor {A : Nat → Nat → Int32} {L : Nat → Nat → Int64} {I : Nat → Nat → Int32} {X : Nat → Int64} {c i : Nat} (hc : isC c) (hi : i < 5) (ht : okT (A 2) (I 1 1)) : Con 6 yX1_lookFor cX1_lookFor 3 (some .int) [.ref c, .ref (2000 + i)] (hp A L I X) (fun r_ H_ => r_ = some (.int (lfS i (btI (A 2) (I 1 1) (skY (A 2) (I 1 1) (I c 1))))) ∧ H_ = hp A L (up2 I c 1 (skY (A 2) (I 1 1) (I c 1))) X) := by
  refine m_con (by decide) (Nat.le_of_ble_eq_true rfl) ?_
  refine g_aload_n dX1_lookFor_0 rfl rfl ?_
  refine g_callV dX1_lookFor_1 cv_X1_32 (as' := []) (hpC hc) rfl (u_look hc) (by decide) rfl rfl (Nat.le_of_ble_eq_true rfl) ?_
  rintro _ _ ⟨rfl, rfl⟩
  refine g_istore_n dX1_lookFor_4 rfl (by decide) ?_
  refine g_iload_n dX1_lookFor_5 rfl rfl ?_
  refine g_if_ge (tgt := 13) dX1_lookFor_6 (by decide) (fun c_6 => ?_) (fun c_6 => ?_)
  · refine g_aload_n dX1_lookFor_13 rfl rfl ?_
    refine g_iload_n dX1_lookFor_14 rfl rfl ?_
    refine g_i2c dX1_lookFor_15 ?_
    rcases ht (skY (A 2) (I 1 1) (I c 1)) with e | ⟨v, hv0, hv, e⟩
    · rw [e] at c_6
      exact absurd c_6 (by decide)
    rw [e, i2c_n hv]
    refine g_callT dX1_lookFor_16 ct_X1_35 (as' := [_]) hi rfl (j_ix hi hv) (by decide) rfl rfl (Nat.le_of_ble_eq_true rfl) ?_
    rintro _ _ ⟨rfl, rfl⟩
    exact g_iret dX1_lookFor_19 ⟨by rw [lfS, if_neg (Int32.not_lt.mpr (nI_pos' (by omega)))], rfl⟩
  · refine g_ic_m1 dX1_lookFor_9 ?_
    refine g_goto (tgt := 19) dX1_lookFor_10 (by decide) ?_
    exact g_iret dX1_lookFor_19 ⟨by rw [lfS, if_pos (Int32.not_le.mp c_6)], rfl⟩
