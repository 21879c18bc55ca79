set_option maxHeartbeats 4000000 in
set_option maxRecDepth 100000 in
theorem w_until {A : Nat → Nat → Int32} {L : Nat → Nat → Int64} {I : Nat → Nat → Int32} {X : Nat → Int64} {m : Int32} {f0 : Nat} (hf : f0 ≤ 200) : Con 6 yX3_turnsUntil cX3_turnsUntil 4 (some .int) [.ref 27, .int m, .int (nI f0)] (hp A L I X) (fun r_ H_ => r_ = some (.int (fnd (tn1 A I) (isM m) (201 - f0) f0 (tnsS (A 12) (A 13) (I 11 5) f0 (A 29, A 30))).1) ∧ ∃ A9 I9, sm A L I A9 L I9 ∧ (A9 29, A9 30) = (fnd (tn1 A I) (isM m) (201 - f0) f0 (tnsS (A 12) (A 13) (I 11 5) f0 (A 29, A 30))).2 ∧ H_ = hp A9 L I9 X) := by
  refine m_con (by decide) (Nat.le_of_ble_eq_true rfl) ?_
  refine g_aload_n dX3_turnsUntil_0 rfl rfl ?_
  refine g_get dX3_turnsUntil_1 fl_X3_12 hp_27 rfl ?_
  refine g_iload_n dX3_turnsUntil_4 rfl rfl ?_
  refine g_aload_n dX3_turnsUntil_5 rfl rfl ?_
  refine g_get dX3_turnsUntil_6 fl_X3_32 hp_27 rfl ?_
  refine g_callV dX3_turnsUntil_9 cv_X3_43 (as' := [_, _]) hp_28 rfl f_turns28 (by decide) rfl rfl (Nat.le_of_ble_eq_true rfl) ?_
  rintro _ _ ⟨rfl, A1, I1, m1, e1, rfl⟩
  refine g_iload_n dX3_turnsUntil_12 rfl rfl ?_
  refine g_istore_n dX3_turnsUntil_13 rfl (by decide) ?_
  refine w_until_loop (A := A) (L := L) (I := I) (f0 := nI f0) (201 - f0) f0 _ A1 I1 m1 rfl (by omega) (fun A9 I9 h9 e9 => ?_)
  rw [e1, nI_clamp (by omega)] at e9 ⊢
  exact ⟨rfl, A9, I9, h9, e9, rfl⟩

/-- the search for a month, from the state's own row -/
def soS (A I : Nat → Nat → Int32) (m : Int32) : Int32 × RD := fnd (tn1 A I) (isM m) 201 0 (A 20, fun _ => 0)
def riS (A I : Nat → Nat → Int32) (a b : Int32) : Int32 := if (soS A I a).1 = (-1) then (-1) else (fnd (tn1 A I) (isM b) 200 1 (tn1 A I (soS A I a).2)).1
def rpS (A I : Nat → Nat → Int32) (k : Int32) : Int32 := (fnd (tn1 A I) (isR k) 201 0 (A 20, fun _ => 0)).1
def laS (A I : Nat → Nat → Int32) : Int32 := (fnd (tn1 A I) isD 201 0 (A 20, fun _ => 0)).1
theorem fnd0 {A A0 : Nat → Nat → Int32} {L L0 : Nat → Nat → Int64} {I I0 : Nat → Nat → Int32} {P : RD → Bool} (m0 : sm A L I A0 L0 I0) (b1 : A0 29 = A 20) (b2 : A0 30 = fun _ => 0) : fnd (tn1 A0 I0) P (201 - 0) 0 (tnsS (A0 12) (A0 13) (I0 11 5) 0 (A0 29, A0 30)) = fnd (tn1 A I) P 201 0 (A 20, fun _ => 0) := by
  rw [tn1_sm m0, b1, b2]
  rfl
set_option maxHeartbeats 4000000 in
set_option maxRecDepth 100000 in
theorem w_to {A : Nat → Nat → Int32} {L : Nat → Nat → Int64} {I : Nat → Nat → Int32} {X : Nat → Int64} {m : Int32}  : Con 7 yX3_turnsTo cX3_turnsTo 2 (some .int) [.ref 27, .int m] (hp A L I X) (fun r_ H_ => r_ = some (.int ((soS A I m).1)) ∧ ∃ A9 L9 I9, sm A L I A9 L9 I9 ∧ H_ = hp A9 L9 I9 X) := by
  refine m_con (by decide) (Nat.le_of_ble_eq_true rfl) ?_
  refine g_aload_n dX3_turnsTo_0 rfl rfl ?_
  refine g_get dX3_turnsTo_1 fl_X3_12 hp_27 rfl ?_
  refine g_aload_n dX3_turnsTo_4 rfl rfl ?_
  refine g_get dX3_turnsTo_5 fl_X3_29 hp_27 rfl ?_
  refine g_callV dX3_turnsTo_8 cv_X3_36 (as' := [_]) hp_28 rfl (f_become28 isS_19 (by decide)) (by decide) rfl rfl (Nat.le_of_ble_eq_true rfl) ?_
  rintro _ _ ⟨rfl, A0, m0, b1, b2, rfl⟩
  refine g_aload_n dX3_turnsTo_11 rfl rfl ?_
  refine g_iload_n dX3_turnsTo_12 rfl rfl ?_
  refine g_ic_0 dX3_turnsTo_13 ?_
  refine g_callV dX3_turnsTo_14 cv_X3_51 (as' := [_, _]) hp_27 rfl (w_until (f0 := 0) (Nat.zero_le _)) (by decide) rfl rfl (Nat.le_of_ble_eq_true rfl) ?_
  rintro _ _ ⟨rfl, A2, I2, m2, e2, rfl⟩
  exact g_iret dX3_turnsTo_17 ⟨by rw [fnd0 m0 b1 b2]; rfl, A2, L, I2, sm_tr m0 m2, rfl⟩

set_option maxHeartbeats 4000000 in
set_option maxRecDepth 100000 in
theorem w_ride {A : Nat → Nat → Int32} {L : Nat → Nat → Int64} {I : Nat → Nat → Int32} {X : Nat → Int64} {a b : Int32}  : Con 7 yX3_rideTurns cX3_rideTurns 3 (some .int) [.ref 27, .int a, .int b] (hp A L I X) (fun r_ H_ => r_ = some (.int (riS A I a b)) ∧ ∃ A9 L9 I9, sm A L I A9 L9 I9 ∧ H_ = hp A9 L9 I9 X) := by
  refine m_con (by decide) (Nat.le_of_ble_eq_true rfl) ?_
  refine g_aload_n dX3_rideTurns_0 rfl rfl ?_
  refine g_get dX3_rideTurns_1 fl_X3_12 hp_27 rfl ?_
  refine g_aload_n dX3_rideTurns_4 rfl rfl ?_
  refine g_get dX3_rideTurns_5 fl_X3_29 hp_27 rfl ?_
  refine g_callV dX3_rideTurns_8 cv_X3_36 (as' := [_]) hp_28 rfl (f_become28 isS_19 (by decide)) (by decide) rfl rfl (Nat.le_of_ble_eq_true rfl) ?_
  rintro _ _ ⟨rfl, A0, m0, b1, b2, rfl⟩
  refine g_aload_n dX3_rideTurns_11 rfl rfl ?_
  refine g_iload_n dX3_rideTurns_12 rfl rfl ?_
  refine g_ic_0 dX3_rideTurns_13 ?_
  refine g_callV dX3_rideTurns_14 cv_X3_51 (as' := [_, _]) hp_27 rfl (w_until (f0 := 0) (Nat.zero_le _)) (by decide) rfl rfl (Nat.le_of_ble_eq_true rfl) ?_
  rintro _ _ ⟨rfl, A2, I2, m2, e2, rfl⟩
  rw [fnd0 m0 b1 b2] at e2 ⊢
  refine g_ic_m1 dX3_rideTurns_17 ?_
  refine g_icmp_ne (tgt := 25) dX3_rideTurns_18 (by decide) (fun c_18 => ?_) (fun c_18 => ?_)
  · refine g_aload_n dX3_rideTurns_25 rfl rfl ?_
    refine g_iload_n dX3_rideTurns_26 rfl rfl ?_
    refine g_ic_1 dX3_rideTurns_27 ?_
    refine g_callV dX3_rideTurns_28 cv_X3_51 (as' := [_, _]) hp_27 rfl (w_until (f0 := 1) (by decide)) (by decide) rfl rfl (Nat.le_of_ble_eq_true rfl) ?_
    rintro _ _ ⟨rfl, A3, I3, m3, e3, rfl⟩
    exact g_iret dX3_rideTurns_31 ⟨by unfold riS; rw [if_neg (show ¬ (soS A I a).1 = (-1) from c_18), tn1_sm (sm_tr m0 m2), e2, tns_sm (sm_tr m0 m2)]; rfl, A3, L, I3, sm_tr (sm_tr m0 m2) m3, rfl⟩
  · refine g_ic_m1 dX3_rideTurns_21 ?_
    refine g_goto (tgt := 31) dX3_rideTurns_22 (by decide) ?_
    exact g_iret dX3_rideTurns_31 ⟨by unfold riS; rw [if_pos (show (soS A I a).1 = (-1) from c_18)], A2, L, I2, sm_tr m0 m2, rfl⟩

set_option maxHeartbeats 4000000 in
set_option maxRecDepth 100000 in
theorem w_toRipe {A : Nat → Nat → Int32} {L : Nat → Nat → Int64} {I : Nat → Nat → Int32} {X : Nat → Int64} {m : Int32}  : Con 6 yX3_turnsToRipe cX3_turnsToRipe 3 (some .int) [.ref 27, .int m] (hp A L I X) (fun r_ H_ => r_ = some (.int (rpS A I m)) ∧ ∃ A9 L9 I9, sm A L I A9 L9 I9 ∧ H_ = hp A9 L9 I9 X) := by
  refine m_con (by decide) (Nat.le_of_ble_eq_true rfl) ?_
  refine g_aload_n dX3_turnsToRipe_0 rfl rfl ?_
  refine g_get dX3_turnsToRipe_1 fl_X3_12 hp_27 rfl ?_
  refine g_aload_n dX3_turnsToRipe_4 rfl rfl ?_
  refine g_get dX3_turnsToRipe_5 fl_X3_29 hp_27 rfl ?_
  refine g_callV dX3_turnsToRipe_8 cv_X3_36 (as' := [_]) hp_28 rfl (f_become28 isS_19 (by decide)) (by decide) rfl rfl (Nat.le_of_ble_eq_true rfl) ?_
  rintro _ _ ⟨rfl, A0, m0, b1, b2, rfl⟩
  refine g_ic_0 dX3_turnsToRipe_11 ?_
  refine g_istore_n dX3_turnsToRipe_12 rfl (by decide) ?_
  exact (w_toRipe_loop (A := A) (L := L) (I := I) 201 0 (A 20, fun _ => 0) A0 I m0 (by rw [b1, b2]) rfl (fun A9 I9 h9 e9 => ⟨rfl, A9, L, I9, h9, rfl⟩))

set_option maxHeartbeats 4000000 in
set_option maxRecDepth 100000 in
theorem w_toDeath {A : Nat → Nat → Int32} {L : Nat → Nat → Int64} {I : Nat → Nat → Int32} {X : Nat → Int64}   : Con 6 yX3_turnsToDeath cX3_turnsToDeath 2 (some .int) [.ref 27] (hp A L I X) (fun r_ H_ => r_ = some (.int (laS A I)) ∧ ∃ A9 L9 I9, sm A L I A9 L9 I9 ∧ H_ = hp A9 L9 I9 X) := by
  refine m_con (by decide) (Nat.le_of_ble_eq_true rfl) ?_
  refine g_aload_n dX3_turnsToDeath_0 rfl rfl ?_
  refine g_get dX3_turnsToDeath_1 fl_X3_12 hp_27 rfl ?_
  refine g_aload_n dX3_turnsToDeath_4 rfl rfl ?_
  refine g_get dX3_turnsToDeath_5 fl_X3_29 hp_27 rfl ?_
  refine g_callV dX3_turnsToDeath_8 cv_X3_36 (as' := [_]) hp_28 rfl (f_become28 isS_19 (by decide)) (by decide) rfl rfl (Nat.le_of_ble_eq_true rfl) ?_
  rintro _ _ ⟨rfl, A0, m0, b1, b2, rfl⟩
  refine g_ic_0 dX3_turnsToDeath_11 ?_
  refine g_istore_n dX3_turnsToDeath_12 rfl (by decide) ?_
  exact (w_toDeath_loop (A := A) (L := L) (I := I) 201 0 (A 20, fun _ => 0) A0 I m0 (by rw [b1, b2]) rfl (fun A9 I9 h9 e9 => ⟨rfl, A9, L, I9, h9, rfl⟩))

set_option maxHeartbeats 4000000 in
set_option maxRecDepth 100000 in
theorem w_days {A : Nat → Nat → Int32} {L : Nat → Nat → Int64} {I : Nat → Nat → Int32} {X : Nat → Int64} {k n m : Int32}  : Con 7 yX3_daysWith cX3_daysWith 4 (some .int) [.ref 27, .int k, .int n, .int m] (hp A L I X) (fun r_ H_ => r_ = some (.int (gt 8 (fc A I n.toNatClampNeg (fdS (A 20) k)).2 m)) ∧ ∃ A9 L9 I9, sm A L I A9 L9 I9 ∧ H_ = hp A9 L9 I9 X) := by
  refine m_con (by decide) (Nat.le_of_ble_eq_true rfl) ?_
  refine g_aload_n dX3_daysWith_0 rfl rfl ?_
  refine g_iload_n dX3_daysWith_1 rfl rfl ?_
  refine g_iload_n dX3_daysWith_2 rfl rfl ?_
  refine g_callV dX3_daysWith_3 cv_X3_62 (as' := [_, _]) hp_27 rfl w_run (by decide) rfl rfl (Nat.le_of_ble_eq_true rfl) ?_
  rintro _ _ ⟨rfl, A1, I1, m1, e1, rfl⟩
  refine g_aload_n dX3_daysWith_6 rfl rfl ?_
  refine g_get dX3_daysWith_7 fl_X3_12 hp_27 rfl ?_
  refine g_iload_n dX3_daysWith_10 rfl rfl ?_
  refine g_callV dX3_daysWith_11 cv_X3_87 (as' := [_]) hp_28 rfl (h_came isS_28) (by decide) rfl rfl (Nat.le_of_ble_eq_true rfl) ?_
  rintro _ _ ⟨rfl, rfl⟩
  exact g_iret dX3_daysWith_14 ⟨by rw [← e1], A1, L, I1, m1, rfl⟩

def alS (g : Nat → Int32) (n : Nat) : Int32 := itn (fun k s => s + gt 8 g (nI k)) n 0
def shS (A I : Nat → Nat → Int32) (m n c : Int32) : Int32 :=
  let g := (fc A I n.toNatClampNeg (fdS (A 20) 0)).2
  if alS g (gt 143 (A 20) 9).toNatClampNeg = 0 then 0 else c * gt 8 g m / alS g (gt 143 (A 20) 9).toNatClampNeg
def nvS (A I : Nat → Nat → Int32) (n : Int32) : Int32 := itn (fun k s => s ||| (if gt 8 (fc A I n.toNatClampNeg (fdS (A 20) 0)).2 (nI k) = 0 then 1 <<< (nI k &&& 31) else 0)) (gt 143 (A 20) 9).toNatClampNeg 0
set_option maxHeartbeats 4000000 in
set_option maxRecDepth 100000 in
theorem w_share_loop {A1 : Nat → Nat → Int32} {L : Nat → Nat → Int64} {I1 : Nat → Nat → Int32} {X : Nat → Int64} {m n0 c : Int32} {Q : Option Value → m_H → Prop} (hE : ∀ s, s = itn (fun k s => s + gt 8 (A1 30) (nI k)) (gt 143 (A1 20) 9).toNatClampNeg 0 → G 7 RX3 cX3_shareOf 6 (some .int) Q 46 [some (.ref 27), some (.int (m)), some (.int (n0)), some (.int (c)), some (.int (s)), some (.int (nI (gt 143 (A1 20) 9).toNatClampNeg))] [] (hp A1 L I1 X)) : ∀ n k s, s = itn (fun k s => s + gt 8 (A1 30) (nI k)) k 0 → k ≤ (gt 143 (A1 20) 9).toNatClampNeg → (gt 143 (A1 20) 9).toNatClampNeg - k < n → G 7 RX3 cX3_shareOf 6 (some .int) Q 12 [some (.ref 27), some (.int (m)), some (.int (n0)), some (.int (c)), some (.int (s)), some (.int (nI k))] [] (hp A1 L I1 X) := by
  intro n
  induction n with
  | zero => intro k s hs1 h1 h2; omega
  | succ n ih =>
    intro k s hs1 h1 h2
    have hb := clamp_lt (gt 143 (A1 20) 9)
    refine g_iload dX3_shareOf_12 rfl ?_
    refine g_aload_n dX3_shareOf_14 rfl rfl ?_
    refine g_get dX3_shareOf_15 fl_X3_29 hp_27 rfl ?_
    refine g_bipush (v := 9) dX3_shareOf_18 (by decide) ?_
    refine g_callV dX3_shareOf_20 cv_X3_47 (as' := [_]) hp_19 rfl (h_get isS_19) (by decide) rfl rfl (Nat.le_of_ble_eq_true rfl) ?_
    rintro _ _ ⟨rfl, rfl⟩
    refine g_icmp_ge (tgt := 46) dX3_shareOf_23 (by decide) (fun c_23 => ?_) (fun c_23 => ?_)
    · have h6 := (nI_gen (k := k) (by omega)).mp c_23
      have hkn : k = (gt 143 (A1 20) 9).toNatClampNeg := by omega
      subst hkn
      exact hE s hs1
    · have hlt : k < (gt 143 (A1 20) 9).toNatClampNeg := Nat.not_le.mp (fun z => c_23 ((nI_gen (by omega)).mpr z))
      refine g_iload dX3_shareOf_26 rfl ?_
      refine g_aload_n dX3_shareOf_28 rfl rfl ?_
      refine g_get dX3_shareOf_29 fl_X3_12 hp_27 rfl ?_
      refine g_iload dX3_shareOf_32 rfl ?_
      refine g_callV dX3_shareOf_34 cv_X3_87 (as' := [_]) hp_28 rfl (h_came isS_28) (by decide) rfl rfl (Nat.le_of_ble_eq_true rfl) ?_
      rintro _ _ ⟨rfl, rfl⟩
      refine g_iadd dX3_shareOf_37 ?_
      refine g_istore dX3_shareOf_38 (by decide) ?_
      refine g_iinc1 dX3_shareOf_40 rfl (by decide) ?_
      refine g_goto (tgt := 12) dX3_shareOf_43 (by decide) ?_
      refine g_loc (ls' := [some (.ref 27), some (.int (m)), some (.int (n0)), some (.int (c)), some (.int ((s + gt 8 (A1 30) (nI k)))), some (.int (nI k + 1))]) (fun i v h => by rcases i with _|_|_|_|_|_|_ <;> first | exact h | cases h) ?_
      rw [nI_1]
      exact ih (k + 1) (s + gt 8 (A1 30) (nI k)) (by rw [show itn (fun k s => s + gt 8 (A1 30) (nI k)) (k + 1) 0 = (fun k s => s + gt 8 (A1 30) (nI k)) k s from by rw [hs1]; rfl]) (by omega) (by omega)

set_option maxHeartbeats 4000000 in
set_option maxRecDepth 100000 in
theorem w_share {A : Nat → Nat → Int32} {L : Nat → Nat → Int64} {I : Nat → Nat → Int32} {X : Nat → Int64} {m n c : Int32}  : Con 7 yX3_shareOf cX3_shareOf 6 (some .int) [.ref 27, .int m, .int n, .int c] (hp A L I X) (fun r_ H_ => r_ = some (.int (shS A I m n c)) ∧ ∃ A9 L9 I9, sm A L I A9 L9 I9 ∧ H_ = hp A9 L9 I9 X) := by
  refine m_con (by decide) (Nat.le_of_ble_eq_true rfl) ?_
  refine g_aload_n dX3_shareOf_0 rfl rfl ?_
  refine g_ic_0 dX3_shareOf_1 ?_
  refine g_iload_n dX3_shareOf_2 rfl rfl ?_
  refine g_callV dX3_shareOf_3 cv_X3_62 (as' := [_, _]) hp_27 rfl w_run (by decide) rfl rfl (Nat.le_of_ble_eq_true rfl) ?_
  rintro _ _ ⟨rfl, A1, I1, m1, e1, rfl⟩
  have e2 : A1 30 = (fc A I n.toNatClampNeg (fdS (A 20) 0)).2 := congrArg Prod.snd e1
  have e3 : A1 20 = A 20 := m1.1 20 (by decide)
  refine g_ic_0 dX3_shareOf_6 ?_
  refine g_istore dX3_shareOf_7 (by decide) ?_
  refine g_ic_0 dX3_shareOf_9 ?_
  refine g_istore dX3_shareOf_10 (by decide) ?_
  refine (w_share_loop (fun s hs => ?_) _ 0 0 rfl (Nat.zero_le _) (Nat.lt_succ_self _))
  refine g_iload dX3_shareOf_46 rfl ?_
  refine g_if_ne (tgt := 55) dX3_shareOf_48 (by decide) (fun c_48 => ?_) (fun c_48 => ?_)
  · refine g_iload_n dX3_shareOf_55 rfl rfl ?_
    refine g_aload_n dX3_shareOf_56 rfl rfl ?_
    refine g_get dX3_shareOf_57 fl_X3_12 hp_27 rfl ?_
    refine g_iload_n dX3_shareOf_60 rfl rfl ?_
    refine g_callV dX3_shareOf_61 cv_X3_87 (as' := [_]) hp_28 rfl (h_came isS_28) (by decide) rfl rfl (Nat.le_of_ble_eq_true rfl) ?_
    rintro _ _ ⟨rfl, rfl⟩
    refine g_imul dX3_shareOf_64 ?_
    refine g_iload dX3_shareOf_65 rfl ?_
    refine g_idiv dX3_shareOf_67 c_48 ?_
    exact g_iret dX3_shareOf_68 ⟨by unfold shS; dsimp only; rw [← e2, ← e3, show alS (A1 30) (gt 143 (A1 20) 9).toNatClampNeg = s from hs.symm, if_neg c_48], A1, L, I1, m1, rfl⟩
  · refine g_ic_0 dX3_shareOf_51 ?_
    refine g_goto (tgt := 68) dX3_shareOf_52 (by decide) ?_
    exact g_iret dX3_shareOf_68 ⟨by unfold shS; dsimp only; rw [← e2, ← e3, show alS (A1 30) (gt 143 (A1 20) 9).toNatClampNeg = s from hs.symm, if_pos c_48], A1, L, I1, m1, rfl⟩

set_option maxHeartbeats 4000000 in
set_option maxRecDepth 100000 in
theorem w_never_loop {A1 : Nat → Nat → Int32} {L : Nat → Nat → Int64} {I1 : Nat → Nat → Int32} {X : Nat → Int64} {n0 : Int32} {Q : Option Value → m_H → Prop} (hE : ∀ s, s = itn (fun k s => s ||| (if gt 8 (A1 30) (nI k) = 0 then 1 <<< (nI k &&& 31) else 0)) (gt 143 (A1 20) 9).toNatClampNeg 0 → G 7 RX3 cX3_neverBits 4 (some .int) Q 50 [some (.ref 27), some (.int (n0)), some (.int (s)), some (.int (nI (gt 143 (A1 20) 9).toNatClampNeg))] [] (hp A1 L I1 X)) : ∀ n k s, s = itn (fun k s => s ||| (if gt 8 (A1 30) (nI k) = 0 then 1 <<< (nI k &&& 31) else 0)) k 0 → k ≤ (gt 143 (A1 20) 9).toNatClampNeg → (gt 143 (A1 20) 9).toNatClampNeg - k < n → G 7 RX3 cX3_neverBits 4 (some .int) Q 10 [some (.ref 27), some (.int (n0)), some (.int (s)), some (.int (nI k))] [] (hp A1 L I1 X) := by
  intro n
  induction n with
  | zero => intro k s hs1 h1 h2; omega
  | succ n ih =>
    intro k s hs1 h1 h2
    have hb := clamp_lt (gt 143 (A1 20) 9)
    refine g_iload_n dX3_neverBits_10 rfl rfl ?_
    refine g_aload_n dX3_neverBits_11 rfl rfl ?_
    refine g_get dX3_neverBits_12 fl_X3_29 hp_27 rfl ?_
    refine g_bipush (v := 9) dX3_neverBits_15 (by decide) ?_
    refine g_callV dX3_neverBits_17 cv_X3_47 (as' := [_]) hp_19 rfl (h_get isS_19) (by decide) rfl rfl (Nat.le_of_ble_eq_true rfl) ?_
    rintro _ _ ⟨rfl, rfl⟩
    refine g_icmp_ge (tgt := 50) dX3_neverBits_20 (by decide) (fun c_20 => ?_) (fun c_20 => ?_)
    · have h6 := (nI_gen (k := k) (by omega)).mp c_20
      have hkn : k = (gt 143 (A1 20) 9).toNatClampNeg := by omega
      subst hkn
      exact hE s hs1
    · have hlt : k < (gt 143 (A1 20) 9).toNatClampNeg := Nat.not_le.mp (fun z => c_20 ((nI_gen (by omega)).mpr z))
      refine g_iload_n dX3_neverBits_23 rfl rfl ?_
      refine g_aload_n dX3_neverBits_24 rfl rfl ?_
      refine g_get dX3_neverBits_25 fl_X3_12 hp_27 rfl ?_
      refine g_iload_n dX3_neverBits_28 rfl rfl ?_
      refine g_callV dX3_neverBits_29 cv_X3_87 (as' := [_]) hp_28 rfl (h_came isS_28) (by decide) rfl rfl (Nat.le_of_ble_eq_true rfl) ?_
      rintro _ _ ⟨rfl, rfl⟩
      refine g_if_ne (tgt := 41) dX3_neverBits_32 (by decide) (fun c_32 => ?_) (fun c_32 => ?_)
      · refine g_ic_0 dX3_neverBits_41 ?_
        refine g_ior dX3_neverBits_42 ?_
        refine g_istore_n dX3_neverBits_43 rfl (by decide) ?_
        refine g_iinc1 dX3_neverBits_44 rfl (by decide) ?_
        refine g_goto (tgt := 10) dX3_neverBits_47 (by decide) ?_
        refine g_loc (ls' := [some (.ref 27), some (.int (n0)), some (.int ((s ||| 0))), some (.int (nI k + 1))]) (fun i v h => by rcases i with _|_|_|_|_ <;> first | exact h | cases h) ?_
        rw [nI_1]
        exact ih (k + 1) (s ||| 0) (by rw [show itn (fun k s => s ||| (if gt 8 (A1 30) (nI k) = 0 then 1 <<< (nI k &&& 31) else 0)) (k + 1) 0 = (fun k s => s ||| (if gt 8 (A1 30) (nI k) = 0 then 1 <<< (nI k &&& 31) else 0)) k s from by rw [hs1]; rfl]; exact congrArg (fun z => s ||| z) (if_neg c_32).symm) (by omega) (by omega)
      · refine g_ic_1 dX3_neverBits_35 ?_
        refine g_iload_n dX3_neverBits_36 rfl rfl ?_
        refine g_ishl dX3_neverBits_37 ?_
        refine g_goto (tgt := 42) dX3_neverBits_38 (by decide) ?_
        refine g_ior dX3_neverBits_42 ?_
        refine g_istore_n dX3_neverBits_43 rfl (by decide) ?_
        refine g_iinc1 dX3_neverBits_44 rfl (by decide) ?_
        refine g_goto (tgt := 10) dX3_neverBits_47 (by decide) ?_
        refine g_loc (ls' := [some (.ref 27), some (.int (n0)), some (.int ((s ||| (1 <<< (nI k &&& 31))))), some (.int (nI k + 1))]) (fun i v h => by rcases i with _|_|_|_|_ <;> first | exact h | cases h) ?_
        rw [nI_1]
        exact ih (k + 1) (s ||| (1 <<< (nI k &&& 31))) (by rw [show itn (fun k s => s ||| (if gt 8 (A1 30) (nI k) = 0 then 1 <<< (nI k &&& 31) else 0)) (k + 1) 0 = (fun k s => s ||| (if gt 8 (A1 30) (nI k) = 0 then 1 <<< (nI k &&& 31) else 0)) k s from by rw [hs1]; rfl]; exact congrArg (fun z => s ||| z) (if_pos c_32).symm) (by omega) (by omega)

set_option maxHeartbeats 4000000 in
set_option maxRecDepth 100000 in
theorem w_never {A : Nat → Nat → Int32} {L : Nat → Nat → Int64} {I : Nat → Nat → Int32} {X : Nat → Int64} {n : Int32}  : Con 7 yX3_neverBits cX3_neverBits 4 (some .int) [.ref 27, .int n] (hp A L I X) (fun r_ H_ => r_ = some (.int (nvS A I n)) ∧ ∃ A9 L9 I9, sm A L I A9 L9 I9 ∧ H_ = hp A9 L9 I9 X) := by
  refine m_con (by decide) (Nat.le_of_ble_eq_true rfl) ?_
  refine g_aload_n dX3_neverBits_0 rfl rfl ?_
  refine g_ic_0 dX3_neverBits_1 ?_
  refine g_iload_n dX3_neverBits_2 rfl rfl ?_
  refine g_callV dX3_neverBits_3 cv_X3_62 (as' := [_, _]) hp_27 rfl w_run (by decide) rfl rfl (Nat.le_of_ble_eq_true rfl) ?_
  rintro _ _ ⟨rfl, A1, I1, m1, e1, rfl⟩
  have e2 : A1 30 = (fc A I n.toNatClampNeg (fdS (A 20) 0)).2 := congrArg Prod.snd e1
  have e3 : A1 20 = A 20 := m1.1 20 (by decide)
  refine g_ic_0 dX3_neverBits_6 ?_
  refine g_istore_n dX3_neverBits_7 rfl (by decide) ?_
  refine g_ic_0 dX3_neverBits_8 ?_
  refine g_istore_n dX3_neverBits_9 rfl (by decide) ?_
  refine (w_never_loop (fun s hs => ?_) _ 0 0 rfl (Nat.zero_le _) (Nat.lt_succ_self _))
  refine g_iload_n dX3_neverBits_50 rfl rfl ?_
  exact g_iret dX3_neverBits_51 ⟨by unfold nvS; rw [← e2, ← e3, hs], A1, L, I1, m1, rfl⟩
