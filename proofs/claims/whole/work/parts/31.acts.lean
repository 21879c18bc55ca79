/-! what nobody asks after: cells that a question uses for itself -/
def nsc (i : Nat) : Bool := !([14, 15, 29, 30, 31, 32, 36, 37, 41, 42, 43].contains i)
def nsi (i k : Nat) : Bool := !((i == 11 && k == 6) || (i == 27 && (k == 6 || k == 7)))
def sm (A : Nat → Nat → Int32) (L : Nat → Nat → Int64) (I : Nat → Nat → Int32) (A' : Nat → Nat → Int32) (L' : Nat → Nat → Int64) (I' : Nat → Nat → Int32) : Prop :=
  (∀ i, nsc i = true → A' i = A i) ∧ (∀ i k, nsi i k = true → I' i k = I i k) ∧ ∀ i, i ≠ 33 → L' i = L i
theorem sm_rf {A : Nat → Nat → Int32} {L : Nat → Nat → Int64} {I : Nat → Nat → Int32} : sm A L I A L I := ⟨fun _ _ => rfl, fun _ _ _ => rfl, fun _ _ => rfl⟩
theorem sm_tr {A A1 A2 : Nat → Nat → Int32} {L L1 L2 : Nat → Nat → Int64} {I I1 I2 : Nat → Nat → Int32} (h : sm A L I A1 L1 I1) (k : sm A1 L1 I1 A2 L2 I2) : sm A L I A2 L2 I2 :=
  ⟨fun i z => (k.1 i z).trans (h.1 i z), fun i l z => (k.2.1 i l z).trans (h.2.1 i l z), fun i z => (k.2.2 i z).trans (h.2.2 i z)⟩
theorem sm_upA {A : Nat → Nat → Int32} {L : Nat → Nat → Int64} {I : Nat → Nat → Int32} {j : Nat} {f : Nat → Int32} (hj : nsc j = false) : sm A L I (up A j f) L I :=
  ⟨fun i z => up_ne (by rintro rfl; rw [hj] at z; cases z), fun _ _ _ => rfl, fun _ _ => rfl⟩
theorem sm_upI {A : Nat → Nat → Int32} {L : Nat → Nat → Int64} {I : Nat → Nat → Int32} {j l : Nat} {v : Int32} (hj : nsi j l = false) : sm A L I A L (up2 I j l v) :=
  ⟨fun _ _ => rfl, fun i k z => if_neg (by rintro ⟨rfl, rfl⟩; rw [hj] at z; cases z), fun _ _ => rfl⟩
theorem sm_upL {A : Nat → Nat → Int32} {L : Nat → Nat → Int64} {I : Nat → Nat → Int32} {f : Nat → Int64} : sm A L I A (up L 33 f) I :=
  ⟨fun _ _ => rfl, fun _ _ _ => rfl, fun _ z => up_ne z⟩
theorem sm_scr {A I A1 I1 : Nat → Nat → Int32} {L : Nat → Nat → Int64} (h : scr A I A1 I1) : sm A L I A1 L I1 := by
  obtain ⟨V, K, t, rfl, rfl⟩ := h
  exact sm_tr (sm_tr (sm_upA (by decide)) (sm_upA (by decide))) (sm_upI (by decide))
theorem sm_upS {A : Nat → Nat → Int32} {L : Nat → Nat → Int64} {I : Nat → Nat → Int32} {r c : Nat} {f g : Nat → Int32} (hr : nsc r = false) (hc : nsc c = false) : sm A L I (upS A r c f g) L I := sm_tr (sm_upA hr) (sm_upA hc)
/-- n turns of a row from here, its days counted from none -/
def fc (A I : Nat → Nat → Int32) (n : Nat) (f : Nat → Int32) : (Nat → Int32) × (Nat → Int32) := tnsS (A 12) (A 13) (I 11 5) n (f, fun _ => 0)
def tn1 (A I : Nat → Nat → Int32) (s : (Nat → Int32) × (Nat → Int32)) : (Nat → Int32) × (Nat → Int32) := tnS (A 12) (A 13) (I 11 5) s
theorem fc_sm {A A1 : Nat → Nat → Int32} {L L1 : Nat → Nat → Int64} {I I1 : Nat → Nat → Int32} (h : sm A L I A1 L1 I1) : fc A1 I1 = fc A I := by
  funext n f
  unfold fc
  rw [h.1 12 (by decide), h.1 13 (by decide), h.2.1 11 5 (by decide)]
theorem tn1_sm {A A1 : Nat → Nat → Int32} {L L1 : Nat → Nat → Int64} {I I1 : Nat → Nat → Int32} (h : sm A L I A1 L1 I1) : tn1 A1 I1 = tn1 A I := by
  funext s
  unfold tn1
  rw [h.1 12 (by decide), h.1 13 (by decide), h.2.1 11 5 (by decide)]
theorem tns_sm {A A1 : Nat → Nat → Int32} {L L1 : Nat → Nat → Int64} {I I1 : Nat → Nat → Int32} {n : Nat} {s : (Nat → Int32) × (Nat → Int32)} (h : sm A L I A1 L1 I1) : tnsS (A1 12) (A1 13) (I1 11 5) n s = tnsS (A 12) (A 13) (I 11 5) n s := by
  rw [h.1 12 (by decide), h.1 13 (by decide), h.2.1 11 5 (by decide)]

/-- the trial's own turns -/
theorem f_turns28 {A : Nat → Nat → Int32} {L : Nat → Nat → Int64} {I : Nat → Nat → Int32} {X : Nat → Int64} {n0 : Int32} : Con 5 yX7_takeTurns cX7_takeTurns 7 none [.ref 28, .int n0, .ref 11] (hp A L I X) (fun r_ H_ => r_ = none ∧ ∃ A1 I1, sm A L I A1 L I1 ∧ (A1 29, A1 30) = tnsS (A 12) (A 13) (I 11 5) n0.toNatClampNeg (A 29, A 30) ∧ H_ = hp A1 L I1 X) :=
  Con.mono (fun _ _ ⟨h1, A1, I1, h2, h3⟩ => ⟨h1, _, I1, sm_tr (sm_scr h2) (sm_upS (by decide) (by decide)), by rw [upS_r (by decide), upS_c], h3⟩) (h_turns isS_28)
theorem f_become28 {A : Nat → Nat → Int32} {L : Nat → Nat → Int64} {I : Nat → Nat → Int32} {X : Nat → Int64} {q2 r2 c2 : Nat} (hs2 : isS q2 r2 c2) (hne : 28 ≠ q2) : Con 3 yX7_become cX7_become 3 none [.ref 28, .ref q2] (hp A L I X) (fun r_ H_ => r_ = none ∧ ∃ A1, sm A L I A1 L I ∧ A1 29 = A r2 ∧ A1 30 = (fun _ => 0) ∧ H_ = hp A1 L I X) :=
  Con.mono (fun _ _ ⟨h1, h3⟩ => ⟨h1, _, sm_upS (by decide) (by decide), upS_r (by decide), upS_c, h3⟩) (h_become isS_28 hs2 hne)

/-- the trial's own turns -/
theorem f_turns35 {A : Nat → Nat → Int32} {L : Nat → Nat → Int64} {I : Nat → Nat → Int32} {X : Nat → Int64} {n0 : Int32} : Con 5 yX7_takeTurns cX7_takeTurns 7 none [.ref 35, .int n0, .ref 11] (hp A L I X) (fun r_ H_ => r_ = none ∧ ∃ A1 I1, sm A L I A1 L I1 ∧ (A1 36, A1 37) = tnsS (A 12) (A 13) (I 11 5) n0.toNatClampNeg (A 36, A 37) ∧ H_ = hp A1 L I1 X) :=
  Con.mono (fun _ _ ⟨h1, A1, I1, h2, h3⟩ => ⟨h1, _, I1, sm_tr (sm_scr h2) (sm_upS (by decide) (by decide)), by rw [upS_r (by decide), upS_c], h3⟩) (h_turns isS_35)
theorem f_become35 {A : Nat → Nat → Int32} {L : Nat → Nat → Int64} {I : Nat → Nat → Int32} {X : Nat → Int64} {q2 r2 c2 : Nat} (hs2 : isS q2 r2 c2) (hne : 35 ≠ q2) : Con 3 yX7_become cX7_become 3 none [.ref 35, .ref q2] (hp A L I X) (fun r_ H_ => r_ = none ∧ ∃ A1, sm A L I A1 L I ∧ A1 36 = A r2 ∧ A1 37 = (fun _ => 0) ∧ H_ = hp A1 L I X) :=
  Con.mono (fun _ _ ⟨h1, h3⟩ => ⟨h1, _, sm_upS (by decide) (by decide), upS_r (by decide), upS_c, h3⟩) (h_become isS_35 hs2 hne)

def drX (x : Int64) : Int64 := x * 6364136223846793005 + 1442695040888963407
def drV (x : Int64) (j : Int32) : Int32 := if 1 ≤ j then (((drX x).toUInt64 >>> ((33 : Int32).toInt64.toUInt64 &&& Int64.toUInt64 63)).toInt64 - ((drX x).toUInt64 >>> ((33 : Int32).toInt64.toUInt64 &&& Int64.toUInt64 63)).toInt64 / j.toInt64 * j.toInt64).toInt32 else 0
set_option maxHeartbeats 4000000 in
set_option maxRecDepth 100000 in
theorem d_begin {A : Nat → Nat → Int32} {L : Nat → Nat → Int64} {I : Nat → Nat → Int32} {X : Nat → Int64} {x : Int64}  : Con 1 yX2_begin cX2_begin 3 none [.ref 44, .long x] (hp A L I X) (fun r_ H_ => r_ = none ∧ H_ = hp A L I (up X 44 x)) := by
  refine m_con (by decide) (Nat.le_of_ble_eq_true rfl) ?_
  refine g_aload_n dX2_begin_0 rfl rfl ?_
  refine g_lload_n dX2_begin_1 rfl rfl ?_
  refine g_putl dX2_begin_2 fw_X2_7 hp_44 (Nat.le_of_ble_eq_true rfl) ?_
  rw [hq_44_0]
  exact g_vret dX2_begin_5 ⟨rfl, rfl⟩

theorem i2l_ne {j : Int32} (h : 1 ≤ j) : ¬ j.toInt64 = 0 := by
  intro z
  have h1 := congrArg Int64.toInt z
  rw [Int32.toInt_toInt64] at h1
  rw [Int32.le_iff_toInt_le] at h
  have e : (1 : Int32).toInt = 1 := by decide
  have e0 : (0 : Int64).toInt = 0 := by decide
  rw [e] at h
  rw [e0] at h1
  omega
set_option maxHeartbeats 4000000 in
set_option maxRecDepth 100000 in
theorem d_below {A : Nat → Nat → Int32} {L : Nat → Nat → Int64} {I : Nat → Nat → Int32} {X : Nat → Int64} {j : Int32}  : Con 1 yX2_below cX2_below 2 (some .int) [.ref 44, .int j] (hp A L I X) (fun r_ H_ => r_ = some (.int (drV (X 44) j)) ∧ H_ = hp A L I (up X 44 (drX (X 44)))) := by
  refine m_con (by decide) (Nat.le_of_ble_eq_true rfl) ?_
  refine g_aload_n dX2_below_0 rfl rfl ?_
  refine g_aload_n dX2_below_1 rfl rfl ?_
  refine g_get dX2_below_2 fl_X2_7 hp_44 rfl ?_
  refine g_ldc2 dX2_below_5 lc_X2_13 ?_
  refine g_lmul dX2_below_8 ?_
  refine g_ldc2 dX2_below_9 lc_X2_15 ?_
  refine g_ladd dX2_below_12 ?_
  refine g_putl dX2_below_13 fw_X2_7 hp_44 (Nat.le_of_ble_eq_true rfl) ?_
  rw [hq_44_0]
  refine g_iload_n dX2_below_16 rfl rfl ?_
  refine g_ic_1 dX2_below_17 ?_
  refine g_icmp_ge (tgt := 25) dX2_below_18 (by decide) (fun c_18 => ?_) (fun c_18 => ?_)
  · refine g_aload_n dX2_below_25 rfl rfl ?_
    refine g_get dX2_below_26 fl_X2_7 hp_44 rfl ?_
    refine g_bipush (v := 33) dX2_below_29 (by decide) ?_
    refine g_lushr dX2_below_31 ?_
    refine g_iload_n dX2_below_32 rfl rfl ?_
    refine g_i2l dX2_below_33 ?_
    refine g_lrem dX2_below_34 (i2l_ne c_18) ?_
    refine g_l2i dX2_below_35 ?_
    exact g_iret dX2_below_36 ⟨by unfold drV; rw [if_pos c_18, up_at]; rfl, rfl⟩
  · refine g_ic_0 dX2_below_21 ?_
    refine g_goto (tgt := 36) dX2_below_22 (by decide) ?_
    exact g_iret dX2_below_36 ⟨by unfold drV; rw [if_neg c_18], rfl⟩

/-! ACTS: rows 26, many I 25 1, next I 25 2 -/
def kpR (R f : Nat → Int32) (nx : Int32) : Nat → Nat → Int32
  | 0 => R
  | k + 1 => pt 5720 (kpR R f nx k) (nx * 143 + nI k) (f k)
def tbR (R : Nat → Int32) (nx : Int32) : Nat → Int32 := fun j => gt 5720 R (nx * 143 + nI j)
set_option maxHeartbeats 4000000 in
set_option maxRecDepth 100000 in
theorem a_keep_loop {A : Nat → Nat → Int32} {L : Nat → Nat → Int64} {I : Nat → Nat → Int32} {X : Nat → Int64} {q r c : Nat} {Q : Option Value → m_H → Prop} (hs : isS q r c) (hr : r ≠ 26) (hQ : Q none (hp (up A 26 (kpR (A 26) (A r) (I 25 2) 143)) L (up2 (up2 I 25 2 (rm (I 25 2 + 1) 40)) 25 1 (mn 40 (I 25 1 + 1))) X)) : ∀ n k, k ≤ 143 → 143 - k < n → G 3 RX0 cX0_keep 3 none Q 2 [some (.ref 25), some (.ref q), some (.int (nI k))] [] (hp (up A 26 (kpR (A 26) (A r) (I 25 2) k)) L I X) := by
  intro n
  induction n with
  | zero => intro k h1 h2; omega
  | succ n ih =>
    intro k h1 h2
    refine g_iload_n dX0_keep_2 rfl rfl ?_
    refine g_sipush (v := 143) dX0_keep_3 (by decide) ?_
    refine g_icmp_ge (tgt := 37) dX0_keep_6 (by decide) (fun c_6 => ?_) (fun c_6 => ?_)
    · have h6 : 143 ≤ k := lit_le (n := 143) (by decide) (by omega) c_6
      have hkn : k = 143 := by omega
      subst hkn
      refine g_aload_n dX0_keep_37 rfl rfl ?_
      refine g_aload_n dX0_keep_38 rfl rfl ?_
      refine g_get dX0_keep_39 fl_X0_19 hp_25 rfl ?_
      refine g_ic_1 dX0_keep_42 ?_
      refine g_iadd dX0_keep_43 ?_
      refine g_bipush (v := 40) dX0_keep_44 (by decide) ?_
      refine g_irem dX0_keep_46 (by decide) ?_
      refine g_puti dX0_keep_47 fw_X0_19 hp_25 (Nat.le_of_ble_eq_true rfl) ?_
      rw [hq_25_2]
      refine g_aload_n dX0_keep_50 rfl rfl ?_
      refine g_bipush (v := 40) dX0_keep_51 (by decide) ?_
      refine g_aload_n dX0_keep_53 rfl rfl ?_
      refine g_get dX0_keep_54 fl_X0_15 hp_25 rfl ?_
      refine g_ic_1 dX0_keep_57 ?_
      refine g_iadd dX0_keep_58 ?_
      refine g_min dX0_keep_59 ml_X0_32 ms_min mi_math mc_min (by decide) (Nat.le_of_ble_eq_true rfl) ?_
      refine g_puti dX0_keep_62 fw_X0_15 hp_25 (Nat.le_of_ble_eq_true rfl) ?_
      rw [hq_25_1]
      exact g_vret dX0_keep_65 hQ
    · have hlt : k < 143 := lit_nle (n := 143) (by decide) (by omega) c_6
      refine g_aload_n dX0_keep_9 rfl rfl ?_
      refine g_get dX0_keep_10 fl_X0_9 hp_25 rfl ?_
      refine g_aload_n dX0_keep_13 rfl rfl ?_
      refine g_get dX0_keep_14 fl_X0_19 hp_25 rfl ?_
      refine g_sipush (v := 143) dX0_keep_17 (by decide) ?_
      refine g_imul dX0_keep_20 ?_
      refine g_iload_n dX0_keep_21 rfl rfl ?_
      refine g_iadd dX0_keep_22 ?_
      refine g_aload_n dX0_keep_23 rfl rfl ?_
      refine g_iload_n dX0_keep_24 rfl rfl ?_
      refine g_callV dX0_keep_25 cv_X0_22 (as' := [_]) (isS_q hs) rfl (h_get hs) (by decide) rfl rfl (Nat.le_of_ble_eq_true rfl) ?_
      rintro _ _ ⟨rfl, rfl⟩
      rw [up_ne hr, gt_nI hlt (by decide)]
      refine g_callS dX0_keep_28 cs_X0_28 (as := [_, _, _]) (k_setCell hp_26 (by decide)) (by decide) rfl rfl (Nat.le_of_ble_eq_true rfl) ?_
      rintro _ _ ⟨rfl, rfl⟩
      rw [hq_26, up_up, up_at]
      refine g_iinc1 dX0_keep_31 rfl (by decide) ?_
      refine g_goto (tgt := 2) dX0_keep_34 (by decide) ?_
      rw [nI_1]
      exact ih (k + 1) (by omega) (by omega)

theorem isS_26 {q r c : Nat} (hs : isS q r c) : r ≠ 26 := by
  rcases hs with ⟨rfl, rfl, rfl⟩ | ⟨rfl, rfl, rfl⟩ | ⟨rfl, rfl, rfl⟩ | ⟨rfl, rfl, rfl⟩ | ⟨rfl, rfl, rfl⟩ | ⟨rfl, rfl, rfl⟩ <;> decide
set_option maxHeartbeats 4000000 in
set_option maxRecDepth 100000 in
theorem a_keep {A : Nat → Nat → Int32} {L : Nat → Nat → Int64} {I : Nat → Nat → Int32} {X : Nat → Int64} {q r c : Nat} (hs : isS q r c) : Con 3 yX0_keep cX0_keep 3 none [.ref 25, .ref q] (hp A L I X) (fun r_ H_ => r_ = none ∧ H_ = hp (up A 26 (kpR (A 26) (A r) (I 25 2) 143)) L (up2 (up2 I 25 2 (rm (I 25 2 + 1) 40)) 25 1 (mn 40 (I 25 1 + 1))) X) := by
  refine m_con (by decide) (Nat.le_of_ble_eq_true rfl) ?_
  refine g_ic_0 dX0_keep_0 ?_
  refine g_istore_n dX0_keep_1 rfl (by decide) ?_
  have h := a_keep_loop (A := A) (L := L) (I := I) (X := X) (Q := (fun r_ H_ => r_ = none ∧ H_ = hp (up A 26 (kpR (A 26) (A r) (I 25 2) 143)) L (up2 (up2 I 25 2 (rm (I 25 2 + 1) 40)) 25 1 (mn 40 (I 25 1 + 1))) X)) hs (isS_26 hs) ⟨rfl, rfl⟩ 144 0 (by omega) (by omega)
  rw [show kpR (A 26) (A r) (I 25 2) 0 = A 26 from rfl, up_self] at h
  exact h

theorem isS_26c {q r c : Nat} (hs : isS q r c) : c ≠ 26 := by
  rcases hs with ⟨rfl, rfl, rfl⟩ | ⟨rfl, rfl, rfl⟩ | ⟨rfl, rfl, rfl⟩ | ⟨rfl, rfl, rfl⟩ | ⟨rfl, rfl, rfl⟩ | ⟨rfl, rfl, rfl⟩ <;> decide
theorem hK_r {q r c : Nat} (hs : isS q r c) : hK r = 1 := by
  rcases hs with ⟨rfl, rfl, rfl⟩ | ⟨rfl, rfl, rfl⟩ | ⟨rfl, rfl, rfl⟩ | ⟨rfl, rfl, rfl⟩ | ⟨rfl, rfl, rfl⟩ | ⟨rfl, rfl, rfl⟩ <;> decide
theorem hN_r {q r c : Nat} (hs : isS q r c) : hN r = 143 := by
  rcases hs with ⟨rfl, rfl, rfl⟩ | ⟨rfl, rfl, rfl⟩ | ⟨rfl, rfl, rfl⟩ | ⟨rfl, rfl, rfl⟩ | ⟨rfl, rfl, rfl⟩ | ⟨rfl, rfl, rfl⟩ <;> decide
set_option maxHeartbeats 4000000 in
set_option maxRecDepth 100000 in
theorem a_back_loop {A : Nat → Nat → Int32} {L : Nat → Nat → Int64} {I : Nat → Nat → Int32} {X : Nat → Int64} {q r c : Nat} {Q : Option Value → m_H → Prop} (hs : isS q r c) (hQ : Q (some (.int 1)) (hp (up A r (tbR (A 26) (I 25 2))) L I X)) : ∀ n k, k ≤ 143 → 143 - k < n → G 3 RX0 cX0_takeBack 3 (some .boolean) Q 38 [some (.ref 25), some (.ref q), some (.int (nI k))] [] (hp (upS A r c (fl (tbR (A 26) (I 25 2)) (A r) k) (A c)) L I X) := by
  have a9 := (isS_l hs).2.2.2.2.2.2.2.2
  have hQ2 : Q (some (.int 1)) (hp (up (upS A r c (fl (tbR (A 26) (I 25 2)) (A r) 143) (A c)) r (tbR (A 26) (I 25 2))) L I X) := by
    have e : up (upS A r c (fl (tbR (A 26) (I 25 2)) (A r) 143) (A c)) r (tbR (A 26) (I 25 2)) = up A r (tbR (A 26) (I 25 2)) := by
      funext j
      unfold upS up
      by_cases h1 : j = r
      · rw [if_pos h1, if_pos h1]
      · rw [if_neg h1, if_neg h1, if_neg h1]
        by_cases h2 : j = c
        · rw [if_pos h2, h2]
        · rw [if_neg h2]
    rw [e]; exact hQ
  intro n
  induction n with
  | zero => intro k h1 h2; omega
  | succ n ih =>
    intro k h1 h2
    refine g_iload_n dX0_takeBack_38 rfl rfl ?_
    refine g_sipush (v := 143) dX0_takeBack_39 (by decide) ?_
    refine g_icmp_ge (tgt := 73) dX0_takeBack_42 (by decide) (fun c_42 => ?_) (fun c_42 => ?_)
    · have h6 : 143 ≤ k := lit_le (n := 143) (by decide) (by omega) c_42
      have hkn : k = 143 := by omega
      subst hkn
      refine g_ext (tbR (A 26) (I 25 2)) (isS_r hs) (by intro j hj; rw [upS_r a9]; exact fl_end j hj) ?_
      rw [show ia 143 (tbR (A 26) (I 25 2)) = ia (hN r) (tbR (A 26) (I 25 2)) by rw [hN_r hs], hp_setA (hK_r hs)]
      refine g_ic_1 dX0_takeBack_73 ?_
      exact g_zret (by first | exact Or.inl rfl | exact Or.inr rfl) dX0_takeBack_74 hQ2
    · have hlt : k < 143 := lit_nle (n := 143) (by decide) (by omega) c_42
      refine g_aload_n dX0_takeBack_45 rfl rfl ?_
      refine g_iload_n dX0_takeBack_46 rfl rfl ?_
      refine g_aload_n dX0_takeBack_47 rfl rfl ?_
      refine g_get dX0_takeBack_48 fl_X0_9 hp_25 rfl ?_
      refine g_aload_n dX0_takeBack_51 rfl rfl ?_
      refine g_get dX0_takeBack_52 fl_X0_19 hp_25 rfl ?_
      refine g_sipush (v := 143) dX0_takeBack_55 (by decide) ?_
      refine g_imul dX0_takeBack_58 ?_
      refine g_iload_n dX0_takeBack_59 rfl rfl ?_
      refine g_iadd dX0_takeBack_60 ?_
      refine g_callS dX0_takeBack_61 cs_X0_38 (as := [_, _]) (k_cell (f := A 26) (by rw [ha_26, upS_ne (Ne.symm (isS_26 hs)) (Ne.symm (isS_26c hs))]) (by decide)) (by decide) rfl rfl (Nat.le_of_ble_eq_true rfl) ?_
      rintro _ _ ⟨rfl, rfl⟩
      refine g_callV dX0_takeBack_64 cv_X0_42 (as' := [_, _]) (isS_q hs) rfl (h_put hs) (by decide) rfl rfl (Nat.le_of_ble_eq_true rfl) ?_
      rintro _ _ ⟨rfl, rfl⟩
      simp only [upS_upS a9, upS_r a9, upS_c]
      rw [fl_step (F := tbR (A 26) (I 25 2)) (v := gt 5720 (A 26) (I 25 2 * 143 + nI k)) hlt (by decide) rfl]
      refine g_iinc1 dX0_takeBack_67 rfl (by decide) ?_
      refine g_goto (tgt := 38) dX0_takeBack_70 (by decide) ?_
      rw [nI_1]
      exact ih (k + 1) (by omega) (by omega)

set_option maxHeartbeats 4000000 in
set_option maxRecDepth 100000 in
theorem a_back {A : Nat → Nat → Int32} {L : Nat → Nat → Int64} {I : Nat → Nat → Int32} {X : Nat → Int64} {q r c : Nat} (hs : isS q r c) : Con 3 yX0_takeBack cX0_takeBack 3 (some .boolean) [.ref 25, .ref q] (hp A L I X) (fun r_ H_ => (I 25 1 < 1 ∧ r_ = some (.int 0) ∧ H_ = hp A L I X) ∨ (1 ≤ I 25 1 ∧ r_ = some (.int 1) ∧ H_ = hp (up A r (tbR (A 26) (rm (I 25 2 + 40 - 1) 40))) L (up2 (up2 I 25 2 (rm (I 25 2 + 40 - 1) 40)) 25 1 (I 25 1 - 1)) X)) := by
  refine m_con (by decide) (Nat.le_of_ble_eq_true rfl) ?_
  refine g_aload_n dX0_takeBack_0 rfl rfl ?_
  refine g_get dX0_takeBack_1 fl_X0_15 hp_25 rfl ?_
  refine g_ic_1 dX0_takeBack_4 ?_
  refine g_icmp_ge (tgt := 10) dX0_takeBack_5 (by decide) (fun c_5 => ?_) (fun c_5 => ?_)
  · refine g_aload_n dX0_takeBack_10 rfl rfl ?_
    refine g_aload_n dX0_takeBack_11 rfl rfl ?_
    refine g_get dX0_takeBack_12 fl_X0_19 hp_25 rfl ?_
    refine g_bipush (v := 40) dX0_takeBack_15 (by decide) ?_
    refine g_iadd dX0_takeBack_17 ?_
    refine g_ic_1 dX0_takeBack_18 ?_
    refine g_isub dX0_takeBack_19 ?_
    refine g_bipush (v := 40) dX0_takeBack_20 (by decide) ?_
    refine g_irem dX0_takeBack_22 (by decide) ?_
    refine g_puti dX0_takeBack_23 fw_X0_19 hp_25 (Nat.le_of_ble_eq_true rfl) ?_
    rw [hq_25_2]
    refine g_aload_n dX0_takeBack_26 rfl rfl ?_
    refine g_dup dX0_takeBack_27 rfl ?_
    refine g_get dX0_takeBack_28 fl_X0_15 hp_25 rfl ?_
    refine g_ic_1 dX0_takeBack_31 ?_
    refine g_isub dX0_takeBack_32 ?_
    refine g_puti dX0_takeBack_33 fw_X0_15 hp_25 (Nat.le_of_ble_eq_true rfl) ?_
    rw [hq_25_1]
    refine g_ic_0 dX0_takeBack_36 ?_
    refine g_istore_n dX0_takeBack_37 rfl (by decide) ?_
    have h := a_back_loop (A := A) (L := L) (I := (up2 (up2 I 25 2 (rm (I 25 2 + 40 - 1) 40)) 25 1 (I 25 1 - 1))) (X := X) (Q := (fun r_ H_ => (I 25 1 < 1 ∧ r_ = some (.int 0) ∧ H_ = hp A L I X) ∨ (1 ≤ I 25 1 ∧ r_ = some (.int 1) ∧ H_ = hp (up A r (tbR (A 26) (rm (I 25 2 + 40 - 1) 40))) L (up2 (up2 I 25 2 (rm (I 25 2 + 40 - 1) 40)) 25 1 (I 25 1 - 1)) X))) hs (Or.inr ⟨c_5, rfl, rfl⟩) 144 0 (by omega) (by omega)
    rw [fl_0, upS_self] at h
    exact h
  · refine g_ic_0 dX0_takeBack_8 ?_
    exact g_zret (by first | exact Or.inl rfl | exact Or.inr rfl) dX0_takeBack_9 (Or.inl ⟨Int32.not_le.mp c_5, rfl, rfl⟩)
