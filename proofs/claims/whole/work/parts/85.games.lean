/-! THE REFERENCE: shares, never, games -/
theorem fd_0 {f : ROW} : fdS f 0 = f := by
  unfold fdS
  rw [p143_1, g143_1, Int32.add_zero]
  funext j
  unfold upd
  split
  · rename_i e
    rw [e]
  · rfl
theorem alS_eq {g D : ROW} (h : ∀ j, j < 8 → g j = D j) {n : Nat} (hn : n ≤ 8) : itn (fun k s => s + D k) n 0 = alS g n := by
  unfold alS
  exact itn_eq n (fun k t hk => by rw [gt_nI (by omega) (by decide), h k (by omega)])
set_option maxHeartbeats 800000 in
set_option maxRecDepth 100000 in
theorem e_la_loop {A : Nat → Nat → Int32} {L : Nat → Nat → Int64} {I : Nat → Nat → Int32} {X : Nat → Int64} {ms : Nat} {n : Int32} {Q : Option Value → m_H → Prop} (h25 : I 46 25 = nI ms) (hms : ms ≤ 8) (hQ : ∀ s, s = itn (fun k s => s + A 65 k) ms 0 → Q (some (.int s)) (hp A L I X)) : ∀ f k s, s = itn (fun k s => s + A 65 k) k 0 → k ≤ ms → ms - k < f → G 9 RX11 cX11_layAhead 4 (some .int) Q 17 [some (.ref 46), some (.int (n)), some (.int (s)), some (.int (nI k))] [] (hp A L I X) := by
  intro f
  induction f with
  | zero => intro k s hs h1 h2; omega
  | succ f ih =>
    intro k s hs h1 h2
    refine g_iload_n dX11_layAhead_17 rfl rfl ?_
    refine g_aload_n dX11_layAhead_18 rfl rfl ?_
    refine g_get dX11_layAhead_19 fl_X11_261 hp_46 rfl ?_
    refine g_icmp_ge (tgt := 40) dX11_layAhead_22 (by decide) (fun c_22 => ?_) (fun c_22 => ?_)
    · have hge : ms ≤ k := by rw [h25] at c_22; exact (nI_leI (by omega) (by omega)).mp c_22
      have hkn : k = ms := by omega
      subst hkn
      refine g_iload_n dX11_layAhead_40 rfl rfl ?_
      exact g_iret dX11_layAhead_41 (hQ s hs)
    · have hlt : k < ms := by rw [h25] at c_22; exact Nat.not_le.mp (fun z => c_22 (nI_le z (by omega)))
      refine g_iload_n dX11_layAhead_25 rfl rfl ?_
      refine g_aload_n dX11_layAhead_26 rfl rfl ?_
      refine g_get dX11_layAhead_27 fl_X11_68 hp_46 rfl ?_
      refine g_iload_n dX11_layAhead_30 rfl rfl ?_
      refine g_ra dX11_layAhead_31 hp_65 (k := k) rfl (by omega) (by decide) ?_
      refine g_iadd dX11_layAhead_32 ?_
      refine g_istore_n dX11_layAhead_33 rfl (by decide) ?_
      refine g_iinc1 dX11_layAhead_34 rfl (by decide) ?_
      refine g_goto (tgt := 17) dX11_layAhead_37 (by decide) ?_
      rw [nI_1]
      refine g_loc (ls' := [some (.ref 46), some (.int (n)), some (.int (s + A 65 k)), some (.int (nI (k + 1)))]) (fun i v h => by rcases i with _|_|_|_|_ <;> first | exact h | cases h) ?_
      exact ih (k + 1) _ (by rw [hs]; rfl) (by omega) (by omega)

set_option maxHeartbeats 800000 in
set_option maxRecDepth 100000 in
theorem e_layAhead {A : Nat → Nat → Int32} {L : Nat → Nat → Int64} {I : Nat → Nat → Int32} {X : Nat → Int64} {ms cs : Nat} {n : Int32} (h : INV A I) (hP : PLN ms cs A I) : Con 9 yX11_layAhead cX11_layAhead 4 (some .int) [.ref 46, .int n] (hp A L I X) (fun r_ H_ => r_ = some (.int (alS (fc A I n.toNatClampNeg (A 20)).2 ms)) ∧ ∃ A2 I2, smM A I A2 I2 ∧ (∀ j, j < 8 → A2 65 j = (fc A I n.toNatClampNeg (A 20)).2 j) ∧ H_ = hp A2 L I2 X) := by
  refine m_con (by decide) (Nat.le_of_ble_eq_true rfl) ?_
  refine g_aload_n dX11_layAhead_0 rfl rfl ?_
  refine g_callV dX11_layAhead_1 cv_X11_358 (as' := []) hp_46 rfl e_putAside (by decide) rfl rfl (Nat.le_of_ble_eq_true rfl) ?_
  rintro _ _ ⟨rfl, rfl⟩
  refine g_eq (Hp2 := hp (up (up (up A 67 (A 63)) 65 (fun _ => 0)) 63 (A 63)) L (up2 I 46 33 0) X) (by rw [show (up (up (up A 67 (A 63)) 65 (fun _ => 0)) 63 (A 63)) = up (up A 67 (A 63)) 65 (fun _ => 0) from up_self (A := up (up A 67 (A 63)) 65 (fun _ => 0)) (i := 63)]) ?_
  have hRJ0 : RJ ms cs (A 60) (A 61) (A 62) ((A 20)) ((A 63)) := hP.2.1.1
  obtain ⟨hw0, h250, h260, hL, hA0⟩ := as_start h hP hRJ0 (N2 := (A 63)) (by intro j hj; first | rfl | (simp (disch := omega) only [ud_at, ud_ne]))
  refine g_aload_n dX11_layAhead_4 rfl rfl ?_
  refine g_iload_n dX11_layAhead_5 rfl rfl ?_
  refine g_callV dX11_layAhead_6 cv_X11_361 (as' := [_]) hp_46 rfl (e_liveMany hw0 h250 h260 hL) (by decide) rfl rfl (Nat.le_of_ble_eq_true rfl) ?_
  rintro _ _ ⟨rfl, A3, I3, hL, rfl⟩
  refine g_aload_n dX11_layAhead_9 rfl rfl ?_
  refine g_callV dX11_layAhead_10 cv_X11_364 (as' := []) hp_46 rfl e_takeBack (by decide) rfl rfl (Nat.le_of_ble_eq_true rfl) ?_
  rintro _ _ ⟨rfl, rfl⟩
  have hm := as_back (as_step hA0 hL)
  refine g_ic_0 dX11_layAhead_13 ?_
  refine g_istore_n dX11_layAhead_14 rfl (by decide) ?_
  refine g_ic_0 dX11_layAhead_15 ?_
  refine g_istore_n dX11_layAhead_16 rfl (by decide) ?_
  refine e_la_loop (ms := ms) ((hL.1.2 46 25 (by decide)).trans h250) hP.2.1.1.1.2.1 (fun s hs => ⟨?_, _, _, hm, fun j hj => (hL.2.2.1 j hj).symm, rfl⟩) (ms + 1) 0 0 rfl (Nat.zero_le _) (Nat.lt_succ_self _)
  rw [hs]
  exact congrArg (fun z => some (Value.int z)) (alS_eq (fun j hj => hL.2.2.1 j hj) hP.2.1.1.1.2.1)

set_option maxHeartbeats 800000 in
set_option maxRecDepth 100000 in
theorem n_shares {A : Nat → Nat → Int32} {L : Nat → Nat → Int64} {I : Nat → Nat → Int32} {X : Nat → Int64} {x n c : Int32} (h : INV A I) : Con 10 yX11_shares cX11_shares 5 (some .int) [.ref 46, .int x, .int n, .int c] (hp A L I X) (QM A I X (shaS A I x n c)) := by
  refine m_con (by decide) (Nat.le_of_ble_eq_true rfl) ?_
  refine g_aload_n dX11_shares_0 rfl rfl ?_
  refine g_iload_n dX11_shares_1 rfl rfl ?_
  refine g_callV dX11_shares_2 cv_X11_317 (as' := [_]) hp_46 rfl e_isMonth (by decide) rfl rfl (Nat.le_of_ble_eq_true rfl) ?_
  rintro _ _ ⟨rfl, rfl⟩
  refine g_if_eq (tgt := 29) dX11_shares_5 (by decide) (fun c_5 => ?_) (fun c_5 => ?_)
  · refine g_ic_m1 dX11_shares_29 ?_
    exact g_iret dX11_shares_30 ⟨congrArg (fun z => some (Value.int z)) (show _ = shaS A I x n c from (if_pos (Or.inl (by rw [INV_M h]; exact c_5))).symm), _, _, _, smM_rf, rfl⟩
  · refine g_iload_n dX11_shares_8 rfl rfl ?_
    refine g_ic_1 dX11_shares_9 ?_
    refine g_bipush (v := 60) dX11_shares_10 (by decide) ?_
    refine g_callS dX11_shares_12 cs_X11_221 (as := [_, _, _]) e_in (by decide) rfl rfl (Nat.le_of_ble_eq_true rfl) ?_
    rintro _ _ ⟨rfl, rfl⟩
    refine g_if_eq (tgt := 29) dX11_shares_15 (by decide) (fun c_15 => ?_) (fun c_15 => ?_)
    · refine g_ic_m1 dX11_shares_29 ?_
      exact g_iret dX11_shares_30 ⟨congrArg (fun z => some (Value.int z)) (show _ = shaS A I x n c from (if_pos (Or.inr ((in_0.mp c_15).elim Or.inl (fun z => Or.inr (Or.inl z))))).symm), _, _, _, smM_rf, rfl⟩
    · refine g_iload_n dX11_shares_18 rfl rfl ?_
      refine g_ic_0 dX11_shares_19 ?_
      refine g_sipush (v := 999) dX11_shares_20 (by decide) ?_
      refine g_callS dX11_shares_23 cs_X11_221 (as := [_, _, _]) e_in (by decide) rfl rfl (Nat.le_of_ble_eq_true rfl) ?_
      rintro _ _ ⟨rfl, rfl⟩
      refine g_if_ne (tgt := 31) dX11_shares_26 (by decide) (fun c_26 => ?_) (fun c_26 => ?_)
      · obtain ⟨ms, cs, m, hP, rfl, m1, m8⟩ := INV_Pm h c_5
        have hv : shaS A I (nI m) n c = (if alS (fc A I n.toNatClampNeg (A 20)).2 ms = 0 then 0 else c * gt 8 (fc A I n.toNatClampNeg (A 20)).2 (nI m) / alS (fc A I n.toNatClampNeg (A 20)).2 ms) := (if_neg (fun z => by rcases z with z | z | z | z | z; exact c_5 (by rw [← INV_M h]; exact z); exact c_15 (in_0.mpr (Or.inl z)); exact c_15 (in_0.mpr (Or.inr z)); exact c_26 (in_0.mpr (Or.inl z)); exact c_26 (in_0.mpr (Or.inr (Int32.not_le.mp z))))).trans (by unfold shS; rw [fd_0, g143_9, hP.2.1.1.1.2.2.2.2.1, nI_clamp (Nat.lt_of_le_of_lt hP.2.1.1.1.2.1 (by decide))])
        refine g_aload_n dX11_shares_31 rfl rfl ?_
        refine g_iload_n dX11_shares_32 rfl rfl ?_
        refine g_callV dX11_shares_33 cv_X11_388 (as' := [_]) hp_46 rfl (e_layAhead h hP) (by decide) rfl rfl (Nat.le_of_ble_eq_true rfl) ?_
        rintro _ _ ⟨rfl, A2, I2, hm, h65, rfl⟩
        refine g_istore dX11_shares_36 (by decide) ?_
        refine g_iload dX11_shares_38 rfl ?_
        refine g_if_ne (tgt := 47) dX11_shares_40 (by decide) (fun c_40 => ?_) (fun c_40 => ?_)
        · refine g_iload_n dX11_shares_47 rfl rfl ?_
          refine g_aload_n dX11_shares_48 rfl rfl ?_
          refine g_get dX11_shares_49 fl_X11_68 hp_46 rfl ?_
          refine g_iload_n dX11_shares_52 rfl rfl ?_
          refine g_ra dX11_shares_53 hp_65 (k := m) rfl (by omega) (by decide) ?_
          refine g_imul dX11_shares_54 ?_
          refine g_iload dX11_shares_55 rfl ?_
          refine g_idiv dX11_shares_57 c_40 ?_
          exact g_iret dX11_shares_58 ⟨congrArg (fun z => some (Value.int z)) (show _ = shaS A I (nI m) n c from by rw [hv, if_neg c_40, gt_nI m8 (by decide), h65 m m8]), _, _, _, hm, rfl⟩
        · refine g_ic_0 dX11_shares_43 ?_
          refine g_goto (tgt := 58) dX11_shares_44 (by decide) ?_
          exact g_iret dX11_shares_58 ⟨congrArg (fun z => some (Value.int z)) (show _ = shaS A I (nI m) n c from by rw [hv, if_pos c_40]), _, _, _, hm, rfl⟩
      · refine g_ic_m1 dX11_shares_29 ?_
        exact g_iret dX11_shares_30 ⟨congrArg (fun z => some (Value.int z)) (show _ = shaS A I x n c from (if_pos (Or.inr (Or.inr (Or.inr ((in_0.mp c_26).elim Or.inl (fun z => Or.inr (Int32.not_le.mpr z))))))).symm), _, _, _, smM_rf, rfl⟩

set_option maxHeartbeats 800000 in
set_option maxRecDepth 100000 in
theorem e_nv_loop {A : Nat → Nat → Int32} {L : Nat → Nat → Int64} {I : Nat → Nat → Int32} {X : Nat → Int64} {ms : Nat} {n : Int32} {Q : Option Value → m_H → Prop} (h25 : I 46 25 = nI ms) (hms : ms ≤ 8) (hQ : ∀ s, s = itn (fun k s => s ||| (if A 65 k = 0 then 1 <<< (nI k &&& 31) else 0)) ms 0 → Q (some (.int s)) (hp A L I X)) : ∀ f k s, s = itn (fun k s => s ||| (if A 65 k = 0 then 1 <<< (nI k &&& 31) else 0)) k 0 → k ≤ ms → ms - k < f → G 10 RX11 cX11_never 4 (some .int) Q 29 [some (.ref 46), some (.int (n)), some (.int (s)), some (.int (nI k))] [] (hp A L I X) := by
  intro f
  induction f with
  | zero => intro k s hs h1 h2; omega
  | succ f ih =>
    intro k s hs h1 h2
    refine g_iload_n dX11_never_29 rfl rfl ?_
    refine g_aload_n dX11_never_30 rfl rfl ?_
    refine g_get dX11_never_31 fl_X11_261 hp_46 rfl ?_
    refine g_icmp_ge (tgt := 62) dX11_never_34 (by decide) (fun c_34 => ?_) (fun c_34 => ?_)
    · have hge : ms ≤ k := by rw [h25] at c_34; exact (nI_leI (by omega) (by omega)).mp c_34
      have hkn : k = ms := by omega
      subst hkn
      refine g_iload_n dX11_never_62 rfl rfl ?_
      exact g_iret dX11_never_63 (hQ s hs)
    · have hlt : k < ms := by rw [h25] at c_34; exact Nat.not_le.mp (fun z => c_34 (nI_le z (by omega)))
      refine g_iload_n dX11_never_37 rfl rfl ?_
      refine g_aload_n dX11_never_38 rfl rfl ?_
      refine g_get dX11_never_39 fl_X11_68 hp_46 rfl ?_
      refine g_iload_n dX11_never_42 rfl rfl ?_
      refine g_ra dX11_never_43 hp_65 (k := k) rfl (by omega) (by decide) ?_
      refine g_if_ne (tgt := 53) dX11_never_44 (by decide) (fun c_44 => ?_) (fun c_44 => ?_)
      · refine g_ic_0 dX11_never_53 ?_
        refine g_ior dX11_never_54 ?_
        refine g_istore_n dX11_never_55 rfl (by decide) ?_
        refine g_iinc1 dX11_never_56 rfl (by decide) ?_
        refine g_goto (tgt := 29) dX11_never_59 (by decide) ?_
        rw [nI_1]
        refine g_loc (ls' := [some (.ref 46), some (.int (n)), some (.int (s ||| 0)), some (.int (nI (k + 1)))]) (fun i v h => by rcases i with _|_|_|_|_ <;> first | exact h | cases h) ?_
        exact ih (k + 1) _ (by rw [hs]; exact congrArg (fun z => itn (fun k s => s ||| (if A 65 k = 0 then 1 <<< (nI k &&& 31) else 0)) k 0 ||| z) (if_neg c_44).symm) (by omega) (by omega)
      · refine g_ic_1 dX11_never_47 ?_
        refine g_iload_n dX11_never_48 rfl rfl ?_
        refine g_ishl dX11_never_49 ?_
        refine g_goto (tgt := 54) dX11_never_50 (by decide) ?_
        refine g_ior dX11_never_54 ?_
        refine g_istore_n dX11_never_55 rfl (by decide) ?_
        refine g_iinc1 dX11_never_56 rfl (by decide) ?_
        refine g_goto (tgt := 29) dX11_never_59 (by decide) ?_
        rw [nI_1]
        refine g_loc (ls' := [some (.ref 46), some (.int (n)), some (.int (s ||| (1 <<< (nI k &&& 31)))), some (.int (nI (k + 1)))]) (fun i v h => by rcases i with _|_|_|_|_ <;> first | exact h | cases h) ?_
        exact ih (k + 1) _ (by rw [hs]; exact congrArg (fun z => itn (fun k s => s ||| (if A 65 k = 0 then 1 <<< (nI k &&& 31) else 0)) k 0 ||| z) (if_pos c_44).symm) (by omega) (by omega)

set_option maxHeartbeats 800000 in
set_option maxRecDepth 100000 in
theorem n_never {A : Nat → Nat → Int32} {L : Nat → Nat → Int64} {I : Nat → Nat → Int32} {X : Nat → Int64} {n : Int32} (h : INV A I) : Con 10 yX11_never cX11_never 4 (some .int) [.ref 46, .int n] (hp A L I X) (QM A I X (nevS A I n)) := by
  refine m_con (by decide) (Nat.le_of_ble_eq_true rfl) ?_
  refine g_aload_n dX11_never_0 rfl rfl ?_
  refine g_get dX11_never_1 fl_X11_261 hp_46 rfl ?_
  refine g_if_eq (tgt := 17) dX11_never_4 (by decide) (fun c_4 => ?_) (fun c_4 => ?_)
  · refine g_ic_m1 dX11_never_17 ?_
    exact g_iret dX11_never_18 ⟨congrArg (fun z => some (Value.int z)) (show _ = nevS A I n from (if_pos (Or.inl ((INV_0 h).mp c_4))).symm), _, _, _, smM_rf, rfl⟩
  · refine g_iload_n dX11_never_7 rfl rfl ?_
    refine g_ic_1 dX11_never_8 ?_
    refine g_bipush (v := 60) dX11_never_9 (by decide) ?_
    refine g_callS dX11_never_11 cs_X11_221 (as := [_, _, _]) e_in (by decide) rfl rfl (Nat.le_of_ble_eq_true rfl) ?_
    rintro _ _ ⟨rfl, rfl⟩
    refine g_if_ne (tgt := 19) dX11_never_14 (by decide) (fun c_14 => ?_) (fun c_14 => ?_)
    · obtain ⟨ms, cs, hP⟩ := INV_P h (fun w => c_4 ((INV_0 h).mpr w))
      refine g_aload_n dX11_never_19 rfl rfl ?_
      refine g_iload_n dX11_never_20 rfl rfl ?_
      refine g_callV dX11_never_21 cv_X11_388 (as' := [_]) hp_46 rfl (e_layAhead h hP) (by decide) rfl rfl (Nat.le_of_ble_eq_true rfl) ?_
      rintro _ _ ⟨rfl, A2, I2, hm, h65, rfl⟩
      refine g_pop dX11_never_24 rfl ?_
      refine g_ic_0 dX11_never_25 ?_
      refine g_istore_n dX11_never_26 rfl (by decide) ?_
      refine g_ic_0 dX11_never_27 ?_
      refine g_istore_n dX11_never_28 rfl (by decide) ?_
      refine e_nv_loop (ms := ms) ((PLN_smM hm hP).1.1) hP.2.1.1.1.2.1 (fun s hs => ⟨congrArg (fun z => some (Value.int z)) (show s = nevS A I n from ?_), _, _, _, hm, rfl⟩) (ms + 1) 0 0 rfl (Nat.zero_le _) (Nat.lt_succ_self _)
      have h8 : ms ≤ 8 := hP.2.1.1.1.2.1
      rw [show nevS A I n = nvS A I n from if_neg (fun z => by rcases z with z | z | z; exact c_4 ((INV_0 h).mpr z); exact c_14 (in_0.mpr (Or.inl z)); exact c_14 (in_0.mpr (Or.inr z))), hs]
      unfold nvS
      rw [fd_0, g143_9, hP.2.1.1.1.2.2.2.2.1, nI_clamp (by omega)]
      exact itn_eq ms (fun k t hk => by rw [gt_nI (by omega) (by decide), h65 k (by omega)])
    · refine g_ic_m1 dX11_never_17 ?_
      exact g_iret dX11_never_18 ⟨congrArg (fun z => some (Value.int z)) (show _ = nevS A I n from (if_pos (Or.inr (in_0.mp c_14))).symm), _, _, _, smM_rf, rfl⟩

set_option maxHeartbeats 800000 in
set_option maxRecDepth 100000 in
theorem e_ld_loop {A : Nat → Nat → Int32} {L : Nat → Nat → Int64} {I : Nat → Nat → Int32} {X : Nat → Int64} {ms cs a b : Nat} {n : Int32} (h : INV A I) (hP : PLN ms cs A I) (ha8 : a < 8) (hb8 : b < 8) : ∀ f k A2 I2, smM A I A2 I2 → (∀ j, j < k → A2 69 j = d1F A I n (nI a) j ∧ A2 70 j = d1F A I n (nI b) j) → k ≤ 19 → 19 - k < f → G 9 RX11 cX11_layDays 5 none (fun r_ H_ => r_ = none ∧ ∃ A2 I2, smM A I A2 I2 ∧ (∀ j, j < 19 → A2 69 j = d1F A I n (nI a) j ∧ A2 70 j = d1F A I n (nI b) j) ∧ H_ = hp A2 L I2 X) 3 [some (.ref 46), some (.int (nI a)), some (.int (nI b)), some (.int (n)), some (.int (nI k))] [] (hp A2 L I2 X) := by
  intro f
  induction f with
  | zero => intro k A2 I2 hm h69 h1 h2; omega
  | succ f ih =>
    intro k A2 I2 hm h69 h1 h22
    refine g_iload dX11_layDays_3 rfl ?_
    refine g_bipush (v := 19) dX11_layDays_5 (by decide) ?_
    refine g_icmp_ge (tgt := 67) dX11_layDays_7 (by decide) (fun c_7 => ?_) (fun c_7 => ?_)
    · have h6 : 19 ≤ k := lit_le (n := 19) (by decide) (by omega) c_7
      have hkn : k = 19 := by omega
      subst hkn
      exact g_vret dX11_layDays_67 ⟨rfl, A2, I2, hm, h69, rfl⟩
    · have hlt : k < 19 := lit_nle (n := 19) (by decide) (by omega) c_7
      refine g_aload_n dX11_layDays_10 rfl rfl ?_
      refine g_callV dX11_layDays_11 cv_X11_358 (as' := []) hp_46 rfl e_putAside (by decide) rfl rfl (Nat.le_of_ble_eq_true rfl) ?_
      rintro _ _ ⟨rfl, rfl⟩
      try simp (disch := omega) only [up_at, up_up, up_ne, up2_at, up2_ne]
      refine g_aload_n dX11_layDays_14 rfl rfl ?_
      refine g_get dX11_layDays_15 fl_X11_58 hp_46 rfl ?_
      refine g_bipush (v := 36) dX11_layDays_18 (by decide) ?_
      refine g_dup2 dX11_layDays_20 rfl rfl ?_
      refine g_ra dX11_layDays_21 hp_63 (k := 36) rfl (by decide) (by decide) ?_
      try simp (disch := omega) only [up_at, up_up, up_ne, up2_at, up2_ne]
      refine g_iload dX11_layDays_22 rfl ?_
      refine g_iadd dX11_layDays_24 ?_
      refine g_wa dX11_layDays_25 hp_63 (k := 36) rfl (by decide) (by decide) ?_
      rw [hq_63]
      try simp (disch := omega) only [up_at, up_up, up_ne, up2_at, up2_ne]
      refine g_aload_n dX11_layDays_26 rfl rfl ?_
      have h2 := INV_smM hm h
      have hP2 := PLN_smM hm hP
      have hRJ0 : RJ ms cs (A2 60) (A2 61) (A2 62) (fdS (A2 20) (nI (k))) (upd (A2 63) 36 (A2 63 36 + nI (k))) := R_fd (b := 99) hP2.2.1.1 hP2.2.1.2.2 (by omega)
      obtain ⟨hw0, h250, h260, hL, hA0⟩ := as_start h2 hP2 hRJ0 (N2 := upd (A2 63) 36 (A2 63 36 + nI (k))) (by intro j hj; simp (disch := omega) only [ud_at, ud_ne])
      refine g_iload_n dX11_layDays_27 rfl rfl ?_
      refine g_callV dX11_layDays_28 cv_X11_361 (as' := [_]) hp_46 rfl (e_liveMany hw0 h250 h260 hL) (by decide) rfl rfl (Nat.le_of_ble_eq_true rfl) ?_
      rintro _ _ ⟨rfl, A3, I3, hL, rfl⟩
      try simp (disch := omega) only [up_at, up_up, up_ne, up2_at, up2_ne]
      refine g_aload_n dX11_layDays_31 rfl rfl ?_
      refine g_get dX11_layDays_32 fl_X11_80 hp_46 rfl ?_
      refine g_iload dX11_layDays_35 rfl ?_
      refine g_aload_n dX11_layDays_37 rfl rfl ?_
      refine g_get dX11_layDays_38 fl_X11_68 hp_46 rfl ?_
      refine g_iload_n dX11_layDays_41 rfl rfl ?_
      refine g_ra dX11_layDays_42 hp_65 (k := a) rfl (by omega) (by decide) ?_
      try simp (disch := omega) only [up_at, up_up, up_ne, up2_at, up2_ne]
      refine g_wa dX11_layDays_43 hp_69 (k := k) rfl (by omega) (by decide) ?_
      rw [hq_69]
      try simp (disch := omega) only [up_at, up_up, up_ne, up2_at, up2_ne]
      refine g_aload_n dX11_layDays_44 rfl rfl ?_
      refine g_get dX11_layDays_45 fl_X11_83 hp_46 rfl ?_
      refine g_iload dX11_layDays_48 rfl ?_
      refine g_aload_n dX11_layDays_50 rfl rfl ?_
      refine g_get dX11_layDays_51 fl_X11_68 hp_46 rfl ?_
      refine g_iload_n dX11_layDays_54 rfl rfl ?_
      refine g_ra dX11_layDays_55 hp_65 (k := b) rfl (by omega) (by decide) ?_
      try simp (disch := omega) only [up_at, up_up, up_ne, up2_at, up2_ne]
      refine g_wa dX11_layDays_56 hp_70 (k := k) rfl (by omega) (by decide) ?_
      rw [hq_70]
      try simp (disch := omega) only [up_at, up_up, up_ne, up2_at, up2_ne]
      refine g_aload_n dX11_layDays_57 rfl rfl ?_
      refine g_callV dX11_layDays_58 cv_X11_364 (as' := []) hp_46 rfl e_takeBack (by decide) rfl rfl (Nat.le_of_ble_eq_true rfl) ?_
      rintro _ _ ⟨rfl, rfl⟩
      try simp (disch := omega) only [up_at, up_up, up_ne, up2_at, up2_ne]
      refine g_iinc1 dX11_layDays_61 rfl (by decide) ?_
      refine g_goto (tgt := 3) dX11_layDays_64 (by decide) ?_
      rw [nI_1]
      refine g_loc (ls' := [some (.ref 46), some (.int (nI a)), some (.int (nI b)), some (.int (n)), some (.int (nI (k + 1)))]) (fun i v h => by rcases i with _|_|_|_|_|_ <;> first | exact h | cases h) ?_
      have hm2 := as_back (as_step hA0 hL)
      refine ih (k + 1) _ _ ⟨fun i z => ?_, fun i l z => (hm2.2 i l z).trans (hm.2 i l z)⟩ (fun j hj => ?_) (by omega) (by omega)
      · have z1 : i ≠ 69 := by rintro rfl; revert z; decide
        have z2 : i ≠ 70 := by rintro rfl; revert z; decide
        by_cases z3 : i = 63
        · subst z3
          have e63 := hm2.1 63 (by decide)
          rw [up_at] at e63
          rw [up_at]
          exact e63.trans (hm.1 63 (by decide))
        · have e := hm2.1 i z
          rw [up_ne z3] at e
          rw [up_ne z3, up_ne z2, up_ne z1]
          exact e.trans (hm.1 i z)
      · rw [up_ne (by decide), up_ne (by decide), up_at, up_ne (by decide), up_at]
        have ea : A3 65 a = d1F A I n (nI a) k := by
          unfold d1F
          rw [gt_nI ha8 (by decide), ← fc_smM hm, ← hm.1 20 (by decide)]
          exact (hL.2.2.1 a ha8).symm
        have eb : A3 65 b = d1F A I n (nI b) k := by
          unfold d1F
          rw [gt_nI hb8 (by decide), ← fc_smM hm, ← hm.1 20 (by decide)]
          exact (hL.2.2.1 b hb8).symm
        by_cases hjk : j = k
        · subst hjk
          rw [ud_at, ud_at]
          exact ⟨ea, eb⟩
        · rw [ud_ne hjk, ud_ne hjk]
          have e1 := h69 j (by omega)
          have e3 : A3 69 = A2 69 := (hL.1.1 69 (by decide) (by decide) (by decide) (by decide))
          have e4 : A3 70 = A2 70 := (hL.1.1 70 (by decide) (by decide) (by decide) (by decide))
          rw [e3, e4]
          exact e1

set_option maxHeartbeats 800000 in
set_option maxRecDepth 100000 in
theorem e_layDays {A : Nat → Nat → Int32} {L : Nat → Nat → Int64} {I : Nat → Nat → Int32} {X : Nat → Int64} {ms cs a b : Nat} {x z n : Int32} (hx : x = nI a) (hz : z = nI b) (h : INV A I) (hP : PLN ms cs A I) (ha8 : a < 8) (hb8 : b < 8) : Con 9 yX11_layDays cX11_layDays 5 none [.ref 46, .int x, .int z, .int n] (hp A L I X) (fun r_ H_ => r_ = none ∧ ∃ A2 I2, smM A I A2 I2 ∧ (∀ j, j < 19 → A2 69 j = d1F A I n (nI a) j ∧ A2 70 j = d1F A I n (nI b) j) ∧ H_ = hp A2 L I2 X) := by
  refine m_con (by decide) (Nat.le_of_ble_eq_true rfl) ?_
  subst hx hz
  refine g_ic_0 dX11_layDays_0 ?_
  refine g_istore dX11_layDays_1 (by decide) ?_
  refine g_loc (ls' := [some (.ref 46), some (.int (nI a)), some (.int (nI b)), some (.int (n)), some (.int (nI 0))]) (fun i v h => by rcases i with _|_|_|_|_|_ <;> first | exact h | cases h) ?_
  exact e_ld_loop h hP ha8 hb8 20 0 A I smM_rf (fun j hj => absurd hj (Nat.not_lt_zero j)) (by decide) (by decide)
