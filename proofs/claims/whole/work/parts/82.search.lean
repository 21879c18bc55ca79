/-! SEARCHES over turns -/
theorem pm_t {ms cs : Nat} {R M C N : ROW} {s : RD} (h : RJ ms cs R M C s.1 N) {m : Int32} : (isM m s = true ↔ N 39 = m) := by
  unfold isM
  rw [decide_eq_true_iff, (RJ_56 h).1]
theorem pr_t {ms cs : Nat} {R M C N : ROW} {s : RD} (h : RJ ms cs R M C s.1 N) {k : Nat} (hk : k < cs) : (isR (nI k) s = true ↔ ¬ haZ (N 34) (nI k) = 0) := by
  obtain ⟨⟨a1, a2, a3, a4, a5, a6⟩, -, -, -, -, r, hr, hr2, hr3⟩ := h
  have h32 := rp_32 cs (by omega)
  unfold isR
  rw [decide_eq_true_iff, oC_5 (by omega), hr3 k hk, hr2, rp_has r (by omega) k (by omega)]
  have h2 : r / 2 ^ k % 2 < 2 := Nat.mod_lt _ (by decide)
  rcases (show r / 2 ^ k % 2 = 0 ∨ r / 2 ^ k % 2 = 1 by omega) with e | e
  · rw [e]; decide
  · rw [e]; decide
theorem pd_t {ms cs : Nat} {R M C N : ROW} {s : RD} (h : RJ ms cs R M C s.1 N) : (isD s = true ↔ N 35 = 0) ∧ (N 35 ≤ 0 ↔ N 35 = 0) := by
  have e := (RJ_56 h).2.2
  obtain ⟨-, k, k1, k2⟩ := h.2.1.1
  unfold isD
  rw [decide_eq_true_iff, ← e, k2]
  rcases Nat.eq_zero_or_pos k with rfl | z
  · decide
  · refine ⟨⟨fun q => absurd q (nI_nlt (a := k) (b := 1) z (by omega)), fun q => absurd q (nI_ne0 z (by omega))⟩, fun q => absurd q (nI_nle z (by omega)), fun q => absurd q (nI_ne0 z (by omega))⟩
set_option maxHeartbeats 800000 in
set_option maxRecDepth 100000 in
theorem n_soon {L : Nat → Nat → Int64} {X : Nat → Int64} {ms cs : Nat} {B0 J0 : Nat → Nat → Int32} {U : Int32} {m : Int32} {k0 : Nat} {s0 : RD} {Q : Option Value → m_H → Prop} (hw : LWA B0 J0) (h25 : J0 46 25 = nI ms) (h26 : J0 46 26 = nI cs)  : ∀ n k s A2 I2, LV ms cs B0 J0 U s A2 I2 → n + k = 200 → (∀ k2 s2 A4 I4, LV ms cs B0 J0 U s2 A4 I4 → k2 ≤ 200 → ((isM m) s2 = true ∧ fnd (tn1 B0 J0) (isM m) (n + 1) k s = (nI k2, s2)) ∨ (¬ (isM m) s2 = true ∧ (fnd (tn1 B0 J0) (isM m) (n + 1) k s).1 = (-1)) → G 8 RX11 cX11_soonest 4 (some .int) Q 45 [some (.ref 46), some (.int (m)), some (.int (nI (k2))), none] [] (hp A4 L I4 X)) → G 8 RX11 cX11_soonest 4 (some .int) Q 16 [some (.ref 46), some (.int (m)), some (.int (nI (k))), none] [] (hp A2 L I2 X) := by
  intro n
  induction n with
  | zero =>
    intro k s A2 I2 hL hk hE
    have hL0 := hL
    have hk2 : k = 200 := by omega
    subst hk2
    refine g_iload_n dX11_soonest_16 rfl rfl ?_
    refine g_sipush (v := 200) dX11_soonest_17 (by decide) ?_
    refine g_icmp_ge (tgt := 45) dX11_soonest_20 (by decide) (fun c_20 => ?_) (fun c_20 => ?_)
    · refine hE 200 s A2 I2 hL (by omega) ?_
      by_cases hp2 : (isM m) s = true
      · exact Or.inl ⟨hp2, fnd_y hp2⟩
      · exact Or.inr ⟨hp2, congrArg Prod.fst (fnd_n hp2)⟩
    · exact absurd (Int32.le_refl 200) c_20
  | succ n ih =>
    intro k s A2 I2 hL hk hE
    have hL0 := hL
    refine g_iload_n dX11_soonest_16 rfl rfl ?_
    refine g_sipush (v := 200) dX11_soonest_17 (by decide) ?_
    refine g_icmp_ge (tgt := 45) dX11_soonest_20 (by decide) (fun c_20 => ?_) (fun c_20 => ?_)
    · exact absurd (lit_le (n := 200) (by decide) (by omega) c_20) (by omega)
    · refine g_aload_n dX11_soonest_23 rfl rfl ?_
      refine g_get dX11_soonest_24 fl_X11_58 hp_46 rfl ?_
      refine g_bipush (v := 39) dX11_soonest_27 (by decide) ?_
      refine g_ra dX11_soonest_29 hp_63 (k := 39) rfl (by decide) (by decide) ?_
      refine g_iload_n dX11_soonest_30 rfl rfl ?_
      refine g_icmp_eq (tgt := 45) dX11_soonest_31 (by decide) (fun c_31 => ?_) (fun c_31 => ?_)
      · refine hE k s A2 I2 hL (by omega) (Or.inl ⟨?_, fnd_y ?_⟩) <;> exact ((pm_t hL.2.1).mpr c_31)
      · refine g_aload_n dX11_soonest_34 rfl rfl ?_
        refine g_callV dX11_soonest_35 cv_X11_314 (as' := []) hp_46 rfl (e_live hw h25 h26 hL) (by decide) rfl rfl (Nat.le_of_ble_eq_true rfl) ?_
        rintro _ _ ⟨rfl, A3, I3, hL, -, rfl⟩
        refine g_pop dX11_soonest_38 rfl ?_
        refine g_iinc1 dX11_soonest_39 rfl (by decide) ?_
        refine g_goto (tgt := 16) dX11_soonest_42 (by decide) ?_
        rw [nI_1]
        refine g_loc (ls' := [some (.ref 46), some (.int (m)), some (.int (nI (k + 1))), none]) (fun i v h => by rcases i with _|_|_|_|_ <;> first | exact h | cases h) ?_
        have hp2 : ¬ (isM m) s = true := (fun z => c_31 ((pm_t hL0.2.1).mp z))
        exact ih (k + 1) _ A3 I3 hL (by omega) (fun k2 s2 A4 I4 h4 h5 h6 => hE k2 s2 A4 I4 h4 h5 (by rw [show fnd (tn1 B0 J0) (isM m) (n + 1 + 1) k s = fnd (tn1 B0 J0) (isM m) (n + 1) (k + 1) ((tn1 B0 J0) s) from fnd_n hp2]; exact h6))

set_option maxHeartbeats 800000 in
set_option maxRecDepth 100000 in
theorem n_ripe {L : Nat → Nat → Int64} {X : Nat → Int64} {ms cs : Nat} {B0 J0 : Nat → Nat → Int32} {U : Int32} {c : Nat} {k0 : Nat} {s0 : RD} {Q : Option Value → m_H → Prop} (hw : LWA B0 J0) (h25 : J0 46 25 = nI ms) (h26 : J0 46 26 = nI cs) (hc : c < cs) : ∀ n k s A2 I2, LV ms cs B0 J0 U s A2 I2 → n + k = 200 → (∀ k2 s2 A4 I4, LV ms cs B0 J0 U s2 A4 I4 → k2 ≤ 200 → ((isR (nI c)) s2 = true ∧ fnd (tn1 B0 J0) (isR (nI c)) (n + 1) k s = (nI k2, s2)) ∨ (¬ (isR (nI c)) s2 = true ∧ (fnd (tn1 B0 J0) (isR (nI c)) (n + 1) k s).1 = (-1)) → G 8 RX11 cX11_ripens 4 (some .int) Q 42 [some (.ref 46), some (.int (nI c)), some (.int (nI (k2))), none] [] (hp A4 L I4 X)) → G 8 RX11 cX11_ripens 4 (some .int) Q 16 [some (.ref 46), some (.int (nI c)), some (.int (nI (k))), none] [] (hp A2 L I2 X) := by
  intro n
  induction n with
  | zero =>
    intro k s A2 I2 hL hk hE
    have hL0 := hL
    have hk2 : k = 200 := by omega
    subst hk2
    refine g_iload_n dX11_ripens_16 rfl rfl ?_
    refine g_sipush (v := 200) dX11_ripens_17 (by decide) ?_
    refine g_icmp_ge (tgt := 42) dX11_ripens_20 (by decide) (fun c_20 => ?_) (fun c_20 => ?_)
    · refine hE 200 s A2 I2 hL (by omega) ?_
      by_cases hp2 : (isR (nI c)) s = true
      · exact Or.inl ⟨hp2, fnd_y hp2⟩
      · exact Or.inr ⟨hp2, congrArg Prod.fst (fnd_n hp2)⟩
    · exact absurd (Int32.le_refl 200) c_20
  | succ n ih =>
    intro k s A2 I2 hL hk hE
    have hL0 := hL
    refine g_iload_n dX11_ripens_16 rfl rfl ?_
    refine g_sipush (v := 200) dX11_ripens_17 (by decide) ?_
    refine g_icmp_ge (tgt := 42) dX11_ripens_20 (by decide) (fun c_20 => ?_) (fun c_20 => ?_)
    · exact absurd (lit_le (n := 200) (by decide) (by omega) c_20) (by omega)
    · refine g_aload_n dX11_ripens_23 rfl rfl ?_
      refine g_iload_n dX11_ripens_24 rfl rfl ?_
      refine g_callV dX11_ripens_25 cv_X11_308 (as' := [_]) hp_46 rfl e_isRipe (by decide) rfl rfl (Nat.le_of_ble_eq_true rfl) ?_
      rintro _ _ ⟨rfl, rfl⟩
      refine g_if_ne (tgt := 42) dX11_ripens_28 (by decide) (fun c_28 => ?_) (fun c_28 => ?_)
      · refine hE k s A2 I2 hL (by omega) (Or.inl ⟨?_, fnd_y ?_⟩) <;> exact ((pr_t hL.2.1 hc).mpr c_28)
      · refine g_aload_n dX11_ripens_31 rfl rfl ?_
        refine g_callV dX11_ripens_32 cv_X11_314 (as' := []) hp_46 rfl (e_live hw h25 h26 hL) (by decide) rfl rfl (Nat.le_of_ble_eq_true rfl) ?_
        rintro _ _ ⟨rfl, A3, I3, hL, -, rfl⟩
        refine g_pop dX11_ripens_35 rfl ?_
        refine g_iinc1 dX11_ripens_36 rfl (by decide) ?_
        refine g_goto (tgt := 16) dX11_ripens_39 (by decide) ?_
        rw [nI_1]
        refine g_loc (ls' := [some (.ref 46), some (.int (nI c)), some (.int (nI (k + 1))), none]) (fun i v h => by rcases i with _|_|_|_|_ <;> first | exact h | cases h) ?_
        have hp2 : ¬ (isR (nI c)) s = true := (fun z => (pr_t hL0.2.1 hc).mp z c_28)
        exact ih (k + 1) _ A3 I3 hL (by omega) (fun k2 s2 A4 I4 h4 h5 h6 => hE k2 s2 A4 I4 h4 h5 (by rw [show fnd (tn1 B0 J0) (isR (nI c)) (n + 1 + 1) k s = fnd (tn1 B0 J0) (isR (nI c)) (n + 1) (k + 1) ((tn1 B0 J0) s) from fnd_n hp2]; exact h6))

set_option maxHeartbeats 800000 in
set_option maxRecDepth 100000 in
theorem n_last {L : Nat → Nat → Int64} {X : Nat → Int64} {ms cs : Nat} {B0 J0 : Nat → Nat → Int32} {U : Int32}  {k0 : Nat} {s0 : RD} {Q : Option Value → m_H → Prop} (hw : LWA B0 J0) (h25 : J0 46 25 = nI ms) (h26 : J0 46 26 = nI cs)  : ∀ n k s A2 I2, LV ms cs B0 J0 U s A2 I2 → n + k = 200 → (∀ k2 s2 A4 I4, LV ms cs B0 J0 U s2 A4 I4 → k2 ≤ 200 → ((isD) s2 = true ∧ fnd (tn1 B0 J0) (isD) (n + 1) k s = (nI k2, s2)) ∨ (¬ (isD) s2 = true ∧ (fnd (tn1 B0 J0) (isD) (n + 1) k s).1 = (-1)) → G 8 RX11 cX11_lasts 3 (some .int) Q 43 [some (.ref 46), some (.int (nI (k2))), none] [] (hp A4 L I4 X)) → G 8 RX11 cX11_lasts 3 (some .int) Q 15 [some (.ref 46), some (.int (nI (k))), none] [] (hp A2 L I2 X) := by
  intro n
  induction n with
  | zero =>
    intro k s A2 I2 hL hk hE
    have hL0 := hL
    have hk2 : k = 200 := by omega
    subst hk2
    refine g_iload_n dX11_lasts_15 rfl rfl ?_
    refine g_sipush (v := 200) dX11_lasts_16 (by decide) ?_
    refine g_icmp_ge (tgt := 43) dX11_lasts_19 (by decide) (fun c_19 => ?_) (fun c_19 => ?_)
    · refine hE 200 s A2 I2 hL (by omega) ?_
      by_cases hp2 : (isD) s = true
      · exact Or.inl ⟨hp2, fnd_y hp2⟩
      · exact Or.inr ⟨hp2, congrArg Prod.fst (fnd_n hp2)⟩
    · exact absurd (Int32.le_refl 200) c_19
  | succ n ih =>
    intro k s A2 I2 hL hk hE
    have hL0 := hL
    refine g_iload_n dX11_lasts_15 rfl rfl ?_
    refine g_sipush (v := 200) dX11_lasts_16 (by decide) ?_
    refine g_icmp_ge (tgt := 43) dX11_lasts_19 (by decide) (fun c_19 => ?_) (fun c_19 => ?_)
    · exact absurd (lit_le (n := 200) (by decide) (by omega) c_19) (by omega)
    · refine g_aload_n dX11_lasts_22 rfl rfl ?_
      refine g_get dX11_lasts_23 fl_X11_58 hp_46 rfl ?_
      refine g_bipush (v := 35) dX11_lasts_26 (by decide) ?_
      refine g_ra dX11_lasts_28 hp_63 (k := 35) rfl (by decide) (by decide) ?_
      refine g_if_le (tgt := 43) dX11_lasts_29 (by decide) (fun c_29 => ?_) (fun c_29 => ?_)
      · refine hE k s A2 I2 hL (by omega) (Or.inl ⟨?_, fnd_y ?_⟩) <;> exact ((pd_t hL.2.1).1.mpr ((pd_t hL.2.1).2.mp c_29))
      · refine g_aload_n dX11_lasts_32 rfl rfl ?_
        refine g_callV dX11_lasts_33 cv_X11_314 (as' := []) hp_46 rfl (e_live hw h25 h26 hL) (by decide) rfl rfl (Nat.le_of_ble_eq_true rfl) ?_
        rintro _ _ ⟨rfl, A3, I3, hL, -, rfl⟩
        refine g_pop dX11_lasts_36 rfl ?_
        refine g_iinc1 dX11_lasts_37 rfl (by decide) ?_
        refine g_goto (tgt := 15) dX11_lasts_40 (by decide) ?_
        rw [nI_1]
        refine g_loc (ls' := [some (.ref 46), some (.int (nI (k + 1))), none]) (fun i v h => by rcases i with _|_|_|_ <;> first | exact h | cases h) ?_
        have hp2 : ¬ (isD) s = true := (fun z => c_29 ((pd_t hL0.2.1).2.mpr ((pd_t hL0.2.1).1.mp z)))
        exact ih (k + 1) _ A3 I3 hL (by omega) (fun k2 s2 A4 I4 h4 h5 h6 => hE k2 s2 A4 I4 h4 h5 (by rw [show fnd (tn1 B0 J0) (isD) (n + 1 + 1) k s = fnd (tn1 B0 J0) (isD) (n + 1) (k + 1) ((tn1 B0 J0) s) from fnd_n hp2]; exact h6))

set_option maxHeartbeats 800000 in
set_option maxRecDepth 100000 in
theorem n_ride1 {L : Nat → Nat → Int64} {X : Nat → Int64} {ms cs : Nat} {B0 J0 : Nat → Nat → Int32} {U : Int32} {m m2 : Int32} {k0 : Nat} {s0 : RD} {Q : Option Value → m_H → Prop} (hw : LWA B0 J0) (h25 : J0 46 25 = nI ms) (h26 : J0 46 26 = nI cs)  : ∀ n k s A2 I2, LV ms cs B0 J0 U s A2 I2 → n + k = 200 → (∀ k2 s2 A4 I4, LV ms cs B0 J0 U s2 A4 I4 → k2 ≤ 200 → ((isM m) s2 = true ∧ fnd (tn1 B0 J0) (isM m) (n + 1) k s = (nI k2, s2)) ∨ (¬ (isM m) s2 = true ∧ (fnd (tn1 B0 J0) (isM m) (n + 1) k s).1 = (-1)) → G 8 RX11 cX11_ride 5 (some .int) Q 58 [some (.ref 46), some (.int (m)), some (.int (m2)), some (.int (nI (k2))), none] [] (hp A4 L I4 X)) → G 8 RX11 cX11_ride 5 (some .int) Q 29 [some (.ref 46), some (.int (m)), some (.int (m2)), some (.int (nI (k))), none] [] (hp A2 L I2 X) := by
  intro n
  induction n with
  | zero =>
    intro k s A2 I2 hL hk hE
    have hL0 := hL
    have hk2 : k = 200 := by omega
    subst hk2
    refine g_iload_n dX11_ride_29 rfl rfl ?_
    refine g_sipush (v := 200) dX11_ride_30 (by decide) ?_
    refine g_icmp_ge (tgt := 58) dX11_ride_33 (by decide) (fun c_33 => ?_) (fun c_33 => ?_)
    · refine hE 200 s A2 I2 hL (by omega) ?_
      by_cases hp2 : (isM m) s = true
      · exact Or.inl ⟨hp2, fnd_y hp2⟩
      · exact Or.inr ⟨hp2, congrArg Prod.fst (fnd_n hp2)⟩
    · exact absurd (Int32.le_refl 200) c_33
  | succ n ih =>
    intro k s A2 I2 hL hk hE
    have hL0 := hL
    refine g_iload_n dX11_ride_29 rfl rfl ?_
    refine g_sipush (v := 200) dX11_ride_30 (by decide) ?_
    refine g_icmp_ge (tgt := 58) dX11_ride_33 (by decide) (fun c_33 => ?_) (fun c_33 => ?_)
    · exact absurd (lit_le (n := 200) (by decide) (by omega) c_33) (by omega)
    · refine g_aload_n dX11_ride_36 rfl rfl ?_
      refine g_get dX11_ride_37 fl_X11_58 hp_46 rfl ?_
      refine g_bipush (v := 39) dX11_ride_40 (by decide) ?_
      refine g_ra dX11_ride_42 hp_63 (k := 39) rfl (by decide) (by decide) ?_
      refine g_iload_n dX11_ride_43 rfl rfl ?_
      refine g_icmp_eq (tgt := 58) dX11_ride_44 (by decide) (fun c_44 => ?_) (fun c_44 => ?_)
      · refine hE k s A2 I2 hL (by omega) (Or.inl ⟨?_, fnd_y ?_⟩) <;> exact ((pm_t hL.2.1).mpr c_44)
      · refine g_aload_n dX11_ride_47 rfl rfl ?_
        refine g_callV dX11_ride_48 cv_X11_314 (as' := []) hp_46 rfl (e_live hw h25 h26 hL) (by decide) rfl rfl (Nat.le_of_ble_eq_true rfl) ?_
        rintro _ _ ⟨rfl, A3, I3, hL, -, rfl⟩
        refine g_pop dX11_ride_51 rfl ?_
        refine g_iinc1 dX11_ride_52 rfl (by decide) ?_
        refine g_goto (tgt := 29) dX11_ride_55 (by decide) ?_
        rw [nI_1]
        refine g_loc (ls' := [some (.ref 46), some (.int (m)), some (.int (m2)), some (.int (nI (k + 1))), none]) (fun i v h => by rcases i with _|_|_|_|_|_ <;> first | exact h | cases h) ?_
        have hp2 : ¬ (isM m) s = true := (fun z => c_44 ((pm_t hL0.2.1).mp z))
        exact ih (k + 1) _ A3 I3 hL (by omega) (fun k2 s2 A4 I4 h4 h5 h6 => hE k2 s2 A4 I4 h4 h5 (by rw [show fnd (tn1 B0 J0) (isM m) (n + 1 + 1) k s = fnd (tn1 B0 J0) (isM m) (n + 1) (k + 1) ((tn1 B0 J0) s) from fnd_n hp2]; exact h6))

set_option maxHeartbeats 800000 in
set_option maxRecDepth 100000 in
theorem n_ride2 {L : Nat → Nat → Int64} {X : Nat → Int64} {ms cs : Nat} {B0 J0 : Nat → Nat → Int32} {U : Int32} {m m2 : Int32} {k0 : Nat} {s0 : RD} {Q : Option Value → m_H → Prop} (hw : LWA B0 J0) (h25 : J0 46 25 = nI ms) (h26 : J0 46 26 = nI cs)  : ∀ n k s A2 I2, LV ms cs B0 J0 U s A2 I2 → n + k = 200 → (∀ k2 s2 A4 I4, LV ms cs B0 J0 U s2 A4 I4 → k2 ≤ 200 → ((isM m2) s2 = true ∧ fnd (tn1 B0 J0) (isM m2) (n + 1) k s = (nI k2, s2)) ∨ (¬ (isM m2) s2 = true ∧ (fnd (tn1 B0 J0) (isM m2) (n + 1) k s).1 = (-1)) → G 8 RX11 cX11_ride 5 (some .int) Q 109 [some (.ref 46), some (.int (m)), some (.int (m2)), some (.int (nI (k2))), none] [] (hp A4 L I4 X)) → G 8 RX11 cX11_ride 5 (some .int) Q 75 [some (.ref 46), some (.int (m)), some (.int (m2)), some (.int (nI (k))), none] [] (hp A2 L I2 X) := by
  intro n
  induction n with
  | zero =>
    intro k s A2 I2 hL hk hE
    have hL0 := hL
    have hk2 : k = 200 := by omega
    subst hk2
    refine g_iload_n dX11_ride_75 rfl rfl ?_
    refine g_ic_m1 dX11_ride_76 ?_
    refine g_icmp_eq (tgt := 109) dX11_ride_77 (by decide) (fun c_77 => ?_) (fun c_77 => ?_)
    · exact absurd c_77 (by decide)
    · refine g_iload_n dX11_ride_80 rfl rfl ?_
      refine g_sipush (v := 200) dX11_ride_81 (by decide) ?_
      refine g_icmp_ge (tgt := 109) dX11_ride_84 (by decide) (fun c_84 => ?_) (fun c_84 => ?_)
      · refine hE 200 s A2 I2 hL (by omega) ?_
        by_cases hp2 : (isM m2) s = true
        · exact Or.inl ⟨hp2, fnd_y hp2⟩
        · exact Or.inr ⟨hp2, congrArg Prod.fst (fnd_n hp2)⟩
      · exact absurd (Int32.le_refl 200) c_84
  | succ n ih =>
    intro k s A2 I2 hL hk hE
    have hL0 := hL
    refine g_iload_n dX11_ride_75 rfl rfl ?_
    refine g_ic_m1 dX11_ride_76 ?_
    refine g_icmp_eq (tgt := 109) dX11_ride_77 (by decide) (fun c_77 => ?_) (fun c_77 => ?_)
    · exact absurd c_77 (m1_ne (k := k) (N := 300) rfl (by omega) (by decide))
    · refine g_iload_n dX11_ride_80 rfl rfl ?_
      refine g_sipush (v := 200) dX11_ride_81 (by decide) ?_
      refine g_icmp_ge (tgt := 109) dX11_ride_84 (by decide) (fun c_84 => ?_) (fun c_84 => ?_)
      · exact absurd (lit_le (n := 200) (by decide) (by omega) c_84) (by omega)
      · refine g_aload_n dX11_ride_87 rfl rfl ?_
        refine g_get dX11_ride_88 fl_X11_58 hp_46 rfl ?_
        refine g_bipush (v := 39) dX11_ride_91 (by decide) ?_
        refine g_ra dX11_ride_93 hp_63 (k := 39) rfl (by decide) (by decide) ?_
        refine g_iload_n dX11_ride_94 rfl rfl ?_
        refine g_icmp_eq (tgt := 109) dX11_ride_95 (by decide) (fun c_95 => ?_) (fun c_95 => ?_)
        · refine hE k s A2 I2 hL (by omega) (Or.inl ⟨?_, fnd_y ?_⟩) <;> exact ((pm_t hL.2.1).mpr c_95)
        · refine g_aload_n dX11_ride_98 rfl rfl ?_
          refine g_callV dX11_ride_99 cv_X11_314 (as' := []) hp_46 rfl (e_live hw h25 h26 hL) (by decide) rfl rfl (Nat.le_of_ble_eq_true rfl) ?_
          rintro _ _ ⟨rfl, A3, I3, hL, -, rfl⟩
          refine g_pop dX11_ride_102 rfl ?_
          refine g_iinc1 dX11_ride_103 rfl (by decide) ?_
          refine g_goto (tgt := 75) dX11_ride_106 (by decide) ?_
          rw [nI_1]
          refine g_loc (ls' := [some (.ref 46), some (.int (m)), some (.int (m2)), some (.int (nI (k + 1))), none]) (fun i v h => by rcases i with _|_|_|_|_|_ <;> first | exact h | cases h) ?_
          have hp2 : ¬ (isM m2) s = true := (fun z => c_95 ((pm_t hL0.2.1).mp z))
          exact ih (k + 1) _ A3 I3 hL (by omega) (fun k2 s2 A4 I4 h4 h5 h6 => hE k2 s2 A4 I4 h4 h5 (by rw [show fnd (tn1 B0 J0) (isM m2) (n + 1 + 1) k s = fnd (tn1 B0 J0) (isM m2) (n + 1) (k + 1) ((tn1 B0 J0) s) from fnd_n hp2]; exact h6))
