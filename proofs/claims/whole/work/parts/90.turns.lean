/-! THE REFERENCE: turns -/
def smU (A I A' I' : Nat → Nat → Int32) : Prop := (∀ i, i ≠ 55 → i ≠ 56 → i ≠ 63 → i ≠ 65 → i ≠ 66 → A' i = A i) ∧ ∀ i k, ¬ (i = 46 ∧ (k = 33 ∨ k = 35)) → I' i k = I i k
theorem smU_rf {A I : Nat → Nat → Int32} : smU A I A I := ⟨fun _ _ _ _ _ _ => rfl, fun _ _ _ => rfl⟩
/-- the class's acts and rows s against the reference's at A, I -/
def TT (ms cs : Nat) (A0 I0 : Nat → Nat → Int32) (s : TC) (A I : Nat → Nat → Int32) : Prop := smU A0 I0 A I ∧ RF ms cs (A0 60) (A0 61) (A0 62) s.1.1 (A 63) ∧ AKX ms cs (A0 60) (A0 61) (A0 62) s.2.1 s.2.2.2 s.2.2.1 (A 66) (I 46 35)
theorem TT_a {ms cs : Nat} {A0 I0 A I : Nat → Nat → Int32} {s : TC} (h : TT ms cs A0 I0 s A I) : ∃ a, I 46 35 = nI a ∧ a ≤ 40 := by
  obtain ⟨-, -, a, nx, h1, h2, h3, h4, -⟩ := h
  exact ⟨a, h4, h1⟩
theorem TT_p {ms cs : Nat} {A0 I0 A I : Nat → Nat → Int32} {s : TC} (h : TT ms cs A0 I0 s A I) : RF ms cs (A 60) (A 61) (A 62) s.1.1 (A 63) := by
  rw [h.1.1 60 (by decide) (by decide) (by decide) (by decide) (by decide), h.1.1 61 (by decide) (by decide) (by decide) (by decide) (by decide), h.1.1 62 (by decide) (by decide) (by decide) (by decide) (by decide)]
  exact h.2.1
theorem LWA_U {A I A' I' : Nat → Nat → Int32} (h : smU A I A' I') (k : LWA A I) : LWA A' I' := by
  refine LWA_A (fun i hi => ?_) (h.2 46 29 (by decide)) (h.2 11 5 (by decide)) k
  have h2 : ∀ i, i ∈ [12, 13, 48, 49, 51, 52, 53, 54] → i ≠ 55 ∧ i ≠ 56 ∧ i ≠ 63 ∧ i ≠ 65 ∧ i ≠ 66 := by decide
  obtain ⟨z1, z2, z3, z4, z5⟩ := h2 i hi
  exact h.1 i z1 z2 z3 z4 z5
theorem TT_keep {ms cs a : Nat} {A0 I0 A I : Nat → Nat → Int32} {s : TC} (h : TT ms cs A0 I0 s A I) (ha : I 46 35 = nI a) (ha40 : a ≤ 40) : TT ms cs A0 I0 (kpT s) (up A 66 (kpN (A 66) (A 63) a)) (up2 I 46 35 (nI (ka1 a + 1))) := by
  refine ⟨⟨fun i h1 h2 h3 h4 h5 => ?_, fun i k hk => ?_⟩, ?_, ?_⟩
  · rw [up_ne h5]
    exact h.1.1 i h1 h2 h3 h4 h5
  · rw [up2_ne (fun z => hk ⟨z.1, Or.inr z.2⟩)]
    exact h.1.2 i k hk
  · rw [up_ne (by decide)]
    exact h.2.1
  · rw [up_at, up2_at]
    exact AKX_step h.2.2 h.2.1 ha ha40
theorem TT_turn {ms cs : Nat} {A0 I0 A I A1 I1 : Nat → Nat → Int32} {s : TC} (h : TT ms cs A0 I0 s A I) (hsm : smN A I A1 I1) (hR : RJ ms cs (A 60) (A 61) (A 62) (tnS (A 12) (A 13) (I 11 5) (s.1.1, A 65)).1 (A1 63)) (hG : LG (tnS (A 12) (A 13) (I 11 5) (s.1.1, A 65)).1 (A1 63)) : TT ms cs A0 I0 (tnS (A0 12) (A0 13) (I0 11 5) s.1, s.2) A1 I1 := by
  have hb := tn_b (TT_p h).1 (TT_p h).2.2 hR
  have e : (tnS (A 12) (A 13) (I 11 5) (s.1.1, A 65)).1 = (tnS (A0 12) (A0 13) (I0 11 5) s.1).1 := by
    rw [h.1.1 12 (by decide) (by decide) (by decide) (by decide) (by decide), h.1.1 13 (by decide) (by decide) (by decide) (by decide) (by decide), h.1.2 11 5 (by decide)]
    exact tn_g (f := s.1.1) (g := A 65) (g' := s.1.2)
  rw [e] at hR hG
  rw [h.1.1 60 (by decide) (by decide) (by decide) (by decide) (by decide), h.1.1 61 (by decide) (by decide) (by decide) (by decide) (by decide), h.1.1 62 (by decide) (by decide) (by decide) (by decide) (by decide)] at hR
  refine ⟨⟨fun i h1 h2 h3 h4 h5 => ?_, fun i k hk => ?_⟩, ⟨hR, hG, hb⟩, ?_⟩
  · exact (hsm.1 i h1 h2 h3 h4).trans (h.1.1 i h1 h2 h3 h4 h5)
  · exact (hsm.2 i k (fun z => hk ⟨z.1, Or.inl z.2⟩)).trans (h.1.2 i k hk)
  · rw [hsm.1 66 (by decide) (by decide) (by decide) (by decide), hsm.2 46 35 (by decide)]
    exact h.2.2
set_option maxHeartbeats 800000 in
set_option maxRecDepth 100000 in
theorem e_turn_loop {L : Nat → Nat → Int64} {X : Nat → Int64} {ms cs : Nat} {A0 I0 : Nat → Nat → Int32} {s0 : TC} {n0 : Int32} {Q : Option Value → m_H → Prop} (hw : LWA A0 I0) (h25 : I0 46 25 = nI ms) (h26 : I0 46 26 = nI cs) (hQ : ∀ A4 I4, TT ms cs A0 I0 (itn (fun _ => tuS (A0 12) (A0 13) (I0 11 5)) n0.toNatClampNeg s0) A4 I4 → Q (some (.int (A4 63 39))) (hp A4 L I4 X)) : ∀ n k A2 I2, TT ms cs A0 I0 (itn (fun _ => tuS (A0 12) (A0 13) (I0 11 5)) k s0) A2 I2 → k ≤ n0.toNatClampNeg → n0.toNatClampNeg - k < n → G 9 RX11 cX11_turn 3 (some .int) Q 49 [some (.ref 46), some (.int (n0)), some (.int (nI k))] [] (hp A2 L I2 X) := by
  intro n
  induction n with
  | zero => intro k A2 I2 hT h1 h2; omega
  | succ n ih =>
    intro k A2 I2 hT h1 h2
    have hb := clamp_lt n0
    refine g_iload_n dX11_turn_49 rfl rfl ?_
    refine g_iload_n dX11_turn_50 rfl rfl ?_
    refine g_icmp_ge (tgt := 68) dX11_turn_51 (by decide) (fun c_51 => ?_) (fun c_51 => ?_)
    · have h6 := (nI_gen (k := k) (by omega)).mp c_51
      have hkn : k = n0.toNatClampNeg := by omega
      subst hkn
      refine g_aload_n dX11_turn_68 rfl rfl ?_
      refine g_get dX11_turn_69 fl_X11_58 hp_46 rfl ?_
      refine g_bipush (v := 39) dX11_turn_72 (by decide) ?_
      refine g_ra dX11_turn_74 hp_63 (k := 39) rfl (by decide) (by decide) ?_
      exact g_iret dX11_turn_75 (hQ _ _ hT)
    · obtain ⟨a, ha, ha40⟩ := TT_a hT
      refine g_aload_n dX11_turn_54 rfl rfl ?_
      refine g_callV dX11_turn_55 cv_X11_329 (as' := []) hp_46 rfl (e_keep ha ha40) (by decide) rfl rfl (Nat.le_of_ble_eq_true rfl) ?_
      rintro _ _ ⟨rfl, rfl⟩
      have hk := TT_keep hT ha ha40
      refine g_aload_n dX11_turn_58 rfl rfl ?_
      refine g_callV dX11_turn_59 cv_X11_332 (as' := []) hp_46 rfl (e_passTurn (LWA_U hk.1 hw) ((hk.1.2 46 25 (by decide)).trans h25) ((hk.1.2 46 26 (by decide)).trans h26) (TT_p hk).1 (TT_p hk).2.1) (by decide) rfl rfl (Nat.le_of_ble_eq_true rfl) ?_
      rintro _ _ ⟨rfl, A4, I4, hsm, hR, hG, rfl⟩
      refine g_iinc1 dX11_turn_62 rfl (by decide) ?_
      refine g_goto (tgt := 49) dX11_turn_65 (by decide) ?_
      rw [nI_1]
      have h7 := Nat.not_le.mp (fun z => c_51 ((nI_gen (k := k) (by omega)).mpr z))
      exact ih (k + 1) _ _ (TT_turn hk hsm hR hG) (by omega) (by omega)

set_option maxHeartbeats 800000 in
set_option maxRecDepth 100000 in
theorem e_turn0 {A : Nat → Nat → Int32} {L : Nat → Nat → Int64} {I : Nat → Nat → Int32} {X : Nat → Int64} {n : Int32} (h0 : I 46 25 = 0) : Con 9 yX11_turn cX11_turn 3 (some .int) [.ref 46, .int n] (hp A L I X) (rfN A L I X 0) := by
  refine m_con (by decide) (Nat.le_of_ble_eq_true rfl) ?_
  refine g_aload_n dX11_turn_0 rfl rfl ?_
  refine g_aload_n dX11_turn_1 rfl rfl ?_
  refine g_get dX11_turn_2 fl_X11_261 hp_46 rfl ?_
  refine g_if_ne (tgt := 12) dX11_turn_5 (by decide) (fun c_5 => ?_) (fun c_5 => ?_)
  · exact absurd h0 c_5
  · refine g_ic_0 dX11_turn_8 ?_
    refine g_goto (tgt := 39) dX11_turn_9 (by decide) ?_
    refine g_callV dX11_turn_39 cv_X11_326 (as' := [_]) hp_46 rfl (e_ref0 (k := 0) rfl (by decide)) (by decide) rfl rfl (Nat.le_of_ble_eq_true rfl) ?_
    rintro _ _ ⟨rfl, rfl⟩
    refine g_if_eq (tgt := 47) dX11_turn_42 (by decide) (fun c_42 => ?_) (fun c_42 => ?_)
    · exact absurd c_42 (by decide)
    · refine g_ic_m1 dX11_turn_45 ?_
      exact g_iret dX11_turn_46 ⟨rfl, rfl⟩

set_option maxHeartbeats 800000 in
set_option maxRecDepth 100000 in
theorem e_turn1 {A : Nat → Nat → Int32} {L : Nat → Nat → Int64} {I : Nat → Nat → Int32} {X : Nat → Int64} {n : Int32} (h0 : ¬ I 46 25 = 0) (hz : inZ n 1 60 = 0) : Con 9 yX11_turn cX11_turn 3 (some .int) [.ref 46, .int n] (hp A L I X) (rfN A L I X 1) := by
  refine m_con (by decide) (Nat.le_of_ble_eq_true rfl) ?_
  refine g_aload_n dX11_turn_0 rfl rfl ?_
  refine g_aload_n dX11_turn_1 rfl rfl ?_
  refine g_get dX11_turn_2 fl_X11_261 hp_46 rfl ?_
  refine g_if_ne (tgt := 12) dX11_turn_5 (by decide) (fun c_5 => ?_) (fun c_5 => ?_)
  · refine g_iload_n dX11_turn_12 rfl rfl ?_
    refine g_ic_1 dX11_turn_13 ?_
    refine g_bipush (v := 60) dX11_turn_14 (by decide) ?_
    refine g_callS dX11_turn_16 cs_X11_221 (as := [_, _, _]) e_in (by decide) rfl rfl (Nat.le_of_ble_eq_true rfl) ?_
    rintro _ _ ⟨rfl, rfl⟩
    refine g_if_ne (tgt := 26) dX11_turn_19 (by decide) (fun c_19 => ?_) (fun c_19 => ?_)
    · exact absurd hz c_19
    · refine g_ic_1 dX11_turn_22 ?_
      refine g_goto (tgt := 39) dX11_turn_23 (by decide) ?_
      refine g_callV dX11_turn_39 cv_X11_326 (as' := [_]) hp_46 rfl (e_ref0 (k := 1) rfl (by decide)) (by decide) rfl rfl (Nat.le_of_ble_eq_true rfl) ?_
      rintro _ _ ⟨rfl, rfl⟩
      refine g_if_eq (tgt := 47) dX11_turn_42 (by decide) (fun c_42 => ?_) (fun c_42 => ?_)
      · exact absurd c_42 (by decide)
      · refine g_ic_m1 dX11_turn_45 ?_
        exact g_iret dX11_turn_46 ⟨rfl, rfl⟩
  · exact absurd c_5 h0

set_option maxHeartbeats 800000 in
set_option maxRecDepth 100000 in
theorem e_turn4 {A : Nat → Nat → Int32} {L : Nat → Nat → Int64} {I : Nat → Nat → Int32} {X : Nat → Int64} {n : Int32} (h0 : ¬ I 46 25 = 0) (hz : ¬ inZ n 1 60 = 0) (h4 : atZ (A 63) n = 0) : Con 9 yX11_turn cX11_turn 3 (some .int) [.ref 46, .int n] (hp A L I X) (rfN A L I X 4) := by
  refine m_con (by decide) (Nat.le_of_ble_eq_true rfl) ?_
  refine g_aload_n dX11_turn_0 rfl rfl ?_
  refine g_aload_n dX11_turn_1 rfl rfl ?_
  refine g_get dX11_turn_2 fl_X11_261 hp_46 rfl ?_
  refine g_if_ne (tgt := 12) dX11_turn_5 (by decide) (fun c_5 => ?_) (fun c_5 => ?_)
  · refine g_iload_n dX11_turn_12 rfl rfl ?_
    refine g_ic_1 dX11_turn_13 ?_
    refine g_bipush (v := 60) dX11_turn_14 (by decide) ?_
    refine g_callS dX11_turn_16 cs_X11_221 (as := [_, _, _]) e_in (by decide) rfl rfl (Nat.le_of_ble_eq_true rfl) ?_
    rintro _ _ ⟨rfl, rfl⟩
    refine g_if_ne (tgt := 26) dX11_turn_19 (by decide) (fun c_19 => ?_) (fun c_19 => ?_)
    · refine g_aload_n dX11_turn_26 rfl rfl ?_
      refine g_iload_n dX11_turn_27 rfl rfl ?_
      refine g_callV dX11_turn_28 cv_X11_323 (as' := [_]) hp_46 rfl e_areTurns (by decide) rfl rfl (Nat.le_of_ble_eq_true rfl) ?_
      rintro _ _ ⟨rfl, rfl⟩
      refine g_if_ne (tgt := 38) dX11_turn_31 (by decide) (fun c_31 => ?_) (fun c_31 => ?_)
      · exact absurd h4 c_31
      · refine g_ic_4 dX11_turn_34 ?_
        refine g_goto (tgt := 39) dX11_turn_35 (by decide) ?_
        refine g_callV dX11_turn_39 cv_X11_326 (as' := [_]) hp_46 rfl (e_ref0 (k := 4) rfl (by decide)) (by decide) rfl rfl (Nat.le_of_ble_eq_true rfl) ?_
        rintro _ _ ⟨rfl, rfl⟩
        refine g_if_eq (tgt := 47) dX11_turn_42 (by decide) (fun c_42 => ?_) (fun c_42 => ?_)
        · exact absurd c_42 (by decide)
        · refine g_ic_m1 dX11_turn_45 ?_
          exact g_iret dX11_turn_46 ⟨rfl, rfl⟩
    · exact absurd c_19 hz
  · exact absurd c_5 h0

set_option maxHeartbeats 800000 in
set_option maxRecDepth 100000 in
theorem e_turn {A : Nat → Nat → Int32} {L : Nat → Nat → Int64} {I : Nat → Nat → Int32} {X : Nat → Int64} {ms cs : Nat} {s0 : TC} {n0 : Int32} (hw : LWA A I) (h25 : I 46 25 = nI ms) (h26 : I 46 26 = nI cs) (hT : TT ms cs A I s0 A I) (h0 : ¬ I 46 25 = 0) (hz : ¬ inZ n0 1 60 = 0) (h4 : ¬ atZ (A 63) n0 = 0) : Con 9 yX11_turn cX11_turn 3 (some .int) [.ref 46, .int n0] (hp A L I X) (fun r_ H_ => ∃ A4 I4, TT ms cs A I (itn (fun _ => tuS (A 12) (A 13) (I 11 5)) n0.toNatClampNeg s0) A4 I4 ∧ r_ = some (.int (A4 63 39)) ∧ H_ = hp A4 L I4 X) := by
  refine m_con (by decide) (Nat.le_of_ble_eq_true rfl) ?_
  refine g_aload_n dX11_turn_0 rfl rfl ?_
  refine g_aload_n dX11_turn_1 rfl rfl ?_
  refine g_get dX11_turn_2 fl_X11_261 hp_46 rfl ?_
  refine g_if_ne (tgt := 12) dX11_turn_5 (by decide) (fun c_5 => ?_) (fun c_5 => ?_)
  · refine g_iload_n dX11_turn_12 rfl rfl ?_
    refine g_ic_1 dX11_turn_13 ?_
    refine g_bipush (v := 60) dX11_turn_14 (by decide) ?_
    refine g_callS dX11_turn_16 cs_X11_221 (as := [_, _, _]) e_in (by decide) rfl rfl (Nat.le_of_ble_eq_true rfl) ?_
    rintro _ _ ⟨rfl, rfl⟩
    refine g_if_ne (tgt := 26) dX11_turn_19 (by decide) (fun c_19 => ?_) (fun c_19 => ?_)
    · refine g_aload_n dX11_turn_26 rfl rfl ?_
      refine g_iload_n dX11_turn_27 rfl rfl ?_
      refine g_callV dX11_turn_28 cv_X11_323 (as' := [_]) hp_46 rfl e_areTurns (by decide) rfl rfl (Nat.le_of_ble_eq_true rfl) ?_
      rintro _ _ ⟨rfl, rfl⟩
      refine g_if_ne (tgt := 38) dX11_turn_31 (by decide) (fun c_31 => ?_) (fun c_31 => ?_)
      · refine g_ic_m1 dX11_turn_38 ?_
        refine g_callV dX11_turn_39 cv_X11_326 (as' := [_]) hp_46 rfl e_ref1 (by decide) rfl rfl (Nat.le_of_ble_eq_true rfl) ?_
        rintro _ _ ⟨rfl, rfl⟩
        refine g_if_eq (tgt := 47) dX11_turn_42 (by decide) (fun c_42 => ?_) (fun c_42 => ?_)
        · refine g_ic_0 dX11_turn_47 ?_
          refine g_istore_n dX11_turn_48 rfl (by decide) ?_
          exact e_turn_loop hw h25 h26 (fun A4 I4 h => ⟨A4, I4, h, rfl, rfl⟩) _ 0 A I hT (Nat.zero_le _) (Nat.lt_succ_self _)
        · exact absurd rfl c_42
      · exact absurd c_31 h4
    · exact absurd c_19 hz
  · exact absurd c_5 h0
