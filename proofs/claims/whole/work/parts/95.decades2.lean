/-! THE REFERENCE: decades -/
theorem TT_row {ms cs : Nat} {A0 I0 A I : Nat → Nat → Int32} {s : TC} {f' N' : ROW} (h : TT ms cs A0 I0 s A I) (hR : RF ms cs (A0 60) (A0 61) (A0 62) f' N') : TT ms cs A0 I0 ((f', s.1.2), s.2) (up A 63 N') I := by
  refine ⟨⟨fun i h1 h2 h3 h4 h5 => ?_, h.1.2⟩, ?_, ?_⟩
  · rw [up_ne h3]
    exact h.1.1 i h1 h2 h3 h4 h5
  · rw [up_at]
    exact hR
  · rw [up_ne (by decide)]
    exact h.2.2
theorem TT_strike {ms cs : Nat} {A0 I0 A I : Nat → Nat → Int32} {s : TC} {x : Int64} (h25 : I0 46 25 = nI ms) (h : TT ms cs A0 I0 s A I) : TT ms cs A0 I0 (((skS s.1.1 x (I0 46 30) (I0 46 31)).1, s.1.2), s.2) (up A 63 (dtN (A 63) x (I 46 30) (I 46 31) (I 46 25)).1) I ∧ (skS s.1.1 x (I0 46 30) (I0 46 31)).2 = (dtN (A 63) x (I 46 30) (I 46 31) (I 46 25)).2 := by
  have k := RF_sk h.2.1 (x := x) (hail := I0 46 30) (th := I0 46 31)
  rw [← h25, ← h.1.2 46 30 (by decide), ← h.1.2 46 31 (by decide), ← h.1.2 46 25 (by decide)] at k
  rw [← h.1.2 46 30 (by decide), ← h.1.2 46 31 (by decide)]
  exact ⟨TT_row h k.1, k.2⟩
theorem deS_1 {C Z : ROW} {hold hail th : Int32} {s : TC × Int64} : deS C Z hold hail th s = ((tnS C Z hold ((skS (kpT s.1).1.1 s.2 hail th).1, (kpT s.1).1.2), (kpT s.1).2), (skS (kpT s.1).1.1 s.2 hail th).2) := by
  have e : (kpT s.1).1 = s.1.1 := rfl
  rw [e]
  unfold deS
  exact Eq.refl _
theorem deS_12 {C Z f' : ROW} {hold hail th : Int32} {s : TC × Int64} {x' : Int64} (hf : f' = (skS (kpT s.1).1.1 s.2 hail th).1) (hx : x' = (skS (kpT s.1).1.1 s.2 hail th).2) : deS C Z hold hail th s = ((tnS C Z hold (f', (kpT s.1).1.2), (kpT s.1).2), x') := by
  rw [hf, hx]
  exact deS_1
theorem TT_stk {ms cs : Nat} {A0 I0 A I : Nat → Nat → Int32} {s : TC} {x : Int64} (h25 : I0 46 25 = nI ms) (h : TT ms cs A0 I0 s A I) : ∃ f' x', f' = (skS s.1.1 x (I0 46 30) (I0 46 31)).1 ∧ x' = (skS s.1.1 x (I0 46 30) (I0 46 31)).2 ∧ TT ms cs A0 I0 ((f', s.1.2), s.2) (up A 63 (dtN (A 63) x (I 46 30) (I 46 31) (I 46 25)).1) I ∧ (dtN (A 63) x (I 46 30) (I 46 31) (I 46 25)).2 = x' :=
  ⟨_, _, rfl, rfl, (TT_strike h25 h).1, (TT_strike h25 h).2.symm⟩
set_option maxHeartbeats 800000 in
set_option maxRecDepth 100000 in
theorem e_dec_loop {L : Nat → Nat → Int64} {X : Nat → Int64} {ms cs : Nat} {A0 I0 : Nat → Nat → Int32} {s0 : TC} {x0 : Int64} {n0 : Int32} {Q : Option Value → m_H → Prop} (hw : LWA A0 I0) (h25 : I0 46 25 = nI ms) (h26 : I0 46 26 = nI cs) (hQ : ∀ A4 I4 X4, TT ms cs A0 I0 (itn (fun _ => deS (A0 12) (A0 13) (I0 11 5) (I0 46 30) (I0 46 31)) n0.toNatClampNeg (s0, x0)).1 A4 I4 → X4 46 = (itn (fun _ => deS (A0 12) (A0 13) (I0 11 5) (I0 46 30) (I0 46 31)) n0.toNatClampNeg (s0, x0)).2 → (∀ i, i ≠ 46 → X4 i = X i) → Q (some (.int (A4 63 39))) (hp A4 L I4 X4)) : ∀ n k A2 I2 X2, TT ms cs A0 I0 (itn (fun _ => deS (A0 12) (A0 13) (I0 11 5) (I0 46 30) (I0 46 31)) k (s0, x0)).1 A2 I2 → X2 46 = (itn (fun _ => deS (A0 12) (A0 13) (I0 11 5) (I0 46 30) (I0 46 31)) k (s0, x0)).2 → (∀ i, i ≠ 46 → X2 i = X i) → k ≤ n0.toNatClampNeg → n0.toNatClampNeg - k < n → G 9 RX11 cX11_decades 5 (some .int) Q 25 [some (.ref 46), some (.int (n0)), none, none, some (.int (nI k))] [] (hp A2 L I2 X2) := by
  intro n
  induction n with
  | zero => intro k A2 I2 X2 hT hx hx2 h1 h2; omega
  | succ n ih =>
    intro k A2 I2 X2 hT hx hx2 h1 h2
    have hb := clamp_lt n0
    refine g_iload dX11_decades_25 rfl ?_
    refine g_iload_n dX11_decades_27 rfl rfl ?_
    refine g_icmp_ge (tgt := 49) dX11_decades_28 (by decide) (fun c_28 => ?_) (fun c_28 => ?_)
    · have h6 := (nI_gen (k := k) (by omega)).mp c_28
      have hkn : k = n0.toNatClampNeg := by omega
      subst hkn
      refine g_aload_n dX11_decades_49 rfl rfl ?_
      refine g_get dX11_decades_50 fl_X11_58 hp_46 rfl ?_
      refine g_bipush (v := 39) dX11_decades_53 (by decide) ?_
      refine g_ra dX11_decades_55 hp_63 (k := 39) rfl (by decide) (by decide) ?_
      exact g_iret dX11_decades_56 (hQ _ _ _ hT hx hx2)
    · obtain ⟨a, ha, ha40⟩ := TT_a hT
      refine g_aload_n dX11_decades_31 rfl rfl ?_
      refine g_callV dX11_decades_32 cv_X11_329 (as' := []) hp_46 rfl (e_keep ha ha40) (by decide) rfl rfl (Nat.le_of_ble_eq_true rfl) ?_
      rintro _ _ ⟨rfl, rfl⟩
      have hk := TT_keep hT ha ha40
      obtain ⟨f1, x1, ef, ex, hs, hs2⟩ := TT_stk (x := X2 46) h25 hk
      refine g_aload_n dX11_decades_35 rfl rfl ?_
      refine g_callV dX11_decades_36 cv_X11_355 (as' := []) hp_46 rfl (e_drawTurn ((hk.1.2 46 25 (by decide)).trans h25) (Nat.le_trans (by decide) hT.2.1.1.1.1) hT.2.1.1.1.2.1) (by decide) rfl rfl (Nat.le_of_ble_eq_true rfl) ?_
      rintro _ _ ⟨rfl, rfl⟩
      refine g_aload_n dX11_decades_39 rfl rfl ?_
      refine g_callV dX11_decades_40 cv_X11_332 (as' := []) hp_46 rfl (e_passTurn (LWA_U hs.1 hw) ((hs.1.2 46 25 (by decide)).trans h25) ((hs.1.2 46 26 (by decide)).trans h26) (TT_p hs).1 (TT_p hs).2.1) (by decide) rfl rfl (Nat.le_of_ble_eq_true rfl) ?_
      rintro _ _ ⟨rfl, A4, I4, hsm, hR, hG, rfl⟩
      refine g_iinc1 dX11_decades_43 rfl (by decide) ?_
      refine g_goto (tgt := 25) dX11_decades_46 (by decide) ?_
      rw [nI_1]
      have h7 := Nat.not_le.mp (fun z => c_28 ((nI_gen (k := k) (by omega)).mpr z))
      have ht := TT_turn hs hsm hR hG
      rw [hx] at ef ex
      have e := show itn (fun _ => deS (A0 12) (A0 13) (I0 11 5) (I0 46 30) (I0 46 31)) (k + 1) (s0, x0) = deS (A0 12) (A0 13) (I0 11 5) (I0 46 30) (I0 46 31) (itn (fun _ => deS (A0 12) (A0 13) (I0 11 5) (I0 46 30) (I0 46 31)) k (s0, x0)) from rfl
      rw [deS_12 ef ex] at e
      refine ih (k + 1) _ _ _ (by rw [e]; exact ht) (by rw [up_at, hs2, e]) (fun i hi => (up_ne hi).trans (hx2 i hi)) (by omega) (by omega)

set_option maxHeartbeats 800000 in
set_option maxRecDepth 100000 in
theorem e_dec0 {A : Nat → Nat → Int32} {L : Nat → Nat → Int64} {I : Nat → Nat → Int32} {X : Nat → Int64} {n : Int32} {x : Int64} (h0 : I 46 25 = 0 ∨ atZ (A 63) n = 0) : Con 9 yX11_decades cX11_decades 5 (some .int) [.ref 46, .int n, .long x] (hp A L I X) (fun r_ H_ => r_ = some (.int (-1)) ∧ H_ = hp A L I X) := by
  refine m_con (by decide) (Nat.le_of_ble_eq_true rfl) ?_
  refine g_aload_n dX11_decades_0 rfl rfl ?_
  refine g_get dX11_decades_1 fl_X11_261 hp_46 rfl ?_
  refine g_if_eq (tgt := 15) dX11_decades_4 (by decide) (fun c_4 => ?_) (fun c_4 => ?_)
  · refine g_ic_m1 dX11_decades_15 ?_
    exact g_iret dX11_decades_16 ⟨rfl, rfl⟩
  · refine g_aload_n dX11_decades_7 rfl rfl ?_
    refine g_iload_n dX11_decades_8 rfl rfl ?_
    refine g_callV dX11_decades_9 cv_X11_323 (as' := [_]) hp_46 rfl e_areTurns (by decide) rfl rfl (Nat.le_of_ble_eq_true rfl) ?_
    rintro _ _ ⟨rfl, rfl⟩
    refine g_if_ne (tgt := 17) dX11_decades_12 (by decide) (fun c_12 => ?_) (fun c_12 => ?_)
    · exact absurd h0 (fun z => z.elim c_4 c_12)
    · refine g_ic_m1 dX11_decades_15 ?_
      exact g_iret dX11_decades_16 ⟨rfl, rfl⟩

set_option maxHeartbeats 800000 in
set_option maxRecDepth 100000 in
theorem e_decades {A : Nat → Nat → Int32} {L : Nat → Nat → Int64} {I : Nat → Nat → Int32} {X : Nat → Int64} {ms cs : Nat} {s0 : TC} {n0 : Int32} {x0 : Int64} (hw : LWA A I) (h25 : I 46 25 = nI ms) (h26 : I 46 26 = nI cs) (hT : TT ms cs A I s0 A I) (h0 : ¬ I 46 25 = 0) (h4 : ¬ atZ (A 63) n0 = 0) : Con 9 yX11_decades cX11_decades 5 (some .int) [.ref 46, .int n0, .long x0] (hp A L I X) (fun r_ H_ => ∃ A4 I4 X4, TT ms cs A I (itn (fun _ => deS (A 12) (A 13) (I 11 5) (I 46 30) (I 46 31)) n0.toNatClampNeg (s0, x0)).1 A4 I4 ∧ (∀ i, i ≠ 46 → X4 i = X i) ∧ r_ = some (.int (A4 63 39)) ∧ H_ = hp A4 L I4 X4) := by
  refine m_con (by decide) (Nat.le_of_ble_eq_true rfl) ?_
  refine g_aload_n dX11_decades_0 rfl rfl ?_
  refine g_get dX11_decades_1 fl_X11_261 hp_46 rfl ?_
  refine g_if_eq (tgt := 15) dX11_decades_4 (by decide) (fun c_4 => ?_) (fun c_4 => ?_)
  · exact absurd c_4 h0
  · refine g_aload_n dX11_decades_7 rfl rfl ?_
    refine g_iload_n dX11_decades_8 rfl rfl ?_
    refine g_callV dX11_decades_9 cv_X11_323 (as' := [_]) hp_46 rfl e_areTurns (by decide) rfl rfl (Nat.le_of_ble_eq_true rfl) ?_
    rintro _ _ ⟨rfl, rfl⟩
    refine g_if_ne (tgt := 17) dX11_decades_12 (by decide) (fun c_12 => ?_) (fun c_12 => ?_)
    · refine g_aload_n dX11_decades_17 rfl rfl ?_
      refine g_lload_n dX11_decades_18 rfl rfl ?_
      refine g_putl dX11_decades_19 fw_X11_344 hp_46 (Nat.le_of_ble_eq_true rfl) ?_
      rw [hq_46_36]
      refine g_ic_0 dX11_decades_22 ?_
      refine g_istore dX11_decades_23 (by decide) ?_
      refine g_loc (ls' := [some (.ref 46), some (.int (n0)), none, none, some (.int (nI 0))]) (fun i v h => by rcases i with _|_|_|_|_|_ <;> first | exact h | cases h) ?_
      exact e_dec_loop (s0 := s0) (x0 := x0) hw h25 h26 (fun A4 I4 X4 h1 h2 h3 => ⟨A4, I4, X4, h1, fun i hi => (h3 i hi).trans (up_ne hi), rfl, rfl⟩) _ 0 A I _ hT up_at (fun i hi => rfl) (Nat.zero_le _) (Nat.lt_succ_self _)
    · exact absurd c_12 h4
