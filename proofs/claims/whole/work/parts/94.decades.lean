/-! THE CLASS: decades -/
def deS (C Z : Nat → Int32) (hold hail th : Int32) (s : TC × Int64) : TC × Int64 := ((tnS C Z hold ((skS s.1.1.1 s.2 hail th).1, s.1.1.2), (kpT s.1).2), (skS s.1.1.1 s.2 hail th).2)
theorem cor_de {A I A3 I3 : Nat → Nat → Int32} {f : Nat → Int32} (h : scr (upS (kA A I) 20 21 f ((kA A I) 21)) (kI I) A3 I3) : cor (upS A3 20 21 (tnsS ((upS (kA A I) 20 21 f ((kA A I) 21)) 12) ((upS (kA A I) 20 21 f ((kA A I) 21)) 13) ((kI I) 11 5) (1 : Int32).toNatClampNeg ((upS (kA A I) 20 21 f ((kA A I) 21)) 20, (upS (kA A I) 20 21 f ((kA A I) 21)) 21)).1 (tnsS ((upS (kA A I) 20 21 f ((kA A I) 21)) 12) ((upS (kA A I) 20 21 f ((kA A I) 21)) 13) ((kI I) 11 5) (1 : Int32).toNatClampNeg ((upS (kA A I) 20 21 f ((kA A I) 21)) 20, (upS (kA A I) 20 21 f ((kA A I) 21)) 21)).2) I3 = ((tnS (A 12) (A 13) (I 11 5) (f, A 21), (kpT (cor A I)).2)) := by
  rw [cor_S h]
  rfl
set_option maxHeartbeats 4000000 in
set_option maxRecDepth 100000 in
theorem m_dec_loop {A : Nat → Nat → Int32} {L : Nat → Nat → Int64} {I : Nat → Nat → Int32} {X : Nat → Int64} {n0 : Int32} {x0 : Int64} {Q : Option Value → m_H → Prop} (hQ : ∀ A1 I1 X1, smT A I A1 I1 → (∀ i, i ≠ 44 → X1 i = X i) → (cor A1 I1, X1 44) = itn (fun _ => deS (A 12) (A 13) (I 11 5) (I 0 14) (I 0 15)) n0.toNatClampNeg (cor A I, x0) → Q (some (.int (gt 143 (A1 20) 5))) (hp A1 L I1 X1)) : ∀ n k A2 I2 X2, smT A I A2 I2 → (∀ i, i ≠ 44 → X2 i = X i) → (cor A2 I2, X2 44) = itn (fun _ => deS (A 12) (A 13) (I 11 5) (I 0 14) (I 0 15)) k (cor A I, x0) → k ≤ n0.toNatClampNeg → n0.toNatClampNeg - k < n → G 6 RX10 cX10_decades 5 (some .int) Q 48 [some (.ref 0), some (.int n0), none, none, some (.int (nI k))] [] (hp A2 L I2 X2) := by
  intro n
  induction n with
  | zero => intro k A2 I2 X2 hm hx hc h1 h2; omega
  | succ n ih =>
    intro k A2 I2 X2 hm hx hc h1 h2
    have hb := clamp_lt n0
    refine g_iload dX10_decades_48 rfl ?_
    refine g_iload_n dX10_decades_50 rfl rfl ?_
    refine g_icmp_ge (tgt := 87) dX10_decades_51 (by decide) (fun c_51 => ?_) (fun c_51 => ?_)
    · have h6 := (nI_gen (k := k) (by omega)).mp c_51
      have hkn : k = n0.toNatClampNeg := by omega
      subst hkn
      refine g_aload_n dX10_decades_87 rfl rfl ?_
      refine g_get dX10_decades_88 fl_X10_46 hp_0 rfl ?_
      refine g_ic_5 dX10_decades_91 ?_
      refine g_callV dX10_decades_92 cv_X10_135 (as' := [_]) hp_19 rfl (h_get isS_19) (by decide) rfl rfl (Nat.le_of_ble_eq_true rfl) ?_
      rintro _ _ ⟨rfl, rfl⟩
      try simp only [upS_upS (show (20 : Nat) ≠ 21 by decide), upS_r (show (20 : Nat) ≠ 21 by decide), upS_c, kA_20, kA_21, kA_17, up_17]
      exact g_iret dX10_decades_95 (hQ A2 I2 X2 hm hx hc)
    · refine g_aload_n dX10_decades_54 rfl rfl ?_
      refine g_get dX10_decades_55 fl_X10_55 hp_0 rfl ?_
      refine g_aload_n dX10_decades_58 rfl rfl ?_
      refine g_get dX10_decades_59 fl_X10_46 hp_0 rfl ?_
      refine g_callV dX10_decades_62 cv_X10_218 (as' := [_]) hp_25 rfl (a_keep isS_19) (by decide) rfl rfl (Nat.le_of_ble_eq_true rfl) ?_
      rintro _ _ ⟨rfl, rfl⟩
      rw [← kA_def, ← kI_def]
      refine g_aload_n dX10_decades_65 rfl rfl ?_
      refine g_callV dX10_decades_66 cv_X10_248 (as' := []) hp_0 rfl m_strike (by decide) rfl rfl (Nat.le_of_ble_eq_true rfl) ?_
      rintro _ _ ⟨rfl, rfl⟩
      refine g_aload_n dX10_decades_69 rfl rfl ?_
      refine g_get dX10_decades_70 fl_X10_46 hp_0 rfl ?_
      refine g_ic_1 dX10_decades_73 ?_
      refine g_aload_n dX10_decades_74 rfl rfl ?_
      refine g_get dX10_decades_75 fl_X10_35 hp_0 rfl ?_
      refine g_callV dX10_decades_78 cv_X10_221 (as' := [_, _]) hp_19 rfl (h_turns isS_19) (by decide) rfl rfl (Nat.le_of_ble_eq_true rfl) ?_
      rintro _ _ ⟨rfl, A3, I3, h3, rfl⟩
      refine g_iinc1 dX10_decades_81 rfl (by decide) ?_
      refine g_goto (tgt := 48) dX10_decades_84 (by decide) ?_
      rw [nI_1]
      have h7 := Nat.not_le.mp (fun z => c_51 ((nI_gen (k := k) (by omega)).mpr z))
      refine ih (k + 1) _ I3 _ (smT_tr hm (smT_tr smT_kp (smT_tr smT_S (smT_tr (smT_scr h3) smT_S)))) (fun i hi => (up_ne hi).trans (hx i hi)) ?_ (by omega) (by omega)
      rw [cor_de h3, show itn (fun _ => deS (A 12) (A 13) (I 11 5) (I 0 14) (I 0 15)) (k + 1) (cor A I, x0) = deS (A 12) (A 13) (I 11 5) (I 0 14) (I 0 15) (itn (fun _ => deS (A 12) (A 13) (I 11 5) (I 0 14) (I 0 15)) k (cor A I, x0)) from rfl, ← hc, up_at]
      unfold deS
      rw [← hm.1 12 (by decide), ← hm.1 13 (by decide), ← hm.2 11 5 (by decide), ← hm.2 0 14 (by decide), ← hm.2 0 15 (by decide)]
      rfl

set_option maxHeartbeats 4000000 in
set_option maxRecDepth 100000 in
theorem m_decades {A : Nat → Nat → Int32} {L : Nat → Nat → Int64} {I : Nat → Nat → Int32} {X : Nat → Int64} {n : Int32} {x : Int64}  : Con 6 yX10_decades cX10_decades 5 (some .int) [.ref 0, .int n, .long x] (hp A L I X) (fun r_ H_ => ((I 0 12 = 0 ∨ n < 1 ∨ 60 < n ∨ ¬ gt 143 (A 20) 8 + n ≤ 9999) ∧ r_ = some (.int (-1)) ∧ H_ = hp A L I X) ∨ (¬ (I 0 12 = 0 ∨ n < 1 ∨ 60 < n ∨ ¬ gt 143 (A 20) 8 + n ≤ 9999) ∧ ∃ A1 I1 X1, smT A I A1 I1 ∧ (∀ i, i ≠ 44 → X1 i = X i) ∧ (cor A1 I1, X1 44) = itn (fun _ => deS (A 12) (A 13) (I 11 5) (I 0 14) (I 0 15)) n.toNatClampNeg (cor A I, x) ∧ r_ = some (.int (gt 143 (A1 20) 5)) ∧ H_ = hp A1 L I1 X1)) := by
  refine m_con (by decide) (Nat.le_of_ble_eq_true rfl) ?_
  refine g_aload_n dX10_decades_0 rfl rfl ?_
  refine g_get dX10_decades_1 fl_X10_128 hp_0 rfl ?_
  refine g_if_eq (tgt := 35) dX10_decades_4 (by decide) (fun c_4 => ?_) (fun c_4 => ?_)
  · refine g_ic_m1 dX10_decades_35 ?_
    exact g_iret dX10_decades_36 (Or.inl ⟨Or.inl c_4, rfl, rfl⟩)
  · refine g_iload_n dX10_decades_7 rfl rfl ?_
    refine g_ic_1 dX10_decades_8 ?_
    refine g_icmp_lt (tgt := 35) dX10_decades_9 (by decide) (fun c_9 => ?_) (fun c_9 => ?_)
    · refine g_ic_m1 dX10_decades_35 ?_
      exact g_iret dX10_decades_36 (Or.inl ⟨Or.inr (Or.inl c_9), rfl, rfl⟩)
    · refine g_iload_n dX10_decades_12 rfl rfl ?_
      refine g_bipush (v := 60) dX10_decades_13 (by decide) ?_
      refine g_icmp_gt (tgt := 35) dX10_decades_15 (by decide) (fun c_15 => ?_) (fun c_15 => ?_)
      · refine g_ic_m1 dX10_decades_35 ?_
        exact g_iret dX10_decades_36 (Or.inl ⟨Or.inr (Or.inr (Or.inl c_15)), rfl, rfl⟩)
      · refine g_aload_n dX10_decades_18 rfl rfl ?_
        refine g_get dX10_decades_19 fl_X10_46 hp_0 rfl ?_
        refine g_bipush (v := 8) dX10_decades_22 (by decide) ?_
        refine g_callV dX10_decades_24 cv_X10_135 (as' := [_]) hp_19 rfl (h_get isS_19) (by decide) rfl rfl (Nat.le_of_ble_eq_true rfl) ?_
        rintro _ _ ⟨rfl, rfl⟩
        try simp only [upS_upS (show (20 : Nat) ≠ 21 by decide), upS_r (show (20 : Nat) ≠ 21 by decide), upS_c, kA_20, kA_21, kA_17, up_17]
        refine g_iload_n dX10_decades_27 rfl rfl ?_
        refine g_iadd dX10_decades_28 ?_
        refine g_sipush (v := 9999) dX10_decades_29 (by decide) ?_
        refine g_icmp_le (tgt := 37) dX10_decades_32 (by decide) (fun c_32 => ?_) (fun c_32 => ?_)
        · refine g_aload_n dX10_decades_37 rfl rfl ?_
          refine g_get dX10_decades_38 fl_X10_78 hp_0 rfl ?_
          refine g_lload_n dX10_decades_41 rfl rfl ?_
          refine g_callV dX10_decades_42 cv_X10_244 (as' := [_]) hp_44 rfl d_begin (by decide) rfl rfl (Nat.le_of_ble_eq_true rfl) ?_
          rintro _ _ ⟨rfl, rfl⟩
          refine g_ic_0 dX10_decades_45 ?_
          refine g_istore dX10_decades_46 (by decide) ?_
          refine g_loc (ls' := [some (.ref 0), some (.int n), none, none, some (.int (nI 0))]) (fun i v h => by rcases i with _|_|_|_|_|_ <;> first | exact h | cases h) ?_
          exact m_dec_loop (x0 := x) (fun A1 I1 X1 h1 h2 h3 => Or.inr ⟨fun z => by rcases z with z | z | z | z; exact c_4 z; exact c_9 z; exact c_15 z; exact z c_32, A1, I1, X1, h1, h2, h3, rfl, rfl⟩) _ 0 A I _ smT_rf (fun i hi => up_ne hi) (by rw [up_at]; rfl) (Nat.zero_le _) (Nat.lt_succ_self _)
        · refine g_ic_m1 dX10_decades_35 ?_
          exact g_iret dX10_decades_36 (Or.inl ⟨Or.inr (Or.inr (Or.inr c_32)), rfl, rfl⟩)
