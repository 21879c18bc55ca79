/-! THE REFERENCE: best; JOINS of who and best -/
theorem be_mx {ms cs K n : Nat} {A I A2 I2 : Nat → Nat → Int32} {g : Int32} (h : INV A I) (hP : PLN ms cs A I) (hm : smM A I A2 I2) (hW : ∀ w2, w2 < 10 → wV ms w2 → PD ms A I g (A2 74) w2 40) (hK : I 34 9 = nI K) (hKb : K < 2 ^ 31) (hn1 : 1 ≤ n) (hn40 : n ≤ 40) : (∀ s, s < 9 → gt 9 (taS A I g 9).2 (nI s) = 1 → paS (taS A I g 9).1 (nI s) (nI n) = pw A I g s n ∧ ∃ m0, m0 < ms ∧ pw A I g s n = nI m0) ∧ maS (taS A I g 9).1 (taS A I g 9).2 (nI n) = nI (mxS (taS A I g 9).2 (fun k => pw A I g k n) ms) := by
  have h8 := PLN_ms hP
  obtain ⟨hN, -⟩ := NT_of h hK hKb
  have key : ∀ s, s < 9 → gt 9 (taS A I g 9).2 (nI s) = 1 → paS (taS A I g 9).1 (nI s) (nI n) = pw A I g s n ∧ ∃ m0, m0 < ms ∧ pw A I g s n = nI m0 := by
    intro s hs hf
    obtain ⟨t1, t2⟩ := ta_n hP hN hK 9 (Nat.le_refl _) s hs (g := g)
    obtain ⟨hv, -⟩ := t2.mp hf
    refine ⟨(gt369 hs hn40).trans (t1 hv n hn1 hn40), ?_⟩
    rcases hv with z | z
    · subst z
      exact (hW 9 (by decide) (Or.inl rfl) n hn1 hn40).2
    · have q := (hW s (by omega) (Or.inr z) n hn1 hn40).2
      rw [show sg s = s from if_neg (by omega)] at q
      exact q
  exact ⟨key, maS_eq h8.2.1 key⟩
theorem be_no {F : ROW} (h : spL F 0 9 0 0 = (-1)) : ∀ s, s < 9 → ¬ gt 9 F (nI s) = 1 := fun s hs => (spL_0 9 0 rfl).mp h s (Nat.zero_le _) hs
theorem be_yes {F : ROW} (h : ¬ spL F 0 9 0 0 = (-1)) : ∃ s, s < 9 ∧ gt 9 F (nI s) = 1 :=
  Classical.byContradiction fun z => h ((spL_0 9 0 rfl).mpr fun s _ hs q => z ⟨s, hs, q⟩)
theorem maS_0 {P F : ROW} {n : Int32} (h : ∀ s, s < 9 → ¬ gt 9 F (nI s) = 1) : maS P F n = 0 := by
  have key : ∀ k, k ≤ 9 → itn (maC P F n) k (fun _ => 0, 0) = (fun _ => 0, 0) := by
    intro k
    induction k with
    | zero => intro _; rfl
    | succ k ih =>
      intro hk
      show maC P F n k (itn (maC P F n) k (fun _ => 0, 0)) = _
      rw [ih (by omega)]
      exact if_neg (h k (by omega))
  unfold maS
  rw [key 9 (Nat.le_refl _)]
set_option maxHeartbeats 800000 in
set_option maxRecDepth 100000 in
theorem e_whoF {A : Nat → Nat → Int32} {L : Nat → Nat → Int64} {I : Nat → Nat → Int32} {X : Nat → Int64} {ms cs K g0 : Nat} {g i : Int32} (h : INV A I) (hP : PLN ms cs A I) (hg : g = nI g0) (hg5 : g0 ≤ 5) (hK : I 34 9 = nI K) (hKb : K < 2 ^ 31) (g1 : ¬ (I 0 12 = 0 ∨ g < 1 ∨ 5 < g)) (hi : (-1) ≤ i) : Con 9 yX11_who cX11_who 5 (some .int) [.ref 46, .int g, .int i] (hp A L I X) (fun r_ H_ => r_ = some (.int (spL (taS A I g 9).2 i 9 0 0)) ∧ ∃ A2 I2, smM A I A2 I2 ∧ (∀ w2, w2 < 10 → wV ms w2 → PD ms A I g (A2 74) w2 40) ∧ H_ = hp A2 L I2 X) := by
  refine m_con (by decide) (Nat.le_of_ble_eq_true rfl) ?_
  refine g_aload_n dX11_who_0 rfl rfl ?_
  refine g_iload_n dX11_who_1 rfl rfl ?_
  refine g_callV dX11_who_2 cv_X11_394 (as' := [_]) hp_46 rfl (e_isMore h) (by decide) rfl rfl (Nat.le_of_ble_eq_true rfl) ?_
  rintro _ _ (⟨g2, rfl, rfl⟩ | ⟨g2, rfl, rfl⟩)
  · exact absurd g2 g1
  · refine g_if_eq (tgt := 13) dX11_who_5 (by decide) (fun c_5 => ?_) (fun c_5 => ?_)
    · exact absurd c_5 (by decide)
    · refine g_iload_n dX11_who_8 rfl rfl ?_
      refine g_ic_m1 dX11_who_9 ?_
      refine g_icmp_ge (tgt := 15) dX11_who_10 (by decide) (fun c_10 => ?_) (fun c_10 => ?_)
      · refine g_aload_n dX11_who_15 rfl rfl ?_
        refine g_iload_n dX11_who_16 rfl rfl ?_
        refine g_callV dX11_who_17 cv_X11_397 (as' := [_]) hp_46 rfl (e_layPaths h hP hg hg5) (by decide) rfl rfl (Nat.le_of_ble_eq_true rfl) ?_
        rintro _ _ ⟨rfl, A2, I2, hm, hW, rfl⟩
        refine g_ic_0 dX11_who_20 ?_
        refine g_istore_n dX11_who_21 rfl (by decide) ?_
        refine g_ic_0 dX11_who_22 ?_
        refine g_istore dX11_who_23 (by decide) ?_
        refine g_loc (ls' := [some (.ref 46), some (.int (g)), some (.int (i)), some (.int (0)), some (.int (nI 0))]) (fun i v h => by rcases i with _|_|_|_|_|_ <;> first | exact h | cases h) ?_
        exact e_wh_loop h hP hm hW hK hKb 11 0 0 ⟨rfl, _, _, hm, hW, rfl⟩ (by decide) (by decide)
      · exact absurd hi (Int32.not_le.mpr (Int32.not_le.mp c_10))

set_option maxHeartbeats 800000 in
set_option maxRecDepth 100000 in
theorem e_be_loop {A : Nat → Nat → Int32} {L : Nat → Nat → Int64} {I : Nat → Nat → Int32} {X : Nat → Int64} {ms cs K s0 : Nat} {g : Int32} {A2 I2 : Nat → Nat → Int32} {Q : Option Value → m_H → Prop} (h : INV A I) (hP : PLN ms cs A I) (hm : smM A I A2 I2) (hW : ∀ w2, w2 < 10 → wV ms w2 → PD ms A I g (A2 74) w2 40) (hK : I 34 9 = nI K) (hKb : K < 2 ^ 31) (hs9 : s0 < 9) (hsF : gt 9 (taS A I g 9).2 (nI s0) = 1) (hQ : Q (some (.int (loT (taS A I g 9).1 (taS A I g 9).2 40).1)) (hp A2 L I2 X)) : ∀ f k0 b l, loT (taS A I g 9).1 (taS A I g 9).2 k0 = (b, nI l) → l ≤ 9 → 1 ≤ k0 → k0 ≤ 40 → 40 - k0 < f → G 10 RX11 cX11_best 6 (some .int) Q 31 [some (.ref 46), some (.int (g)), some (.int (b)), some (.int (nI l)), some (.int (nI (k0 + 1))), none] [] (hp A2 L I2 X) := by
  intro f
  induction f with
  | zero => intro k0 b l hl l9 h0 h1 h2; omega
  | succ f ih =>
    intro k0 b l hl l9 h0 h1 h2
    refine g_iload dX11_best_31 rfl ?_
    refine g_bipush (v := 40) dX11_best_33 (by decide) ?_
    refine g_icmp_gt (tgt := 64) dX11_best_35 (by decide) (fun c_35 => ?_) (fun c_35 => ?_)
    · refine g_iload_n dX11_best_64 rfl rfl ?_
      exact g_iret dX11_best_65 (by rw [show k0 = 40 from by have := lit_lt (n := 40) (by decide) (by omega) c_35; omega] at hl; rw [hl] at hQ; exact hQ)
    · have hlt : k0 + 1 ≤ 40 := lit_nlt (n := 40) (by decide) (by omega) c_35
      obtain ⟨f1, f2⟩ := be_mx h hP hm hW hK hKb (n := k0 + 1) (by omega) hlt
      have v9 : (mxS (taS A I g 9).2 (fun k => pw A I g k (k0 + 1)) ms) ≤ 9 := mxS_le
      have v1 : 1 ≤ (mxS (taS A I g 9).2 (fun k => pw A I g k (k0 + 1)) ms) := by
        obtain ⟨-, m0, q1, q2⟩ := f1 s0 hs9 hsF
        exact mxS_ge hs9 hsF q2 q1
      have ht := loT_s f2 v1 v9 hl
      refine g_aload_n dX11_best_38 rfl rfl ?_
      refine g_iload dX11_best_39 rfl ?_
      refine g_callV dX11_best_41 cv_X11_406 (as' := [_]) hp_46 rfl (e_mostTell h hP hm hW hK hKb (show 1 ≤ k0 + 1 by omega) hlt rfl) (by decide) rfl rfl (Nat.le_of_ble_eq_true rfl) ?_
      rintro _ _ ⟨rfl, rfl⟩
      refine g_istore dX11_best_44 (by decide) ?_
      refine g_iload dX11_best_46 rfl ?_
      refine g_iload_n dX11_best_48 rfl rfl ?_
      refine g_icmp_ge (tgt := 58) dX11_best_49 (by decide) (fun c_49 => ?_) (fun c_49 => ?_)
      · refine g_iinc1 dX11_best_58 rfl (by decide) ?_
        refine g_goto (tgt := 31) dX11_best_61 (by decide) ?_
        rw [show nI (k0 + 1) + 1 = nI (k0 + 1 + 1) from nI_1 (k0 + 1)]
        rw [if_pos c_49] at ht
        refine g_loc (ls' := [some (.ref 46), some (.int (g)), some (.int (b)), some (.int (nI l)), some (.int (nI (k0 + 1 + 1))), none]) (fun i v h => by rcases i with _|_|_|_|_|_|_ <;> first | exact h | cases h) ?_
        exact ih (k0 + 1) b l ht l9 (by omega) (by omega) (by omega)
      · refine g_iload dX11_best_52 rfl ?_
        refine g_istore_n dX11_best_54 rfl (by decide) ?_
        refine g_iload dX11_best_55 rfl ?_
        refine g_istore_n dX11_best_57 rfl (by decide) ?_
        refine g_iinc1 dX11_best_58 rfl (by decide) ?_
        refine g_goto (tgt := 31) dX11_best_61 (by decide) ?_
        rw [show nI (k0 + 1) + 1 = nI (k0 + 1 + 1) from nI_1 (k0 + 1)]
        rw [if_neg c_49] at ht
        refine g_loc (ls' := [some (.ref 46), some (.int (g)), some (.int (nI (k0 + 1))), some (.int (nI (mxS (taS A I g 9).2 (fun k => pw A I g k (k0 + 1)) ms))), some (.int (nI (k0 + 1 + 1))), none]) (fun i v h => by rcases i with _|_|_|_|_|_|_ <;> first | exact h | cases h) ?_
        exact ih (k0 + 1) _ _ ht v9 (by omega) (by omega) (by omega)

set_option maxHeartbeats 800000 in
set_option maxRecDepth 100000 in
theorem n_best {A : Nat → Nat → Int32} {L : Nat → Nat → Int64} {I : Nat → Nat → Int32} {X : Nat → Int64} {g : Int32} (h : INV A I) : Con 10 yX11_best cX11_best 6 (some .int) [.ref 46, .int g] (hp A L I X) (QM A I X (besS A I g)) := by
  refine m_con (by decide) (Nat.le_of_ble_eq_true rfl) ?_
  refine g_aload_n dX11_best_0 rfl rfl ?_
  refine g_iload_n dX11_best_1 rfl rfl ?_
  refine g_callV dX11_best_2 cv_X11_394 (as' := [_]) hp_46 rfl (e_isMore h) (by decide) rfl rfl (Nat.le_of_ble_eq_true rfl) ?_
  rintro _ _ (⟨g1, rfl, rfl⟩ | ⟨g1, rfl, rfl⟩)
  · refine g_if_eq (tgt := 18) dX11_best_5 (by decide) (fun c_5 => ?_) (fun c_5 => ?_)
    · refine g_ic_m1 dX11_best_18 ?_
      exact g_iret dX11_best_19 ⟨congrArg (fun z : Int32 => some (Value.int z)) (show _ = besS A I g from (if_pos (g1.imp id (fun z => z.imp id Int32.not_le.mpr))).symm), _, _, _, smM_rf, rfl⟩
    · exact absurd c_5 (by decide)
  · obtain ⟨ms, cs, hP⟩ := INV_P h (fun z => g1 (Or.inl z))
    obtain ⟨g0, g01, g05, hg⟩ := in_1' (a := 1) (b := 5) (by decide) (by decide) (fun z : inZ g (nI 1) (nI 5) = 0 => g1 (Or.inr (in_0.mp z)))
    obtain ⟨K, hKb, hK⟩ : ∃ K, K < 2 ^ 31 ∧ I 34 9 = nI K := by
      obtain ⟨-, -, -, -, k, i5, i6, -⟩ := h.2.2.2.1
      exact ⟨k, by omega, i6⟩
    refine g_if_eq (tgt := 18) dX11_best_5 (by decide) (fun c_5 => ?_) (fun c_5 => ?_)
    · exact absurd c_5 (by decide)
    · refine g_aload_n dX11_best_8 rfl rfl ?_
      refine g_iload_n dX11_best_9 rfl rfl ?_
      refine g_ic_0 dX11_best_10 ?_
      refine g_callV dX11_best_11 cv_X11_403 (as' := [_, _]) hp_46 rfl (e_whoF h hP hg g05 hK hKb g1 (by decide)) (by decide) rfl rfl (Nat.le_of_ble_eq_true rfl) ?_
      rintro _ _ ⟨rfl, A2, I2, hm, hW, rfl⟩
      have hb : besS A I g = (loT (taS A I g 9).1 (taS A I g 9).2 40).1 := if_neg (fun z => by rcases z with z | z | z; exact g1 (Or.inl z); exact g1 (Or.inr (Or.inl z)); exact g1 (Or.inr (Or.inr (Int32.not_le.mp z))))
      refine g_ic_m1 dX11_best_14 ?_
      refine g_icmp_ne (tgt := 20) dX11_best_15 (by decide) (fun c_15 => ?_) (fun c_15 => ?_)
      · refine g_ic_1 dX11_best_20 ?_
        refine g_istore_n dX11_best_21 rfl (by decide) ?_
        refine g_aload_n dX11_best_22 rfl rfl ?_
        refine g_ic_1 dX11_best_23 ?_
        have hs := be_yes c_15
        obtain ⟨s0, hs9, hsF⟩ := hs
        obtain ⟨f1, f2⟩ := be_mx h hP hm hW hK hKb (n := 1) (by decide) (by decide)
        have v9 : mxS (taS A I g 9).2 (fun k => pw A I g k 1) ms ≤ 9 := mxS_le
        have v1 : 1 ≤ mxS (taS A I g 9).2 (fun k => pw A I g k 1) ms := by
          obtain ⟨-, m0, q1, q2⟩ := f1 s0 hs9 hsF
          exact mxS_ge hs9 hsF q2 q1
        refine g_callV dX11_best_24 cv_X11_406 (as' := [_]) hp_46 rfl (e_mostTell h hP hm hW hK hKb (show 1 ≤ 1 by decide) (by decide) rfl) (by decide) rfl rfl (Nat.le_of_ble_eq_true rfl) ?_
        rintro _ _ ⟨rfl, rfl⟩
        refine g_istore_n dX11_best_27 rfl (by decide) ?_
        refine g_ic_2 dX11_best_28 ?_
        refine g_istore dX11_best_29 (by decide) ?_
        refine g_loc (ls' := [some (.ref 46), some (.int (g)), some (.int (nI 1)), some (.int (nI (mxS (taS A I g 9).2 (fun k => pw A I g k 1) ms))), some (.int (nI (1 + 1))), none]) (fun i v h => by rcases i with _|_|_|_|_|_|_ <;> first | exact h | cases h) ?_
        exact e_be_loop h hP hm hW hK hKb hs9 hsF ⟨congrArg (fun z : Int32 => some (Value.int z)) hb.symm, _, _, _, hm, rfl⟩ 40 1 _ _ (loT_1 f2 v1 v9) v9 (by decide) (by decide) (by decide)
      · refine g_ic_m1 dX11_best_18 ?_
        exact g_iret dX11_best_19 ⟨congrArg (fun z : Int32 => some (Value.int z)) (show _ = besS A I g from by rw [hb, loT_0 (fun n _ => maS_0 (be_no c_15)) 40 (Nat.le_refl _)]), _, _, _, hm, rfl⟩

/-! joins: what the class says doesn't hang on its scratch rows -/
theorem ta_sm {ms cs K : Nat} {A I A1 I1 : Nat → Nat → Int32} {L L1 : Nat → Nat → Int64} {g : Int32} (h : INV A I) (hP : PLN ms cs A I) (hK : I 34 9 = nI K) (hKb : K < 2 ^ 31) (q : sm A L I A1 L1 I1) : (∀ s t, pw A1 I1 g s t = pw A I g s t) ∧ (∀ s, s < 9 → (gt 9 (taS A1 I1 g 9).2 (nI s) = 1 ↔ gt 9 (taS A I g 9).2 (nI s) = 1)) ∧ PLN ms cs A1 I1 := by
  have h1 := INV_sm q h
  have hK1 : I1 34 9 = nI K := (q.2.1 34 9 (by decide)).trans hK
  have hP1 : PLN ms cs A1 I1 := by
    obtain ⟨ms1, cs1, hP1⟩ := INV_P h1 (by rw [q.2.1 0 12 (by decide), PLN_12 h hP]; decide)
    have e1 : ms1 = ms := by
      have := hP1.1.1.symm.trans ((q.2.1 46 25 (by decide)).trans hP.1.1)
      have a := PLN_ms hP1
      have b := PLN_ms hP
      exact (nI_eq (by omega) (by omega)).mp this
    have e2 : cs1 = cs := by
      have := hP1.1.2.symm.trans ((q.2.1 46 26 (by decide)).trans hP.1.2)
      have a := PLN_ms hP1
      have b := PLN_ms hP
      exact (nI_eq (by omega) (by omega)).mp this
    rw [e1, e2] at hP1
    exact hP1
  have e : ∀ s t, pw A1 I1 g s t = pw A I g s t := fun s t => by
    unfold pw gsW
    rw [q.1 12 (by decide), q.1 13 (by decide), q.1 17 (by decide), q.2.1 11 5 (by decide)]
  refine ⟨e, fun s hs => ?_, hP1⟩
  rw [(ta_n hP1 (NT_of h1 hK1 hKb).1 hK1 9 (Nat.le_refl _) s hs).2, (ta_n hP (NT_of h hK hKb).1 hK 9 (Nat.le_refl _) s hs).2]
  unfold sOk nOk
  rw [q.1 38 (by decide), q.1 39 (by decide), q.1 40 (by decide)]
  simp only [e]
theorem spL_F {F F1 : ROW} {i : Int32} (e : ∀ s, s < 9 → (gt 9 F1 (nI s) = 1 ↔ gt 9 F (nI s) = 1)) : ∀ n k fd, n + k = 9 → spL F1 i n k fd = spL F i n k fd
  | 0, _, _, _ => rfl
  | n + 1, k, fd, h => by
    unfold spL
    rw [spL_F e n (k + 1) (fd + 1) (by omega), spL_F e n (k + 1) fd (by omega)]
    by_cases c : gt 9 F (nI k) = 1
    · rw [if_pos c, if_pos ((e k (by omega)).mpr c)]
    · rw [if_neg c, if_neg (fun z => c ((e k (by omega)).mp z))]
theorem spL_G {F F1 : ROW} {i : Int32} (e : ∀ s, s < 9 → (gt 9 F1 (nI s) = 1 ↔ gt 9 F (nI s) = 1)) : spL F1 i 9 0 0 = spL F i 9 0 0 := spL_F e 9 0 0 rfl
theorem whoS_0 {A I : Nat → Nat → Int32} {g i : Int32} (c : I 0 12 = 0 ∨ g < 1 ∨ 5 < g ∨ ¬ (-1) ≤ i) : whoS A I g i = (-1) := if_pos c
theorem whoS_n {A I : Nat → Nat → Int32} {g i : Int32} (c : ¬ (I 0 12 = 0 ∨ g < 1 ∨ 5 < g ∨ ¬ (-1) ≤ i)) : whoS A I g i = spL (taS A I g 9).2 i 9 0 0 := if_neg c
theorem step_who {A : Nat → Nat → Int32} {L : Nat → Nat → Int64} {I : Nat → Nat → Int32} {X : Nat → Int64} {g i : Int32} (h : INV A I) : ST 8 yX10_who cX10_who 3 9 yX11_who cX11_who 5 (some .int) [.int g, .int i] (hp A L I X) := by
  refine ST_q h m_who (fun A1 L1 I1 q h1 => ?_)
  have e : whoS A1 I1 g i = whoS A I g i := by
    have z1 : I1 0 12 = I 0 12 := q.2.1 0 12 (by decide)
    by_cases c : I 0 12 = 0 ∨ g < 1 ∨ 5 < g ∨ ¬ (-1) ≤ i
    · have c1 : I1 0 12 = 0 ∨ g < 1 ∨ 5 < g ∨ ¬ (-1) ≤ i := by rw [z1]; exact c
      exact (whoS_0 c1).trans (whoS_0 c).symm
    · have c1 : ¬ (I1 0 12 = 0 ∨ g < 1 ∨ 5 < g ∨ ¬ (-1) ≤ i) := by rw [z1]; exact c
      obtain ⟨ms, cs, hP⟩ := INV_P h (fun z => c (Or.inl z))
      obtain ⟨K, hKb, hK⟩ : ∃ K, K < 2 ^ 31 ∧ I 34 9 = nI K := by
        obtain ⟨-, -, -, -, k, i5, i6, -⟩ := h.2.2.2.1
        exact ⟨k, by omega, i6⟩
      exact (whoS_n c1).trans ((spL_G (ta_sm h hP hK hKb q).2.1).trans (whoS_n c).symm)
  rw [← e]
  exact n_who h1
theorem loS_F {P P1 F F1 : ROW} (e : ∀ s, s < 9 → (gt 9 F1 (nI s) = 1 ↔ gt 9 F (nI s) = 1)) (e2 : ∀ s, s < 9 → gt 9 F (nI s) = 1 → ∀ t, 1 ≤ t → t ≤ 40 → paS P1 (nI s) (nI t) = paS P (nI s) (nI t)) : loS P1 F1 = loS P F := by
  have m : ∀ t, 1 ≤ t → t ≤ 40 → maS P1 F1 (nI t) = maS P F (nI t) := by
    intro t t1 t2
    have key : ∀ k, k ≤ 9 → itn (maC P1 F1 (nI t)) k (fun _ => 0, 0) = itn (maC P F (nI t)) k (fun _ => 0, 0) := by
      intro k
      induction k with
      | zero => intro _; exact (rfl : (((fun _ => 0 : ROW), (0 : Int32)) : ROW × Int32) = ((fun _ => 0), 0))
      | succ k ih =>
        intro hk
        show maC P1 F1 (nI t) k (itn (maC P1 F1 (nI t)) k (fun _ => 0, 0)) = maC P F (nI t) k (itn (maC P F (nI t)) k (fun _ => 0, 0))
        rw [ih (by omega)]
        generalize itn (maC P F (nI t)) k (fun _ => 0, 0) = s
        unfold maC
        by_cases c : gt 9 F (nI k) = 1
        · rw [if_pos c, if_pos ((e k (by omega)).mpr c), e2 k (by omega) c t t1 t2]
        · rw [if_neg c, if_neg (fun z => c ((e k (by omega)).mp z))]
    unfold maS
    rw [key 9 (Nat.le_refl _)]
  have key : ∀ k, k ≤ 40 → itn (loC P1 F1) k ((-1), 10) = itn (loC P F) k ((-1), 10) := by
    intro k
    induction k with
    | zero => intro _; exact (rfl : (((-1 : Int32), (10 : Int32)) : Int32 × Int32) = ((-1), 10))
    | succ k ih =>
      intro hk
      show loC P1 F1 k (itn (loC P1 F1) k ((-1), 10)) = loC P F k (itn (loC P F) k ((-1), 10))
      rw [ih (by omega)]
      unfold loC
      rw [m (k + 1) (by omega) hk]
  unfold loS
  rw [key 40 (Nat.le_refl _)]
theorem step_best {A : Nat → Nat → Int32} {L : Nat → Nat → Int64} {I : Nat → Nat → Int32} {X : Nat → Int64} {g : Int32} (h : INV A I) : ST 8 yX10_best cX10_best 2 10 yX11_best cX11_best 6 (some .int) [.int g] (hp A L I X) := by
  refine ST_q h m_best (fun A1 L1 I1 q h1 => ?_)
  have e : besS A1 I1 g = besS A I g := by
    unfold besS
    rw [q.2.1 0 12 (by decide)]
    by_cases c : I 0 12 = 0 ∨ g < 1 ∨ ¬ g ≤ 5
    · rw [if_pos c, if_pos c]
    · rw [if_neg c, if_neg c]
      obtain ⟨ms, cs, hP⟩ := INV_P h (fun z => c (Or.inl z))
      obtain ⟨K, hKb, hK⟩ : ∃ K, K < 2 ^ 31 ∧ I 34 9 = nI K := by
        obtain ⟨-, -, -, -, k, i5, i6, -⟩ := h.2.2.2.1
        exact ⟨k, by omega, i6⟩
      obtain ⟨e1, e2, hP1⟩ := ta_sm h hP hK hKb q (g := g)
      refine loS_F e2 (fun s hs hf t t1 t2 => ?_)
      have hK1 : I1 34 9 = nI K := (q.2.1 34 9 (by decide)).trans hK
      obtain ⟨a1, a2⟩ := ta_n hP (NT_of h hK hKb).1 hK 9 (Nat.le_refl _) s hs (g := g)
      obtain ⟨b1, -⟩ := ta_n hP1 (NT_of h1 hK1 hKb).1 hK1 9 (Nat.le_refl _) s hs (g := g)
      have hv := (a2.mp hf).1
      rw [gt369 hs t2, gt369 hs t2, a1 hv t t1 t2, b1 hv t t1 t2]
      exact e1 s t
  rw [← e]
  exact n_best h1