/-! THE REFERENCE READS: a law from its beginning to its end -/
/-- all but one text's own rows and the place of reading -/
def mL (q : Nat) (A0 I0 A I : Nat → Nat → Int32) : Prop := (∀ i, i ≠ 48 → i ≠ 49 → i ≠ 50 → i ≠ 51 → i ≠ 52 → i ≠ 53 → i ≠ 54 → A i = A0 i) ∧ (∀ j, (j < 520 * q ∨ 520 * q + 520 ≤ j) → A 48 j = A0 48 j ∧ A 49 j = A0 49 j) ∧ (∀ j, j ≠ q → A 50 j = A0 50 j ∧ A 51 j = A0 51 j) ∧ (∀ j, (j < 140 * q ∨ 140 * q + 140 ≤ j) → A 52 j = A0 52 j ∧ A 53 j = A0 53 j ∧ A 54 j = A0 54 j) ∧ ∀ i k, ¬ (i = 46 ∧ (k = 3 ∨ k = 4 ∨ k = 5 ∨ k = 14)) → I i k = I0 i k
def opA2 (A : Nat → Nat → Int32) (q : Nat) : Nat → Nat → Int32 := up (up A 50 (upd (A 50) q 0)) 51 (upd (A 51) q 0)
def opI2 (I : Nat → Nat → Int32) (x : Int32) : Nat → Nat → Int32 := up2 (up2 (up2 (up2 I 46 14 x) 46 3 0) 46 4 (-1)) 46 5 0
theorem opA_ne {A : Nat → Nat → Int32} {q i : Nat} (h : i ≠ 50) (h2 : i ≠ 51) : opA2 A q i = A i := (up_ne h2).trans (up_ne h)
theorem opI_ne {I : Nat → Nat → Int32} {x : Int32} {i k : Nat} (h : ¬ (i = 46 ∧ (k = 3 ∨ k = 4 ∨ k = 5 ∨ k = 14))) : opI2 I x i k = I i k := by
  unfold opI2
  rw [up2_ne (fun z => h ⟨z.1, by omega⟩), up2_ne (fun z => h ⟨z.1, by omega⟩), up2_ne (fun z => h ⟨z.1, by omega⟩), up2_ne (fun z => h ⟨z.1, by omega⟩)]
theorem mL_of {q : Nat} {x : Int32} {A I A1 I1 : Nat → Nat → Int32} (h : mC q (opA2 A q) (opI2 I x) A1 I1) : mL q A I A1 I1 := by
  obtain ⟨h1, h2, h3, h4, h5⟩ := h
  have e : ∀ i, i ≠ 50 → i ≠ 51 → opA2 A q i = A i := fun i a b => opA_ne a b
  refine ⟨fun i a b c d e1 f g => (h1 i a b c d e1 f g).trans (e i c d), fun j hj => ?_, fun j hj => ?_, fun j hj => ?_, fun i k z => (h5 i k (fun w => z ⟨w.1, by omega⟩)).trans (opI_ne z)⟩
  · rw [← e 48 (by decide) (by decide), ← e 49 (by decide) (by decide)]
    exact h2 j hj
  · obtain ⟨a, b⟩ := h3 j hj
    refine ⟨a.trans ?_, b.trans ?_⟩
    · unfold opA2
      rw [up_ne (by decide), up_at, ud_ne hj]
    · unfold opA2
      rw [up_at, ud_ne hj]
  · rw [← e 52 (by decide) (by decide), ← e 53 (by decide) (by decide), ← e 54 (by decide) (by decide)]
    exact h4 j hj
theorem CLs_ne {q n : Nat} {s : PR (List CLA)} {A I : Nat → Nat → Int32} (h : CLs q n s A I) (hw : ¬ I 46 4 = (-1)) : ∃ p, s = .inl p := by
  cases s with
  | inl p => exact ⟨p, rfl⟩
  | inr x => exact absurd h.2.1 hw
theorem CLs_eq {q n : Nat} {s : PR (List CLA)} {A I : Nat → Nat → Int32} (hn : n ≤ 240) (h : CLs q n s A I) (hw : I 46 4 = (-1)) : ∃ b cs, s = .inr (b, cs) := by
  cases s with
  | inl p =>
    have e1 : nI p = (-1) := h.1.symm.trans hw
    have hp2 : p ≤ n := h.2
    exact absurd (Int32.le_trans (nI_pos' (n := p) (by omega)) (Int32.le_of_eq e1)) (by decide)
  | inr x => exact ⟨x.1, x.2, rfl⟩
theorem CLs_n {q n : Nat} {s : PR (List CLA)} {A I : Nat → Nat → Int32} (h : CLs q n s A I) : I 46 4 = lawV s := by
  cases s with
  | inl p => exact h.1
  | inr x => exact h.2.1
set_option maxHeartbeats 800000 in
set_option maxRecDepth 100000 in
theorem z_atEnd {A0 I0 A I : Nat → Nat → Int32} {L : Nat → Nat → Int64} {X : Nat → Int64} {q n : Nat} {s : PR (List CLA)} (tp : tpM A0 I0 n) (hq : I0 46 14 = nI q) (q4 : q ≤ 4) (hm : mC q A0 I0 A I) (h : CLs q n s A I) : Con 3 yX11_atEnd cX11_atEnd 1 (some .int) [.ref 46] (hp A L I X) (fun r_ H_ => r_ = some (.int (lawV (lawE (A0 47) n s))) ∧ ∃ A1 I1, mC q A0 I0 A1 I1 ∧ CLs q n (lawE (A0 47) n s) A1 I1 ∧ H_ = hp A1 L I1 X) := by
  obtain ⟨tp1, hq1, e471⟩ := mC_ctx tp hq hm
  refine m_con (by decide) (Nat.le_of_ble_eq_true rfl) ?_
  refine g_aload_n dX11_atEnd_0 rfl rfl ?_
  refine g_get dX11_atEnd_1 fl_X11_123 hp_46 rfl ?_
  refine g_ic_m1 dX11_atEnd_4 ?_
  refine g_icmp_ne (tgt := 20) dX11_atEnd_5 (by decide) (fun c_5 => ?_) (fun c_5 => ?_)
  · refine g_aload_n dX11_atEnd_20 rfl rfl ?_
    refine g_get dX11_atEnd_21 fl_X11_123 hp_46 rfl ?_
    exact g_iret dX11_atEnd_24 (by obtain ⟨p, e1⟩ := CLs_ne h c_5; subst e1; exact ⟨congrArg (fun z : Int32 => some (Value.int z)) (CLs_n h), A, I, hm, h, rfl⟩)
  · refine g_aload_n dX11_atEnd_8 rfl rfl ?_
    obtain ⟨b, cs, e1⟩ := CLs_eq tp.2.1 h c_5
    subst e1
    have hs := CLs_M h
    refine g_callV dX11_atEnd_9 cv_X11_135 (as' := []) hp_46 rfl (z_look tp1 hq1 q4 hs) (by decide) rfl rfl (Nat.le_of_ble_eq_true rfl) ?_
    rw [e471]
    rintro _ _ ⟨rfl, A2, I2, h2, rfl⟩
    refine g_ic_m1 dX11_atEnd_12 ?_
    refine g_icmp_eq (tgt := 20) dX11_atEnd_13 (by decide) (fun c_13 => ?_) (fun c_13 => ?_)
    · refine g_aload_n dX11_atEnd_20 rfl rfl ?_
      refine g_get dX11_atEnd_21 fl_X11_123 hp_46 rfl ?_
      exact g_iret dX11_atEnd_24 (by have h5 := CLs_R h h2 sk_ge; rw [show lawE (A0 47) n (.inr (b, cs)) = .inr (sk (A0 47) n b, cs) from if_pos c_13]; exact ⟨congrArg (fun z : Int32 => some (Value.int z)) (CLs_n h5), A2, I2, mC_tr hm (mC_R h2.1), h5, rfl⟩)
    · refine g_aload_n dX11_atEnd_16 rfl rfl ?_
      refine g_callV dX11_atEnd_17 cv_X11_132 (as' := []) hp_46 rfl (z_bad (A0 := A) (I0 := I) tp1 h2 (Nat.le_refl _)) (by decide) rfl rfl (Nat.le_of_ble_eq_true rfl) ?_
      rintro _ _ ⟨rfl, A3, I3, h3, rfl⟩
      refine g_aload_n dX11_atEnd_20 rfl rfl ?_
      refine g_get dX11_atEnd_21 fl_X11_123 hp_46 rfl ?_
      exact g_iret dX11_atEnd_24 (by rw [show lawE (A0 47) n (.inr (b, cs)) = .inl (sk (A0 47) n b) from if_neg c_13]; exact ⟨congrArg (fun z : Int32 => some (Value.int z)) h3.2.1, A3, I3, mC_tr hm (mC_R h3.1), ⟨h3.2.1, h3.2.2.1⟩, rfl⟩)

set_option maxHeartbeats 800000 in
set_option maxRecDepth 100000 in
theorem z_law_loop {A0 I0 : Nat → Nat → Int32} {L : Nat → Nat → Int64} {X : Nat → Int64} {q n : Nat} {Q : Option Value → m_H → Prop} {x : Option Value} (tp : tpM A0 I0 n) (hq : I0 46 14 = nI q) (q4 : q ≤ 4) : ∀ f (s : PR (List CLA)) A I, (∀ b cs, s = .inr (b, cs) → n ≤ b + f) → mC q A0 I0 A I → CLs q n s A I → (∀ A1 I1, mC q A0 I0 A1 I1 → CLs q n (lawE (A0 47) n (lawL (A0 47) n f s)) A1 I1 → Q (some (.int (lawV (lawE (A0 47) n (lawL (A0 47) n f s))))) (hp A1 L I1 X)) → G 37 RX11 cX11_readLaw 2 (some .int) Q 9 [some (.ref 46), x] [] (hp A L I X) := by
  intro f
  induction f using Nat.strongRecOn with
  | ind f ih =>
    intro s A I hf hm h hQ
    obtain ⟨tp1, hq1, e471⟩ := mC_ctx tp hq hm
    refine g_aload_n dX11_readLaw_9 rfl rfl ?_
    refine g_get dX11_readLaw_10 fl_X11_123 hp_46 rfl ?_
    refine g_ic_m1 dX11_readLaw_13 ?_
    refine g_icmp_ne (tgt := 43) dX11_readLaw_14 (by decide) (fun c_14 => ?_) (fun c_14 => ?_)
    · obtain ⟨p, e1⟩ := CLs_ne h c_14
      subst e1
      rw [lawL_l] at hQ
      have hm2 := hm
      have hc2 := h
      refine g_aload_n dX11_readLaw_43 rfl rfl ?_
      refine g_callV dX11_readLaw_44 cv_X11_193 (as' := []) hp_46 rfl (z_atEnd tp hq q4 hm2 hc2) (by decide) rfl rfl (Nat.le_of_ble_eq_true rfl) ?_
      rintro _ _ ⟨rfl, A9, I9, hm9, h9, rfl⟩
      exact g_iret dX11_readLaw_47 (hQ _ _ hm9 h9)
    · refine g_aload_n dX11_readLaw_17 rfl rfl ?_
      obtain ⟨b, cs, e1⟩ := CLs_eq tp.2.1 h c_14
      subst e1
      have hs := CLs_M h
      refine g_callV dX11_readLaw_18 cv_X11_135 (as' := []) hp_46 rfl (z_look tp1 hq1 q4 hs) (by decide) rfl rfl (Nat.le_of_ble_eq_true rfl) ?_
      rw [e471]
      rintro _ _ ⟨rfl, A2, I2, h2, rfl⟩
      refine g_bipush (v := 59) dX11_readLaw_21 (by decide) ?_
      refine g_icmp_ne (tgt := 43) dX11_readLaw_23 (by decide) (fun c_23 => ?_) (fun c_23 => ?_)
      · rw [(lawL_stop (hf b cs rfl) c_23).2] at hQ
        have hc2 := CLs_R h h2 sk_ge
        have hm2 := mC_tr hm (mC_R h2.1)
        rw [show (if bt (A0 47) n (sk (A0 47) n b) = (-1) then (.inr (sk (A0 47) n b, cs) : PR (List CLA)) else .inl (sk (A0 47) n b)) = lawE (A0 47) n (.inr (sk (A0 47) n b, cs)) from by show _ = (if bt (A0 47) n (sk (A0 47) n (sk (A0 47) n b)) = (-1) then (.inr (sk (A0 47) n (sk (A0 47) n b), cs) : PR (List CLA)) else .inl (sk (A0 47) n (sk (A0 47) n b))); rw [sk_sk]] at hQ
        refine g_aload_n dX11_readLaw_43 rfl rfl ?_
        refine g_callV dX11_readLaw_44 cv_X11_193 (as' := []) hp_46 rfl (z_atEnd tp hq q4 hm2 hc2) (by decide) rfl rfl (Nat.le_of_ble_eq_true rfl) ?_
        rintro _ _ ⟨rfl, A9, I9, hm9, h9, rfl⟩
        exact g_iret dX11_readLaw_47 (hQ _ _ hm9 h9)
      · have hlt : sk (A0 47) n b < n := bt_lt (by rw [c_23]; decide)
        have hc2 := CLs_R h (MS_at h2 hlt) (Nat.le_succ_of_le sk_ge)
        have hm2 := mC_tr hm (mC_R (MS_at h2 hlt).1)
        refine g_aload_n dX11_readLaw_26 rfl rfl ?_
        refine g_dup dX11_readLaw_27 rfl ?_
        refine g_get dX11_readLaw_28 fl_X11_116 hp_46 rfl ?_
        refine g_ic_1 dX11_readLaw_31 ?_
        refine g_iadd dX11_readLaw_32 ?_
        refine g_puti dX11_readLaw_33 fw_X11_116 hp_46 (Nat.le_of_ble_eq_true rfl) ?_
        rw [hq_46_3]
        refine g_aload_n dX11_readLaw_36 rfl rfl ?_
        refine g_callV dX11_readLaw_37 cv_X11_190 (as' := []) hp_46 rfl (z_clause tp hq q4 hm2 hc2) (by decide) rfl rfl (Nat.le_of_ble_eq_true rfl) ?_
        rintro _ _ ⟨rfl, A4, I4, hm4, h4, rfl⟩
        refine g_goto (tgt := 9) dX11_readLaw_40 (by decide) ?_
        obtain ⟨f', rfl⟩ : ∃ f', f = f' + 1 := ⟨f - 1, by have := hf b cs rfl; have := sk_ge (T := A0 47) (n := n) (a := b); omega⟩
        rw [lawL_go c_23] at hQ
        refine ih f' (Nat.lt_succ_self f') _ A4 I4 (fun b' cs' z => ?_) hm4 h4 hQ
        cases hcp : clP (A0 47) n (sk (A0 47) n b + 1) with
        | inl p => rw [hcp] at z; cases z
        | inr y =>
          obtain ⟨d, c⟩ := y
          have hg := PG_clP d c hcp
          have hk := sk_ge (T := A0 47) (n := n) (a := b)
          have hb := hf b cs rfl
          rw [hcp] at z
          cases z
          omega

set_option maxHeartbeats 800000 in
set_option maxRecDepth 100000 in
theorem z_readLaw {A : Nat → Nat → Int32} {L : Nat → Nat → Int64} {I : Nat → Nat → Int32} {X : Nat → Int64} {q n : Nat} {x : Int32} (tp : tpM A I n) (hx : x = nI q) (q4 : q ≤ 4) : Con 37 yX11_readLaw cX11_readLaw 2 (some .int) [.ref 46, .int x] (hp A L I X) (fun r_ H_ => r_ = some (.int (lawV (lawP (A 47) n))) ∧ ∃ A1 I1, mL q A I A1 I1 ∧ CLs q n (lawP (A 47) n) A1 I1 ∧ H_ = hp A1 L I1 X) := by
  refine m_con (by decide) (Nat.le_of_ble_eq_true rfl) ?_
  refine g_aload_n dX11_readLaw_0 rfl rfl ?_
  refine g_iload_n dX11_readLaw_1 rfl rfl ?_
  refine g_callV dX11_readLaw_2 cv_X11_187 (as' := [_]) hp_46 rfl (e_open hx q4) (by decide) rfl rfl (Nat.le_of_ble_eq_true rfl) ?_
  rintro _ _ ⟨rfl, rfl⟩
  have e47 : opA2 A q 47 = A 47 := opA_ne (by decide) (by decide)
  have tp0 : tpM (opA2 A q) (opI2 I x) n := ⟨(opI_ne (by decide)).trans tp.1, tp.2.1, fun j hj => by rw [e47]; exact tp.2.2 j hj⟩
  have hq0 : opI2 I x 46 14 = nI q := by
    unfold opI2
    rw [up2_ne (by decide), up2_ne (by decide), up2_ne (by decide), up2_at]
    exact hx
  have hc0 : CLs q n (.inr (0, [])) (opA2 A q) (opI2 I x) := by
    refine ⟨?_, ?_, up2_at, ?_, ?_, trivial, (fun j y hj => by simp [flR] at hj), Nat.zero_le _, Nat.zero_le _, Nat.zero_le _⟩
    · unfold opI2
      rw [up2_ne (by decide), up2_ne (by decide), up2_at]
      rfl
    · unfold opI2
      rw [up2_ne (by decide), up2_at]
    · unfold opA2
      rw [up_ne (by decide), up_at, ud_at]
      rfl
    · unfold opA2
      rw [up_at, ud_at]
      rfl
  refine g_aload_n dX11_readLaw_5 rfl rfl ?_
  refine g_callV dX11_readLaw_6 cv_X11_190 (as' := []) hp_46 rfl (z_clause tp0 hq0 q4 mC_rf hc0) (by decide) rfl rfl (Nat.le_of_ble_eq_true rfl) ?_
  rw [e47]
  rintro _ _ ⟨rfl, A4, I4, hm4, h4, rfl⟩
  have hl := z_law_loop (A0 := opA2 A q) (I0 := opI2 I x) (L := L) (X := X) (Q := (fun r_ H_ => r_ = some (.int (lawV (lawP (A 47) n))) ∧ ∃ A1 I1, mL q A I A1 I1 ∧ CLs q n (lawP (A 47) n) A1 I1 ∧ H_ = hp A1 L I1 X)) (x := some (.int x)) tp0 hq0 q4 240 (nxt [] (clP (A 47) n 0)) A4 I4 (fun b cs _ => by have := tp.2.1; omega) hm4 h4
  rw [e47] at hl
  exact hl (fun A1 I1 q1 q2 => ⟨rfl, A1, I1, mL_of q1, q2, rfl⟩)
