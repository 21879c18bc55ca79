def smV (A I A' I' : Nat → Nat → Int32) : Prop := (∀ i, ns1 i = true → i ≠ 41 → i ≠ 42 → A' i = A i) ∧ ∀ i k, ¬ (i = 11 ∧ k = 6) → I' i k = I i k
theorem smV_tr {A A1 A2 I I1 I2 : Nat → Nat → Int32} (h : smV A I A1 I1) (k : smV A1 I1 A2 I2) : smV A I A2 I2 :=
  ⟨fun i z a b => (k.1 i z a b).trans (h.1 i z a b), fun i l z => (k.2 i l z).trans (h.2 i l z)⟩
theorem smV_W {A A1 I I1 : Nat → Nat → Int32} (h : smW A I A1 I1) : smV A I A1 I1 := ⟨fun i z a _ => h.1 i z a, h.2⟩
theorem smV_up {A I : Nat → Nat → Int32} {f : Nat → Int32} : smV A I (up A 42 f) I := ⟨fun i _ _ a => up_ne a, fun _ _ _ => rfl⟩
theorem smV_sm {A A1 I I1 : Nat → Nat → Int32} {L : Nat → Nat → Int64} (h : smV A I A1 I1) : sm A L I A1 L I1 :=
  ⟨fun i z => h.1 i (ns1_sc z) (by rintro rfl; revert z; decide) (by rintro rfl; revert z; decide), fun i k z => h.2 i k (by rintro ⟨rfl, rfl⟩; revert z; decide), fun _ _ => rfl⟩
theorem faL_eq {A A1 I I1 : Nat → Nat → Int32} {s : Int32} (h1 : A1 38 = A 38) (h2 : A1 39 = A 39) (h3 : A1 40 = A 40) (h4 : A1 41 = A 41) : ∀ n k, faL A1 I1 s n k = faL A I s n k
  | 0, _ => rfl
  | n + 1, k => by
    unfold faL faP
    rw [h1, h2, h3, h4, faL_eq h1 h2 h3 h4 n (k + 1)]
def faQ (A I : Nat → Nat → Int32) (P : Nat → Int32) (s : Int32) : Int32 := faS (up A 41 P) I s
theorem faS_V {A A1 I I1 : Nat → Nat → Int32} {P : Nat → Int32} {s : Int32} (h : smV A I A1 I1) (h4 : A1 41 = P) : faS A1 I1 s = faQ A I P s := by
  unfold faQ faS
  rw [h.2 34 9 (by decide)]
  exact faL_eq ((h.1 38 (by decide) (by decide) (by decide)).trans (up_ne (by decide)).symm) ((h.1 39 (by decide) (by decide) (by decide)).trans (up_ne (by decide)).symm) ((h.1 40 (by decide) (by decide) (by decide)).trans (up_ne (by decide)).symm) (h4.trans up_at.symm) _ _
theorem waP_V {A A1 I I1 : Nat → Nat → Int32} {s g : Int32} {P : Nat → Int32} (h : smV A I A1 I1) : ∀ k, waP A1 I1 s g P k = waP A I s g P k
  | 0 => rfl
  | k + 1 => by
    unfold waP
    rw [waP_V h k]
    unfold gsW
    rw [h.1 17 (by decide) (by decide) (by decide), h.1 12 (by decide) (by decide) (by decide), h.1 13 (by decide) (by decide) (by decide), h.2 11 5 (by decide)]
/-- a suspect, tried: the paths' row and the fits' row -/
def taC (A I : Nat → Nat → Int32) (g : Int32) (k : Nat) (s : (Nat → Int32) × (Nat → Int32)) : (Nat → Int32) × (Nat → Int32) :=
  if nI k = 8 then (waP A I (nI k) g s.1 40, pt 9 s.2 (nI k) (if faQ A I (waP A I (nI k) g s.1 40) (nI k) = 0 then 0 else 1))
  else if hasM (A 17) (nI k) = 0 then (s.1, pt 9 s.2 (nI k) 0)
  else (waP A I (nI k) g s.1 40, pt 9 s.2 (nI k) (if faQ A I (waP A I (nI k) g s.1 40) (nI k) = 0 then 0 else 1))
def taS (A I : Nat → Nat → Int32) (g : Int32) (n : Nat) : (Nat → Int32) × (Nat → Int32) := itn (taC A I g) n (A 41, A 42)

set_option maxHeartbeats 4000000 in
set_option maxRecDepth 100000 in
theorem v_all_loop {A : Nat → Nat → Int32} {L : Nat → Nat → Int64} {I : Nat → Nat → Int32} {X : Nat → Int64} {g : Int32} {Q : Option Value → m_H → Prop} (hE : ∀ A2 I2 s, s = taS A I g 9 → (smV A I A2 I2 ∧ A2 41 = s.1 ∧ A2 42 = s.2) → G 7 RX9 cX9_tryAll 4 none Q 62 [some (.ref 34), some (.int g), some (.int (nI 9)), none] [] (hp A2 L I2 X)) : ∀ n k s A2 I2, (smV A I A2 I2 ∧ A2 41 = s.1 ∧ A2 42 = s.2) → s = taS A I g k → k ≤ 9 → 9 - k < n → G 7 RX9 cX9_tryAll 4 none Q 2 [some (.ref 34), some (.int g), some (.int (nI k)), none] [] (hp A2 L I2 X) := by
  intro n
  induction n with
  | zero => intro k s A2 I2 hm hs1 h1 h2; omega
  | succ n ih =>
    intro k s A2 I2 hm hs1 h1 h2
    refine g_iload_n dX9_tryAll_2 rfl rfl ?_
    refine g_bipush (v := 9) dX9_tryAll_3 (by decide) ?_
    refine g_icmp_ge (tgt := 62) dX9_tryAll_5 (by decide) (fun c_5 => ?_) (fun c_5 => ?_)
    · have h6 : 9 ≤ k := lit_le (n := 9) (by decide) (by omega) c_5
      have hkn : k = 9 := by omega
      subst hkn
      exact hE A2 I2 s hs1 hm
    · have hlt : k < 9 := lit_nle (n := 9) (by decide) (by omega) c_5
      refine g_ic_0 dX9_tryAll_8 ?_
      refine g_istore_n dX9_tryAll_9 rfl (by decide) ?_
      refine g_iload_n dX9_tryAll_10 rfl rfl ?_
      refine g_bipush (v := 8) dX9_tryAll_11 (by decide) ?_
      refine g_icmp_eq (tgt := 27) dX9_tryAll_13 (by decide) (fun c_13 => ?_) (fun c_13 => ?_)
      · refine g_aload_n dX9_tryAll_27 rfl rfl ?_
        refine g_iload_n dX9_tryAll_28 rfl rfl ?_
        refine g_iload_n dX9_tryAll_29 rfl rfl ?_
        refine g_callV dX9_tryAll_30 cv_X9_80 (as' := [_, _]) hp_34 rfl v_walk (by decide) rfl rfl (Nat.le_of_ble_eq_true rfl) ?_
        rintro _ _ ⟨rfl, A3, I3, h3, e3, rfl⟩
        have hv := smV_tr hm.1 (smV_W h3)
        have e4 : A3 41 = waP A I (nI k) g s.1 40 := by rw [e3, hm.2.1, waP_V hm.1]
        have e5 : A3 42 = s.2 := by rw [h3.1 42 (by decide) (by decide), hm.2.2]
        refine g_aload_n dX9_tryAll_33 rfl rfl ?_
        refine g_iload_n dX9_tryAll_34 rfl rfl ?_
        refine g_callV dX9_tryAll_35 cv_X9_83 (as' := [_]) hp_34 rfl v_fits (by decide) rfl rfl (Nat.le_of_ble_eq_true rfl) ?_
        rintro _ _ ⟨rfl, rfl⟩
        rw [faS_V hv e4]
        refine g_istore_n dX9_tryAll_38 rfl (by decide) ?_
        refine g_aload_n dX9_tryAll_39 rfl rfl ?_
        refine g_get dX9_tryAll_40 fl_X9_31 hp_34 rfl ?_
        refine g_iload_n dX9_tryAll_43 rfl rfl ?_
        refine g_iload_n dX9_tryAll_44 rfl rfl ?_
        refine g_if_eq (tgt := 52) dX9_tryAll_45 (by decide) (fun c_45 => ?_) (fun c_45 => ?_)
        · refine g_ic_0 dX9_tryAll_52 ?_
          refine g_callS dX9_tryAll_53 cs_X9_48 (as := [_, _, _]) (k_setCell hp_42 (by decide)) (by decide) rfl rfl (Nat.le_of_ble_eq_true rfl) ?_
          rintro _ _ ⟨rfl, rfl⟩
          rw [hq_42]
          refine g_iinc1 dX9_tryAll_56 rfl (by decide) ?_
          refine g_goto (tgt := 2) dX9_tryAll_59 (by decide) ?_
          refine g_loc (ls' := [some (.ref 34), some (.int g), some (.int (nI k + 1)), none]) (fun i v h => by rcases i with _|_|_|_|_ <;> first | exact h | cases h) ?_
          rw [nI_1]
          exact ih (k + 1) (taC A I g k s) _ I3 ⟨smV_tr hv smV_up, by rw [up_ne (show (41 : Nat) ≠ 42 by decide), e4, (show taC A I g k s = (waP A I (nI k) g s.1 40, pt 9 s.2 (nI k) (if faQ A I (waP A I (nI k) g s.1 40) (nI k) = 0 then 0 else 1)) from (if_pos c_13))], by rw [up_at, e5, (show taC A I g k s = (waP A I (nI k) g s.1 40, pt 9 s.2 (nI k) (if faQ A I (waP A I (nI k) g s.1 40) (nI k) = 0 then 0 else 1)) from (if_pos c_13)), (if_pos c_45)]⟩ (by rw [hs1]; rfl) (by omega) (by omega)
        · refine g_ic_1 dX9_tryAll_48 ?_
          refine g_goto (tgt := 53) dX9_tryAll_49 (by decide) ?_
          refine g_callS dX9_tryAll_53 cs_X9_48 (as := [_, _, _]) (k_setCell hp_42 (by decide)) (by decide) rfl rfl (Nat.le_of_ble_eq_true rfl) ?_
          rintro _ _ ⟨rfl, rfl⟩
          rw [hq_42]
          refine g_iinc1 dX9_tryAll_56 rfl (by decide) ?_
          refine g_goto (tgt := 2) dX9_tryAll_59 (by decide) ?_
          refine g_loc (ls' := [some (.ref 34), some (.int g), some (.int (nI k + 1)), none]) (fun i v h => by rcases i with _|_|_|_|_ <;> first | exact h | cases h) ?_
          rw [nI_1]
          exact ih (k + 1) (taC A I g k s) _ I3 ⟨smV_tr hv smV_up, by rw [up_ne (show (41 : Nat) ≠ 42 by decide), e4, (show taC A I g k s = (waP A I (nI k) g s.1 40, pt 9 s.2 (nI k) (if faQ A I (waP A I (nI k) g s.1 40) (nI k) = 0 then 0 else 1)) from (if_pos c_13))], by rw [up_at, e5, (show taC A I g k s = (waP A I (nI k) g s.1 40, pt 9 s.2 (nI k) (if faQ A I (waP A I (nI k) g s.1 40) (nI k) = 0 then 0 else 1)) from (if_pos c_13)), (if_neg c_45)]⟩ (by rw [hs1]; rfl) (by omega) (by omega)
      · refine g_aload_n dX9_tryAll_16 rfl rfl ?_
        refine g_get dX9_tryAll_17 fl_X9_37 hp_34 rfl ?_
        refine g_iload_n dX9_tryAll_20 rfl rfl ?_
        refine g_callV dX9_tryAll_21 cv_X9_76 (as' := [_]) hp_16 rfl (h_hasMonth isS_16) (by decide) rfl rfl (Nat.le_of_ble_eq_true rfl) ?_
        rintro _ _ ⟨rfl, rfl⟩
        rw [hm.1.1 17 (by decide) (by decide) (by decide)]
        refine g_if_eq (tgt := 39) dX9_tryAll_24 (by decide) (fun c_24 => ?_) (fun c_24 => ?_)
        · refine g_aload_n dX9_tryAll_39 rfl rfl ?_
          refine g_get dX9_tryAll_40 fl_X9_31 hp_34 rfl ?_
          refine g_iload_n dX9_tryAll_43 rfl rfl ?_
          refine g_iload_n dX9_tryAll_44 rfl rfl ?_
          refine g_if_eq (tgt := 52) dX9_tryAll_45 (by decide) (fun c_45 => ?_) (fun c_45 => ?_)
          · refine g_ic_0 dX9_tryAll_52 ?_
            refine g_callS dX9_tryAll_53 cs_X9_48 (as := [_, _, _]) (k_setCell hp_42 (by decide)) (by decide) rfl rfl (Nat.le_of_ble_eq_true rfl) ?_
            rintro _ _ ⟨rfl, rfl⟩
            rw [hq_42]
            refine g_iinc1 dX9_tryAll_56 rfl (by decide) ?_
            refine g_goto (tgt := 2) dX9_tryAll_59 (by decide) ?_
            refine g_loc (ls' := [some (.ref 34), some (.int g), some (.int (nI k + 1)), none]) (fun i v h => by rcases i with _|_|_|_|_ <;> first | exact h | cases h) ?_
            rw [nI_1]
            exact ih (k + 1) (taC A I g k s) _ I2 ⟨smV_tr hm.1 smV_up, by rw [up_ne (show (41 : Nat) ≠ 42 by decide), hm.2.1, (show taC A I g k s = (s.1, pt 9 s.2 (nI k) 0) from (if_neg c_13).trans (if_pos c_24))], by rw [up_at, hm.2.2, (show taC A I g k s = (s.1, pt 9 s.2 (nI k) 0) from (if_neg c_13).trans (if_pos c_24))]⟩ (by rw [hs1]; rfl) (by omega) (by omega)
          · refine g_ic_1 dX9_tryAll_48 ?_
            refine g_goto (tgt := 53) dX9_tryAll_49 (by decide) ?_
            refine g_callS dX9_tryAll_53 cs_X9_48 (as := [_, _, _]) (k_setCell hp_42 (by decide)) (by decide) rfl rfl (Nat.le_of_ble_eq_true rfl) ?_
            rintro _ _ ⟨rfl, rfl⟩
            rw [hq_42]
            refine g_iinc1 dX9_tryAll_56 rfl (by decide) ?_
            refine g_goto (tgt := 2) dX9_tryAll_59 (by decide) ?_
            exact absurd rfl c_45
        · refine g_aload_n dX9_tryAll_27 rfl rfl ?_
          refine g_iload_n dX9_tryAll_28 rfl rfl ?_
          refine g_iload_n dX9_tryAll_29 rfl rfl ?_
          refine g_callV dX9_tryAll_30 cv_X9_80 (as' := [_, _]) hp_34 rfl v_walk (by decide) rfl rfl (Nat.le_of_ble_eq_true rfl) ?_
          rintro _ _ ⟨rfl, A3, I3, h3, e3, rfl⟩
          have hv := smV_tr hm.1 (smV_W h3)
          have e4 : A3 41 = waP A I (nI k) g s.1 40 := by rw [e3, hm.2.1, waP_V hm.1]
          have e5 : A3 42 = s.2 := by rw [h3.1 42 (by decide) (by decide), hm.2.2]
          refine g_aload_n dX9_tryAll_33 rfl rfl ?_
          refine g_iload_n dX9_tryAll_34 rfl rfl ?_
          refine g_callV dX9_tryAll_35 cv_X9_83 (as' := [_]) hp_34 rfl v_fits (by decide) rfl rfl (Nat.le_of_ble_eq_true rfl) ?_
          rintro _ _ ⟨rfl, rfl⟩
          rw [faS_V hv e4]
          refine g_istore_n dX9_tryAll_38 rfl (by decide) ?_
          refine g_aload_n dX9_tryAll_39 rfl rfl ?_
          refine g_get dX9_tryAll_40 fl_X9_31 hp_34 rfl ?_
          refine g_iload_n dX9_tryAll_43 rfl rfl ?_
          refine g_iload_n dX9_tryAll_44 rfl rfl ?_
          refine g_if_eq (tgt := 52) dX9_tryAll_45 (by decide) (fun c_45 => ?_) (fun c_45 => ?_)
          · refine g_ic_0 dX9_tryAll_52 ?_
            refine g_callS dX9_tryAll_53 cs_X9_48 (as := [_, _, _]) (k_setCell hp_42 (by decide)) (by decide) rfl rfl (Nat.le_of_ble_eq_true rfl) ?_
            rintro _ _ ⟨rfl, rfl⟩
            rw [hq_42]
            refine g_iinc1 dX9_tryAll_56 rfl (by decide) ?_
            refine g_goto (tgt := 2) dX9_tryAll_59 (by decide) ?_
            refine g_loc (ls' := [some (.ref 34), some (.int g), some (.int (nI k + 1)), none]) (fun i v h => by rcases i with _|_|_|_|_ <;> first | exact h | cases h) ?_
            rw [nI_1]
            exact ih (k + 1) (taC A I g k s) _ I3 ⟨smV_tr hv smV_up, by rw [up_ne (show (41 : Nat) ≠ 42 by decide), e4, (show taC A I g k s = (waP A I (nI k) g s.1 40, pt 9 s.2 (nI k) (if faQ A I (waP A I (nI k) g s.1 40) (nI k) = 0 then 0 else 1)) from ((if_neg c_13).trans (if_neg c_24)))], by rw [up_at, e5, (show taC A I g k s = (waP A I (nI k) g s.1 40, pt 9 s.2 (nI k) (if faQ A I (waP A I (nI k) g s.1 40) (nI k) = 0 then 0 else 1)) from ((if_neg c_13).trans (if_neg c_24))), (if_pos c_45)]⟩ (by rw [hs1]; rfl) (by omega) (by omega)
          · refine g_ic_1 dX9_tryAll_48 ?_
            refine g_goto (tgt := 53) dX9_tryAll_49 (by decide) ?_
            refine g_callS dX9_tryAll_53 cs_X9_48 (as := [_, _, _]) (k_setCell hp_42 (by decide)) (by decide) rfl rfl (Nat.le_of_ble_eq_true rfl) ?_
            rintro _ _ ⟨rfl, rfl⟩
            rw [hq_42]
            refine g_iinc1 dX9_tryAll_56 rfl (by decide) ?_
            refine g_goto (tgt := 2) dX9_tryAll_59 (by decide) ?_
            refine g_loc (ls' := [some (.ref 34), some (.int g), some (.int (nI k + 1)), none]) (fun i v h => by rcases i with _|_|_|_|_ <;> first | exact h | cases h) ?_
            rw [nI_1]
            exact ih (k + 1) (taC A I g k s) _ I3 ⟨smV_tr hv smV_up, by rw [up_ne (show (41 : Nat) ≠ 42 by decide), e4, (show taC A I g k s = (waP A I (nI k) g s.1 40, pt 9 s.2 (nI k) (if faQ A I (waP A I (nI k) g s.1 40) (nI k) = 0 then 0 else 1)) from ((if_neg c_13).trans (if_neg c_24)))], by rw [up_at, e5, (show taC A I g k s = (waP A I (nI k) g s.1 40, pt 9 s.2 (nI k) (if faQ A I (waP A I (nI k) g s.1 40) (nI k) = 0 then 0 else 1)) from ((if_neg c_13).trans (if_neg c_24))), (if_neg c_45)]⟩ (by rw [hs1]; rfl) (by omega) (by omega)

set_option maxHeartbeats 4000000 in
set_option maxRecDepth 100000 in
theorem v_all {A : Nat → Nat → Int32} {L : Nat → Nat → Int64} {I : Nat → Nat → Int32} {X : Nat → Int64} {g : Int32}  : Con 7 yX9_tryAll cX9_tryAll 4 none [.ref 34, .int g] (hp A L I X) (fun r_ H_ => r_ = none ∧ ∃ A9 I9, smV A I A9 I9 ∧ A9 41 = (taS A I g 9).1 ∧ A9 42 = (taS A I g 9).2 ∧ H_ = hp A9 L I9 X) := by
  refine m_con (by decide) (Nat.le_of_ble_eq_true rfl) ?_
  refine g_ic_0 dX9_tryAll_0 ?_
  refine g_istore_n dX9_tryAll_1 rfl (by decide) ?_
  refine g_loc (ls' := [some (.ref 34), some (.int g), some (.int (nI 0)), none]) (fun i v h => by rcases i with _|_|_|_|_ <;> first | exact h | cases h) ?_
  refine v_all_loop (A := A) (L := L) (I := I) (fun A2 I2 s hs1 hm => ?_) 10 0 (A 41, A 42) A I ⟨⟨fun _ _ _ _ => rfl, fun _ _ _ => rfl⟩, rfl, rfl⟩ rfl (by omega) (by omega)
  exact g_vret dX9_tryAll_62 ⟨rfl, A2, I2, hm.1, by rw [hm.2.1, hs1], by rw [hm.2.2, hs1], rfl⟩
