/-! THE REFERENCE: oil -/
/-- the reference's best so far, after one row tried -/
def oiU (v row r m : Int32) : Int32 × Int32 := if r = (-1) then (row, v) else if v ≤ m then (r, m) else (row, v)
def OR2 (s : Int32 × Int32) (r m : Int32) : Prop := s = (r, m) ∧ ¬ r = (-1)
def OR (s : Int32 × Int32) (r m : Int32) : Prop := (s = ((-1), (-1)) ∧ r = (-1) ∧ m = 0) ∨ OR2 s r m
theorem OR_step {s : Int32 × Int32} {r m v row : Int32} (h : OR s r m) (hv : ¬ v ≤ (-1)) (hr : ¬ row = (-1)) : OR2 (if v ≤ s.2 then s else (row, v)) (oiU v row r m).1 (oiU v row r m).2 := by
  rcases h with ⟨rfl, rfl, rfl⟩ | ⟨rfl, h⟩
  · rw [if_neg hv, show oiU v row (-1) 0 = (row, v) from if_pos rfl]
    exact ⟨rfl, hr⟩
  · unfold oiU
    rw [if_neg h]
    by_cases c : v ≤ m
    · show OR2 (if v ≤ m then (r, m) else (row, v)) _ _
      rw [if_pos c]
      exact ⟨rfl, h⟩
    · show OR2 (if v ≤ m then (r, m) else (row, v)) _ _
      rw [if_neg c]
      exact ⟨rfl, hr⟩
theorem smM_I {A I A2 I2 : Nat → Nat → Int32} {k : Nat} {v : Int32} (h : smM A I A2 I2) (hk : k = 39 ∨ k = 40) : smM A I A2 (up2 I2 46 k v) :=
  ⟨h.1, fun i l z => (up2_ne (by rintro ⟨rfl, rfl⟩; rcases hk with rfl | rfl <;> revert z <;> decide)).trans (h.2 i l z)⟩
theorem oiV_sm {A I A' I' : Nat → Nat → Int32} {k n row : Int32} (h : smM A I A' I') : oiV A' I' k n row = oiV A I k n row := by
  unfold oiV
  rw [fc_smM h, h.1 20 (by decide)]
set_option maxHeartbeats 800000 in
set_option maxRecDepth 100000 in
theorem e_og_loop {A : Nat → Nat → Int32} {L : Nat → Nat → Int64} {I : Nat → Nat → Int32} {X : Nat → Int64} {K : Nat} {o : Nat → Nat} {N : ROW} {kk fs rr n : Int32} {Q : Option Value → m_H → Prop} (hK : K ≤ 3) (ho : ∀ j, j < K → A 68 j = nI (o j) ∧ o j < 8) (hE : G 9 RX11 cX11_tryOil 7 none Q 59 [some (.ref 46), some (.int (kk)), some (.int (nI K)), some (.int (fs)), some (.int (rr)), some (.int (n)), some (.int (nI K))] [] (hp (up A 63 (gN o N K)) L I X)) : ∀ f k, k ≤ K → K - k < f → G 9 RX11 cX11_tryOil 7 none Q 12 [some (.ref 46), some (.int (kk)), some (.int (nI K)), some (.int (fs)), some (.int (rr)), some (.int (n)), some (.int (nI k))] [] (hp (up A 63 (gN o N k)) L I X) := by
  intro f
  induction f with
  | zero => intro k h1 h2; omega
  | succ f ih =>
    intro k h1 h2
    refine g_iload dX11_tryOil_12 rfl ?_
    refine g_iload_n dX11_tryOil_14 rfl rfl ?_
    refine g_icmp_ge (tgt := 59) dX11_tryOil_15 (by decide) (fun c_15 => ?_) (fun c_15 => ?_)
    · have h6 := (nI_leI (a := K) (b := k) (by omega) (by omega)).mp c_15
      have hkn : k = K := by omega
      subst hkn
      exact hE
    · have hlt : k < K := Nat.not_le.mp (fun z => c_15 ((nI_leI (by omega) (by omega)).mpr z))
      have ho8 := (ho k hlt).2
      refine g_aload_n dX11_tryOil_18 rfl rfl ?_
      refine g_get dX11_tryOil_19 fl_X11_58 hp_46 rfl ?_
      refine g_ic_0 dX11_tryOil_22 ?_
      refine g_aload_n dX11_tryOil_23 rfl rfl ?_
      refine g_get dX11_tryOil_24 fl_X11_77 hp_46 rfl ?_
      refine g_iload dX11_tryOil_27 rfl ?_
      refine g_ra dX11_tryOil_29 hp_68 (k := k) rfl (by omega) (by decide) ?_
      try simp (disch := omega) only [up_at, up_up, up_ne, up2_at, up2_up2, up2_ne]
      refine g_iadd dX11_tryOil_30 ?_
      refine g_bipush (v := 9) dX11_tryOil_31 (by decide) ?_
      refine g_aload_n dX11_tryOil_33 rfl rfl ?_
      refine g_get dX11_tryOil_34 fl_X11_58 hp_46 rfl ?_
      refine g_ic_0 dX11_tryOil_37 ?_
      refine g_aload_n dX11_tryOil_38 rfl rfl ?_
      refine g_get dX11_tryOil_39 fl_X11_77 hp_46 rfl ?_
      refine g_iload dX11_tryOil_42 rfl ?_
      refine g_ra dX11_tryOil_44 hp_68 (k := k) rfl (by omega) (by decide) ?_
      try simp (disch := omega) only [up_at, up_up, up_ne, up2_at, up2_up2, up2_ne]
      refine g_iadd dX11_tryOil_45 ?_
      refine g_ra dX11_tryOil_46 hp_63 (k := (o k)) (nk_0 (show (0 : Int32) = nI 0 from rfl) (ho k hlt).1) (by omega) (by decide) ?_
      try simp (disch := omega) only [up_at, up_up, up_ne, up2_at, up2_up2, up2_ne]
      refine g_ic_1 dX11_tryOil_47 ?_
      refine g_iadd dX11_tryOil_48 ?_
      refine g_min dX11_tryOil_49 ml_X11_292 ms_min mi_math mc_min (by decide) (Nat.le_of_ble_eq_true rfl) ?_
      refine g_wa dX11_tryOil_52 hp_63 (k := (o k)) (nk_0 (show (0 : Int32) = nI 0 from rfl) (ho k hlt).1) (by omega) (by decide) ?_
      rw [hq_63]
      try simp (disch := omega) only [up_at, up_up, up_ne, up2_at, up2_up2, up2_ne]
      refine g_iinc1 dX11_tryOil_53 rfl (by decide) ?_
      refine g_goto (tgt := 12) dX11_tryOil_56 (by decide) ?_
      rw [nI_1]
      exact ih (k + 1) (by omega) (by omega)

set_option maxHeartbeats 800000 in
set_option maxRecDepth 100000 in
theorem e_try0 {A : Nat → Nat → Int32} {L : Nat → Nat → Int64} {I : Nat → Nat → Int32} {X : Nat → Int64} {ms cs K : Nat} {o : Nat → Nat} {kk mm fs rr n : Int32} (h : INV A I) (hP : PLN ms cs A I) (hK : K ≤ 3) (ho : ∀ j, j < K → A 68 j = nI (o j) ∧ o j < ms) (h1 : kk = nI K) (h2 : mm = nI K) (h4 : rr = nI (dg o K)) : Con 9 yX11_tryOil cX11_tryOil 7 none [.ref 46, .int kk, .int mm, .int fs, .int rr, .int n] (hp A L I X) (fun r_ H_ => r_ = none ∧ ∃ A3 I3, smM A I A3 I3 ∧ A3 68 = A 68 ∧ (I3 46 39, I3 46 40) = oiU (unrS (A 20) - unrS (fc A I n.toNatClampNeg (grO (nI (dg o K)) (A 20) K).1).1) (nI (dg o K)) (I 46 39) (I 46 40) ∧ H_ = hp A3 L I3 X) := by
  refine m_con (by decide) (Nat.le_of_ble_eq_true rfl) ?_
  subst h1 h2 h4
  refine g_iload_n dX11_tryOil_0 rfl rfl ?_
  refine g_iload_n dX11_tryOil_1 rfl rfl ?_
  refine g_icmp_ne (tgt := 105) dX11_tryOil_2 (by decide) (fun c_2 => ?_) (fun c_2 => ?_)
  · exact absurd rfl c_2
  · refine g_aload_n dX11_tryOil_5 rfl rfl ?_
    refine g_callV dX11_tryOil_6 cv_X11_358 (as' := []) hp_46 rfl e_putAside (by decide) rfl rfl (Nat.le_of_ble_eq_true rfl) ?_
    rintro _ _ ⟨rfl, rfl⟩
    refine g_ic_0 dX11_tryOil_9 ?_
    refine g_istore dX11_tryOil_10 (by decide) ?_
    refine g_loc (ls' := [some (.ref 46), some (.int (nI K)), some (.int (nI K)), some (.int fs), some (.int (nI (dg o K))), some (.int n), some (.int (nI 0))]) (fun i v h => by rcases i with _|_|_|_|_|_|_|_ <;> first | exact h | cases h) ?_
    rw [show (up (up A 67 (A 63)) 65 (fun _ => 0)) = up (up (up A 67 (A 63)) 65 (fun _ => 0)) 63 (gN o (A 63) 0) from (up_self (A := (up (up A 67 (A 63)) 65 (fun _ => 0))) (i := 63)).symm]
    refine e_og_loop (A := (up (up A 67 (A 63)) 65 (fun _ => 0))) (I := up2 I 46 33 0) hK (fun j hj => ⟨(ho j hj).1, Nat.lt_of_lt_of_le (ho j hj).2 (PLN_ms hP).2.1⟩) ?_ _ 0 (Nat.zero_le _) (Nat.lt_succ_self _)
    refine g_aload_n dX11_tryOil_59 rfl rfl ?_
    refine g_iload dX11_tryOil_60 rfl ?_
    have h8 := (PLN_ms hP).2.1
    have hgr := gr_R (o := o) K (A 20) (A 63) hK (fun i hi => (ho i hi).2) hP.2.1.1
    obtain ⟨hw0, h250, h260, hL, hA0⟩ := as_start h hP hgr.1 (N2 := gN o (A 63) K) (fun j hj => gN_o (by omega) K (fun i hi => Nat.lt_of_lt_of_le (ho i hi).2 h8))
    refine g_callV dX11_tryOil_62 cv_X11_361 (as' := [_]) hp_46 rfl (e_liveMany hw0 h250 h260 hL) (by decide) rfl rfl (Nat.le_of_ble_eq_true rfl) ?_
    rintro _ _ ⟨rfl, A3, I3, hL, rfl⟩
    refine g_aload_n dX11_tryOil_65 rfl rfl ?_
    refine g_get dX11_tryOil_66 fl_X11_299 hp_46 rfl ?_
    refine g_istore dX11_tryOil_69 (by decide) ?_
    refine g_aload_n dX11_tryOil_71 rfl rfl ?_
    refine g_callV dX11_tryOil_72 cv_X11_364 (as' := []) hp_46 rfl e_takeBack (by decide) rfl rfl (Nat.le_of_ble_eq_true rfl) ?_
    rintro _ _ ⟨rfl, rfl⟩
    have hm := as_back (as_step hA0 hL)
    have hv : I3 46 33 = (unrS (A 20) - unrS (fc A I n.toNatClampNeg (grO (nI (dg o K)) (A 20) K).1).1) := by
      have q := hL.2.2.2.2
      rw [unr_eq hP.2.1.1.1.2.2.2.2.2 (PLN_ms hP).2.2.2 (fun j hj => hgr.2 j (by omega))] at q
      rw [← q]
      exact (Int32.add_sub_cancel _ _).symm
    have i39 : I3 46 39 = I 46 39 := (hL.1.2 46 39 (by decide)).trans (up2_ne (by decide))
    have i40 : I3 46 40 = I 46 40 := (hL.1.2 46 40 (by decide)).trans (up2_ne (by decide))
    have h68 : (up A3 63 (fl (A3 67) (A3 63) 43)) 68 = A 68 := (up_ne (by decide)).trans (hL.1.1 68 (by decide) (by decide) (by decide) (by decide))
    refine g_aload_n dX11_tryOil_75 rfl rfl ?_
    refine g_get dX11_tryOil_76 fl_X11_367 hp_46 rfl ?_
    refine g_ic_m1 dX11_tryOil_79 ?_
    refine g_icmp_eq (tgt := 92) dX11_tryOil_80 (by decide) (fun c_80 => ?_) (fun c_80 => ?_)
    · refine g_aload_n dX11_tryOil_92 rfl rfl ?_
      refine g_iload dX11_tryOil_93 rfl ?_
      refine g_puti dX11_tryOil_95 fw_X11_367 hp_46 (Nat.le_of_ble_eq_true rfl) ?_
      rw [hq_46_39]
      refine g_aload_n dX11_tryOil_98 rfl rfl ?_
      refine g_iload dX11_tryOil_99 rfl ?_
      refine g_puti dX11_tryOil_101 fw_X11_370 hp_46 (Nat.le_of_ble_eq_true rfl) ?_
      rw [hq_46_40]
      exact g_vret dX11_tryOil_104 ⟨rfl, _, _, smM_I (smM_I hm (Or.inl rfl)) (Or.inr rfl), h68, by rw [up2_at, up2_ne (by decide), up2_at, hv]; rw [i39] at c_80; exact (show oiU (unrS (A 20) - unrS (fc A I n.toNatClampNeg (grO (nI (dg o K)) (A 20) K).1).1) (nI (dg o K)) (I 46 39) (I 46 40) = _ from if_pos c_80).symm, rfl⟩
    · refine g_iload dX11_tryOil_83 rfl ?_
      refine g_aload_n dX11_tryOil_85 rfl rfl ?_
      refine g_get dX11_tryOil_86 fl_X11_370 hp_46 rfl ?_
      refine g_icmp_le (tgt := 104) dX11_tryOil_89 (by decide) (fun c_89 => ?_) (fun c_89 => ?_)
      · exact g_vret dX11_tryOil_104 ⟨rfl, _, _, hm, h68, by rw [i39, i40] at *; exact ((if_neg c_80).trans (if_pos (by rw [← hv]; exact c_89))).symm, rfl⟩
      · refine g_aload_n dX11_tryOil_92 rfl rfl ?_
        refine g_iload dX11_tryOil_93 rfl ?_
        refine g_puti dX11_tryOil_95 fw_X11_367 hp_46 (Nat.le_of_ble_eq_true rfl) ?_
        rw [hq_46_39]
        refine g_aload_n dX11_tryOil_98 rfl rfl ?_
        refine g_iload dX11_tryOil_99 rfl ?_
        refine g_puti dX11_tryOil_101 fw_X11_370 hp_46 (Nat.le_of_ble_eq_true rfl) ?_
        rw [hq_46_40]
        exact g_vret dX11_tryOil_104 ⟨rfl, _, _, smM_I (smM_I hm (Or.inl rfl)) (Or.inr rfl), h68, by rw [up2_at, up2_ne (by decide), up2_at, hv]; rw [i39] at c_80; rw [i40] at c_89; exact (show oiU (unrS (A 20) - unrS (fc A I n.toNatClampNeg (grO (nI (dg o K)) (A 20) K).1).1) (nI (dg o K)) (I 46 39) (I 46 40) = _ from (if_neg c_80).trans (if_neg (fun z => c_89 (by rw [hv]; exact z)))).symm, rfl⟩

theorem oiV_nn {ms cs K : Nat} {A I : Nat → Nat → Int32} {n : Int32} {o : Nat → Nat} (hP : PLN ms cs A I) (hK : K ≤ 3) (ho : ∀ i, i < K → o i < ms) : ¬ oiV A I (nI K) n (nI (dg o K)) ≤ (-1) := by
  have hgr := gr_R (o := o) K (A 20) (A 63) hK ho hP.2.1.1
  have h10 : (A 20) 10 = nI cs := hP.2.1.1.1.2.2.2.2.2
  have h5 := (PLN_ms hP).2.2.2
  obtain ⟨x, x1, x2⟩ := hP.2.1.1.2.1.2.2.2.2.2.2.2
  have m := (MU_tns (Cc := A 12) (Z := A 13) (hold := I 11 5) (s := ((grO (nI (dg o K)) (A 20) K).1, (fun _ => 0 : ROW))) ((hgr.2 10 (Or.inl rfl)).trans h10) h5 ⟨x, x1, (hgr.2 12 (Or.inr (Or.inl rfl))).trans x2⟩ n.toNatClampNeg).1
  obtain ⟨a, b, e1, e2, h1, h2⟩ := unr_le m ((hgr.2 10 (Or.inl rfl)).trans h10) h5 (fun c hc => by
    show bd 99 ((grO (nI (dg o K)) (A 20) K).1 _)
    rw [hgr.2 _ (by omega), (hP.2.1.1.2.2.2.2.1 c hc).2.2.1.1]
    exact (hP.2.1.1.2.2.2.2.1 c hc).2.2.1.2)
  have e3 := unr_eq h10 h5 (fun j hj => hgr.2 j (by omega))
  have e4 : oiV A I (nI K) n (nI (dg o K)) = nI (a - b) := by
    unfold oiV fc
    rw [nI_clamp (by omega), ← e3]
    show unrS (((grO (nI (dg o K)) (A 20) K).1, (fun _ => 0 : ROW)) : ROW × ROW).1 - _ = _
    rw [e1, e2, pk_sub h1]
  rw [e4]
  exact fun z => absurd (Int32.le_trans (nI_pos' (by omega)) z) (by decide)
set_option maxHeartbeats 800000 in
set_option maxRecDepth 100000 in
theorem e_tryOil {A : Nat → Nat → Int32} {L : Nat → Nat → Int64} {I : Nat → Nat → Int32} {X : Nat → Int64} {ms cs K : Nat} {n : Int32} (h : INV A I) (hP : PLN ms cs A I) (hK : K ≤ 3) : ∀ j k, k + j = K → ∀ (A2 I2 : Nat → Nat → Int32) (s : Int32 × Int32) (o : Nat → Nat) (fst : Nat) (kk mm fs rr : Int32), kk = nI k → mm = nI K → fs = nI fst → rr = nI (dg o k) → smM A I A2 I2 → OR s (I2 46 39) (I2 46 40) → (∀ i, i < k → A2 68 i = nI (o i) ∧ o i < ms) → fst < ms → Con (9 + j) yX11_tryOil cX11_tryOil 7 none [.ref 46, .int kk, .int mm, .int fs, .int rr, .int n] (hp A2 L I2 X) (fun r_ H_ => r_ = none ∧ ∃ A3 I3, smM A I A3 I3 ∧ (∀ i, i < k → A3 68 i = A2 68 i) ∧ OR2 (oiP (oiT A I (nI K) n) ms j fst (dg o k) s) (I3 46 39) (I3 46 40) ∧ H_ = hp A3 L I3 X) := by
  have h8 := (PLN_ms hP).2.1
  intro j
  induction j with
  | zero =>
    intro k hk A2 I2 s o fst kk mm fs rr h1 h2 h3 h4 hm hO ho hf
    have hk2 : k = K := by omega
    subst hk2
    refine Con.mono ?_ (e_try0 (K := k) (INV_smM hm h) (PLN_smM hm hP) hK ho h1 h2 h4)
    rintro _ _ ⟨rfl, A3, I3, q1, q2, q3, rfl⟩
    refine ⟨rfl, A3, I3, smM_tr hm q1, fun i _ => by rw [q2], ?_, rfl⟩
    have e : (unrS (A2 20) - unrS (fc A2 I2 n.toNatClampNeg (grO (nI (dg o k)) (A2 20) k).1).1) = oiV A I (nI k) n (nI (dg o k)) := by
      rw [← oiV_sm hm]
      unfold oiV
      rw [nI_clamp (by omega)]
    rw [e] at q3
    have hlt := dg_lt (o := o) k (fun i hi => Nat.lt_of_lt_of_le (ho i hi).2 h8)
    have hlt2 : dg o k < 10 ^ 3 := Nat.lt_of_lt_of_le hlt (Nat.pow_le_pow_right (by decide) hK)
    have w := OR_step hO (oiV_nn hP hK (n := n) (fun i hi => (ho i hi).2)) (row := nI (dg o k)) (fun z => absurd (Int32.le_trans (nI_pos' (n := dg o k) (by omega)) (Int32.le_of_eq z)) (by decide))
    rw [← q3] at w
    exact w
  | succ j ih =>
    intro k hk A2 I2 s o fst kk mm fs rr h1 h2 h3 h4 hm hO ho hf
    subst h1 h2 h3 h4
    have hloop : ∀ f m A3 I3 s3, smM A I A3 I3 → OR s3 (I3 46 39) (I3 46 40) → (f = 0 → OR2 s3 (I3 46 39) (I3 46 40)) → (∀ i, i < k → A3 68 i = A2 68 i) → m + f = ms → G (9 + (j + 1)) RX11 cX11_tryOil 7 none (fun r_ H_ => r_ = none ∧ ∃ A4 I4, smM A I A4 I4 ∧ (∀ i, i < k → A4 68 i = A2 68 i) ∧ OR2 (oiL (fun m s => oiP (oiT A I (nI K) n) ms j m (10 * dg o k + m) s) f m s3) (I4 46 39) (I4 46 40) ∧ H_ = hp A4 L I4 X) 108 [some (.ref 46), some (.int (nI k)), some (.int (nI K)), some (.int (nI fst)), some (.int (nI (dg o k))), some (.int (n)), some (.int (nI m))] [] (hp A3 L I3 X) := by
      intro f
      induction f with
      | zero =>
        intro m A3 I3 s3 hm3 hO ho2 h68 hmf
        refine g_iload dX11_tryOil_108 rfl ?_
        refine g_aload_n dX11_tryOil_110 rfl rfl ?_
        refine g_get dX11_tryOil_111 fl_X11_261 hp_46 rfl ?_
        have e25 : I3 46 25 = nI ms := (hm3.2 46 25 (by decide)).trans hP.1.1
        refine g_icmp_ge (tgt := 151) dX11_tryOil_114 (by decide) (fun c_114 => ?_) (fun c_114 => ?_)
        · exact g_vret dX11_tryOil_151 ⟨rfl, A3, I3, hm3, h68, ho2 rfl, rfl⟩
        · rw [e25] at c_114
          exact absurd ((nI_leI (by omega) (by omega)).mpr (by omega)) c_114
      | succ f hloop =>
        intro m A3 I3 s3 hm3 hO ho2 h68 hmf
        refine g_iload dX11_tryOil_108 rfl ?_
        refine g_aload_n dX11_tryOil_110 rfl rfl ?_
        refine g_get dX11_tryOil_111 fl_X11_261 hp_46 rfl ?_
        have e25 : I3 46 25 = nI ms := (hm3.2 46 25 (by decide)).trans hP.1.1
        refine g_icmp_ge (tgt := 151) dX11_tryOil_114 (by decide) (fun c_114 => ?_) (fun c_114 => ?_)
        · rw [e25] at c_114
          exact absurd ((nI_leI (by omega) (by omega)).mp c_114) (by omega)
        · refine g_aload_n dX11_tryOil_117 rfl rfl ?_
          refine g_get dX11_tryOil_118 fl_X11_77 hp_46 rfl ?_
          refine g_iload_n dX11_tryOil_121 rfl rfl ?_
          refine g_iload dX11_tryOil_122 rfl ?_
          refine g_wa dX11_tryOil_124 hp_68 (k := k) rfl (by omega) (by decide) ?_
          rw [hq_68]
          refine g_aload_n dX11_tryOil_125 rfl rfl ?_
          refine g_iload_n dX11_tryOil_126 rfl rfl ?_
          refine g_ic_1 dX11_tryOil_127 ?_
          refine g_iadd dX11_tryOil_128 ?_
          refine g_iload_n dX11_tryOil_129 rfl rfl ?_
          refine g_iload dX11_tryOil_130 rfl ?_
          refine g_bipush (v := 10) dX11_tryOil_132 (by decide) ?_
          refine g_iload dX11_tryOil_134 rfl ?_
          refine g_imul dX11_tryOil_136 ?_
          refine g_iload dX11_tryOil_137 rfl ?_
          refine g_iadd dX11_tryOil_139 ?_
          refine g_iload dX11_tryOil_140 rfl ?_
          have hd : dg (fun i => if i = k then m else o i) (k + 1) = 10 * dg o k + m := by
            show 10 * dg (fun i => if i = k then m else o i) k + (if k = k then m else o k) = _
            rw [if_pos rfl, dg_eq (o := o) k (fun i hi => if_neg (by omega))]
          have hr3 : 10 * nI (dg o k) + nI m = nI (dg (fun i => if i = k then m else o i) (k + 1)) := by
            rw [hd, show (10 : Int32) = nI 10 from rfl, pk_mul, nI_add]
          have hm4 : smM A I (up A3 68 (upd (A3 68) k (nI m))) I3 := ⟨fun i z => (up_ne (by rintro rfl; revert z; decide)).trans (hm3.1 i z), hm3.2⟩
          have ho4 : ∀ i, i < k + 1 → (up A3 68 (upd (A3 68) k (nI m))) 68 i = nI (if i = k then m else o i) ∧ (if i = k then m else o i) < ms := fun i hi => by
            rw [up_at]
            by_cases c : i = k
            · rw [if_pos c, c, ud_at]
              exact ⟨rfl, by omega⟩
            · rw [if_neg c, ud_ne c, h68 i (by omega)]
              exact ho i (by omega)
          refine g_callV dX11_tryOil_142 cv_X11_373 (as' := [_, _, _, _, _]) hp_46 rfl (ih (k + 1) (by omega) (up A3 68 (upd (A3 68) k (nI m))) I3 s3 (fun i => if i = k then m else o i) m _ _ _ _ (nI_1 k) rfl rfl hr3 hm4 hO (fun i hi => ho4 i hi) (by omega)) (by omega) rfl rfl (Nat.le_of_ble_eq_true rfl) ?_
          rintro _ _ ⟨rfl, A4, I4, q1, q2, q3, rfl⟩
          refine g_iinc1 dX11_tryOil_145 rfl (by decide) ?_
          refine g_goto (tgt := 108) dX11_tryOil_148 (by decide) ?_
          rw [nI_1]
          rw [hd] at q3
          exact hloop (m + 1) A4 I4 _ q1 (Or.inr q3) (fun _ => q3) (fun i hi => by rw [q2 i (by omega), up_at, ud_ne (by omega)]; exact h68 i hi) (by omega)
    refine m_con (by decide) (Nat.le_of_ble_eq_true rfl) ?_
    refine g_iload_n dX11_tryOil_0 rfl rfl ?_
    refine g_iload_n dX11_tryOil_1 rfl rfl ?_
    refine g_icmp_ne (tgt := 105) dX11_tryOil_2 (by decide) (fun c_2 => ?_) (fun c_2 => ?_)
    · refine g_iload_n dX11_tryOil_105 rfl rfl ?_
      refine g_istore dX11_tryOil_106 (by decide) ?_
      have hs := hloop (ms - fst) fst A2 I2 s hm hO (fun z => by omega) (fun _ _ => rfl) (by omega)
      exact hs
    · exact absurd ((nI_eq (by omega) (by omega)).mp c_2) (by omega)

set_option maxHeartbeats 800000 in
set_option maxRecDepth 100000 in
theorem n_oil {A : Nat → Nat → Int32} {L : Nat → Nat → Int64} {I : Nat → Nat → Int32} {X : Nat → Int64} {k n w : Int32} (h : INV A I) : Con 13 yX11_oil cX11_oil 4 (some .int) [.ref 46, .int k, .int n, .int w] (hp A L I X) (QM A I X (oilS A I k n w)) := by
  refine m_con (by decide) (Nat.le_of_ble_eq_true rfl) ?_
  refine g_aload_n dX11_oil_0 rfl rfl ?_
  refine g_get dX11_oil_1 fl_X11_261 hp_46 rfl ?_
  refine g_if_eq (tgt := 35) dX11_oil_4 (by decide) (fun c_4 => ?_) (fun c_4 => ?_)
  · refine g_ic_m1 dX11_oil_35 ?_
    exact g_iret dX11_oil_36 ⟨congrArg (fun z : Int32 => some (Value.int z)) (show _ = oilS A I k n w from (if_pos (Or.inl ((INV_0 h).mp c_4))).symm), _, _, _, smM_rf, rfl⟩
  · refine g_iload_n dX11_oil_7 rfl rfl ?_
    refine g_ic_1 dX11_oil_8 ?_
    refine g_ic_3 dX11_oil_9 ?_
    refine g_callS dX11_oil_10 cs_X11_221 (as := [_, _, _]) e_in (by decide) rfl rfl (Nat.le_of_ble_eq_true rfl) ?_
    rintro _ _ ⟨rfl, rfl⟩
    refine g_if_eq (tgt := 35) dX11_oil_13 (by decide) (fun c_13 => ?_) (fun c_13 => ?_)
    · refine g_ic_m1 dX11_oil_35 ?_
      exact g_iret dX11_oil_36 ⟨congrArg (fun z : Int32 => some (Value.int z)) (show _ = oilS A I k n w from (if_pos (Or.inr ((in_0.mp c_13).imp id Or.inl))).symm), _, _, _, smM_rf, rfl⟩
    · refine g_iload_n dX11_oil_16 rfl rfl ?_
      refine g_ic_1 dX11_oil_17 ?_
      refine g_bipush (v := 40) dX11_oil_18 (by decide) ?_
      refine g_callS dX11_oil_20 cs_X11_221 (as := [_, _, _]) e_in (by decide) rfl rfl (Nat.le_of_ble_eq_true rfl) ?_
      rintro _ _ ⟨rfl, rfl⟩
      refine g_if_eq (tgt := 35) dX11_oil_23 (by decide) (fun c_23 => ?_) (fun c_23 => ?_)
      · refine g_ic_m1 dX11_oil_35 ?_
        exact g_iret dX11_oil_36 ⟨congrArg (fun z : Int32 => some (Value.int z)) (show _ = oilS A I k n w from (if_pos (Or.inr (Or.inr (Or.inr ((in_0.mp c_23).imp id Or.inl))))).symm), _, _, _, smM_rf, rfl⟩
      · refine g_iload_n dX11_oil_26 rfl rfl ?_
        refine g_ic_0 dX11_oil_27 ?_
        refine g_ic_1 dX11_oil_28 ?_
        refine g_callS dX11_oil_29 cs_X11_221 (as := [_, _, _]) e_in (by decide) rfl rfl (Nat.le_of_ble_eq_true rfl) ?_
        rintro _ _ ⟨rfl, rfl⟩
        refine g_if_ne (tgt := 37) dX11_oil_32 (by decide) (fun c_32 => ?_) (fun c_32 => ?_)
        · obtain ⟨ms, cs, hP⟩ := INV_P h (fun w => c_4 ((INV_0 h).mpr w))
          obtain ⟨K, K1, K3, rfl⟩ := in_1' (a := 1) (b := 3) (by decide) (by decide) c_13
          have hv : oilS A I (nI K) n w = if w = 0 then (oiS A I (nI K) n).1 else (oiS A I (nI K) n).2 := if_neg (fun z => by
            rcases z with z | z | z | z | z | z | z
            · exact c_4 ((INV_0 h).mpr z)
            · exact c_13 (in_0.mpr (Or.inl z))
            · exact c_13 (in_0.mpr (Or.inr z))
            · exact c_23 (in_0.mpr (Or.inl z))
            · exact c_23 (in_0.mpr (Or.inr z))
            · exact c_32 (in_0.mpr (Or.inl z))
            · exact c_32 (in_0.mpr (Or.inr (Int32.not_le.mp z))))
          have hS := oiS_P (A := A) (I := I) (n := n) K1 K3 (PLN_ms hP).2.1 (Nat.le_trans (by decide) (PLN_ms hP).1) (by rw [g143_9]; exact hP.2.1.1.1.2.2.2.2.1)
          refine g_aload_n dX11_oil_37 rfl rfl ?_
          refine g_ic_m1 dX11_oil_38 ?_
          refine g_puti dX11_oil_39 fw_X11_367 hp_46 (Nat.le_of_ble_eq_true rfl) ?_
          rw [hq_46_39]
          refine g_aload_n dX11_oil_42 rfl rfl ?_
          refine g_ic_0 dX11_oil_43 ?_
          refine g_puti dX11_oil_44 fw_X11_370 hp_46 (Nat.le_of_ble_eq_true rfl) ?_
          rw [hq_46_40]
          refine g_aload_n dX11_oil_47 rfl rfl ?_
          refine g_ic_0 dX11_oil_48 ?_
          refine g_iload_n dX11_oil_49 rfl rfl ?_
          refine g_ic_0 dX11_oil_50 ?_
          refine g_ic_0 dX11_oil_51 ?_
          refine g_iload_n dX11_oil_52 rfl rfl ?_
          refine g_callV dX11_oil_53 cv_X11_373 (as' := [_, _, _, _, _]) hp_46 rfl (e_tryOil h hP K3 K 0 (by omega) _ _ ((-1), (-1)) (fun _ => 0) 0 _ _ _ _ rfl rfl rfl rfl (smM_I (smM_I smM_rf (Or.inl rfl)) (Or.inr rfl)) (Or.inl ⟨rfl, by rw [up2_ne (by decide), up2_at], up2_at⟩) (fun i hi => absurd hi (Nat.not_lt_zero i)) (Nat.lt_of_lt_of_le (by decide) (PLN_ms hP).1)) (by omega) rfl rfl (Nat.le_of_ble_eq_true rfl) ?_
          rintro _ _ ⟨rfl, A4, I4, q1, -, q3, rfl⟩
          rw [show dg (fun _ => 0) 0 = 0 from rfl, ← hS] at q3
          refine g_iload_n dX11_oil_56 rfl rfl ?_
          refine g_if_ne (tgt := 67) dX11_oil_57 (by decide) (fun c_57 => ?_) (fun c_57 => ?_)
          · refine g_aload_n dX11_oil_67 rfl rfl ?_
            refine g_get dX11_oil_68 fl_X11_370 hp_46 rfl ?_
            exact g_iret dX11_oil_71 ⟨congrArg (fun z : Int32 => some (Value.int z)) (show _ = oilS A I (nI K) n w from by rw [hv, if_neg c_57, q3.1]), _, _, _, q1, rfl⟩
          · refine g_aload_n dX11_oil_60 rfl rfl ?_
            refine g_get dX11_oil_61 fl_X11_367 hp_46 rfl ?_
            refine g_goto (tgt := 71) dX11_oil_64 (by decide) ?_
            exact g_iret dX11_oil_71 ⟨congrArg (fun z : Int32 => some (Value.int z)) (show _ = oilS A I (nI K) n w from by rw [hv, if_pos c_57, q3.1]), _, _, _, q1, rfl⟩
        · refine g_ic_m1 dX11_oil_35 ?_
          exact g_iret dX11_oil_36 ⟨congrArg (fun z : Int32 => some (Value.int z)) (show _ = oilS A I k n w from (if_pos (Or.inr (Or.inr (Or.inr (Or.inr (Or.inr ((in_0.mp c_32).imp id Int32.not_le.mpr))))))).symm), _, _, _, smM_rf, rfl⟩
