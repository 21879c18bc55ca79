/-! GREASE (oil) -/
def grO (row : Int32) (f : Nat → Int32) (k : Nat) : (Nat → Int32) × Int32 := itn (fun _ s => (gsM s.1 (rm s.2 10) 1, s.2 / 10)) k (f, row)
def oiV (A I : Nat → Nat → Int32) (k n row : Int32) : Int32 := unrS (A 20) - unrS (fc A I n.toNatClampNeg (grO row (A 20) k.toNatClampNeg).1).1
def oiT (A I : Nat → Nat → Int32) (k n row : Int32) (s : Int32 × Int32) : Int32 × Int32 := if oiV A I k n row ≤ s.2 then s else (row, oiV A I k n row)

set_option maxHeartbeats 4000000 in
set_option maxRecDepth 100000 in
theorem w_try_loop {A : Nat → Nat → Int32} {L : Nat → Nat → Int64} {I : Nat → Nat → Int32} {X : Nat → Int64} {k0 n0 row : Int32} {Q : Option Value → m_H → Prop} (hE : ∀ A2, sm1 A I A2 I → A2 29 = (grO row (A 20) k0.toNatClampNeg).1 → A2 30 = (fun _ => 0) → G 6 RX3 cX3_tryOil 6 none Q 49 [some (.ref 27), some (.int k0), some (.int n0), some (.int row), some (.int ((grO row (A 20) k0.toNatClampNeg).2)), some (.int (nI k0.toNatClampNeg))] [] (hp A2 L I X)) : ∀ n k s A2, sm1 A I A2 I → A2 29 = s.1 → A2 30 = (fun _ => 0) → s = grO row (A 20) k → k ≤ k0.toNatClampNeg → k0.toNatClampNeg - k < n → G 6 RX3 cX3_tryOil 6 none Q 17 [some (.ref 27), some (.int k0), some (.int n0), some (.int row), some (.int (s.2)), some (.int (nI k))] [] (hp A2 L I X) := by
  intro n
  induction n with
  | zero => intro k s A2 hm h29 h30 hs1 h1 h2; omega
  | succ n ih =>
    intro k s A2 hm h29 h30 hs1 h1 h2
    have hb := clamp_lt k0
    refine g_iload dX3_tryOil_17 rfl ?_
    refine g_iload_n dX3_tryOil_19 rfl rfl ?_
    refine g_icmp_ge (tgt := 49) dX3_tryOil_20 (by decide) (fun c_20 => ?_) (fun c_20 => ?_)
    · have h6 := (nI_gen (k := k) (by omega)).mp c_20
      have hkn : k = k0.toNatClampNeg := by omega
      subst hkn
      rw [hs1]
      exact hE A2 hm (by rw [← hs1]; exact h29) h30
    · have hlt : k < k0.toNatClampNeg := Nat.not_le.mp (fun z => c_20 ((nI_gen (by omega)).mpr z))
      refine g_aload_n dX3_tryOil_23 rfl rfl ?_
      refine g_get dX3_tryOil_24 fl_X3_12 hp_27 rfl ?_
      refine g_iload dX3_tryOil_27 rfl ?_
      refine g_bipush (v := 10) dX3_tryOil_29 (by decide) ?_
      refine g_irem dX3_tryOil_31 (by decide) ?_
      refine g_ic_1 dX3_tryOil_32 ?_
      refine g_callV dX3_tryOil_33 cv_X3_80 (as' := [_, _]) hp_28 rfl (h_grease isS_28) (by decide) rfl rfl (Nat.le_of_ble_eq_true rfl) ?_
      rintro _ _ ⟨rfl, rfl⟩
      refine g_iload dX3_tryOil_36 rfl ?_
      refine g_bipush (v := 10) dX3_tryOil_38 (by decide) ?_
      refine g_idiv dX3_tryOil_40 (by decide) ?_
      refine g_istore dX3_tryOil_41 (by decide) ?_
      refine g_iinc1 dX3_tryOil_43 rfl (by decide) ?_
      refine g_goto (tgt := 17) dX3_tryOil_46 (by decide) ?_
      rw [nI_1]
      exact ih (k + 1) (gsM s.1 (rm s.2 10) 1, s.2 / 10) _ (sm1_tr hm (sm1_upS (by decide) (by decide))) (by rw [upS_r (by decide), h29]; rfl) (by rw [upS_c, h30]) (by rw [hs1]; rfl) (by omega) (by omega)

theorem oi_I {I I1 : Nat → Nat → Int32} {i l : Nat} (h : I1 i l = I i l) (_ : I1 27 6 = I 27 6) (_ : I1 27 7 = I 27 7) : up2 (up2 I1 27 6 (I 27 6)) 27 7 (I 27 7) i l = I i l := by
  unfold up2
  split
  · rename_i z; rw [z.1, z.2]
  · split
    · rename_i z; rw [z.1, z.2]
    · exact h
theorem oi_I2 {I I1 : Nat → Nat → Int32} {i l : Nat} {v w : Int32} (h : I1 i l = I i l) (_ : I1 27 6 = I 27 6) (_ : I1 27 7 = I 27 7) : up2 (up2 (up2 (up2 I1 27 7 v) 27 6 w) 27 6 (I 27 6)) 27 7 (I 27 7) i l = I i l := by
  unfold up2
  split
  · rename_i z; rw [z.1, z.2]
  · split
    · rename_i z; rw [z.1, z.2]
    · rename_i z1 z2
      exact h
set_option maxHeartbeats 4000000 in
set_option maxRecDepth 100000 in
theorem w_try {A : Nat → Nat → Int32} {L : Nat → Nat → Int64} {I : Nat → Nat → Int32} {X : Nat → Int64} {k n row : Int32}  : Con 6 yX3_tryOil cX3_tryOil 6 none [.ref 27, .int k, .int n, .int row] (hp A L I X) (fun r_ H_ => r_ = none ∧ ∃ A9 I9, sm1 A I A9 (up2 (up2 I9 27 6 (I 27 6)) 27 7 (I 27 7)) ∧ (I9 27 6, I9 27 7) = oiT A I k n row (I 27 6, I 27 7) ∧ H_ = hp A9 L I9 X) := by
  refine m_con (by decide) (Nat.le_of_ble_eq_true rfl) ?_
  refine g_aload_n dX3_tryOil_0 rfl rfl ?_
  refine g_get dX3_tryOil_1 fl_X3_12 hp_27 rfl ?_
  refine g_aload_n dX3_tryOil_4 rfl rfl ?_
  refine g_get dX3_tryOil_5 fl_X3_29 hp_27 rfl ?_
  refine g_callV dX3_tryOil_8 cv_X3_36 (as' := [_]) hp_28 rfl (f_becomeB28 isS_19 (by decide)) (by decide) rfl rfl (Nat.le_of_ble_eq_true rfl) ?_
  rintro _ _ ⟨rfl, A0, m0, b1, b2, rfl⟩
  refine g_iload_n dX3_tryOil_11 rfl rfl ?_
  refine g_istore dX3_tryOil_12 (by decide) ?_
  refine g_ic_0 dX3_tryOil_14 ?_
  refine g_istore dX3_tryOil_15 (by decide) ?_
  refine w_try_loop (A := A) (L := L) (I := I) (fun A2 hm h29 h30 => ?_) _ 0 (A 20, row) A0 m0 b1 b2 rfl (Nat.zero_le _) (Nat.lt_succ_self _)
  refine g_aload_n dX3_tryOil_49 rfl rfl ?_
  refine g_get dX3_tryOil_50 fl_X3_12 hp_27 rfl ?_
  refine g_iload_n dX3_tryOil_53 rfl rfl ?_
  refine g_aload_n dX3_tryOil_54 rfl rfl ?_
  refine g_get dX3_tryOil_55 fl_X3_32 hp_27 rfl ?_
  refine g_callV dX3_tryOil_58 cv_X3_43 (as' := [_, _]) hp_28 rfl f_turnsB28 (by decide) rfl rfl (Nat.le_of_ble_eq_true rfl) ?_
  rintro _ _ ⟨rfl, A1, I1, m1, e1, rfl⟩
  have e2 : A1 29 = (fc A I n.toNatClampNeg (grO row (A 20) k.toNatClampNeg).1).1 := by rw [show A1 29 = (A1 29, A1 30).1 from rfl, e1, tns_sm (sm_sm1 (L := L) hm), h29, h30]; rfl
  have e3 : A1 20 = A 20 := by rw [m1.1 20 (by decide), hm.1 20 (by decide)]
  have i6 : I1 27 6 = I 27 6 := m1.2 27 6 (by decide)
  have i7 : I1 27 7 = I 27 7 := m1.2 27 7 (by decide)
  refine g_aload_n dX3_tryOil_61 rfl rfl ?_
  refine g_get dX3_tryOil_62 fl_X3_29 hp_27 rfl ?_
  refine g_callV dX3_tryOil_65 cv_X3_83 (as' := []) hp_19 rfl (h_unr isS_19) (by decide) rfl rfl (Nat.le_of_ble_eq_true rfl) ?_
  rintro _ _ ⟨rfl, rfl⟩
  rw [e3]
  refine g_aload_n dX3_tryOil_68 rfl rfl ?_
  refine g_get dX3_tryOil_69 fl_X3_12 hp_27 rfl ?_
  refine g_callV dX3_tryOil_72 cv_X3_83 (as' := []) hp_28 rfl (h_unr isS_28) (by decide) rfl rfl (Nat.le_of_ble_eq_true rfl) ?_
  rintro _ _ ⟨rfl, rfl⟩
  rw [e2]
  refine g_isub dX3_tryOil_75 ?_
  refine g_istore dX3_tryOil_76 (by decide) ?_
  refine g_iload dX3_tryOil_78 rfl ?_
  refine g_aload_n dX3_tryOil_80 rfl rfl ?_
  refine g_get dX3_tryOil_81 fl_X3_73 hp_27 rfl ?_
  refine g_icmp_le (tgt := 98) dX3_tryOil_84 (by decide) (fun c_84 => ?_) (fun c_84 => ?_)
  · exact g_vret dX3_tryOil_98 ⟨rfl, A1, I1, ⟨(sm1_tr hm m1).1, fun i l z => oi_I (m1.2 i l z) i6 i7⟩, by rw [i6, i7]; exact (if_pos (show oiV A I k n row ≤ I 27 7 by rw [← i7]; exact c_84)).symm, rfl⟩
  · refine g_aload_n dX3_tryOil_87 rfl rfl ?_
    refine g_iload dX3_tryOil_88 rfl ?_
    refine g_puti dX3_tryOil_90 fw_X3_73 hp_27 (Nat.le_of_ble_eq_true rfl) ?_
    rw [hq_27_7]
    refine g_aload_n dX3_tryOil_93 rfl rfl ?_
    refine g_iload_n dX3_tryOil_94 rfl rfl ?_
    refine g_puti dX3_tryOil_95 fw_X3_69 hp_27 (Nat.le_of_ble_eq_true rfl) ?_
    rw [hq_27_6]
    exact g_vret dX3_tryOil_98 ⟨rfl, A1, _, ⟨(sm1_tr hm m1).1, fun i l z => oi_I2 (m1.2 i l z) i6 i7⟩, by unfold oiT; rw [if_neg (show ¬ oiV A I k n row ≤ I 27 7 by rw [← i7]; exact c_84), up2_at]; rfl, rfl⟩

/-- rows of months in their order, tried one by one -/
def oi3 (T : Int32 → Int32 × Int32 → Int32 × Int32) (a b : Nat) (M : Nat) : Nat → Nat → Int32 × Int32 → Int32 × Int32
  | 0, _, s => s
  | n + 1, c, s => if c < M then oi3 T a b M n (c + 1) (T (nI a * 100 + nI b * 10 + nI c) s) else s
def oi2 (T : Int32 → Int32 × Int32 → Int32 × Int32) (a M B : Nat) : Nat → Nat → Int32 × Int32 → Int32 × Int32
  | 0, _, s => s
  | n + 1, b, s => if b < B then oi2 T a M B n (b + 1) (oi3 T a b M (M - b) b s) else s
def oi1 (T : Int32 → Int32 × Int32 → Int32 × Int32) (M B C : Nat) : Nat → Nat → Int32 × Int32 → Int32 × Int32
  | 0, _, s => s
  | n + 1, a, s => if a < C then oi1 T M B C n (a + 1) (oi2 T a M B (B - a) a s) else s

def oiR (A I A2 I2 : Nat → Nat → Int32) (s : Int32 × Int32) : Prop := sm1 A I A2 (up2 (up2 I2 27 6 (I 27 6)) 27 7 (I 27 7)) ∧ (I2 27 6, I2 27 7) = s
theorem oiV_R {A I A2 I2 : Nat → Nat → Int32} {s : Int32 × Int32} {k n row : Int32} (h : oiR A I A2 I2 s) : oiV A2 I2 k n row = oiV A I k n row := by
  have h1 := h.1.1 20 (by decide)
  have h2 := h.1.1 12 (by decide)
  have h3 := h.1.1 13 (by decide)
  have h4 : I2 11 5 = I 11 5 := h.1.2 11 5 (by decide)
  unfold oiV fc
  rw [h1, h2, h3, h4]
theorem oiR_step {A I A2 I2 A9 I9 : Nat → Nat → Int32} {s : Int32 × Int32} {k n row : Int32} (h : oiR A I A2 I2 s) (h1 : sm1 A2 I2 A9 (up2 (up2 I9 27 6 (I2 27 6)) 27 7 (I2 27 7))) (h2 : (I9 27 6, I9 27 7) = oiT A2 I2 k n row (I2 27 6, I2 27 7)) : oiR A I A9 I9 (oiT A I k n row s) := by
  refine ⟨⟨fun i z => (h1.1 i z).trans (h.1.1 i z), fun i l z => ?_⟩, ?_⟩
  · by_cases z6 : i = 27 ∧ l = 6
    · obtain ⟨rfl, rfl⟩ := z6; rfl
    · by_cases z7 : i = 27 ∧ l = 7
      · obtain ⟨rfl, rfl⟩ := z7; rfl
      · have a1 := h1.2 i l z
        have a2 := h.1.2 i l z
        unfold up2 at a1 a2 ⊢
        rw [if_neg z7, if_neg z6] at a1 a2 ⊢
        exact a1.trans a2
  · rw [h2, h.2]
    unfold oiT
    rw [oiV_R h]
def oiB (k M : Int32) (t : Int32) : Int32 := if k ≤ t then 1 else M
def oiS (A I : Nat → Nat → Int32) (k n : Int32) : Int32 × Int32 :=
  let M := gt 143 (A 20) 9
  oi1 (oiT A I k n) M.toNatClampNeg (oiB k M 1).toNatClampNeg (oiB k M 2).toNatClampNeg (oiB k M 2).toNatClampNeg 0 ((-1), (-1))
set_option maxHeartbeats 4000000 in
set_option maxRecDepth 100000 in
theorem w_oil3 {A : Nat → Nat → Int32} {L : Nat → Nat → Int64} {I : Nat → Nat → Int32} {X : Nat → Int64} {k0 n0 M : Int32} {a b : Nat} {Q : Option Value → m_H → Prop} : ∀ n c A2 I2 s, oiR A I A2 I2 s → c ≤ M.toNatClampNeg → M.toNatClampNeg - c < n + 1 → (∀ A8 I8 (ce : Int32), oiR A I A8 I8 (oi3 (oiT A I k0 n0) a b M.toNatClampNeg n c s) → G 7 RX3 cX3_seekOil 7 none Q 93 [some (.ref 27), some (.int k0), some (.int n0), some (.int M), some (.int (nI a)), some (.int (nI b)), some (.int (ce))] [] (hp A8 L I8 X)) → G 7 RX3 cX3_seekOil 7 none Q 61 [some (.ref 27), some (.int k0), some (.int n0), some (.int M), some (.int (nI a)), some (.int (nI b)), some (.int (nI c))] [] (hp A2 L I2 X) := by
  have hb := clamp_lt M
  intro n
  induction n with
  | zero =>
    intro c A2 I2 s hR h1 h2 hE
    refine g_iload dX3_seekOil_61 rfl ?_
    refine g_iload_n dX3_seekOil_63 rfl rfl ?_
    refine g_icmp_ge (tgt := 93) dX3_seekOil_64 (by decide) (fun c_64 => ?_) (fun c_64 => ?_)
    · exact hE A2 I2 _ hR
    · exact absurd ((nI_gen (k := c) (by omega)).mpr (by omega)) c_64
  | succ n ih =>
    intro c A2 I2 s hR h1 h2 hE
    refine g_iload dX3_seekOil_61 rfl ?_
    refine g_iload_n dX3_seekOil_63 rfl rfl ?_
    refine g_icmp_ge (tgt := 93) dX3_seekOil_64 (by decide) (fun c_64 => ?_) (fun c_64 => ?_)
    · exact hE A2 I2 _ (by rw [show oi3 (oiT A I k0 n0) a b M.toNatClampNeg (n + 1) c s = s from if_neg (Nat.not_lt.mpr ((nI_gen (k := c) (by omega)).mp c_64))]; exact hR)
    · have hlt : c < M.toNatClampNeg := Nat.not_le.mp (fun z => c_64 ((nI_gen (k := c) (by omega)).mpr z))
      refine g_aload_n dX3_seekOil_67 rfl rfl ?_
      refine g_iload_n dX3_seekOil_68 rfl rfl ?_
      refine g_iload_n dX3_seekOil_69 rfl rfl ?_
      refine g_iload dX3_seekOil_70 rfl ?_
      refine g_bipush (v := 100) dX3_seekOil_72 (by decide) ?_
      refine g_imul dX3_seekOil_74 ?_
      refine g_iload dX3_seekOil_75 rfl ?_
      refine g_bipush (v := 10) dX3_seekOil_77 (by decide) ?_
      refine g_imul dX3_seekOil_79 ?_
      refine g_iadd dX3_seekOil_80 ?_
      refine g_iload dX3_seekOil_81 rfl ?_
      refine g_iadd dX3_seekOil_83 ?_
      refine g_callV dX3_seekOil_84 cv_X3_76 (as' := [_, _, _]) hp_27 rfl w_try (by decide) rfl rfl (Nat.le_of_ble_eq_true rfl) ?_
      rintro _ _ ⟨rfl, A9, I9, h9, e9, rfl⟩
      refine g_iinc1 dX3_seekOil_87 rfl (by decide) ?_
      refine g_goto (tgt := 61) dX3_seekOil_90 (by decide) ?_
      rw [nI_1]
      refine ih (c + 1) A9 I9 _ (oiR_step hR h9 e9) (by omega) (by omega) (fun A8 I8 ce h8 => hE A8 I8 ce ?_)
      rw [show oi3 (oiT A I k0 n0) a b M.toNatClampNeg (n + 1) c s = oi3 (oiT A I k0 n0) a b M.toNatClampNeg n (c + 1) ((oiT A I k0 n0) (nI a * 100 + nI b * 10 + nI c) s) from if_pos hlt]
      exact h8

set_option maxHeartbeats 4000000 in
set_option maxRecDepth 100000 in
theorem w_oil2 {A : Nat → Nat → Int32} {L : Nat → Nat → Int64} {I : Nat → Nat → Int32} {X : Nat → Int64} {k0 n0 M : Int32} {a : Nat} {Q : Option Value → m_H → Prop} (hBM : (oiB k0 M 1).toNatClampNeg ≤ M.toNatClampNeg ∨ (oiB k0 M 1).toNatClampNeg = 1) : ∀ n b A2 I2 s, oiR A I A2 I2 s → b ≤ (oiB k0 M 1).toNatClampNeg → (b < (oiB k0 M 1).toNatClampNeg → b ≤ M.toNatClampNeg) → (oiB k0 M 1).toNatClampNeg - b < n + 1 → (∀ A8 I8 (be : Int32), oiR A I A8 I8 (oi2 (oiT A I k0 n0) a M.toNatClampNeg (oiB k0 M 1).toNatClampNeg n b s) → G 7 RX3 cX3_seekOil 7 none Q 99 [some (.ref 27), some (.int k0), some (.int n0), some (.int M), some (.int (nI a)), some (.int (be)), none] [] (hp A8 L I8 X)) → G 7 RX3 cX3_seekOil 7 none Q 42 [some (.ref 27), some (.int k0), some (.int n0), some (.int M), some (.int (nI a)), some (.int (nI b)), none] [] (hp A2 L I2 X) := by
  have hb := clamp_lt M
  have hb2 := clamp_lt (oiB k0 M 1)
  intro n
  induction n with
  | zero =>
    intro b A2 I2 s hR h1 hbm h2 hE
    have j54 : ∀ v : Int32, v = (oiB k0 M 1) → G 7 RX3 cX3_seekOil 7 none Q 54 [some (.ref 27), some (.int k0), some (.int n0), some (.int M), some (.int (nI a)), some (.int (nI b)), none] [.int v, .int (nI b)] (hp A2 L I2 X) := by
      rintro _ rfl
      refine g_icmp_ge (tgt := 99) dX3_seekOil_54 (by decide) (fun c_54 => ?_) (fun c_54 => ?_)
      · exact hE A2 I2 _ hR
      · exact absurd ((nI_gen (k := b) (by omega)).mpr (by omega)) c_54
    refine g_iload dX3_seekOil_42 rfl ?_
    refine g_iload_n dX3_seekOil_44 rfl rfl ?_
    refine g_ic_1 dX3_seekOil_45 ?_
    refine g_icmp_le (tgt := 53) dX3_seekOil_46 (by decide) (fun c_46 => ?_) (fun c_46 => ?_)
    · refine g_ic_1 dX3_seekOil_53 ?_
      exact j54 _ (if_pos c_46).symm
    · refine g_iload_n dX3_seekOil_49 rfl rfl ?_
      refine g_goto (tgt := 54) dX3_seekOil_50 (by decide) ?_
      exact j54 _ (if_neg c_46).symm
  | succ n ih =>
    intro b A2 I2 s hR h1 hbm h2 hE
    have j54 : ∀ v : Int32, v = (oiB k0 M 1) → G 7 RX3 cX3_seekOil 7 none Q 54 [some (.ref 27), some (.int k0), some (.int n0), some (.int M), some (.int (nI a)), some (.int (nI b)), none] [.int v, .int (nI b)] (hp A2 L I2 X) := by
      rintro _ rfl
      refine g_icmp_ge (tgt := 99) dX3_seekOil_54 (by decide) (fun c_54 => ?_) (fun c_54 => ?_)
      · exact hE A2 I2 _ (by rw [show oi2 (oiT A I k0 n0) a M.toNatClampNeg (oiB k0 M 1).toNatClampNeg (n + 1) b s = s from if_neg (Nat.not_lt.mpr ((nI_gen (k := b) (by omega)).mp c_54))]; exact hR)
      · have hlt : b < (oiB k0 M 1).toNatClampNeg := Nat.not_le.mp (fun z => c_54 ((nI_gen (k := b) (by omega)).mpr z))
        refine g_iload dX3_seekOil_57 rfl ?_
        refine g_istore dX3_seekOil_59 (by decide) ?_
        refine w_oil3 (A := A) (L := L) (I := I) (M.toNatClampNeg - b) b A2 I2 s hR (hbm hlt) (by omega) (fun A8 I8 ce h8 => ?_)
        refine g_iinc1 dX3_seekOil_93 rfl (by decide) ?_
        refine g_goto (tgt := 42) dX3_seekOil_96 (by decide) ?_
        rw [nI_1]
        refine g_loc (ls' := [some (.ref 27), some (.int k0), some (.int n0), some (.int M), some (.int (nI a)), some (.int (nI (b + 1))), none]) (fun i v h => by rcases i with _|_|_|_|_|_|_|_ <;> first | exact h | cases h) ?_
        exact ih (b + 1) A8 I8 _ h8 (by omega) (fun z => by rcases hBM with h | h <;> omega) (by omega) (Eq.mp (by rw [show oi2 (oiT A I k0 n0) a M.toNatClampNeg (oiB k0 M 1).toNatClampNeg (n + 1) b s = oi2 (oiT A I k0 n0) a M.toNatClampNeg (oiB k0 M 1).toNatClampNeg n (b + 1) (oi3 (oiT A I k0 n0) a b M.toNatClampNeg (M.toNatClampNeg - b) b s) from if_pos hlt]) hE)
    refine g_iload dX3_seekOil_42 rfl ?_
    refine g_iload_n dX3_seekOil_44 rfl rfl ?_
    refine g_ic_1 dX3_seekOil_45 ?_
    refine g_icmp_le (tgt := 53) dX3_seekOil_46 (by decide) (fun c_46 => ?_) (fun c_46 => ?_)
    · refine g_ic_1 dX3_seekOil_53 ?_
      exact j54 _ (if_pos c_46).symm
    · refine g_iload_n dX3_seekOil_49 rfl rfl ?_
      refine g_goto (tgt := 54) dX3_seekOil_50 (by decide) ?_
      exact j54 _ (if_neg c_46).symm

set_option maxHeartbeats 4000000 in
set_option maxRecDepth 100000 in
theorem w_oil1 {A : Nat → Nat → Int32} {L : Nat → Nat → Int64} {I : Nat → Nat → Int32} {X : Nat → Int64} {k0 n0 M : Int32} {Q : Option Value → m_H → Prop} (hBM : (oiB k0 M 1).toNatClampNeg ≤ M.toNatClampNeg ∨ (oiB k0 M 1).toNatClampNeg = 1) (hCB : (oiB k0 M 2).toNatClampNeg ≤ (oiB k0 M 1).toNatClampNeg) : ∀ n a A2 I2 s, oiR A I A2 I2 s → a ≤ (oiB k0 M 2).toNatClampNeg → (a < (oiB k0 M 2).toNatClampNeg → a ≤ (oiB k0 M 1).toNatClampNeg) → (oiB k0 M 2).toNatClampNeg - a < n + 1 → (∀ A8 I8 (ae : Int32), oiR A I A8 I8 (oi1 (oiT A I k0 n0) M.toNatClampNeg (oiB k0 M 1).toNatClampNeg (oiB k0 M 2).toNatClampNeg n a s) → G 7 RX3 cX3_seekOil 7 none Q 105 [some (.ref 27), some (.int k0), some (.int n0), some (.int M), some (.int (ae)), none, none] [] (hp A8 L I8 X)) → G 7 RX3 cX3_seekOil 7 none Q 23 [some (.ref 27), some (.int k0), some (.int n0), some (.int M), some (.int (nI a)), none, none] [] (hp A2 L I2 X) := by
  have hb := clamp_lt M
  have hb2 := clamp_lt (oiB k0 M 1)
  have hb3 := clamp_lt (oiB k0 M 2)
  intro n
  induction n with
  | zero =>
    intro a A2 I2 s hR h1 ham h2 hE
    have j35 : ∀ v : Int32, v = (oiB k0 M 2) → G 7 RX3 cX3_seekOil 7 none Q 35 [some (.ref 27), some (.int k0), some (.int n0), some (.int M), some (.int (nI a)), none, none] [.int v, .int (nI a)] (hp A2 L I2 X) := by
      rintro _ rfl
      refine g_icmp_ge (tgt := 105) dX3_seekOil_35 (by decide) (fun c_35 => ?_) (fun c_35 => ?_)
      · exact hE A2 I2 _ hR
      · exact absurd ((nI_gen (k := a) (by omega)).mpr (by omega)) c_35
    refine g_iload dX3_seekOil_23 rfl ?_
    refine g_iload_n dX3_seekOil_25 rfl rfl ?_
    refine g_ic_2 dX3_seekOil_26 ?_
    refine g_icmp_le (tgt := 34) dX3_seekOil_27 (by decide) (fun c_27 => ?_) (fun c_27 => ?_)
    · refine g_ic_1 dX3_seekOil_34 ?_
      exact j35 _ (if_pos c_27).symm
    · refine g_iload_n dX3_seekOil_30 rfl rfl ?_
      refine g_goto (tgt := 35) dX3_seekOil_31 (by decide) ?_
      exact j35 _ (if_neg c_27).symm
  | succ n ih =>
    intro a A2 I2 s hR h1 ham h2 hE
    have j35 : ∀ v : Int32, v = (oiB k0 M 2) → G 7 RX3 cX3_seekOil 7 none Q 35 [some (.ref 27), some (.int k0), some (.int n0), some (.int M), some (.int (nI a)), none, none] [.int v, .int (nI a)] (hp A2 L I2 X) := by
      rintro _ rfl
      refine g_icmp_ge (tgt := 105) dX3_seekOil_35 (by decide) (fun c_35 => ?_) (fun c_35 => ?_)
      · exact hE A2 I2 _ (by rw [show oi1 (oiT A I k0 n0) M.toNatClampNeg (oiB k0 M 1).toNatClampNeg (oiB k0 M 2).toNatClampNeg (n + 1) a s = s from if_neg (Nat.not_lt.mpr ((nI_gen (k := a) (by omega)).mp c_35))]; exact hR)
      · have hlt : a < (oiB k0 M 2).toNatClampNeg := Nat.not_le.mp (fun z => c_35 ((nI_gen (k := a) (by omega)).mpr z))
        refine g_iload dX3_seekOil_38 rfl ?_
        refine g_istore dX3_seekOil_40 (by decide) ?_
        refine w_oil2 (A := A) (L := L) (I := I) hBM ((oiB k0 M 1).toNatClampNeg - a) a A2 I2 s hR (ham hlt) (fun z => by rcases hBM with h | h <;> omega) (by omega) (fun A8 I8 be h8 => ?_)
        refine g_iinc1 dX3_seekOil_99 rfl (by decide) ?_
        refine g_goto (tgt := 23) dX3_seekOil_102 (by decide) ?_
        rw [nI_1]
        refine g_loc (ls' := [some (.ref 27), some (.int k0), some (.int n0), some (.int M), some (.int (nI (a + 1))), none, none]) (fun i v h => by rcases i with _|_|_|_|_|_|_|_ <;> first | exact h | cases h) ?_
        exact ih (a + 1) A8 I8 _ h8 (by omega) (fun z => by omega) (by omega) (Eq.mp (by rw [show oi1 (oiT A I k0 n0) M.toNatClampNeg (oiB k0 M 1).toNatClampNeg (oiB k0 M 2).toNatClampNeg (n + 1) a s = oi1 (oiT A I k0 n0) M.toNatClampNeg (oiB k0 M 1).toNatClampNeg (oiB k0 M 2).toNatClampNeg n (a + 1) (oi2 (oiT A I k0 n0) a M.toNatClampNeg (oiB k0 M 1).toNatClampNeg ((oiB k0 M 1).toNatClampNeg - a) a s) from if_pos hlt]) hE)
    refine g_iload dX3_seekOil_23 rfl ?_
    refine g_iload_n dX3_seekOil_25 rfl rfl ?_
    refine g_ic_2 dX3_seekOil_26 ?_
    refine g_icmp_le (tgt := 34) dX3_seekOil_27 (by decide) (fun c_27 => ?_) (fun c_27 => ?_)
    · refine g_ic_1 dX3_seekOil_34 ?_
      exact j35 _ (if_pos c_27).symm
    · refine g_iload_n dX3_seekOil_30 rfl rfl ?_
      refine g_goto (tgt := 35) dX3_seekOil_31 (by decide) ?_
      exact j35 _ (if_neg c_27).symm

theorem oiB_M (k M t : Int32) : (oiB k M t).toNatClampNeg ≤ M.toNatClampNeg ∨ (oiB k M t).toNatClampNeg = 1 := by
  unfold oiB
  split
  · exact Or.inr (by decide)
  · exact Or.inl (Nat.le_refl _)
theorem oiB_C {k M : Int32} (h : 1 ≤ M.toNatClampNeg) : (oiB k M 2).toNatClampNeg ≤ (oiB k M 1).toNatClampNeg := by
  unfold oiB
  by_cases h2 : k ≤ 2
  · rw [if_pos h2]
    split
    · exact Nat.le_refl _
    · exact h
  · have h1 : ¬ k ≤ 1 := fun z => h2 (Int32.le_trans z (by decide))
    rw [if_neg h2, if_neg h1]
    exact Nat.le_refl _
theorem oi_x {I : Nat → Nat → Int32} {i l : Nat} (v w : Int32) : up2 (up2 (up2 (up2 I 27 6 v) 27 7 w) 27 6 (I 27 6)) 27 7 (I 27 7) i l = I i l := by
  unfold up2
  split
  · rename_i z; rw [z.1, z.2]
  · split
    · rename_i z; rw [z.1, z.2]
    · rfl
set_option maxHeartbeats 4000000 in
set_option maxRecDepth 100000 in
theorem w_seek {A : Nat → Nat → Int32} {L : Nat → Nat → Int64} {I : Nat → Nat → Int32} {X : Nat → Int64} {k n : Int32} (hM : 1 ≤ (gt 143 (A 20) 9).toNatClampNeg) : Con 7 yX3_seekOil cX3_seekOil 7 none [.ref 27, .int k, .int n] (hp A L I X) (fun r_ H_ => r_ = none ∧ ∃ A9 I9, sm A L I A9 L I9 ∧ (I9 27 6, I9 27 7) = oiS A I k n ∧ H_ = hp A9 L I9 X) := by
  refine m_con (by decide) (Nat.le_of_ble_eq_true rfl) ?_
  refine g_aload_n dX3_seekOil_0 rfl rfl ?_
  refine g_get dX3_seekOil_1 fl_X3_29 hp_27 rfl ?_
  refine g_bipush (v := 9) dX3_seekOil_4 (by decide) ?_
  refine g_callV dX3_seekOil_6 cv_X3_47 (as' := [_]) hp_19 rfl (h_get isS_19) (by decide) rfl rfl (Nat.le_of_ble_eq_true rfl) ?_
  rintro _ _ ⟨rfl, rfl⟩
  refine g_istore_n dX3_seekOil_9 rfl (by decide) ?_
  refine g_aload_n dX3_seekOil_10 rfl rfl ?_
  refine g_ic_m1 dX3_seekOil_11 ?_
  refine g_puti dX3_seekOil_12 fw_X3_69 hp_27 (Nat.le_of_ble_eq_true rfl) ?_
  rw [hq_27_6]
  refine g_aload_n dX3_seekOil_15 rfl rfl ?_
  refine g_ic_m1 dX3_seekOil_16 ?_
  refine g_puti dX3_seekOil_17 fw_X3_73 hp_27 (Nat.le_of_ble_eq_true rfl) ?_
  rw [hq_27_7]
  refine g_ic_0 dX3_seekOil_20 ?_
  refine g_istore dX3_seekOil_21 (by decide) ?_
  refine g_loc (ls' := [some (.ref 27), some (.int k), some (.int n), some (.int (gt 143 (A 20) 9)), some (.int (nI 0)), none, none]) (fun i v h => by rcases i with _|_|_|_|_|_|_|_ <;> first | exact h | cases h) ?_
  refine w_oil1 (A := A) (L := L) (I := I) (k0 := k) (n0 := n) (M := gt 143 (A 20) 9) (oiB_M _ _ _) (oiB_C hM) (oiB k (gt 143 (A 20) 9) 2).toNatClampNeg 0 A _ ((-1), (-1)) ⟨⟨fun _ _ => rfl, fun i l z => oi_x _ _⟩, rfl⟩ (Nat.zero_le _) (fun _ => Nat.zero_le _) (by omega) (fun A8 I8 ae h8 => ?_)
  exact g_vret dX3_seekOil_105 ⟨rfl, A8, I8, ⟨fun i z => h8.1.1 i (ns1_sc z), fun i l z => by have a1 := h8.1.2 i l (by rintro ⟨rfl, rfl⟩; revert z; decide); unfold up2 at a1; rw [if_neg (by rintro ⟨rfl, rfl⟩; revert z; decide), if_neg (by rintro ⟨rfl, rfl⟩; revert z; decide)] at a1; exact a1, fun _ _ => rfl⟩, h8.2, rfl⟩
