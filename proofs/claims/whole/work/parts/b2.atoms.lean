/-! THE REFERENCE READS: numbers, atoms, terms, sums -/
theorem MS_k {A0 I0 A I : Nat → Nat → Int32} {q n d : Nat} {W : TL} {k k' e : Nat} {s : PR TL} (h : MS A0 I0 q n d W k e s A I) (hk : k' ≤ k) : MS A0 I0 q n d W k' e s A I := by
  refine ⟨h.1, ?_⟩
  have h2 := h.2
  cases s with
  | inl p => exact h2
  | inr x =>
    obtain ⟨a1, a2, a3, a4, a5, a6, a7⟩ := h2
    exact ⟨a1, a2, a3, a4, a5, a6, by omega⟩
theorem MS_0 {A0 I0 A I : Nat → Nat → Int32} {q n d : Nat} {W : TL} {k e e' b : Nat} {u : TL} (h : MS A0 I0 q n d W k e (.inr (b, u)) A I) : MS A0 I0 q n d W k e' (.inr (b, u)) A I := h
theorem dg_Z {c : Int32} : dgZ c = 0 ↔ ¬ isDg c := by
  unfold dgZ isDg
  by_cases h1 : c < 48
  · rw [if_pos h1]
    exact ⟨fun _ z => absurd z.1 (Int32.not_le.mpr h1), fun _ => rfl⟩
  · rw [if_neg h1]
    by_cases h2 : 57 < c
    · rw [if_pos h2]
      exact ⟨fun _ z => absurd z.2 (Int32.not_le.mpr h2), fun _ => rfl⟩
    · rw [if_neg h2]
      exact ⟨fun z => absurd z (by decide), fun z => absurd ⟨Int32.not_lt.mp h1, Int32.not_lt.mp h2⟩ z⟩
theorem isDg_n {c : Int32} (h : isDg c) : ∃ m, 48 ≤ m ∧ m ≤ 57 ∧ c = nI m := by
  obtain ⟨m, m1, rfl⟩ := nI_of (x := c) (fun z => absurd (Int32.lt_of_le_of_lt h.1 z) (by decide))
  exact ⟨m, (nI_leI (a := 48) (by decide) m1).mp h.1, (nI_leI (b := 57) m1 (by decide)).mp h.2, rfl⟩
theorem dgL_n {T : Nat → Int32} {n : Nat} : ∀ k a x, ∃ y, (dgL T n k a (nI x)).1 = nI y ∧ y < (x + 1) * 10 ^ k
  | 0, a, x => ⟨x, rfl, by omega⟩
  | k + 1, a, x => by
    unfold dgL
    by_cases h : isDg (bt T n a)
    · rw [if_pos h]
      obtain ⟨m, m1, m2, m3⟩ := isDg_n h
      rw [m3, show (10 : Int32) = nI 10 from rfl, pk_mul, nI_add, show (48 : Int32) = nI 48 from rfl, pk_sub (by omega)]
      obtain ⟨y, y1, y2⟩ := dgL_n (T := T) (n := n) k (a + 1) (x * 10 + m - 48)
      refine ⟨y, y1, ?_⟩
      rw [Nat.pow_succ, Nat.mul_comm (10 ^ k) 10, ← Nat.mul_assoc]
      exact Nat.lt_of_lt_of_le y2 (Nat.mul_le_mul_right _ (by omega))
    · rw [if_neg h]
      refine ⟨x, rfl, ?_⟩
      have : 10 ^ 0 ≤ 10 ^ (k + 1) := Nat.pow_le_pow_right (by decide) (Nat.zero_le _)
      exact Nat.lt_of_lt_of_le (Nat.lt_succ_self x) (Nat.le_mul_of_pos_right _ this)
/-- behind a number -/
def pnI (T : Nat → Int32) (n p : Nat) (I : Nat → Nat → Int32) : Nat → Nat → Int32 := if isDg (bt T n p) then (if I 46 4 = (-1) then up2 (up2 I 46 3 (nI p)) 46 4 (nI p) else up2 I 46 3 (nI p)) else up2 I 46 3 (nI p)
set_option maxHeartbeats 800000 in
set_option maxRecDepth 100000 in
theorem e_pn_loop {A : Nat → Nat → Int32} {L : Nat → Nat → Int64} {X : Nat → Int64} {n : Nat} {Q : Option Value → m_H → Prop} (hn : n ≤ 240) : ∀ j i b v (I : Nat → Nat → Int32), i + j = 4 → I 46 2 = nI n → I 46 3 = nI b → b ≤ n → Q (some (.int (dgL (A 47) n j b v).1)) (hp A L (pnI (A 47) n (dgL (A 47) n j b v).2 I) X) → G 2 RX11 cX11_plainNumber 3 (some .int) Q 4 [some (.ref 46), some (.int (v)), some (.int (nI i))] [] (hp A L I X) := by
  intro j
  induction j with
  | zero =>
    intro i b v I hij h2 h3 hb hQ
    refine g_iload_n dX11_plainNumber_4 rfl rfl ?_
    refine g_ic_4 dX11_plainNumber_5 ?_
    refine g_icmp_ge (tgt := 48) dX11_plainNumber_6 (by decide) (fun c_6 => ?_) (fun c_6 => ?_)
    · have e0 : dgL (A 47) n 0 b v = (v, b) := rfl
      refine g_aload_n dX11_plainNumber_48 rfl rfl ?_
      refine g_callV dX11_plainNumber_49 cv_X11_119 (as' := []) hp_46 rfl (e_here h2 hn h3 (by omega)) (by decide) rfl rfl (Nat.le_of_ble_eq_true rfl) ?_
      rintro _ _ ⟨rfl, rfl⟩
      refine g_callS dX11_plainNumber_52 cs_X11_138 (as := [_]) e_digit (by decide) rfl rfl (Nat.le_of_ble_eq_true rfl) ?_
      rintro _ _ ⟨rfl, rfl⟩
      refine g_if_eq (tgt := 62) dX11_plainNumber_55 (by decide) (fun c_55 => ?_) (fun c_55 => ?_)
      · refine g_iload_n dX11_plainNumber_62 rfl rfl ?_
        exact g_iret dX11_plainNumber_63 (by rw [e0] at hQ; have hnd := dg_Z.mp c_55; unfold pnI at hQ; rw [if_neg hnd, show up2 I 46 3 (nI b) = I from by rw [← h3]; exact up2_self] at hQ; exact hQ)
      · refine g_aload_n dX11_plainNumber_58 rfl rfl ?_
        refine g_callV dX11_plainNumber_59 cv_X11_132 (as' := []) hp_46 rfl e_bad (by decide) rfl rfl (Nat.le_of_ble_eq_true rfl) ?_
        rintro _ _ ⟨rfl, rfl⟩
        refine g_iload_n dX11_plainNumber_62 rfl rfl ?_
        exact g_iret dX11_plainNumber_63 (by rw [e0] at hQ; have hnd : isDg (bt (A 47) n b) := Decidable.byContradiction (fun z => c_55 (dg_Z.mpr z)); unfold pnI at hQ; rw [if_pos hnd, show up2 I 46 3 (nI b) = I from by rw [← h3]; exact up2_self] at hQ; rw [h3]; exact hQ)
    · exact absurd (show (4 : Int32) ≤ nI i from by rw [show i = 4 by omega]; decide) c_6
  | succ j ih =>
    intro i b v I hij h2 h3 hb hQ
    refine g_iload_n dX11_plainNumber_4 rfl rfl ?_
    refine g_ic_4 dX11_plainNumber_5 ?_
    refine g_icmp_ge (tgt := 48) dX11_plainNumber_6 (by decide) (fun c_6 => ?_) (fun c_6 => ?_)
    · exact absurd ((nI_leI (a := 4) (b := i) (by decide) (by omega)).mp c_6) (by omega)
    · refine g_aload_n dX11_plainNumber_9 rfl rfl ?_
      refine g_callV dX11_plainNumber_10 cv_X11_119 (as' := []) hp_46 rfl (e_here h2 hn h3 (by omega)) (by decide) rfl rfl (Nat.le_of_ble_eq_true rfl) ?_
      rintro _ _ ⟨rfl, rfl⟩
      refine g_callS dX11_plainNumber_13 cs_X11_138 (as := [_]) e_digit (by decide) rfl rfl (Nat.le_of_ble_eq_true rfl) ?_
      rintro _ _ ⟨rfl, rfl⟩
      refine g_if_eq (tgt := 48) dX11_plainNumber_16 (by decide) (fun c_16 => ?_) (fun c_16 => ?_)
      · have e0 : dgL (A 47) n (j + 1) b v = (v, b) := if_neg (dg_Z.mp c_16)
        refine g_aload_n dX11_plainNumber_48 rfl rfl ?_
        refine g_callV dX11_plainNumber_49 cv_X11_119 (as' := []) hp_46 rfl (e_here h2 hn h3 (by omega)) (by decide) rfl rfl (Nat.le_of_ble_eq_true rfl) ?_
        rintro _ _ ⟨rfl, rfl⟩
        refine g_callS dX11_plainNumber_52 cs_X11_138 (as := [_]) e_digit (by decide) rfl rfl (Nat.le_of_ble_eq_true rfl) ?_
        rintro _ _ ⟨rfl, rfl⟩
        refine g_if_eq (tgt := 62) dX11_plainNumber_55 (by decide) (fun c_55 => ?_) (fun c_55 => ?_)
        · refine g_iload_n dX11_plainNumber_62 rfl rfl ?_
          exact g_iret dX11_plainNumber_63 (by rw [e0] at hQ; have hnd := dg_Z.mp c_55; unfold pnI at hQ; rw [if_neg hnd, show up2 I 46 3 (nI b) = I from by rw [← h3]; exact up2_self] at hQ; exact hQ)
        · refine g_aload_n dX11_plainNumber_58 rfl rfl ?_
          refine g_callV dX11_plainNumber_59 cv_X11_132 (as' := []) hp_46 rfl e_bad (by decide) rfl rfl (Nat.le_of_ble_eq_true rfl) ?_
          rintro _ _ ⟨rfl, rfl⟩
          refine g_iload_n dX11_plainNumber_62 rfl rfl ?_
          exact g_iret dX11_plainNumber_63 (by rw [e0] at hQ; have hnd : isDg (bt (A 47) n b) := Decidable.byContradiction (fun z => c_55 (dg_Z.mpr z)); unfold pnI at hQ; rw [if_pos hnd, show up2 I 46 3 (nI b) = I from by rw [← h3]; exact up2_self] at hQ; rw [h3]; exact hQ)
      · have hdg : isDg (bt (A 47) n b) := Decidable.byContradiction (fun z => c_16 (dg_Z.mpr z))
        have hlt := isDg_lt hdg
        refine g_bipush (v := 10) dX11_plainNumber_19 (by decide) ?_
        refine g_iload_n dX11_plainNumber_21 rfl rfl ?_
        refine g_imul dX11_plainNumber_22 ?_
        refine g_aload_n dX11_plainNumber_23 rfl rfl ?_
        refine g_callV dX11_plainNumber_24 cv_X11_119 (as' := []) hp_46 rfl (e_here h2 hn h3 (by omega)) (by decide) rfl rfl (Nat.le_of_ble_eq_true rfl) ?_
        rintro _ _ ⟨rfl, rfl⟩
        refine g_iadd dX11_plainNumber_27 ?_
        refine g_bipush (v := 48) dX11_plainNumber_28 (by decide) ?_
        refine g_isub dX11_plainNumber_30 ?_
        refine g_istore_n dX11_plainNumber_31 rfl (by decide) ?_
        refine g_aload_n dX11_plainNumber_32 rfl rfl ?_
        refine g_dup dX11_plainNumber_33 rfl ?_
        refine g_get dX11_plainNumber_34 fl_X11_116 hp_46 rfl ?_
        refine g_ic_1 dX11_plainNumber_37 ?_
        refine g_iadd dX11_plainNumber_38 ?_
        refine g_puti dX11_plainNumber_39 fw_X11_116 hp_46 (Nat.le_of_ble_eq_true rfl) ?_
        rw [hq_46_3]
        refine g_iinc1 dX11_plainNumber_42 rfl (by decide) ?_
        refine g_goto (tgt := 4) dX11_plainNumber_45 (by decide) ?_
        rw [show nI i + 1 = nI (i + 1) from nI_1 i, h3, nI_1]
        have e0 : dgL (A 47) n (j + 1) b v = dgL (A 47) n j (b + 1) (10 * v + bt (A 47) n b - 48) := (if_pos hdg).trans (by rw [Int32.mul_comm])
        rw [e0] at hQ
        refine ih (i + 1) (b + 1) _ (up2 I 46 3 (nI (b + 1))) (by omega) ((up2_ne (by decide)).trans h2) up2_at (by omega) ?_
        have e1 : pnI (A 47) n (dgL (A 47) n j (b + 1) (10 * v + bt (A 47) n b - 48)).2 (up2 I 46 3 (nI (b + 1))) = pnI (A 47) n (dgL (A 47) n j (b + 1) (10 * v + bt (A 47) n b - 48)).2 I := by
          unfold pnI
          rw [up2_up2, up2_ne (show ¬ (46 = 46 ∧ 4 = 3) by decide)]
        rw [e1]
        exact hQ

set_option maxHeartbeats 800000 in
set_option maxRecDepth 100000 in
theorem e_plainNumber {A : Nat → Nat → Int32} {L : Nat → Nat → Int64} {I : Nat → Nat → Int32} {X : Nat → Int64} {n b : Nat} (h2 : I 46 2 = nI n) (hn : n ≤ 240) (h3 : I 46 3 = nI b) (hb : b ≤ n) : Con 2 yX11_plainNumber cX11_plainNumber 3 (some .int) [.ref 46] (hp A L I X) (fun r_ H_ => r_ = some (.int (dgL (A 47) n 4 b 0).1) ∧ H_ = hp A L (pnI (A 47) n (dgL (A 47) n 4 b 0).2 I) X) := by
  refine m_con (by decide) (Nat.le_of_ble_eq_true rfl) ?_
  refine g_ic_0 dX11_plainNumber_0 ?_
  refine g_istore_n dX11_plainNumber_1 rfl (by decide) ?_
  refine g_ic_0 dX11_plainNumber_2 ?_
  refine g_istore_n dX11_plainNumber_3 rfl (by decide) ?_
  refine g_loc (ls' := [some (.ref 46), some (.int (0)), some (.int (nI 0))]) (fun i v h => by rcases i with _|_|_|_ <;> first | exact h | cases h) ?_
  exact e_pn_loop hn 4 0 b 0 I rfl h2 h3 hb ⟨rfl, rfl⟩

theorem z_plain {A0 I0 A I : Nat → Nat → Int32} {L : Nat → Nat → Int64} {X : Nat → Int64} {q n d : Nat} {W : TL} {k e : Nat} {b : Nat} {u : TL} (tp : tpM A0 I0 n) (hq : I0 46 14 = nI q) (q4 : q ≤ 4) (h : MS A0 I0 q n d W k e (.inr (b, u)) A I) (hd : isDg (bt (A0 47) n b)) : Con 2 yX11_plainNumber cX11_plainNumber 3 (some .int) [.ref 46] (hp A L I X) (fun r_ H_ => ∃ v m s1, r_ = some (.int v) ∧ m < 10000 ∧ v = nI m ∧ ∃ A1 I1, MS A0 I0 q n d W (k + 1) e s1 A1 I1 ∧ wrS (wd 0 v) s1 = bnd (.inr (b, u)) (fun b => numW (numP (A0 47) n 4 0 9999 b)) ∧ H_ = hp A1 L I1 X) := by
  obtain ⟨c2, cn, c47, c14⟩ := MS_ctx h tp
  refine Con.mono ?_ (e_plainNumber c2 cn h.2.1 (MS_lt h))
  rintro r_ H_ ⟨rfl, rfl⟩
  rw [c47]
  have hsk : sk (A0 47) n b = b := skp_id (fun z => by rw [z] at hd; exact absurd hd.1 (by decide)) _
  have hge := dgL_gt (T := A0 47) (n := n) (k := 4) (a := b) (v := 0) hd (by decide)
  have hle := dgL_le (T := A0 47) (n := n) 4 b 0 (MS_lt h)
  obtain ⟨m, m1, m2⟩ := dgL_n (T := A0 47) (n := n) 4 b 0
  have hm : m < 10000 := Nat.lt_of_lt_of_eq m2 (by decide)
  have m1' : (dgL (A0 47) n 4 b 0).1 = nI m := m1
  obtain ⟨h0, h1, h2, h3, h4, h5, h6, h7⟩ := h
  have e5 : ∀ v w, up2 (up2 I 46 3 v) 46 4 w 46 5 = I 46 5 := fun v w => (up2_ne (by decide)).trans (up2_ne (by decide))
  by_cases c : isDg (bt (A0 47) n (dgL (A0 47) n 4 b 0).2)
  · have en : numP (A0 47) n 4 0 9999 b = .inl (dgL (A0 47) n 4 b 0).2 := by
      unfold numP
      rw [hsk, if_pos hd, if_pos c]
    refine ⟨_, m, .inl (dgL (A0 47) n 4 b 0).2, rfl, hm, m1', A, _, ⟨?_, ?_⟩, ?_, rfl⟩
    · unfold pnI
      rw [if_pos c, if_pos h2]
      exact mR_I (mR_I h0 (Or.inl rfl)) (Or.inr (Or.inl rfl))
    · unfold pnI
      rw [if_pos c, if_pos h2]
      exact ⟨up2_at, hle, _, h4, by omega⟩
    · rw [bnd_eq (f := fun b => numW (numP (A0 47) n 4 0 9999 b)) (r := .inl (dgL (A0 47) n 4 b 0).2) (by show numW (numP (A0 47) n 4 0 9999 b) = _; rw [en]; rfl)]
      rfl
  · have en : numP (A0 47) n 4 0 9999 b = .inr ((dgL (A0 47) n 4 b 0).2, (dgL (A0 47) n 4 b 0).1) := by
      unfold numP
      rw [hsk, if_pos hd, if_neg c, if_neg]
      rw [m1']
      rintro (z | z)
      · exact absurd z (Int32.not_lt.mpr (nI_pos' (by omega)))
      · have := (nI_ltI (a := 9999) (b := m) (by decide) (by omega)).mp z; omega
    refine ⟨_, m, .inr ((dgL (A0 47) n 4 b 0).2, u), rfl, hm, m1', A, _, ⟨?_, ?_⟩, ?_, rfl⟩
    · unfold pnI
      rw [if_neg c]
      exact mR_I h0 (Or.inl rfl)
    · unfold pnI
      rw [if_neg c]
      exact ⟨up2_at, (up2_ne (by decide)).trans h2, (up2_ne (by decide)).trans h3, h4, h5, hle, by omega⟩
    · rw [bnd_eq (f := fun b => numW (numP (A0 47) n 4 0 9999 b)) (r := .inr ((dgL (A0 47) n 4 b 0).2, [wd 0 (dgL (A0 47) n 4 b 0).1])) (by show numW (numP (A0 47) n 4 0 9999 b) = _; rw [en]; rfl)]
      rfl
/-- letters -/
theorem lf_le : ∀ v, v < 256 → lfS 4 (nI v) = leZ (nI v) := by decide +kernel
theorem lf_bt {A0 I0 : Nat → Nat → Int32} {n a : Nat} (tp : tpM A0 I0 n) : lfS 4 (bt (A0 47) n a) = leZ (bt (A0 47) n a) := by
  by_cases c : a < n
  · obtain ⟨v, v0, v1, v2⟩ := tp.2.2 a c
    rw [bt_in c, v2]
    exact lf_le v v1
  · rw [bt_out (by omega)]
    decide
theorem le_l {c : Int32} (h : ¬ leZ c = (-1)) : ∃ l, l < 6 ∧ leZ c = nI l := by
  unfold leZ at h ⊢
  split
  · exact ⟨0, by decide, rfl⟩
  · split
    · exact ⟨1, by decide, rfl⟩
    · split
      · exact ⟨2, by decide, rfl⟩
      · split
        · exact ⟨3, by decide, rfl⟩
        · split
          · exact ⟨4, by decide, rfl⟩
          · split
            · exact ⟨5, by decide, rfl⟩
            · rename_i a1 a2 a3 a4 a5 a6
              exact absurd (by rw [if_neg a1, if_neg a2, if_neg a3, if_neg a4, if_neg a5, if_neg a6]) h
/-- contracts of reading, r: how much deeper it may go -/
def ZAtom (r : Nat) : Prop := ∀ {A0 I0 A I : Nat → Nat → Int32} {L : Nat → Nat → Int64} {X : Nat → Int64} {q n : Nat} {W : TL} {k e b : Nat} {u : TL}, tpM A0 I0 n → I0 46 14 = nI q → q ≤ 4 → MS A0 I0 q n (6 - r) W k e (.inr (b, u)) A I → Con (4 + 3 * r) yX11_atom cX11_atom 2 none [.ref 46] (hp A L I X) (RM A0 L I0 X q n (6 - r) W k (2 * r + 1) (bnd (.inr (b, u)) (atomF (A0 47) n (subP (A0 47) n r))))
def ZTerm (r : Nat) : Prop := ∀ {A0 I0 A I : Nat → Nat → Int32} {L : Nat → Nat → Int64} {X : Nat → Int64} {q n : Nat} {W : TL} {k e b : Nat} {u : TL}, tpM A0 I0 n → I0 46 14 = nI q → q ≤ 4 → MS A0 I0 q n (6 - r) W k e (.inr (b, u)) A I → Con (5 + 3 * r) yX11_term cX11_term 2 none [.ref 46] (hp A L I X) (RM A0 L I0 X q n (6 - r) W k (2 * r + 2) (bnd (.inr (b, u)) (termF (A0 47) n (subP (A0 47) n r))))
def ZSum (r : Nat) : Prop := ∀ {A0 I0 A I : Nat → Nat → Int32} {L : Nat → Nat → Int64} {X : Nat → Int64} {q n : Nat} {W : TL} {k e b : Nat} {u : TL}, tpM A0 I0 n → I0 46 14 = nI q → q ≤ 4 → MS A0 I0 q n (6 - r) W k e (.inr (b, u)) A I → Con (6 + 3 * r) yX11_sum cX11_sum 2 none [.ref 46] (hp A L I X) (RM A0 L I0 X q n (6 - r) W k (2 * r + 3) (bnd (.inr (b, u)) (sumP (A0 47) n r)))
theorem le_dig : ∀ m, 48 ≤ m → m ≤ 57 → leZ (nI m) = (-1) := by
  intro m h1 h2
  have key : ∀ j, j < 10 → leZ (nI (48 + j)) = (-1) := by decide
  have q := key (m - 48) (by omega)
  rw [show 48 + (m - 48) = m by omega] at q
  exact q
theorem le_no {l : Nat} (h : l < 6) : ¬ nI l < 0 := Int32.not_lt.mpr (nI_pos' (by omega))
theorem le_m1 {l : Nat} (h : l < 6) {c : Int32} (hc : leZ c = nI l) : ¬ c = (-1) := fun z => by
  rw [z] at hc
  exact absurd (Int32.le_trans (nI_pos' (n := l) (by omega)) (Int32.le_of_eq (hc.symm.trans (by decide)))) (show ¬ (0 : Int32) ≤ (-1) by decide)
theorem MS_l {A0 I0 A I : Nat → Nat → Int32} {q n d : Nat} {W : TL} {k e p : Nat} (hn : n ≤ 240) (h : MS A0 I0 q n d W k e (.inl p) A I) : ¬ I 46 4 = (-1) := fun z => by
  have h2 : p ≤ n := h.2.2.1
  exact absurd (Int32.le_trans (nI_pos' (n := p) (by omega)) (Int32.le_of_eq (h.2.1.symm.trans z))) (by decide)
theorem MS_d {A0 I0 A I : Nat → Nat → Int32} {q n d d' : Nat} {W : TL} {k e : Nat} {s : PR TL} (hd : d = d') (h : MS A0 I0 q n d W k e s A I) : MS A0 I0 q n d' W k e s A I := hd ▸ h
set_option maxHeartbeats 800000 in
set_option maxRecDepth 100000 in
theorem z_atom0 {A0 I0 A I : Nat → Nat → Int32} {L : Nat → Nat → Int64} {X : Nat → Int64} {q n : Nat} {W : TL} {k e b : Nat} {u : TL}  (tp : tpM A0 I0 n) (hq : I0 46 14 = nI q) (q4 : q ≤ 4) (h : MS A0 I0 q n (6 - 0) W k e (.inr (b, u)) A I) : Con (4 + 3 * 0) yX11_atom cX11_atom 2 none [.ref 46] (hp A L I X) (RM A0 L I0 X q n (6 - 0) W k (2 * 0 + 1) (bnd (.inr (b, u)) (atomF (A0 47) n none))) := by
  refine m_con (by decide) (Nat.le_of_ble_eq_true rfl) ?_
  refine g_aload_n dX11_atom_0 rfl rfl ?_
  refine g_callV dX11_atom_1 cv_X11_135 (as' := []) hp_46 rfl (z_look tp hq q4 (MS_0 (e' := 0) h)) (by omega) rfl rfl (Nat.le_of_ble_eq_true rfl) ?_
  rintro _ _ ⟨rfl, A1, I1, h1, rfl⟩
  refine g_istore_n dX11_atom_4 rfl (by decide) ?_
  refine g_iload_n dX11_atom_5 rfl rfl ?_
  refine g_callS dX11_atom_6 cs_X11_138 (as := [_]) e_digit (by omega) rfl rfl (Nat.le_of_ble_eq_true rfl) ?_
  rintro _ _ ⟨rfl, rfl⟩
  refine g_if_eq (tgt := 24) dX11_atom_9 (by decide) (fun c_9 => ?_) (fun c_9 => ?_)
  · refine g_iload_n dX11_atom_24 rfl rfl ?_
    refine g_callS dX11_atom_25 cs_X11_149 (as := [_]) e_letter (by omega) rfl rfl (Nat.le_of_ble_eq_true rfl) ?_
    rintro _ _ ⟨rfl, rfl⟩
    refine g_ic_m1 dX11_atom_28 ?_
    refine g_icmp_eq (tgt := 54) dX11_atom_29 (by decide) (fun c_29 => ?_) (fun c_29 => ?_)
    · refine g_iload_n dX11_atom_54 rfl rfl ?_
      refine g_bipush (v := 91) dX11_atom_55 (by decide) ?_
      refine g_icmp_ne (tgt := 85) dX11_atom_57 (by decide) (fun c_57 => ?_) (fun c_57 => ?_)
      · refine g_aload_n dX11_atom_85 rfl rfl ?_
        refine g_callV dX11_atom_86 cv_X11_132 (as' := []) hp_46 rfl (z_bad tp h1 (Nat.le_refl _)) (by omega) rfl rfl (Nat.le_of_ble_eq_true rfl) ?_
        rintro _ _ ⟨rfl, A3, I3, h3, rfl⟩
        exact g_vret dX11_atom_89 ⟨rfl, A3, I3, MS_e (by rw [bnd_eq (show atomF (A0 47) n none b = _ from (if_pos (by rw [lf_bt tp, c_29]; decide)).trans (if_neg c_57)), show numP (A0 47) n 4 0 9999 (sk (A0 47) n b) = .inl (sk (A0 47) n b) from (if_neg (by rw [sk_sk]; exact dg_Z.mp c_9)).trans (by rw [sk_sk])]; exact h3) (fun p _ => by omega), rfl⟩
      · refine g_aload_n dX11_atom_60 rfl rfl ?_
        refine g_callV dX11_atom_61 cv_X11_153 (as' := []) hp_46 rfl (z_opens6 tp hq q4 h1 rfl) (by omega) rfl rfl (Nat.le_of_ble_eq_true rfl) ?_
        rintro _ _ ⟨rfl, A3, I3, h3, rfl⟩
        refine g_aload_n dX11_atom_64 rfl rfl ?_
        refine g_get dX11_atom_65 fl_X11_123 hp_46 rfl ?_
        refine g_ic_m1 dX11_atom_68 ?_
        refine g_icmp_ne (tgt := 89) dX11_atom_69 (by decide) (fun c_69 => ?_) (fun c_69 => ?_)
        · exact g_vret dX11_atom_89 ⟨rfl, A3, I3, MS_e (by rw [bnd_eq (show atomF (A0 47) n none b = _ from (if_pos (by rw [lf_bt tp, c_29]; decide)).trans (if_pos c_57))]; exact h3) (fun p _ => by omega), rfl⟩
        · exact absurd c_69 (MS_l tp.2.1 h3)
    · obtain ⟨l, hl, hl2⟩ := le_l c_29
      have h2 := MS_at h1 (bt_lt (le_m1 hl hl2))
      refine g_aload_n dX11_atom_32 rfl rfl ?_
      refine g_dup dX11_atom_33 rfl ?_
      refine g_get dX11_atom_34 fl_X11_116 hp_46 rfl ?_
      refine g_ic_1 dX11_atom_37 ?_
      refine g_iadd dX11_atom_38 ?_
      refine g_puti dX11_atom_39 fw_X11_116 hp_46 (Nat.le_of_ble_eq_true rfl) ?_
      rw [hq_46_3]
      refine g_aload_n dX11_atom_42 rfl rfl ?_
      refine g_ic_1 dX11_atom_43 ?_
      refine g_iload_n dX11_atom_44 rfl rfl ?_
      refine g_callS dX11_atom_45 cs_X11_149 (as := [_]) e_letter (by omega) rfl rfl (Nat.le_of_ble_eq_true rfl) ?_
      rintro _ _ ⟨rfl, rfl⟩
      refine g_callV dX11_atom_48 cv_X11_145 (as' := [_, _]) hp_46 rfl (z_put (x := wd 1 (nI l)) tp hq q4 h2 (by decide) (op_let hl).1.symm (hl2.trans (op_let hl).2.symm)) (by omega) rfl rfl (Nat.le_of_ble_eq_true rfl) ?_
      rintro _ _ ⟨rfl, A3, I3, h3, rfl⟩
      refine g_goto (tgt := 89) dX11_atom_51 (by decide) ?_
      exact g_vret dX11_atom_89 ⟨rfl, A3, I3, MS_e (e := 0 + 1) (by rw [bnd_eq (show atomF (A0 47) n none b = _ from if_neg (by rw [lf_bt tp, hl2]; exact le_no hl)), lf_bt tp, hl2]; exact h3) (fun p _ => by omega), rfl⟩
  · refine g_aload_n dX11_atom_12 rfl rfl ?_
    refine g_ic_0 dX11_atom_13 ?_
    refine g_aload_n dX11_atom_14 rfl rfl ?_
    have hdg : isDg (bt (A0 47) n (sk (A0 47) n b)) := Decidable.byContradiction (fun z => c_9 (dg_Z.mpr z))
    have hle : leZ (bt (A0 47) n (sk (A0 47) n b)) = (-1) := by
      obtain ⟨m, m1, m2, m3⟩ := isDg_n hdg
      rw [m3]
      exact le_dig m m1 m2
    refine g_callV dX11_atom_15 cv_X11_142 (as' := []) hp_46 rfl (z_plain tp hq q4 h1 hdg) (by omega) rfl rfl (Nat.le_of_ble_eq_true rfl) ?_
    rintro _ _ ⟨v, m, s1, rfl, hm, hv, A2, I2, h2, he2, rfl⟩
    refine g_callV dX11_atom_18 cv_X11_145 (as' := [_, _]) hp_46 rfl (z_put (x := wd 0 v) tp hq q4 h2 (by decide) (by rw [hv]; exact (op_num hm).1.symm) (by rw [hv]; exact (op_num hm).2.symm)) (by omega) rfl rfl (Nat.le_of_ble_eq_true rfl) ?_
    rintro _ _ ⟨rfl, A3, I3, h3, rfl⟩
    refine g_goto (tgt := 89) dX11_atom_21 (by decide) ?_
    exact g_vret dX11_atom_89 ⟨rfl, A3, I3, MS_e (by rw [bnd_eq (show atomF (A0 47) n none b = _ from (if_pos (by rw [lf_bt tp, hle]; decide)).trans (if_neg (fun z => by rw [z] at hdg; exact absurd hdg.2 (by decide)))), ← bnd_eq (f := fun b => numW (numP (A0 47) n 4 0 9999 b)) (a := sk (A0 47) n b) rfl, ← he2]; exact h3) (fun p _ => by omega), rfl⟩

set_option maxHeartbeats 800000 in
set_option maxRecDepth 100000 in
theorem z_atomS {A0 I0 A I : Nat → Nat → Int32} {L : Nat → Nat → Int64} {X : Nat → Int64} {q n : Nat} {W : TL} {k e b : Nat} {u : TL} {r : Nat}  (hr : r + 1 ≤ 6) (hS : ZSum r) (tp : tpM A0 I0 n) (hq : I0 46 14 = nI q) (q4 : q ≤ 4) (h : MS A0 I0 q n (6 - (r + 1)) W k e (.inr (b, u)) A I) : Con (4 + 3 * (r + 1)) yX11_atom cX11_atom 2 none [.ref 46] (hp A L I X) (RM A0 L I0 X q n (6 - (r + 1)) W k (2 * (r + 1) + 1) (bnd (.inr (b, u)) (atomF (A0 47) n (some (sumP (A0 47) n r))))) := by
  refine m_con (by decide) (Nat.le_of_ble_eq_true rfl) ?_
  refine g_aload_n dX11_atom_0 rfl rfl ?_
  refine g_callV dX11_atom_1 cv_X11_135 (as' := []) hp_46 rfl (z_look tp hq q4 (MS_0 (e' := 0) h)) (by omega) rfl rfl (Nat.le_of_ble_eq_true rfl) ?_
  rintro _ _ ⟨rfl, A1, I1, h1, rfl⟩
  refine g_istore_n dX11_atom_4 rfl (by decide) ?_
  refine g_iload_n dX11_atom_5 rfl rfl ?_
  refine g_callS dX11_atom_6 cs_X11_138 (as := [_]) e_digit (by omega) rfl rfl (Nat.le_of_ble_eq_true rfl) ?_
  rintro _ _ ⟨rfl, rfl⟩
  refine g_if_eq (tgt := 24) dX11_atom_9 (by decide) (fun c_9 => ?_) (fun c_9 => ?_)
  · refine g_iload_n dX11_atom_24 rfl rfl ?_
    refine g_callS dX11_atom_25 cs_X11_149 (as := [_]) e_letter (by omega) rfl rfl (Nat.le_of_ble_eq_true rfl) ?_
    rintro _ _ ⟨rfl, rfl⟩
    refine g_ic_m1 dX11_atom_28 ?_
    refine g_icmp_eq (tgt := 54) dX11_atom_29 (by decide) (fun c_29 => ?_) (fun c_29 => ?_)
    · refine g_iload_n dX11_atom_54 rfl rfl ?_
      refine g_bipush (v := 91) dX11_atom_55 (by decide) ?_
      refine g_icmp_ne (tgt := 85) dX11_atom_57 (by decide) (fun c_57 => ?_) (fun c_57 => ?_)
      · refine g_aload_n dX11_atom_85 rfl rfl ?_
        refine g_callV dX11_atom_86 cv_X11_132 (as' := []) hp_46 rfl (z_bad tp h1 (Nat.le_refl _)) (by omega) rfl rfl (Nat.le_of_ble_eq_true rfl) ?_
        rintro _ _ ⟨rfl, A3, I3, h3, rfl⟩
        exact g_vret dX11_atom_89 ⟨rfl, A3, I3, MS_e (by rw [bnd_eq (show atomF (A0 47) n (some (sumP (A0 47) n r)) b = _ from (if_pos (by rw [lf_bt tp, c_29]; decide)).trans (if_neg c_57)), show numP (A0 47) n 4 0 9999 (sk (A0 47) n b) = .inl (sk (A0 47) n b) from (if_neg (by rw [sk_sk]; exact dg_Z.mp c_9)).trans (by rw [sk_sk])]; exact h3) (fun p _ => by omega), rfl⟩
      · refine g_aload_n dX11_atom_60 rfl rfl ?_
        refine g_callV dX11_atom_61 cv_X11_153 (as' := []) hp_46 rfl (z_opens tp hq q4 h1 (by omega) (bt_lt (by rw [c_57]; decide))) (by omega) rfl rfl (Nat.le_of_ble_eq_true rfl) ?_
        rintro _ _ ⟨rfl, A2, I2, h2, rfl⟩
        refine g_aload_n dX11_atom_64 rfl rfl ?_
        refine g_get dX11_atom_65 fl_X11_123 hp_46 rfl ?_
        refine g_ic_m1 dX11_atom_68 ?_
        refine g_icmp_ne (tgt := 89) dX11_atom_69 (by decide) (fun c_69 => ?_) (fun c_69 => ?_)
        · exact absurd h2.2.2.1 c_69
        · refine g_aload_n dX11_atom_72 rfl rfl ?_
          refine g_callV dX11_atom_73 cv_X11_156 (as' := []) hp_46 rfl (hS tp hq q4 (MS_d (show 6 - (r + 1) + 1 = 6 - r by omega) h2)) (by omega) rfl rfl (Nat.le_of_ble_eq_true rfl) ?_
          rintro _ _ ⟨rfl, A4, I4, h4, rfl⟩
          refine g_aload_n dX11_atom_76 rfl rfl ?_
          refine g_bipush (v := 93) dX11_atom_77 (by decide) ?_
          refine g_callV dX11_atom_79 cv_X11_159 (as' := [_]) hp_46 rfl (z_closes tp hq q4 (by decide) (by omega) (MS_d (show 6 - r = 6 - (r + 1) + 1 by omega) h4)) (by omega) rfl rfl (Nat.le_of_ble_eq_true rfl) ?_
          rintro _ _ ⟨rfl, A3, I3, h3, rfl⟩
          refine g_goto (tgt := 89) dX11_atom_82 (by decide) ?_
          exact g_vret dX11_atom_89 ⟨rfl, A3, I3, MS_k (MS_e (by rw [bnd_eq (show atomF (A0 47) n (some (sumP (A0 47) n r)) b = _ from (if_pos (by rw [lf_bt tp, c_29]; decide)).trans (if_pos c_57)), ← bnd_eq (f := fun a => exS (A0 47) n 93 (sumP (A0 47) n r a)) (a := sk (A0 47) n b + 1) rfl, ← exS_bnd]; exact h3) (fun p _ => by omega)) (by omega), rfl⟩
    · obtain ⟨l, hl, hl2⟩ := le_l c_29
      have h2 := MS_at h1 (bt_lt (le_m1 hl hl2))
      refine g_aload_n dX11_atom_32 rfl rfl ?_
      refine g_dup dX11_atom_33 rfl ?_
      refine g_get dX11_atom_34 fl_X11_116 hp_46 rfl ?_
      refine g_ic_1 dX11_atom_37 ?_
      refine g_iadd dX11_atom_38 ?_
      refine g_puti dX11_atom_39 fw_X11_116 hp_46 (Nat.le_of_ble_eq_true rfl) ?_
      rw [hq_46_3]
      refine g_aload_n dX11_atom_42 rfl rfl ?_
      refine g_ic_1 dX11_atom_43 ?_
      refine g_iload_n dX11_atom_44 rfl rfl ?_
      refine g_callS dX11_atom_45 cs_X11_149 (as := [_]) e_letter (by omega) rfl rfl (Nat.le_of_ble_eq_true rfl) ?_
      rintro _ _ ⟨rfl, rfl⟩
      refine g_callV dX11_atom_48 cv_X11_145 (as' := [_, _]) hp_46 rfl (z_put (x := wd 1 (nI l)) tp hq q4 h2 (by decide) (op_let hl).1.symm (hl2.trans (op_let hl).2.symm)) (by omega) rfl rfl (Nat.le_of_ble_eq_true rfl) ?_
      rintro _ _ ⟨rfl, A3, I3, h3, rfl⟩
      refine g_goto (tgt := 89) dX11_atom_51 (by decide) ?_
      exact g_vret dX11_atom_89 ⟨rfl, A3, I3, MS_e (e := 0 + 1) (by rw [bnd_eq (show atomF (A0 47) n (some (sumP (A0 47) n r)) b = _ from if_neg (by rw [lf_bt tp, hl2]; exact le_no hl)), lf_bt tp, hl2]; exact h3) (fun p _ => by omega), rfl⟩
  · refine g_aload_n dX11_atom_12 rfl rfl ?_
    refine g_ic_0 dX11_atom_13 ?_
    refine g_aload_n dX11_atom_14 rfl rfl ?_
    have hdg : isDg (bt (A0 47) n (sk (A0 47) n b)) := Decidable.byContradiction (fun z => c_9 (dg_Z.mpr z))
    have hle : leZ (bt (A0 47) n (sk (A0 47) n b)) = (-1) := by
      obtain ⟨m, m1, m2, m3⟩ := isDg_n hdg
      rw [m3]
      exact le_dig m m1 m2
    refine g_callV dX11_atom_15 cv_X11_142 (as' := []) hp_46 rfl (z_plain tp hq q4 h1 hdg) (by omega) rfl rfl (Nat.le_of_ble_eq_true rfl) ?_
    rintro _ _ ⟨v, m, s1, rfl, hm, hv, A2, I2, h2, he2, rfl⟩
    refine g_callV dX11_atom_18 cv_X11_145 (as' := [_, _]) hp_46 rfl (z_put (x := wd 0 v) tp hq q4 h2 (by decide) (by rw [hv]; exact (op_num hm).1.symm) (by rw [hv]; exact (op_num hm).2.symm)) (by omega) rfl rfl (Nat.le_of_ble_eq_true rfl) ?_
    rintro _ _ ⟨rfl, A3, I3, h3, rfl⟩
    refine g_goto (tgt := 89) dX11_atom_21 (by decide) ?_
    exact g_vret dX11_atom_89 ⟨rfl, A3, I3, MS_e (by rw [bnd_eq (show atomF (A0 47) n (some (sumP (A0 47) n r)) b = _ from (if_pos (by rw [lf_bt tp, hle]; decide)).trans (if_neg (fun z => by rw [z] at hdg; exact absurd hdg.2 (by decide)))), ← bnd_eq (f := fun b => numW (numP (A0 47) n 4 0 9999 b)) (a := sk (A0 47) n b) rfl, ← he2]; exact h3) (fun p _ => by omega), rfl⟩

/-- reading goes on -/
def PG (s : PR TL) (a : Nat) : Prop := ∀ d v, s = .inr (d, v) → a ≤ d
theorem PG_n {T : Nat → Int32} {n k a : Nat} {lo hi : Int32} : PG (numW (numP T n k lo hi a)) a := by
  intro d v h
  have hs := sk_ge (T := T) (n := n) (a := a)
  have hg := dgL_ge (T := T) (n := n) k (sk T n a) 0
  unfold numP at h
  split at h
  · split at h
    · cases h
    · split at h
      · cases h
      · cases h; omega
  · cases h
theorem PG_ex {T : Nat → Int32} {n a : Nat} {c : Int32} {s : PR TL} (h : PG s a) : PG (exS T n c s) a := by
  intro d v hd
  cases s with
  | inl p => cases hd
  | inr x =>
    obtain ⟨b, u⟩ := x
    have h1 := h b u rfl
    have hs := sk_ge (T := T) (n := n) (a := b)
    unfold exS at hd
    simp only at hd
    split at hd
    · cases hd; omega
    · cases hd
theorem PG_wr {a : Nat} {x : Int32} {s : PR TL} (h : PG s a) : PG (wrS x s) a := by
  intro d v hd
  cases s with
  | inl p => cases hd
  | inr y => cases hd; exact h _ _ rfl
theorem PG_bnd {a : Nat} {s : PR TL} {f : Nat → PR TL} (h : PG s a) (hf : ∀ b, PG (f b) b) : PG (bnd s f) a := by
  intro d v hd
  cases s with
  | inl p => cases hd
  | inr y =>
    obtain ⟨b, u⟩ := y
    have h1 := h b u rfl
    cases hfb : f b with
    | inl p => rw [bnd_eq hfb] at hd; cases hd
    | inr z =>
      obtain ⟨d2, v2⟩ := z
      rw [bnd_eq hfb] at hd
      have h2 := hf b d2 v2 hfb
      cases hd
      omega
theorem PG_lp {T : Nat → Int32} {n : Nat} {item : Nat → PR TL} {op : Int32 → Bool} (hi : ∀ b, PG (item b) b) {a : Nat} : ∀ f (s : PR TL), PG s a → PG (lpB T n item op f s) a
  | 0, s, h => by
    intro d v hd
    cases s with
    | inl p => cases hd
    | inr y => cases hd; exact h _ _ rfl
  | f + 1, s, h => by
    cases s with
    | inl p => intro d v hd; cases hd
    | inr y =>
      obtain ⟨b, u⟩ := y
      have h1 := h b u rfl
      have hs := sk_ge (T := T) (n := n) (a := b)
      by_cases c : op (bt T n (sk T n b)) = true
      · rw [lpB_step c]
        refine PG_lp hi f _ (PG_wr (PG_bnd ?_ hi))
        intro d v hd
        cases hd
        omega
      · rw [lpB_stop c]
        intro d v hd
        cases hd
        omega
theorem PG_atom {T : Nat → Int32} {n : Nat} {sub : Option (Nat → PR TL)} (hs : ∀ g, sub = some g → ∀ a, PG (g a) a) (a : Nat) : PG (atomF T n sub a) a := by
  have hk := sk_ge (T := T) (n := n) (a := a)
  unfold atomF
  split
  · split
    · cases sub with
      | none => intro d v hd; cases hd
      | some g =>
        have h1 : PG (exS T n 93 (g (sk T n a + 1))) (sk T n a + 1) := PG_ex (hs g rfl _)
        intro d v hd
        have := h1 d v hd
        omega
    · intro d v hd
      have := PG_n d v hd
      omega
  · intro d v hd
    cases hd
    omega
theorem PG_term {T : Nat → Int32} {n : Nat} {sub : Option (Nat → PR TL)} (hs : ∀ g, sub = some g → ∀ a, PG (g a) a) (a : Nat) : PG (termF T n sub a) a := PG_lp (PG_atom hs) 240 _ (PG_atom hs a)
theorem PG_sumF {T : Nat → Int32} {n : Nat} {sub : Option (Nat → PR TL)} (hs : ∀ g, sub = some g → ∀ a, PG (g a) a) (a : Nat) : PG (sumF T n sub a) a := PG_lp (PG_term hs) 240 _ (PG_term hs a)
theorem PG_sum {T : Nat → Int32} {n : Nat} : ∀ r a, PG (sumP T n r a) a
  | 0, a => PG_sumF (fun g hg => by cases hg) a
  | r + 1, a => PG_sumF (fun g hg => by cases hg; exact PG_sum r) a
theorem PG_sub {T : Nat → Int32} {n : Nat} : ∀ r g, subP T n r = some g → ∀ a, PG (g a) a
  | 0, g, hg => by cases hg
  | r + 1, g, hg => by cases hg; exact PG_sum r
/-- what is looked at behind s -/
def cV (T : Nat → Int32) (n : Nat) (s : PR TL) : Int32 := match s with
  | .inl _ => (-1)
  | .inr (b, _) => bt T n (sk T n b)
theorem lp_end {T : Nat → Int32} {n : Nat} {item : Nat → PR TL} {op : Int32 → Bool} {f : Nat} {s : PR TL} (hm : op (-1) = false) (hf : ∀ b u, s = .inr (b, u) → n ≤ b + f) (h : ¬ op (cV T n s) = true) : lpB T n item op f s = lkS T n s := by
  cases s with
  | inl p => rfl
  | inr x =>
    obtain ⟨b, u⟩ := x
    cases f with
    | zero =>
      have h1 := hf b u rfl
      show (.inr (b, u) : PR TL) = .inr (sk T n b, u)
      rw [sk_out (by omega)]
    | succ f => exact lpB_stop h
theorem lp_go {T : Nat → Int32} {n : Nat} {item : Nat → PR TL} {op : Int32 → Bool} {f : Nat} {s : PR TL} (hm : op (-1) = false) (hf : ∀ b u, s = .inr (b, u) → n ≤ b + f) (h : op (cV T n s) = true) : ∃ b u f', s = .inr (b, u) ∧ f = f' + 1 ∧ sk T n b < n ∧ lpB T n item op f s = lpB T n item op f' (wrS (wd 2 (cV T n s)) (bnd (.inr (sk T n b + 1, u)) item)) := by
  cases s with
  | inl p => rw [show cV T n (.inl p) = (-1) from rfl, hm] at h; cases h
  | inr x =>
    obtain ⟨b, u⟩ := x
    have hlt : sk T n b < n := bt_lt (fun z => by rw [show cV T n (.inr (b, u)) = bt T n (sk T n b) from rfl, z, hm] at h; cases h)
    cases f with
    | zero =>
      have h1 := hf b u rfl
      have h2 := sk_ge (T := T) (n := n) (a := b)
      omega
    | succ f => exact ⟨b, u, f, rfl, rfl, hlt, lpB_step h⟩
theorem sumP_F {T : Nat → Int32} {n : Nat} : ∀ r, sumP T n r = sumF T n (subP T n r)
  | 0 => rfl
  | _ + 1 => rfl
set_option maxHeartbeats 800000 in
set_option maxRecDepth 100000 in
theorem z_term_loop {A0 I0 : Nat → Nat → Int32} {L : Nat → Nat → Int64} {X : Nat → Int64} {q n r : Nat} {W : TL} {k : Nat} {Q : Option Value → m_H → Prop} (tp : tpM A0 I0 n) (hq : I0 46 14 = nI q) (q4 : q ≤ 4) (hr : r ≤ 6) (hI : ZAtom r) : ∀ f (s : PR TL) c A I, (∀ b u, s = .inr (b, u) → n ≤ b + f) → c = cV (A0 47) n s → MS A0 I0 q n (6 - r) W k (2 * r + 2) (lkS (A0 47) n s) A I → (∀ A1 I1, MS A0 I0 q n (6 - r) W k (2 * r + 2) (lpB (A0 47) n (atomF (A0 47) n (subP (A0 47) n r)) opM f s) A1 I1 → Q none (hp A1 L I1 X)) → G (5 + 3 * r) RX11 cX11_term 2 none Q 21 [some (.ref 46), some (.int (c))] [] (hp A L I X) := by
  intro f
  induction f using Nat.strongRecOn with
  | ind f ih =>
    intro s c A I hf hc h hQ
    refine g_iload_n dX11_term_21 rfl rfl ?_
    refine g_bipush (v := 42) dX11_term_22 (by decide) ?_
    refine g_icmp_eq (tgt := 33) dX11_term_24 (by decide) (fun c_24 => ?_) (fun c_24 => ?_)
    · have hop : opM (cV (A0 47) n s) = true := by rw [← hc, c_24]; decide
      obtain ⟨b, u, f', rfl, rfl, hlt, hlp⟩ := lp_go (item := (atomF (A0 47) n (subP (A0 47) n r))) (f := f) (by decide) hf hop
      rw [← hc, c_24] at hlp
      have h2 : MS A0 I0 q n (6 - r) W k (2 * r + 2) (.inr (sk (A0 47) n b, u)) A I := h
      have h3 := MS_at h2 hlt
      rw [c_24]
      refine g_aload_n dX11_term_33 rfl rfl ?_
      refine g_dup dX11_term_34 rfl ?_
      refine g_get dX11_term_35 fl_X11_116 hp_46 rfl ?_
      refine g_ic_1 dX11_term_38 ?_
      refine g_iadd dX11_term_39 ?_
      refine g_puti dX11_term_40 fw_X11_116 hp_46 (Nat.le_of_ble_eq_true rfl) ?_
      rw [hq_46_3]
      refine g_aload_n dX11_term_43 rfl rfl ?_
      refine g_callV dX11_term_44 cv_X11_163 (as' := []) hp_46 rfl (hI tp hq q4 h3) (by omega) rfl rfl (Nat.le_of_ble_eq_true rfl) ?_
      rintro _ _ ⟨rfl, A4, I4, h4, rfl⟩
      refine g_aload_n dX11_term_47 rfl rfl ?_
      refine g_iload_n dX11_term_48 rfl rfl ?_
      refine g_bipush (v := 42) dX11_term_49 (by decide) ?_
      refine g_icmp_ne (tgt := 58) dX11_term_51 (by decide) (fun c_51 => ?_) (fun c_51 => ?_)
      · exact absurd rfl c_51
      · refine g_ic_4 dX11_term_54 ?_
        refine g_goto (tgt := 59) dX11_term_55 (by decide) ?_
        refine g_ic_0 dX11_term_59 ?_
        refine g_callV dX11_term_60 cv_X11_145 (as' := [_, _]) hp_46 rfl (z_put (x := wd 2 42) tp hq q4 h4 (by omega) (by decide) (by decide)) (by omega) rfl rfl (Nat.le_of_ble_eq_true rfl) ?_
        rintro _ _ ⟨rfl, A5, I5, h5, rfl⟩
        refine g_aload_n dX11_term_63 rfl rfl ?_
        refine g_get dX11_term_64 fl_X11_123 hp_46 rfl ?_
        refine g_ic_m1 dX11_term_67 ?_
        refine g_icmp_ne (tgt := 78) dX11_term_68 (by decide) (fun c_68 => ?_) (fun c_68 => ?_)
        · refine g_ic_m1 dX11_term_78 ?_
          refine g_istore_n dX11_term_79 rfl (by decide) ?_
          refine g_goto (tgt := 21) dX11_term_80 (by decide) ?_
          have hs5 : ∀ b' u', (wrS (wd 2 42) (bnd (.inr (sk (A0 47) n b + 1, u)) (atomF (A0 47) n (subP (A0 47) n r)))) = .inr (b', u') → n ≤ b' + f' := fun b' u' z => by
            have g1 := PG_wr (PG_bnd (s := .inr (sk (A0 47) n b + 1, u)) (a := b + 1) (fun d v hd => by cases hd; have := sk_ge (T := A0 47) (n := n) (a := b); omega) (PG_atom (PG_sub r))) b' u' z
            have := hf b u rfl
            omega
          rw [hlp] at hQ
          obtain ⟨p5, e5⟩ := MS_ne h5 c_68
          refine ih f' (Nat.lt_succ_self f') (wrS (wd 2 42) (bnd (.inr (sk (A0 47) n b + 1, u)) (atomF (A0 47) n (subP (A0 47) n r)))) _ A5 I5 hs5 (by rw [e5]; rfl) (MS_e (by have h6 := h5; rw [e5] at h6 ⊢; exact h6) (fun p _ => by omega)) hQ
        · refine g_aload_n dX11_term_71 rfl rfl ?_
          obtain ⟨b5, u5, e5⟩ := MS_eq tp.2.1 h5 c_68
          have h6 := h5
          rw [e5] at h6
          refine g_callV dX11_term_72 cv_X11_135 (as' := []) hp_46 rfl (z_look tp hq q4 h6) (by omega) rfl rfl (Nat.le_of_ble_eq_true rfl) ?_
          rintro _ _ ⟨rfl, A6, I6, h7, rfl⟩
          refine g_goto (tgt := 79) dX11_term_75 (by decide) ?_
          refine g_istore_n dX11_term_79 rfl (by decide) ?_
          refine g_goto (tgt := 21) dX11_term_80 (by decide) ?_
          have hs5 : ∀ b' u', (wrS (wd 2 42) (bnd (.inr (sk (A0 47) n b + 1, u)) (atomF (A0 47) n (subP (A0 47) n r)))) = .inr (b', u') → n ≤ b' + f' := fun b' u' z => by
            have g1 := PG_wr (PG_bnd (s := .inr (sk (A0 47) n b + 1, u)) (a := b + 1) (fun d v hd => by cases hd; have := sk_ge (T := A0 47) (n := n) (a := b); omega) (PG_atom (PG_sub r))) b' u' z
            have := hf b u rfl
            omega
          rw [hlp] at hQ
          refine ih f' (Nat.lt_succ_self f') (wrS (wd 2 42) (bnd (.inr (sk (A0 47) n b + 1, u)) (atomF (A0 47) n (subP (A0 47) n r)))) _ A6 I6 hs5 (by rw [e5]; rfl) (by rw [e5]; exact h7) hQ
    · refine g_iload_n dX11_term_27 rfl rfl ?_
      refine g_bipush (v := 47) dX11_term_28 (by decide) ?_
      refine g_icmp_ne (tgt := 83) dX11_term_30 (by decide) (fun c_30 => ?_) (fun c_30 => ?_)
      · exact g_vret dX11_term_83 (hQ _ _ (by rw [lp_end (by decide) hf (fun z => by rw [← hc] at z; unfold opM at z; simp only [Bool.or_eq_true, decide_eq_true_eq] at z; exact z.elim c_24 c_30)]; exact h))
      · have hop : opM (cV (A0 47) n s) = true := by rw [← hc, c_30]; decide
        obtain ⟨b, u, f', rfl, rfl, hlt, hlp⟩ := lp_go (item := (atomF (A0 47) n (subP (A0 47) n r))) (f := f) (by decide) hf hop
        rw [← hc, c_30] at hlp
        have h2 : MS A0 I0 q n (6 - r) W k (2 * r + 2) (.inr (sk (A0 47) n b, u)) A I := h
        have h3 := MS_at h2 hlt
        rw [c_30]
        refine g_aload_n dX11_term_33 rfl rfl ?_
        refine g_dup dX11_term_34 rfl ?_
        refine g_get dX11_term_35 fl_X11_116 hp_46 rfl ?_
        refine g_ic_1 dX11_term_38 ?_
        refine g_iadd dX11_term_39 ?_
        refine g_puti dX11_term_40 fw_X11_116 hp_46 (Nat.le_of_ble_eq_true rfl) ?_
        rw [hq_46_3]
        refine g_aload_n dX11_term_43 rfl rfl ?_
        refine g_callV dX11_term_44 cv_X11_163 (as' := []) hp_46 rfl (hI tp hq q4 h3) (by omega) rfl rfl (Nat.le_of_ble_eq_true rfl) ?_
        rintro _ _ ⟨rfl, A4, I4, h4, rfl⟩
        refine g_aload_n dX11_term_47 rfl rfl ?_
        refine g_iload_n dX11_term_48 rfl rfl ?_
        refine g_bipush (v := 42) dX11_term_49 (by decide) ?_
        refine g_icmp_ne (tgt := 58) dX11_term_51 (by decide) (fun c_51 => ?_) (fun c_51 => ?_)
        · refine g_ic_5 dX11_term_58 ?_
          refine g_ic_0 dX11_term_59 ?_
          refine g_callV dX11_term_60 cv_X11_145 (as' := [_, _]) hp_46 rfl (z_put (x := wd 2 47) tp hq q4 h4 (by omega) (by decide) (by decide)) (by omega) rfl rfl (Nat.le_of_ble_eq_true rfl) ?_
          rintro _ _ ⟨rfl, A5, I5, h5, rfl⟩
          refine g_aload_n dX11_term_63 rfl rfl ?_
          refine g_get dX11_term_64 fl_X11_123 hp_46 rfl ?_
          refine g_ic_m1 dX11_term_67 ?_
          refine g_icmp_ne (tgt := 78) dX11_term_68 (by decide) (fun c_68 => ?_) (fun c_68 => ?_)
          · refine g_ic_m1 dX11_term_78 ?_
            refine g_istore_n dX11_term_79 rfl (by decide) ?_
            refine g_goto (tgt := 21) dX11_term_80 (by decide) ?_
            have hs5 : ∀ b' u', (wrS (wd 2 47) (bnd (.inr (sk (A0 47) n b + 1, u)) (atomF (A0 47) n (subP (A0 47) n r)))) = .inr (b', u') → n ≤ b' + f' := fun b' u' z => by
              have g1 := PG_wr (PG_bnd (s := .inr (sk (A0 47) n b + 1, u)) (a := b + 1) (fun d v hd => by cases hd; have := sk_ge (T := A0 47) (n := n) (a := b); omega) (PG_atom (PG_sub r))) b' u' z
              have := hf b u rfl
              omega
            rw [hlp] at hQ
            obtain ⟨p5, e5⟩ := MS_ne h5 c_68
            refine ih f' (Nat.lt_succ_self f') (wrS (wd 2 47) (bnd (.inr (sk (A0 47) n b + 1, u)) (atomF (A0 47) n (subP (A0 47) n r)))) _ A5 I5 hs5 (by rw [e5]; rfl) (MS_e (by have h6 := h5; rw [e5] at h6 ⊢; exact h6) (fun p _ => by omega)) hQ
          · refine g_aload_n dX11_term_71 rfl rfl ?_
            obtain ⟨b5, u5, e5⟩ := MS_eq tp.2.1 h5 c_68
            have h6 := h5
            rw [e5] at h6
            refine g_callV dX11_term_72 cv_X11_135 (as' := []) hp_46 rfl (z_look tp hq q4 h6) (by omega) rfl rfl (Nat.le_of_ble_eq_true rfl) ?_
            rintro _ _ ⟨rfl, A6, I6, h7, rfl⟩
            refine g_goto (tgt := 79) dX11_term_75 (by decide) ?_
            refine g_istore_n dX11_term_79 rfl (by decide) ?_
            refine g_goto (tgt := 21) dX11_term_80 (by decide) ?_
            have hs5 : ∀ b' u', (wrS (wd 2 47) (bnd (.inr (sk (A0 47) n b + 1, u)) (atomF (A0 47) n (subP (A0 47) n r)))) = .inr (b', u') → n ≤ b' + f' := fun b' u' z => by
              have g1 := PG_wr (PG_bnd (s := .inr (sk (A0 47) n b + 1, u)) (a := b + 1) (fun d v hd => by cases hd; have := sk_ge (T := A0 47) (n := n) (a := b); omega) (PG_atom (PG_sub r))) b' u' z
              have := hf b u rfl
              omega
            rw [hlp] at hQ
            refine ih f' (Nat.lt_succ_self f') (wrS (wd 2 47) (bnd (.inr (sk (A0 47) n b + 1, u)) (atomF (A0 47) n (subP (A0 47) n r)))) _ A6 I6 hs5 (by rw [e5]; rfl) (by rw [e5]; exact h7) hQ
        · exact absurd c_51 (by decide)

set_option maxHeartbeats 800000 in
set_option maxRecDepth 100000 in
theorem z_term {r : Nat} (hr : r ≤ 6) (hI : ZAtom r) : ZTerm r := by
  intro A0 I0 A I L X q n W k e b u tp hq q4 h
  refine m_con (by decide) (by show (m_ent1 [Value.ref 46]).length ≤ 2; decide) ?_
  rw [show bnd (.inr (b, u)) (termF (A0 47) n (subP (A0 47) n r)) = (lpB (A0 47) n (atomF (A0 47) n (subP (A0 47) n r)) opM 240 (bnd (.inr (b, u)) (atomF (A0 47) n (subP (A0 47) n r)))) from lpB_bnd.symm]
  refine g_aload_n dX11_term_0 rfl rfl ?_
  refine g_callV dX11_term_1 cv_X11_163 (as' := []) hp_46 rfl (hI tp hq q4 h) (by omega) rfl rfl (Nat.le_of_ble_eq_true rfl) ?_
  rintro _ _ ⟨rfl, A1, I1, h1, rfl⟩
  refine g_aload_n dX11_term_4 rfl rfl ?_
  refine g_get dX11_term_5 fl_X11_123 hp_46 rfl ?_
  refine g_ic_m1 dX11_term_8 ?_
  refine g_icmp_ne (tgt := 19) dX11_term_9 (by decide) (fun c_9 => ?_) (fun c_9 => ?_)
  · refine g_ic_m1 dX11_term_19 ?_
    refine g_istore_n dX11_term_20 rfl (by decide) ?_
    obtain ⟨p1, e1⟩ := MS_ne h1 c_9
    refine g_loc (ls' := [some (.ref 46), some (.int (-1))]) (fun i v h => by rcases i with _|_|_ <;> first | exact h | cases h) ?_
    refine z_term_loop tp hq q4 hr hI 240 (bnd (.inr (b, u)) (atomF (A0 47) n (subP (A0 47) n r))) _ A1 I1 (fun b' u' _ => by have := tp.2.1; omega) (by rw [e1]; rfl) (MS_e (by have h6 := h1; rw [e1] at h6 ⊢; exact h6) (fun p _ => by omega)) (fun A2 I2 h2 => ⟨rfl, A2, I2, h2, rfl⟩)
  · refine g_aload_n dX11_term_12 rfl rfl ?_
    obtain ⟨b1, u1, e1⟩ := MS_eq tp.2.1 h1 c_9
    have h2 := h1
    rw [e1] at h2
    refine g_callV dX11_term_13 cv_X11_135 (as' := []) hp_46 rfl (z_look tp hq q4 h2) (by omega) rfl rfl (Nat.le_of_ble_eq_true rfl) ?_
    rintro _ _ ⟨rfl, A2, I2, h3, rfl⟩
    refine g_goto (tgt := 20) dX11_term_16 (by decide) ?_
    refine g_istore_n dX11_term_20 rfl (by decide) ?_
    refine z_term_loop tp hq q4 hr hI 240 (bnd (.inr (b, u)) (atomF (A0 47) n (subP (A0 47) n r))) _ A2 I2 (fun b' u' _ => by have := tp.2.1; omega) (by rw [e1]; rfl) (by rw [e1]; exact MS_0 h3) (fun A2 I2 h2 => ⟨rfl, A2, I2, h2, rfl⟩)

set_option maxHeartbeats 800000 in
set_option maxRecDepth 100000 in
theorem z_sum_loop {A0 I0 : Nat → Nat → Int32} {L : Nat → Nat → Int64} {X : Nat → Int64} {q n r : Nat} {W : TL} {k : Nat} {Q : Option Value → m_H → Prop} (tp : tpM A0 I0 n) (hq : I0 46 14 = nI q) (q4 : q ≤ 4) (hr : r ≤ 6) (hI : ZTerm r) : ∀ f (s : PR TL) c A I, (∀ b u, s = .inr (b, u) → n ≤ b + f) → c = cV (A0 47) n s → MS A0 I0 q n (6 - r) W k (2 * r + 3) (lkS (A0 47) n s) A I → (∀ A1 I1, MS A0 I0 q n (6 - r) W k (2 * r + 3) (lpB (A0 47) n (termF (A0 47) n (subP (A0 47) n r)) opA f s) A1 I1 → Q none (hp A1 L I1 X)) → G (6 + 3 * r) RX11 cX11_sum 2 none Q 21 [some (.ref 46), some (.int (c))] [] (hp A L I X) := by
  intro f
  induction f using Nat.strongRecOn with
  | ind f ih =>
    intro s c A I hf hc h hQ
    refine g_iload_n dX11_sum_21 rfl rfl ?_
    refine g_bipush (v := 43) dX11_sum_22 (by decide) ?_
    refine g_icmp_eq (tgt := 33) dX11_sum_24 (by decide) (fun c_24 => ?_) (fun c_24 => ?_)
    · have hop : opA (cV (A0 47) n s) = true := by rw [← hc, c_24]; decide
      obtain ⟨b, u, f', rfl, rfl, hlt, hlp⟩ := lp_go (item := (termF (A0 47) n (subP (A0 47) n r))) (f := f) (by decide) hf hop
      rw [← hc, c_24] at hlp
      have h2 : MS A0 I0 q n (6 - r) W k (2 * r + 3) (.inr (sk (A0 47) n b, u)) A I := h
      have h3 := MS_at h2 hlt
      rw [c_24]
      refine g_aload_n dX11_sum_33 rfl rfl ?_
      refine g_dup dX11_sum_34 rfl ?_
      refine g_get dX11_sum_35 fl_X11_116 hp_46 rfl ?_
      refine g_ic_1 dX11_sum_38 ?_
      refine g_iadd dX11_sum_39 ?_
      refine g_puti dX11_sum_40 fw_X11_116 hp_46 (Nat.le_of_ble_eq_true rfl) ?_
      rw [hq_46_3]
      refine g_aload_n dX11_sum_43 rfl rfl ?_
      refine g_callV dX11_sum_44 cv_X11_166 (as' := []) hp_46 rfl (hI tp hq q4 h3) (by omega) rfl rfl (Nat.le_of_ble_eq_true rfl) ?_
      rintro _ _ ⟨rfl, A4, I4, h4, rfl⟩
      refine g_aload_n dX11_sum_47 rfl rfl ?_
      refine g_iload_n dX11_sum_48 rfl rfl ?_
      refine g_bipush (v := 43) dX11_sum_49 (by decide) ?_
      refine g_icmp_ne (tgt := 58) dX11_sum_51 (by decide) (fun c_51 => ?_) (fun c_51 => ?_)
      · exact absurd rfl c_51
      · refine g_ic_2 dX11_sum_54 ?_
        refine g_goto (tgt := 59) dX11_sum_55 (by decide) ?_
        refine g_ic_0 dX11_sum_59 ?_
        refine g_callV dX11_sum_60 cv_X11_145 (as' := [_, _]) hp_46 rfl (z_put (x := wd 2 43) tp hq q4 h4 (by omega) (by decide) (by decide)) (by omega) rfl rfl (Nat.le_of_ble_eq_true rfl) ?_
        rintro _ _ ⟨rfl, A5, I5, h5, rfl⟩
        refine g_aload_n dX11_sum_63 rfl rfl ?_
        refine g_get dX11_sum_64 fl_X11_123 hp_46 rfl ?_
        refine g_ic_m1 dX11_sum_67 ?_
        refine g_icmp_ne (tgt := 78) dX11_sum_68 (by decide) (fun c_68 => ?_) (fun c_68 => ?_)
        · refine g_ic_m1 dX11_sum_78 ?_
          refine g_istore_n dX11_sum_79 rfl (by decide) ?_
          refine g_goto (tgt := 21) dX11_sum_80 (by decide) ?_
          have hs5 : ∀ b' u', (wrS (wd 2 43) (bnd (.inr (sk (A0 47) n b + 1, u)) (termF (A0 47) n (subP (A0 47) n r)))) = .inr (b', u') → n ≤ b' + f' := fun b' u' z => by
            have g1 := PG_wr (PG_bnd (s := .inr (sk (A0 47) n b + 1, u)) (a := b + 1) (fun d v hd => by cases hd; have := sk_ge (T := A0 47) (n := n) (a := b); omega) (PG_term (PG_sub r))) b' u' z
            have := hf b u rfl
            omega
          rw [hlp] at hQ
          obtain ⟨p5, e5⟩ := MS_ne h5 c_68
          refine ih f' (Nat.lt_succ_self f') (wrS (wd 2 43) (bnd (.inr (sk (A0 47) n b + 1, u)) (termF (A0 47) n (subP (A0 47) n r)))) _ A5 I5 hs5 (by rw [e5]; rfl) (MS_e (by have h6 := h5; rw [e5] at h6 ⊢; exact h6) (fun p _ => by omega)) hQ
        · refine g_aload_n dX11_sum_71 rfl rfl ?_
          obtain ⟨b5, u5, e5⟩ := MS_eq tp.2.1 h5 c_68
          have h6 := h5
          rw [e5] at h6
          refine g_callV dX11_sum_72 cv_X11_135 (as' := []) hp_46 rfl (z_look tp hq q4 h6) (by omega) rfl rfl (Nat.le_of_ble_eq_true rfl) ?_
          rintro _ _ ⟨rfl, A6, I6, h7, rfl⟩
          refine g_goto (tgt := 79) dX11_sum_75 (by decide) ?_
          refine g_istore_n dX11_sum_79 rfl (by decide) ?_
          refine g_goto (tgt := 21) dX11_sum_80 (by decide) ?_
          have hs5 : ∀ b' u', (wrS (wd 2 43) (bnd (.inr (sk (A0 47) n b + 1, u)) (termF (A0 47) n (subP (A0 47) n r)))) = .inr (b', u') → n ≤ b' + f' := fun b' u' z => by
            have g1 := PG_wr (PG_bnd (s := .inr (sk (A0 47) n b + 1, u)) (a := b + 1) (fun d v hd => by cases hd; have := sk_ge (T := A0 47) (n := n) (a := b); omega) (PG_term (PG_sub r))) b' u' z
            have := hf b u rfl
            omega
          rw [hlp] at hQ
          refine ih f' (Nat.lt_succ_self f') (wrS (wd 2 43) (bnd (.inr (sk (A0 47) n b + 1, u)) (termF (A0 47) n (subP (A0 47) n r)))) _ A6 I6 hs5 (by rw [e5]; rfl) (by rw [e5]; exact h7) hQ
    · refine g_iload_n dX11_sum_27 rfl rfl ?_
      refine g_bipush (v := 45) dX11_sum_28 (by decide) ?_
      refine g_icmp_ne (tgt := 83) dX11_sum_30 (by decide) (fun c_30 => ?_) (fun c_30 => ?_)
      · exact g_vret dX11_sum_83 (hQ _ _ (by rw [lp_end (by decide) hf (fun z => by rw [← hc] at z; unfold opA at z; simp only [Bool.or_eq_true, decide_eq_true_eq] at z; exact z.elim c_24 c_30)]; exact h))
      · have hop : opA (cV (A0 47) n s) = true := by rw [← hc, c_30]; decide
        obtain ⟨b, u, f', rfl, rfl, hlt, hlp⟩ := lp_go (item := (termF (A0 47) n (subP (A0 47) n r))) (f := f) (by decide) hf hop
        rw [← hc, c_30] at hlp
        have h2 : MS A0 I0 q n (6 - r) W k (2 * r + 3) (.inr (sk (A0 47) n b, u)) A I := h
        have h3 := MS_at h2 hlt
        rw [c_30]
        refine g_aload_n dX11_sum_33 rfl rfl ?_
        refine g_dup dX11_sum_34 rfl ?_
        refine g_get dX11_sum_35 fl_X11_116 hp_46 rfl ?_
        refine g_ic_1 dX11_sum_38 ?_
        refine g_iadd dX11_sum_39 ?_
        refine g_puti dX11_sum_40 fw_X11_116 hp_46 (Nat.le_of_ble_eq_true rfl) ?_
        rw [hq_46_3]
        refine g_aload_n dX11_sum_43 rfl rfl ?_
        refine g_callV dX11_sum_44 cv_X11_166 (as' := []) hp_46 rfl (hI tp hq q4 h3) (by omega) rfl rfl (Nat.le_of_ble_eq_true rfl) ?_
        rintro _ _ ⟨rfl, A4, I4, h4, rfl⟩
        refine g_aload_n dX11_sum_47 rfl rfl ?_
        refine g_iload_n dX11_sum_48 rfl rfl ?_
        refine g_bipush (v := 43) dX11_sum_49 (by decide) ?_
        refine g_icmp_ne (tgt := 58) dX11_sum_51 (by decide) (fun c_51 => ?_) (fun c_51 => ?_)
        · refine g_ic_3 dX11_sum_58 ?_
          refine g_ic_0 dX11_sum_59 ?_
          refine g_callV dX11_sum_60 cv_X11_145 (as' := [_, _]) hp_46 rfl (z_put (x := wd 2 45) tp hq q4 h4 (by omega) (by decide) (by decide)) (by omega) rfl rfl (Nat.le_of_ble_eq_true rfl) ?_
          rintro _ _ ⟨rfl, A5, I5, h5, rfl⟩
          refine g_aload_n dX11_sum_63 rfl rfl ?_
          refine g_get dX11_sum_64 fl_X11_123 hp_46 rfl ?_
          refine g_ic_m1 dX11_sum_67 ?_
          refine g_icmp_ne (tgt := 78) dX11_sum_68 (by decide) (fun c_68 => ?_) (fun c_68 => ?_)
          · refine g_ic_m1 dX11_sum_78 ?_
            refine g_istore_n dX11_sum_79 rfl (by decide) ?_
            refine g_goto (tgt := 21) dX11_sum_80 (by decide) ?_
            have hs5 : ∀ b' u', (wrS (wd 2 45) (bnd (.inr (sk (A0 47) n b + 1, u)) (termF (A0 47) n (subP (A0 47) n r)))) = .inr (b', u') → n ≤ b' + f' := fun b' u' z => by
              have g1 := PG_wr (PG_bnd (s := .inr (sk (A0 47) n b + 1, u)) (a := b + 1) (fun d v hd => by cases hd; have := sk_ge (T := A0 47) (n := n) (a := b); omega) (PG_term (PG_sub r))) b' u' z
              have := hf b u rfl
              omega
            rw [hlp] at hQ
            obtain ⟨p5, e5⟩ := MS_ne h5 c_68
            refine ih f' (Nat.lt_succ_self f') (wrS (wd 2 45) (bnd (.inr (sk (A0 47) n b + 1, u)) (termF (A0 47) n (subP (A0 47) n r)))) _ A5 I5 hs5 (by rw [e5]; rfl) (MS_e (by have h6 := h5; rw [e5] at h6 ⊢; exact h6) (fun p _ => by omega)) hQ
          · refine g_aload_n dX11_sum_71 rfl rfl ?_
            obtain ⟨b5, u5, e5⟩ := MS_eq tp.2.1 h5 c_68
            have h6 := h5
            rw [e5] at h6
            refine g_callV dX11_sum_72 cv_X11_135 (as' := []) hp_46 rfl (z_look tp hq q4 h6) (by omega) rfl rfl (Nat.le_of_ble_eq_true rfl) ?_
            rintro _ _ ⟨rfl, A6, I6, h7, rfl⟩
            refine g_goto (tgt := 79) dX11_sum_75 (by decide) ?_
            refine g_istore_n dX11_sum_79 rfl (by decide) ?_
            refine g_goto (tgt := 21) dX11_sum_80 (by decide) ?_
            have hs5 : ∀ b' u', (wrS (wd 2 45) (bnd (.inr (sk (A0 47) n b + 1, u)) (termF (A0 47) n (subP (A0 47) n r)))) = .inr (b', u') → n ≤ b' + f' := fun b' u' z => by
              have g1 := PG_wr (PG_bnd (s := .inr (sk (A0 47) n b + 1, u)) (a := b + 1) (fun d v hd => by cases hd; have := sk_ge (T := A0 47) (n := n) (a := b); omega) (PG_term (PG_sub r))) b' u' z
              have := hf b u rfl
              omega
            rw [hlp] at hQ
            refine ih f' (Nat.lt_succ_self f') (wrS (wd 2 45) (bnd (.inr (sk (A0 47) n b + 1, u)) (termF (A0 47) n (subP (A0 47) n r)))) _ A6 I6 hs5 (by rw [e5]; rfl) (by rw [e5]; exact h7) hQ
        · exact absurd c_51 (by decide)

set_option maxHeartbeats 800000 in
set_option maxRecDepth 100000 in
theorem z_sum {r : Nat} (hr : r ≤ 6) (hI : ZTerm r) : ZSum r := by
  intro A0 I0 A I L X q n W k e b u tp hq q4 h
  refine m_con (by decide) (by show (m_ent1 [Value.ref 46]).length ≤ 2; decide) ?_
  rw [show bnd (.inr (b, u)) (sumP (A0 47) n r) = (lpB (A0 47) n (termF (A0 47) n (subP (A0 47) n r)) opA 240 (bnd (.inr (b, u)) (termF (A0 47) n (subP (A0 47) n r)))) from (by rw [sumP_F]; exact lpB_bnd.symm)]
  refine g_aload_n dX11_sum_0 rfl rfl ?_
  refine g_callV dX11_sum_1 cv_X11_166 (as' := []) hp_46 rfl (hI tp hq q4 h) (by omega) rfl rfl (Nat.le_of_ble_eq_true rfl) ?_
  rintro _ _ ⟨rfl, A1, I1, h1, rfl⟩
  refine g_aload_n dX11_sum_4 rfl rfl ?_
  refine g_get dX11_sum_5 fl_X11_123 hp_46 rfl ?_
  refine g_ic_m1 dX11_sum_8 ?_
  refine g_icmp_ne (tgt := 19) dX11_sum_9 (by decide) (fun c_9 => ?_) (fun c_9 => ?_)
  · refine g_ic_m1 dX11_sum_19 ?_
    refine g_istore_n dX11_sum_20 rfl (by decide) ?_
    obtain ⟨p1, e1⟩ := MS_ne h1 c_9
    refine g_loc (ls' := [some (.ref 46), some (.int (-1))]) (fun i v h => by rcases i with _|_|_ <;> first | exact h | cases h) ?_
    refine z_sum_loop tp hq q4 hr hI 240 (bnd (.inr (b, u)) (termF (A0 47) n (subP (A0 47) n r))) _ A1 I1 (fun b' u' _ => by have := tp.2.1; omega) (by rw [e1]; rfl) (MS_e (by have h6 := h1; rw [e1] at h6 ⊢; exact h6) (fun p _ => by omega)) (fun A2 I2 h2 => ⟨rfl, A2, I2, h2, rfl⟩)
  · refine g_aload_n dX11_sum_12 rfl rfl ?_
    obtain ⟨b1, u1, e1⟩ := MS_eq tp.2.1 h1 c_9
    have h2 := h1
    rw [e1] at h2
    refine g_callV dX11_sum_13 cv_X11_135 (as' := []) hp_46 rfl (z_look tp hq q4 h2) (by omega) rfl rfl (Nat.le_of_ble_eq_true rfl) ?_
    rintro _ _ ⟨rfl, A2, I2, h3, rfl⟩
    refine g_goto (tgt := 20) dX11_sum_16 (by decide) ?_
    refine g_istore_n dX11_sum_20 rfl (by decide) ?_
    refine z_sum_loop tp hq q4 hr hI 240 (bnd (.inr (b, u)) (termF (A0 47) n (subP (A0 47) n r))) _ A2 I2 (fun b' u' _ => by have := tp.2.1; omega) (by rw [e1]; rfl) (by rw [e1]; exact MS_0 h3) (fun A2 I2 h2 => ⟨rfl, A2, I2, h2, rfl⟩)

theorem z_all : ∀ r, r ≤ 6 → ZAtom r ∧ ZTerm r ∧ ZSum r
  | 0, h => by
    have a : ZAtom 0 := fun tp hq q4 h => z_atom0 tp hq q4 h
    have t : ZTerm 0 := z_term h a
    exact ⟨a, t, z_sum h t⟩
  | r + 1, h => by
    have i := z_all r (by omega)
    have a : ZAtom (r + 1) := fun tp hq q4 h2 => z_atomS h i.2.2 tp hq q4 h2
    have t : ZTerm (r + 1) := z_term h a
    exact ⟨a, t, z_sum h t⟩