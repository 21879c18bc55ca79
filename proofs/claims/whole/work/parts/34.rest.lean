/-! a turn's own cells, told apart from the other cells that nobody asks after -/
def ns1 (i : Nat) : Bool := !([14, 15, 29, 30, 36, 37].contains i)
def sm1 (A I A' I' : Nat → Nat → Int32) : Prop := (∀ i, ns1 i = true → A' i = A i) ∧ ∀ i k, ¬ (i = 11 ∧ k = 6) → I' i k = I i k
theorem sm1_tr {A A1 A2 I I1 I2 : Nat → Nat → Int32} (h : sm1 A I A1 I1) (k : sm1 A1 I1 A2 I2) : sm1 A I A2 I2 :=
  ⟨fun i z => (k.1 i z).trans (h.1 i z), fun i l z => (k.2 i l z).trans (h.2 i l z)⟩
theorem sm1_upA {A I : Nat → Nat → Int32} {j : Nat} {f : Nat → Int32} (hj : ns1 j = false) : sm1 A I (up A j f) I :=
  ⟨fun i z => up_ne (by rintro rfl; rw [hj] at z; cases z), fun _ _ _ => rfl⟩
theorem sm1_scr {A I A1 I1 : Nat → Nat → Int32} (h : scr A I A1 I1) : sm1 A I A1 I1 := by
  obtain ⟨V, K, t, rfl, rfl⟩ := h
  exact sm1_tr (sm1_upA (by decide)) ⟨(sm1_upA (I := I) (by decide)).1, fun i k z => if_neg z⟩
theorem sm1_upS {A I : Nat → Nat → Int32} {r c : Nat} {f g : Nat → Int32} (hr : ns1 r = false) (hc : ns1 c = false) : sm1 A I (upS A r c f g) I := sm1_tr (sm1_upA hr) (sm1_upA hc)
theorem ns1_sc {i : Nat} (h : nsc i = true) : ns1 i = true := by
  unfold nsc at h
  unfold ns1
  simp at h ⊢
  omega
theorem sm_sm1 {A A1 I I1 : Nat → Nat → Int32} {L : Nat → Nat → Int64} (h : sm1 A I A1 I1) : sm A L I A1 L I1 :=
  ⟨fun i z => h.1 i (ns1_sc z), fun i k z => h.2 i k (by rintro ⟨rfl, rfl⟩; revert z; decide), fun _ _ => rfl⟩

theorem f_turnsB28 {A : Nat → Nat → Int32} {L : Nat → Nat → Int64} {I : Nat → Nat → Int32} {X : Nat → Int64} {n0 : Int32} : Con 5 yX7_takeTurns cX7_takeTurns 7 none [.ref 28, .int n0, .ref 11] (hp A L I X) (fun r_ H_ => r_ = none ∧ ∃ A1 I1, sm1 A I A1 I1 ∧ (A1 29, A1 30) = tnsS (A 12) (A 13) (I 11 5) n0.toNatClampNeg (A 29, A 30) ∧ H_ = hp A1 L I1 X) :=
  Con.mono (fun _ _ ⟨h1, A1, I1, h2, h3⟩ => ⟨h1, _, I1, sm1_tr (sm1_scr h2) (sm1_upS (by decide) (by decide)), by rw [upS_r (by decide), upS_c], h3⟩) (h_turns isS_28)
theorem f_becomeB28 {A : Nat → Nat → Int32} {L : Nat → Nat → Int64} {I : Nat → Nat → Int32} {X : Nat → Int64} {q2 r2 c2 : Nat} (hs2 : isS q2 r2 c2) (hne : 28 ≠ q2) : Con 3 yX7_become cX7_become 3 none [.ref 28, .ref q2] (hp A L I X) (fun r_ H_ => r_ = none ∧ ∃ A1, sm1 A I A1 I ∧ A1 29 = A r2 ∧ A1 30 = (fun _ => 0) ∧ H_ = hp A1 L I X) :=
  Con.mono (fun _ _ ⟨h1, h3⟩ => ⟨h1, _, sm1_upS (by decide) (by decide), upS_r (by decide), upS_c, h3⟩) (h_become isS_28 hs2 hne)

theorem f_turnsB35 {A : Nat → Nat → Int32} {L : Nat → Nat → Int64} {I : Nat → Nat → Int32} {X : Nat → Int64} {n0 : Int32} : Con 5 yX7_takeTurns cX7_takeTurns 7 none [.ref 35, .int n0, .ref 11] (hp A L I X) (fun r_ H_ => r_ = none ∧ ∃ A1 I1, sm1 A I A1 I1 ∧ (A1 36, A1 37) = tnsS (A 12) (A 13) (I 11 5) n0.toNatClampNeg (A 36, A 37) ∧ H_ = hp A1 L I1 X) :=
  Con.mono (fun _ _ ⟨h1, A1, I1, h2, h3⟩ => ⟨h1, _, I1, sm1_tr (sm1_scr h2) (sm1_upS (by decide) (by decide)), by rw [upS_r (by decide), upS_c], h3⟩) (h_turns isS_35)
theorem f_becomeB35 {A : Nat → Nat → Int32} {L : Nat → Nat → Int64} {I : Nat → Nat → Int32} {X : Nat → Int64} {q2 r2 c2 : Nat} (hs2 : isS q2 r2 c2) (hne : 35 ≠ q2) : Con 3 yX7_become cX7_become 3 none [.ref 35, .ref q2] (hp A L I X) (fun r_ H_ => r_ = none ∧ ∃ A1, sm1 A I A1 I ∧ A1 36 = A r2 ∧ A1 37 = (fun _ => 0) ∧ H_ = hp A1 L I X) :=
  Con.mono (fun _ _ ⟨h1, h3⟩ => ⟨h1, _, sm1_upS (by decide) (by decide), upS_r (by decide), upS_c, h3⟩) (h_become isS_35 hs2 hne)

set_option maxHeartbeats 4000000 in
set_option maxRecDepth 100000 in
theorem w_runB {A : Nat → Nat → Int32} {L : Nat → Nat → Int64} {I : Nat → Nat → Int32} {X : Nat → Int64} {k n : Int32}  : Con 6 yX3_runWith cX3_runWith 3 none [.ref 27, .int k, .int n] (hp A L I X) (fun r_ H_ => r_ = none ∧ ∃ A9 I9, sm1 A I A9 I9 ∧ (A9 29, A9 30) = fc A I n.toNatClampNeg (fdS (A 20) k) ∧ H_ = hp A9 L I9 X) := by
  refine m_con (by decide) (Nat.le_of_ble_eq_true rfl) ?_
  refine g_aload_n dX3_runWith_0 rfl rfl ?_
  refine g_get dX3_runWith_1 fl_X3_12 hp_27 rfl ?_
  refine g_aload_n dX3_runWith_4 rfl rfl ?_
  refine g_get dX3_runWith_5 fl_X3_29 hp_27 rfl ?_
  refine g_callV dX3_runWith_8 cv_X3_36 (as' := [_]) hp_28 rfl (f_becomeB28 isS_19 (by decide)) (by decide) rfl rfl (Nat.le_of_ble_eq_true rfl) ?_
  rintro _ _ ⟨rfl, A0, m0, b1, b2, rfl⟩
  refine g_aload_n dX3_runWith_11 rfl rfl ?_
  refine g_get dX3_runWith_12 fl_X3_12 hp_27 rfl ?_
  refine g_ic_1 dX3_runWith_15 ?_
  refine g_iload_n dX3_runWith_16 rfl rfl ?_
  refine g_callV dX3_runWith_17 cv_X3_58 (as' := [_, _]) hp_28 rfl (h_add isS_28) (by decide) rfl rfl (Nat.le_of_ble_eq_true rfl) ?_
  rintro _ _ ⟨rfl, rfl⟩
  refine g_aload_n dX3_runWith_20 rfl rfl ?_
  refine g_get dX3_runWith_21 fl_X3_12 hp_27 rfl ?_
  refine g_iload_n dX3_runWith_24 rfl rfl ?_
  refine g_aload_n dX3_runWith_25 rfl rfl ?_
  refine g_get dX3_runWith_26 fl_X3_32 hp_27 rfl ?_
  refine g_callV dX3_runWith_29 cv_X3_43 (as' := [_, _]) hp_28 rfl f_turnsB28 (by decide) rfl rfl (Nat.le_of_ble_eq_true rfl) ?_
  rintro _ _ ⟨rfl, A1, I1, m1, e1, rfl⟩
  exact g_vret dX3_runWith_32 ⟨rfl, A1, I1, sm1_tr (sm1_tr m0 (sm1_upS (by decide) (by decide))) m1, by rw [e1, tns_sm (sm_tr (sm_sm1 m0) (sm_upS (L := L) (r := 29) (c := 30) (by decide) (by decide))), upS_r (by decide), upS_c, b1, b2]; rfl, rfl⟩

def gnS (F : Nat → Int32) (a b : Int32) : Int32 := 2 * gt 19 F (a + b) - a
def irL (F1 F2 : Nat → Int32) (x y : Int32) : Nat → Nat → Int32
  | 0, _ => 1
  | n + 1, z => if gnS F1 x y < gnS F1 (nI z) y then 0 else if gnS F2 (nI z) x ≤ gnS F2 y x then irL F1 F2 x y n (z + 1) else 0
def irS (F1 F2 : Nat → Int32) (x y : Int32) : Int32 := irL F1 F2 x y 10 0
theorem irL_01 {F1 F2 : Nat → Int32} {x y : Int32} : ∀ n z, irL F1 F2 x y n z = 0 ∨ irL F1 F2 x y n z = 1
  | 0, _ => Or.inr rfl
  | n + 1, z => by
    unfold irL
    split
    · exact Or.inl rfl
    · split
      · exact irL_01 n (z + 1)
      · exact Or.inl rfl
def rsL (P : Nat → Bool) (i : Int32) : Nat → Nat → Int32 → Int32
  | 0, _, fd => if i = (-1) then fd else (-1)
  | n + 1, k, fd => if P k = true then (if fd = i then nI k else rsL P i n (k + 1) (fd + 1)) else rsL P i n (k + 1) fd
set_option maxHeartbeats 4000000 in
set_option maxRecDepth 100000 in
theorem w_gain31 {A : Nat → Nat → Int32} {L : Nat → Nat → Int64} {I : Nat → Nat → Int32} {X : Nat → Int64} {x y : Int32}  : Con 2 yX3_gain cX3_gain 3 (some .int) [.ref 31, .int x, .int y] (hp A L I X) (fun r_ H_ => r_ = some (.int (gnS (A 31) x y)) ∧ H_ = hp A L I X) := by
  refine m_con (by decide) (Nat.le_of_ble_eq_true rfl) ?_
  refine g_ic_2 dX3_gain_0 ?_
  refine g_aload_n dX3_gain_1 rfl rfl ?_
  refine g_iload_n dX3_gain_2 rfl rfl ?_
  refine g_iload_n dX3_gain_3 rfl rfl ?_
  refine g_iadd dX3_gain_4 ?_
  refine g_callS dX3_gain_5 cs_X3_102 (as := [_, _]) (k_cell (Hp := _) (q := 31) ha_31 (by decide)) (by decide) rfl rfl (Nat.le_of_ble_eq_true rfl) ?_
  rintro _ _ ⟨rfl, rfl⟩
  refine g_imul dX3_gain_8 ?_
  refine g_iload_n dX3_gain_9 rfl rfl ?_
  refine g_isub dX3_gain_10 ?_
  exact g_iret dX3_gain_11 ⟨rfl, rfl⟩

set_option maxHeartbeats 4000000 in
set_option maxRecDepth 100000 in
theorem w_gain32 {A : Nat → Nat → Int32} {L : Nat → Nat → Int64} {I : Nat → Nat → Int32} {X : Nat → Int64} {x y : Int32}  : Con 2 yX3_gain cX3_gain 3 (some .int) [.ref 32, .int x, .int y] (hp A L I X) (fun r_ H_ => r_ = some (.int (gnS (A 32) x y)) ∧ H_ = hp A L I X) := by
  refine m_con (by decide) (Nat.le_of_ble_eq_true rfl) ?_
  refine g_ic_2 dX3_gain_0 ?_
  refine g_aload_n dX3_gain_1 rfl rfl ?_
  refine g_iload_n dX3_gain_2 rfl rfl ?_
  refine g_iload_n dX3_gain_3 rfl rfl ?_
  refine g_iadd dX3_gain_4 ?_
  refine g_callS dX3_gain_5 cs_X3_102 (as := [_, _]) (k_cell (Hp := _) (q := 32) ha_32 (by decide)) (by decide) rfl rfl (Nat.le_of_ble_eq_true rfl) ?_
  rintro _ _ ⟨rfl, rfl⟩
  refine g_imul dX3_gain_8 ?_
  refine g_iload_n dX3_gain_9 rfl rfl ?_
  refine g_isub dX3_gain_10 ?_
  exact g_iret dX3_gain_11 ⟨rfl, rfl⟩

set_option maxHeartbeats 4000000 in
set_option maxRecDepth 100000 in
theorem w_isRest_loop {A : Nat → Nat → Int32} {L : Nat → Nat → Int64} {I : Nat → Nat → Int32} {X : Nat → Int64} {x y : Int32} {Q : Option Value → m_H → Prop} : ∀ n k, n + k = 10 → Q (some (.int (irL (A 31) (A 32) x y n k))) (hp A L I X) → G 3 RX3 cX3_isRest 6 (some .boolean) Q 24 [some (.ref 27), some (.int x), some (.int y), some (.int (gnS (A 31) x y)), some (.int (gnS (A 32) y x)), some (.int (nI k))] [] (hp A L I X) := by
  intro n
  induction n with
  | zero =>
    intro k hk hQ
    refine g_iload dX3_isRest_24 rfl ?_
    refine g_bipush (v := 10) dX3_isRest_26 (by decide) ?_
    refine g_icmp_ge (tgt := 68) dX3_isRest_28 (by decide) (fun c_28 => ?_) (fun c_28 => ?_)
    · refine g_ic_1 dX3_isRest_68 ?_
      exact g_zret (by first | exact Or.inl rfl | exact Or.inr rfl) dX3_isRest_69 hQ
    · exact absurd (lit_nle (n := 10) (by decide) (by omega) c_28) (by omega)
  | succ n ih =>
    intro k hk hQ
    refine g_iload dX3_isRest_24 rfl ?_
    refine g_bipush (v := 10) dX3_isRest_26 (by decide) ?_
    refine g_icmp_ge (tgt := 68) dX3_isRest_28 (by decide) (fun c_28 => ?_) (fun c_28 => ?_)
    · exact absurd (lit_le (n := 10) (by decide) (by omega) c_28) (by omega)
    · refine g_aload_n dX3_isRest_31 rfl rfl ?_
      refine g_get dX3_isRest_32 fl_X3_18 hp_27 rfl ?_
      refine g_iload dX3_isRest_35 rfl ?_
      refine g_iload_n dX3_isRest_37 rfl rfl ?_
      refine g_callS dX3_isRest_38 cs_X3_98 (as := [_, _, _]) w_gain31 (by decide) rfl rfl (Nat.le_of_ble_eq_true rfl) ?_
      rintro _ _ ⟨rfl, rfl⟩
      refine g_iload_n dX3_isRest_41 rfl rfl ?_
      refine g_icmp_gt (tgt := 60) dX3_isRest_42 (by decide) (fun c_42 => ?_) (fun c_42 => ?_)
      · refine g_ic_0 dX3_isRest_60 ?_
        exact g_zret (by first | exact Or.inl rfl | exact Or.inr rfl) dX3_isRest_61 (Eq.mp (congrArg (fun z => Q (some (Value.int z)) (hp A L I X)) (if_pos c_42)) hQ)
      · refine g_aload_n dX3_isRest_45 rfl rfl ?_
        refine g_get dX3_isRest_46 fl_X3_22 hp_27 rfl ?_
        refine g_iload dX3_isRest_49 rfl ?_
        refine g_iload_n dX3_isRest_51 rfl rfl ?_
        refine g_callS dX3_isRest_52 cs_X3_98 (as := [_, _, _]) w_gain32 (by decide) rfl rfl (Nat.le_of_ble_eq_true rfl) ?_
        rintro _ _ ⟨rfl, rfl⟩
        refine g_iload dX3_isRest_55 rfl ?_
        refine g_icmp_le (tgt := 62) dX3_isRest_57 (by decide) (fun c_57 => ?_) (fun c_57 => ?_)
        · refine g_iinc1 dX3_isRest_62 rfl (by decide) ?_
          refine g_goto (tgt := 24) dX3_isRest_65 (by decide) ?_
          rw [nI_1]
          exact ih (k + 1) (by omega) (Eq.mp (congrArg (fun z => Q (some (Value.int z)) (hp A L I X)) ((if_neg (Int32.not_lt.mpr (Int32.not_lt.mp c_42))).trans (if_pos c_57))) hQ)
        · refine g_ic_0 dX3_isRest_60 ?_
          exact g_zret (by first | exact Or.inl rfl | exact Or.inr rfl) dX3_isRest_61 (Eq.mp (congrArg (fun z => Q (some (Value.int z)) (hp A L I X)) ((if_neg c_42).trans (if_neg c_57))) hQ)

set_option maxHeartbeats 4000000 in
set_option maxRecDepth 100000 in
theorem w_isRest {A : Nat → Nat → Int32} {L : Nat → Nat → Int64} {I : Nat → Nat → Int32} {X : Nat → Int64} {x y : Int32}  : Con 3 yX3_isRest cX3_isRest 6 (some .boolean) [.ref 27, .int x, .int y] (hp A L I X) (fun r_ H_ => r_ = some (.int (irS (A 31) (A 32) x y)) ∧ H_ = hp A L I X) := by
  refine m_con (by decide) (Nat.le_of_ble_eq_true rfl) ?_
  refine g_aload_n dX3_isRest_0 rfl rfl ?_
  refine g_get dX3_isRest_1 fl_X3_18 hp_27 rfl ?_
  refine g_iload_n dX3_isRest_4 rfl rfl ?_
  refine g_iload_n dX3_isRest_5 rfl rfl ?_
  refine g_callS dX3_isRest_6 cs_X3_98 (as := [_, _, _]) w_gain31 (by decide) rfl rfl (Nat.le_of_ble_eq_true rfl) ?_
  rintro _ _ ⟨rfl, rfl⟩
  refine g_istore_n dX3_isRest_9 rfl (by decide) ?_
  refine g_aload_n dX3_isRest_10 rfl rfl ?_
  refine g_get dX3_isRest_11 fl_X3_22 hp_27 rfl ?_
  refine g_iload_n dX3_isRest_14 rfl rfl ?_
  refine g_iload_n dX3_isRest_15 rfl rfl ?_
  refine g_callS dX3_isRest_16 cs_X3_98 (as := [_, _, _]) w_gain32 (by decide) rfl rfl (Nat.le_of_ble_eq_true rfl) ?_
  rintro _ _ ⟨rfl, rfl⟩
  refine g_istore dX3_isRest_19 (by decide) ?_
  refine g_ic_0 dX3_isRest_21 ?_
  refine g_istore dX3_isRest_22 (by decide) ?_
  exact w_isRest_loop 10 0 rfl ⟨rfl, rfl⟩

def d1F (A I : Nat → Nat → Int32) (n m : Int32) : Nat → Int32 := fun j => gt 8 (fc A I n.toNatClampNeg (fdS (A 20) (nI j))).2 m
def rsS (A I : Nat → Nat → Int32) (a b n i : Int32) : Int32 := rsL (fun k => decide (¬ irS (d1F A I n a) (d1F A I n b) (nI k / 10) (rm (nI k) 10) = 0)) i 100 0 0
theorem fc_sm1 {A A1 I I1 : Nat → Nat → Int32} (h : sm1 A I A1 I1) : fc A1 I1 = fc A I := fc_sm (sm_sm1 (L := fun _ _ => 0) h)
/-- two rows are laid, all else but a turn's own cells stays -/
def smR (A I A' I' : Nat → Nat → Int32) : Prop := (∀ i, ns1 i = true → i ≠ 31 → i ≠ 32 → A' i = A i) ∧ ∀ i k, ¬ (i = 11 ∧ k = 6) → I' i k = I i k
theorem smR_tr {A A1 A2 I I1 I2 : Nat → Nat → Int32} (h : smR A I A1 I1) (k : smR A1 I1 A2 I2) : smR A I A2 I2 :=
  ⟨fun i z a b => (k.1 i z a b).trans (h.1 i z a b), fun i l z => (k.2 i l z).trans (h.2 i l z)⟩
theorem smR_1 {A A1 I I1 : Nat → Nat → Int32} (h : sm1 A I A1 I1) : smR A I A1 I1 := ⟨fun i z _ _ => h.1 i z, h.2⟩
theorem smR_up {A I : Nat → Nat → Int32} {f g : Nat → Int32} (_ : 31 ≠ 32) (_ : 1 ≠ 2) : smR A I (up (up A 31 f) 32 g) I := ⟨fun i _ a b => by rw [up_ne b, up_ne a], fun _ _ _ => rfl⟩
theorem smR_sm {A A1 I I1 : Nat → Nat → Int32} {L : Nat → Nat → Int64} (h : smR A I A1 I1) : sm A L I A1 L I1 :=
  ⟨fun i z => h.1 i (ns1_sc z) (by rintro rfl; revert z; decide) (by rintro rfl; revert z; decide), fun i k z => h.2 i k (by rintro ⟨rfl, rfl⟩; revert z; decide), fun _ _ => rfl⟩
theorem fc_smR {A A1 I I1 : Nat → Nat → Int32} (h : smR A I A1 I1) : fc A1 I1 = fc A I := fc_sm (smR_sm (L := fun _ _ => 0) h)
set_option maxHeartbeats 4000000 in
set_option maxRecDepth 100000 in
theorem w_rest_lay {A : Nat → Nat → Int32} {L : Nat → Nat → Int64} {I : Nat → Nat → Int32} {X : Nat → Int64} {a b n0 i : Int32} {Q : Option Value → m_H → Prop} (hE : ∀ A2 I2, smR A I A2 I2 → A2 31 = fl (d1F A I n0 a) (A 31) 19 → A2 32 = fl (d1F A I n0 b) (A 32) 19 → G 7 RX3 cX3_restAt 7 (some .int) Q 57 [some (.ref 27), some (.int a), some (.int b), some (.int n0), some (.int i), some (.int (nI 19)), none] [] (hp A2 L I2 X)) : ∀ n k A2 I2, smR A I A2 I2 → A2 31 = fl (d1F A I n0 a) (A 31) k → A2 32 = fl (d1F A I n0 b) (A 32) k → k ≤ 19 → 19 - k < n → G 7 RX3 cX3_restAt 7 (some .int) Q 3 [some (.ref 27), some (.int a), some (.int b), some (.int n0), some (.int i), some (.int (nI k)), none] [] (hp A2 L I2 X) := by
  intro n
  induction n with
  | zero => intro k A2 I2 hm h31 h32 h1 h2; omega
  | succ n ih =>
    intro k A2 I2 hm h31 h32 h1 h2
    refine g_iload dX3_restAt_3 rfl ?_
    refine g_bipush (v := 19) dX3_restAt_5 (by decide) ?_
    refine g_icmp_ge (tgt := 57) dX3_restAt_7 (by decide) (fun c_7 => ?_) (fun c_7 => ?_)
    · have h6 : 19 ≤ k := lit_le (n := 19) (by decide) (by omega) c_7
      have hkn : k = 19 := by omega
      subst hkn
      exact hE A2 I2 hm h31 h32
    · have hlt : k < 19 := lit_nle (n := 19) (by decide) (by omega) c_7
      refine g_aload_n dX3_restAt_10 rfl rfl ?_
      refine g_iload dX3_restAt_11 rfl ?_
      refine g_iload_n dX3_restAt_13 rfl rfl ?_
      refine g_callV dX3_restAt_14 cv_X3_62 (as' := [_, _]) hp_27 rfl w_runB (by decide) rfl rfl (Nat.le_of_ble_eq_true rfl) ?_
      rintro _ _ ⟨rfl, A1, I1, m1, e1, rfl⟩
      have e2 : A1 30 = (fc A I n0.toNatClampNeg (fdS (A 20) (nI k))).2 := by rw [show A1 30 = (A1 29, A1 30).2 from rfl, e1, fc_smR hm, hm.1 20 (by decide) (by decide) (by decide)]
      refine g_aload_n dX3_restAt_17 rfl rfl ?_
      refine g_get dX3_restAt_18 fl_X3_18 hp_27 rfl ?_
      refine g_iload dX3_restAt_21 rfl ?_
      refine g_aload_n dX3_restAt_23 rfl rfl ?_
      refine g_get dX3_restAt_24 fl_X3_12 hp_27 rfl ?_
      refine g_iload_n dX3_restAt_27 rfl rfl ?_
      refine g_callV dX3_restAt_28 cv_X3_87 (as' := [_]) hp_28 rfl (h_came isS_28) (by decide) rfl rfl (Nat.le_of_ble_eq_true rfl) ?_
      rintro _ _ ⟨rfl, rfl⟩
      refine g_callS dX3_restAt_31 cs_X3_90 (as := [_, _, _]) (k_setCell hp_31 (by decide)) (by decide) rfl rfl (Nat.le_of_ble_eq_true rfl) ?_
      rintro _ _ ⟨rfl, rfl⟩
      rw [hq_31]
      refine g_aload_n dX3_restAt_34 rfl rfl ?_
      refine g_get dX3_restAt_35 fl_X3_22 hp_27 rfl ?_
      refine g_iload dX3_restAt_38 rfl ?_
      refine g_aload_n dX3_restAt_40 rfl rfl ?_
      refine g_get dX3_restAt_41 fl_X3_12 hp_27 rfl ?_
      refine g_iload_n dX3_restAt_44 rfl rfl ?_
      refine g_callV dX3_restAt_45 cv_X3_87 (as' := [_]) hp_28 rfl (h_came isS_28) (by decide) rfl rfl (Nat.le_of_ble_eq_true rfl) ?_
      rintro _ _ ⟨rfl, rfl⟩
      rw [up_ne (show (30 : Nat) ≠ 31 by decide)]
      refine g_callS dX3_restAt_48 cs_X3_90 (as := [_, _, _]) (k_setCell hp_32 (by decide)) (by decide) rfl rfl (Nat.le_of_ble_eq_true rfl) ?_
      rintro _ _ ⟨rfl, rfl⟩
      rw [hq_32]
      refine g_iinc1 dX3_restAt_51 rfl (by decide) ?_
      refine g_goto (tgt := 3) dX3_restAt_54 (by decide) ?_
      rw [nI_1]
      refine ih (k + 1) _ I1 (smR_tr hm (smR_tr (smR_1 m1) (smR_up (by decide) (by decide)))) ?_ ?_ (by omega) (by omega)
      · rw [up_ne (show (31 : Nat) ≠ 32 by decide), up_at, m1.1 31 (by decide), h31, e2]
        exact fl_step hlt (by decide) rfl
      · rw [up_at, up_ne (show (32 : Nat) ≠ 31 by decide), m1.1 32 (by decide), h32, e2]
        exact fl_step hlt (by decide) rfl

set_option maxHeartbeats 4000000 in
set_option maxRecDepth 100000 in
theorem w_rest_ask {A : Nat → Nat → Int32} {L : Nat → Nat → Int64} {I : Nat → Nat → Int32} {X : Nat → Int64} {a b n0 i : Int32} {Q : Option Value → m_H → Prop} : ∀ n k fd, n + k = 100 → Q (some (.int (rsL (fun k => decide (¬ irS (A 31) (A 32) (nI k / 10) (rm (nI k) 10) = 0)) i n k fd))) (hp A L I X) → G 7 RX3 cX3_restAt 7 (some .int) Q 63 [some (.ref 27), some (.int a), some (.int b), some (.int n0), some (.int i), some (.int (fd)), some (.int (nI k))] [] (hp A L I X) := by
  intro n
  induction n with
  | zero =>
    intro k fd hk hQ
    refine g_iload dX3_restAt_63 rfl ?_
    refine g_bipush (v := 100) dX3_restAt_65 (by decide) ?_
    refine g_icmp_ge (tgt := 106) dX3_restAt_67 (by decide) (fun c_67 => ?_) (fun c_67 => ?_)
    · refine g_iload dX3_restAt_106 rfl ?_
      refine g_ic_m1 dX3_restAt_108 ?_
      refine g_icmp_ne (tgt := 117) dX3_restAt_109 (by decide) (fun c_109 => ?_) (fun c_109 => ?_)
      · refine g_ic_m1 dX3_restAt_117 ?_
        exact g_iret dX3_restAt_118 (Eq.mp (congrArg (fun z => Q (some (Value.int z)) (hp A L I X)) (if_neg c_109)) hQ)
      · refine g_iload dX3_restAt_112 rfl ?_
        refine g_goto (tgt := 118) dX3_restAt_114 (by decide) ?_
        exact g_iret dX3_restAt_118 (Eq.mp (congrArg (fun z => Q (some (Value.int z)) (hp A L I X)) (if_pos c_109)) hQ)
    · exact absurd (lit_nle (n := 100) (by decide) (by omega) c_67) (by omega)
  | succ n ih =>
    intro k fd hk hQ
    refine g_iload dX3_restAt_63 rfl ?_
    refine g_bipush (v := 100) dX3_restAt_65 (by decide) ?_
    refine g_icmp_ge (tgt := 106) dX3_restAt_67 (by decide) (fun c_67 => ?_) (fun c_67 => ?_)
    · exact absurd (lit_le (n := 100) (by decide) (by omega) c_67) (by omega)
    · refine g_aload_n dX3_restAt_70 rfl rfl ?_
      refine g_iload dX3_restAt_71 rfl ?_
      refine g_bipush (v := 10) dX3_restAt_73 (by decide) ?_
      refine g_idiv dX3_restAt_75 (by decide) ?_
      refine g_iload dX3_restAt_76 rfl ?_
      refine g_bipush (v := 10) dX3_restAt_78 (by decide) ?_
      refine g_irem dX3_restAt_80 (by decide) ?_
      refine g_callV dX3_restAt_81 cv_X3_94 (as' := [_, _]) hp_27 rfl w_isRest (by decide) rfl rfl (Nat.le_of_ble_eq_true rfl) ?_
      rintro _ _ ⟨rfl, rfl⟩
      refine g_if_eq (tgt := 100) dX3_restAt_84 (by decide) (fun c_84 => ?_) (fun c_84 => ?_)
      · refine g_iinc1 dX3_restAt_100 rfl (by decide) ?_
        refine g_goto (tgt := 63) dX3_restAt_103 (by decide) ?_
        rw [nI_1]
        exact ih (k + 1) fd (by omega) (Eq.mp (congrArg (fun z => Q (some (Value.int z)) (hp A L I X)) (if_neg (fun z => (of_decide_eq_true z) c_84))) hQ)
      · refine g_iload dX3_restAt_87 rfl ?_
        refine g_iload dX3_restAt_89 rfl ?_
        refine g_icmp_ne (tgt := 97) dX3_restAt_91 (by decide) (fun c_91 => ?_) (fun c_91 => ?_)
        · refine g_iinc1 dX3_restAt_97 rfl (by decide) ?_
          refine g_iinc1 dX3_restAt_100 rfl (by decide) ?_
          refine g_goto (tgt := 63) dX3_restAt_103 (by decide) ?_
          rw [nI_1]
          exact ih (k + 1) (fd + 1) (by omega) (Eq.mp (congrArg (fun z => Q (some (Value.int z)) (hp A L I X)) ((if_pos (decide_eq_true c_84)).trans (if_neg c_91))) hQ)
        · refine g_iload dX3_restAt_94 rfl ?_
          exact g_iret dX3_restAt_96 (Eq.mp (congrArg (fun z => Q (some (Value.int z)) (hp A L I X)) ((if_pos (decide_eq_true c_84)).trans (if_pos c_91))) hQ)

set_option maxHeartbeats 4000000 in
set_option maxRecDepth 100000 in
theorem w_rest {A : Nat → Nat → Int32} {L : Nat → Nat → Int64} {I : Nat → Nat → Int32} {X : Nat → Int64} {a b n0 i : Int32}  : Con 7 yX3_restAt cX3_restAt 7 (some .int) [.ref 27, .int a, .int b, .int n0, .int i] (hp A L I X) (fun r_ H_ => r_ = some (.int (rsS A I a b n0 i)) ∧ ∃ A9 L9 I9, sm A L I A9 L9 I9 ∧ H_ = hp A9 L9 I9 X) := by
  refine m_con (by decide) (Nat.le_of_ble_eq_true rfl) ?_
  refine g_ic_0 dX3_restAt_0 ?_
  refine g_istore dX3_restAt_1 (by decide) ?_
  refine w_rest_lay (A := A) (L := L) (I := I) (fun A2 I2 hm h31 h32 => ?_) 20 0 A I ⟨fun _ _ _ _ => rfl, fun _ _ _ => rfl⟩ (fl_0 _ _).symm (fl_0 _ _).symm (by omega) (by omega)
  refine g_ext (d1F A I n0 a) hp_31 (by rw [h31]; exact fl_end) ?_
  rw [hq_31]
  refine g_ext (d1F A I n0 b) hp_32 (by rw [up_ne (show (32 : Nat) ≠ 31 by decide), h32]; exact fl_end) ?_
  rw [hq_32]
  refine g_ic_0 dX3_restAt_57 ?_
  refine g_istore dX3_restAt_58 (by decide) ?_
  refine g_ic_0 dX3_restAt_60 ?_
  refine g_istore dX3_restAt_61 (by decide) ?_
  refine w_rest_ask (A := up (up A2 31 (d1F A I n0 a)) 32 (d1F A I n0 b)) 100 0 0 rfl ?_
  exact ⟨rfl, _, L, I2, smR_sm (smR_tr hm (smR_up (by decide) (by decide))), rfl⟩
