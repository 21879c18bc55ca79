/-! THE REFERENCE: paths of all who might have greased -/
/-- reference's who, class's suspect -/
def sg (w : Nat) : Nat := if w = 9 then 8 else w
def wV (ms w : Nat) : Prop := w = 9 ∨ w < ms
/-- the month of suspect s behind t turns -/
def pw (A I : Nat → Nat → Int32) (g : Int32) (s t : Nat) : Int32 := (tnsS (A 12) (A 13) (I 11 5) t (gsW A (nI s) g, fun _ => 0)).1 5
theorem tns_g {Cc Z f g g' : ROW} {hold : Int32} : ∀ n, (tnsS Cc Z hold n (f, g)).1 = (tnsS Cc Z hold n (f, g')).1
  | 0 => rfl
  | n + 1 => by
    have e := tns_g (Cc := Cc) (Z := Z) (f := f) (g := g) (g' := g') (hold := hold) n
    show (tnS Cc Z hold (tnsS Cc Z hold n (f, g))).1 = (tnS Cc Z hold (tnsS Cc Z hold n (f, g'))).1
    have e1 : tnsS Cc Z hold n (f, g) = ((tnsS Cc Z hold n (f, g)).1, (tnsS Cc Z hold n (f, g)).2) := rfl
    have e2 : tnsS Cc Z hold n (f, g') = ((tnsS Cc Z hold n (f, g')).1, (tnsS Cc Z hold n (f, g')).2) := rfl
    rw [e1, e2, e]
    exact tn_g
theorem R_gk {ms cs : Nat} {R M C f N : ROW} (h : RJ ms cs R M C f N) {m k : Nat} (hm : m < ms) (hk : k ≤ 5) : RJ ms cs R M C (gsM f (nI m) (nI k)) (upd N m (mn 9 (N m + nI k))) := by
  have h8 : ms ≤ 8 := h.1.2.1
  have hm8 : m < 8 := by omega
  obtain ⟨-, ⟨-, -, -, ⟨s3, b3'⟩, -⟩, -, hM, -⟩ := id h
  obtain ⟨q0, ⟨q1, g, g1, g2⟩, ⟨q2, b2⟩, ⟨q3, b3⟩, q4⟩ := hM m hm
  have e1 : gsM f (nI m) (nI k) = upd f (13 + m * 5 + 1) (nI (min 9 (g + k))) := by
    unfold gsM
    rw [pM_1 hm8, oM_1 hm8, q1, g2, nI_add, show (9 : Int32) = nI 9 from rfl, mn_n (by decide) (by omega)]
  have e2 : upd N m (mn 9 (N m + nI k)) = upd N m (nI (min 9 (g + k))) := by
    rw [g2, nI_add, show (9 : Int32) = nI 9 from rfl, mn_n (by decide) (by omega)]
  rw [e1, e2]
  refine R_mon h hm (y3 := N 37) (a := nI (min 9 (g + k))) (b := N (8 + m)) (c := N (16 + m)) ?_ ?_ b3' ?_ ?_ (bd_k (by omega)) ?_ ?_ b2 ?_ ?_ b3 (fun j j0 j1 j2 j3 => ?_) (fun j j0 j1 j2 j3 => ?_)
  all_goals simp (disch := omega) only [ud_at, ud_ne]
  all_goals assumption
/-- while the paths are laid: all but the reference's row, its days, its own -/
def WB (A I A2 I2 : Nat → Nat → Int32) : Prop := (∀ i, i ≠ 55 → i ≠ 56 → i ≠ 63 → i ≠ 65 → i ≠ 67 → i ≠ 74 → A2 i = A i) ∧ A2 67 = A 63 ∧ (∀ j, 43 ≤ j → A2 63 j = A 63 j) ∧ ∀ i k, ¬ (i = 46 ∧ k = 33) → I2 i k = I i k
theorem WB_back {A I A1 I1 : Nat → Nat → Int32} (h : WB A I A1 I1) : smM A I (up A1 63 (fl (A1 67) (A1 63) 43)) I1 := by
  obtain ⟨h1, h2, h3, h4⟩ := h
  have e : fl (A1 67) (A1 63) 43 = A 63 := by
    funext j
    rcases Nat.lt_or_ge j 43 with z | z
    · rw [fl_lt z, h2]
    · rw [fl_ge z, h3 j z]
  rw [e]
  refine ⟨fun i z => ?_, fun i k z => h4 i k (by rintro ⟨rfl, rfl⟩; revert z; decide)⟩
  by_cases hi : i = 63
  · subst hi; exact up_at
  · rw [up_ne hi]
    exact h1 i (by rintro rfl; revert z; decide) (by rintro rfl; revert z; decide) hi (by rintro rfl; revert z; decide) (by rintro rfl; revert z; decide) (by rintro rfl; revert z; decide)
theorem WB_row {A I A1 I1 : Nat → Nat → Int32} {N : ROW} (h : WB A I A1 I1) (hN : ∀ j, 43 ≤ j → N j = A1 63 j) : WB A I (up A1 63 N) I1 :=
  ⟨fun i a b c d e f => (up_ne c).trans (h.1 i a b c d e f), (up_ne (by decide)).trans h.2.1, fun j hj => by rw [up_at, hN j hj, h.2.2.1 j hj], h.2.2.2⟩
theorem WB_path {A I A1 I1 : Nat → Nat → Int32} {P : ROW} (h : WB A I A1 I1) : WB A I (up A1 74 P) I1 :=
  ⟨fun i a b c d e f => (up_ne f).trans (h.1 i a b c d e f), (up_ne (by decide)).trans h.2.1, fun j hj => by rw [up_ne (by decide)]; exact h.2.2.1 j hj, h.2.2.2⟩
theorem WB_LWA {A I A1 I1 : Nat → Nat → Int32} (h : WB A I A1 I1) (k : LWA A I) : LWA A1 I1 := by
  refine LWA_A (fun i hi => ?_) (h.2.2.2 46 29 (by decide)) (h.2.2.2 11 5 (by decide)) k
  obtain ⟨z1, z2, z3, z4, z5, z6⟩ := (by decide : ∀ i, i ∈ [12, 13, 48, 49, 51, 52, 53, 54] → i ≠ 55 ∧ i ≠ 56 ∧ i ≠ 63 ∧ i ≠ 65 ∧ i ≠ 67 ∧ i ≠ 74) i hi
  exact h.1 i z1 z2 z3 z4 z5 z6
theorem WB_live {ms cs : Nat} {U : Int32} {s : RD} {A I A1 I1 A3 I3 : Nat → Nat → Int32} (h : WB A I A1 I1) (k : LV ms cs A1 I1 U s A3 I3) : WB A I A3 I3 := by
  obtain ⟨⟨k1, k2⟩, -, -, k4, -⟩ := k
  exact ⟨fun i a b c d e f => (k1 i a b c d).trans (h.1 i a b c d e f), (k1 67 (by decide) (by decide) (by decide) (by decide)).trans h.2.1, fun j hj => (k4 j hj).trans (h.2.2.1 j hj), fun i l z => (k2 i l z).trans (h.2.2.2 i l z)⟩
theorem LV_here {ms cs : Nat} {f : ROW} {A I : Nat → Nat → Int32} (hR : RJ ms cs (A 60) (A 61) (A 62) f (A 63)) : LV ms cs A I (I 46 33 + unrS f) (f, A 65) A I :=
  ⟨smN_rf, hR, fun _ _ => rfl, fun _ _ => rfl, rfl⟩
/-- one who's path is laid -/
def PD (ms : Nat) (A I : Nat → Nat → Int32) (g : Int32) (P : ROW) (w k : Nat) : Prop := ∀ t, 1 ≤ t → t ≤ k → P (41 * w + t) = pw A I g (sg w) t ∧ ∃ m, m < ms ∧ pw A I g (sg w) t = nI m
theorem PD_o {ms : Nat} {A I : Nat → Nat → Int32} {g : Int32} {P : ROW} {w k j : Nat} {v : Int32} (h : PD ms A I g P w k) (hj : ∀ t, 1 ≤ t → t ≤ k → ¬ 41 * w + t = j) : PD ms A I g (upd P j v) w k :=
  fun t h1 h2 => ⟨(ud_ne (hj t h1 h2)).trans (h t h1 h2).1, (h t h1 h2).2⟩
set_option maxHeartbeats 800000 in
set_option maxRecDepth 100000 in
theorem e_lp2 {A : Nat → Nat → Int32} {L : Nat → Nat → Int64} {I : Nat → Nat → Int32} {X : Nat → Int64} {ms cs w : Nat} {g : Int32} {Q : Option Value → m_H → Prop} (h : INV A I) (hP : PLN ms cs A I) (hw : w < 10) (hE : ∀ A3 I3, WB A I A3 I3 → (∀ w2, w2 < w + 1 → wV ms w2 → PD ms A I g (A3 74) w2 40) → G 8 RX11 cX11_layPaths 4 none Q 90 [some (.ref 46), some (.int (g)), some (.int (nI w)), none] [] (hp A3 L I3 X)) : ∀ f k A2 I2, WB A I A2 I2 → RJ ms cs (A 60) (A 61) (A 62) (tnsS (A 12) (A 13) (I 11 5) (k) (gsW A (nI (sg w)) g, fun _ => 0)).1 (A2 63) → (∀ w2, w2 < w → wV ms w2 → PD ms A I g (A2 74) w2 40) → PD ms A I g (A2 74) w k → k ≤ 40 → 40 - k < f → G 8 RX11 cX11_layPaths 4 none Q 55 [some (.ref 46), some (.int (g)), some (.int (nI w)), some (.int (nI (k + 1)))] [] (hp A2 L I2 X) := by
  intro f
  induction f with
  | zero => intro k A2 I2 hB hR hW hD h1 h2; omega
  | succ f ih =>
    intro k A2 I2 hB hR hW hD h1 h2
    refine g_iload_n dX11_layPaths_55 rfl rfl ?_
    refine g_bipush (v := 40) dX11_layPaths_56 (by decide) ?_
    refine g_icmp_gt (tgt := 90) dX11_layPaths_58 (by decide) (fun c_58 => ?_) (fun c_58 => ?_)
    · have hkn : k = 40 := by have := lit_lt (n := 40) (by decide) (by omega) c_58; omega
      subst hkn
      refine g_loc (ls' := [some (.ref 46), some (.int (g)), some (.int (nI w)), none]) (fun i v h => by rcases i with _|_|_|_|_ <;> first | exact h | cases h) ?_
      exact hE A2 I2 hB (fun w2 z1 z2 => by rcases (show w2 < w ∨ w2 = w by omega) with z | z; exact hW w2 z z2; rw [z]; exact hD)
    · have hlt : k < 40 := by have := lit_nlt (n := 40) (by decide) (by omega) c_58; omega
      have e12 : A2 12 = A 12 := hB.1 12 (by decide) (by decide) (by decide) (by decide) (by decide) (by decide)
      have e13 : A2 13 = A 13 := hB.1 13 (by decide) (by decide) (by decide) (by decide) (by decide) (by decide)
      have e60 : A2 60 = A 60 := hB.1 60 (by decide) (by decide) (by decide) (by decide) (by decide) (by decide)
      have e61 : A2 61 = A 61 := hB.1 61 (by decide) (by decide) (by decide) (by decide) (by decide) (by decide)
      have e62 : A2 62 = A 62 := hB.1 62 (by decide) (by decide) (by decide) (by decide) (by decide) (by decide)
      have e115 : I2 11 5 = I 11 5 := hB.2.2.2 11 5 (by decide)
      have h25 : I2 46 25 = nI ms := (hB.2.2.2 46 25 (by decide)).trans hP.1.1
      have h26 : I2 46 26 = nI cs := (hB.2.2.2 46 26 (by decide)).trans hP.1.2
      have hR2 : RJ ms cs (A2 60) (A2 61) (A2 62) (tnsS (A 12) (A 13) (I 11 5) (k) (gsW A (nI (sg w)) g, fun _ => 0)).1 (A2 63) := by rw [e60, e61, e62]; exact hR
      have hL := LV_here (I := I2) hR2
      refine g_aload_n dX11_layPaths_61 rfl rfl ?_
      refine g_callV dX11_layPaths_62 cv_X11_314 (as' := []) hp_46 rfl (e_live (WB_LWA hB (INV_LWA h)) h25 h26 hL) (by decide) rfl rfl (Nat.le_of_ble_eq_true rfl) ?_
      rintro _ _ ⟨rfl, A3, I3, hL, -, rfl⟩
      try simp (disch := omega) only [up_at, up_up, up_ne]
      refine g_pop dX11_layPaths_65 rfl ?_
      have hR3 : RJ ms cs (A 60) (A 61) (A 62) (tnsS (A 12) (A 13) (I 11 5) (k + 1) (gsW A (nI (sg w)) g, fun _ => 0)).1 (A3 63) := by
        have q := hL.2.1
        rw [e12, e13, e115, e60, e61, e62] at q
        have e : (tnS (A 12) (A 13) (I 11 5) ((tnsS (A 12) (A 13) (I 11 5) (k) (gsW A (nI (sg w)) g, fun _ => 0)).1, A2 65)).1 = (tnsS (A 12) (A 13) (I 11 5) (k + 1) (gsW A (nI (sg w)) g, fun _ => 0)).1 := tn_g
        rw [e] at q
        exact q
      have hB3 := WB_live hB hL
      have e74 : A3 74 = A2 74 := hL.1.1 74 (by decide) (by decide) (by decide) (by decide)
      obtain ⟨m0, d0, l0, m1, m2, m3, -⟩ := hR3.2.2.1
      refine g_aload_n dX11_layPaths_66 rfl rfl ?_
      refine g_get dX11_layPaths_67 fl_X11_96 hp_46 rfl ?_
      refine g_bipush (v := 41) dX11_layPaths_70 (by decide) ?_
      refine g_iload_n dX11_layPaths_72 rfl rfl ?_
      refine g_imul dX11_layPaths_73 ?_
      refine g_iload_n dX11_layPaths_74 rfl rfl ?_
      refine g_iadd dX11_layPaths_75 ?_
      refine g_aload_n dX11_layPaths_76 rfl rfl ?_
      refine g_get dX11_layPaths_77 fl_X11_58 hp_46 rfl ?_
      refine g_bipush (v := 39) dX11_layPaths_80 (by decide) ?_
      refine g_ra dX11_layPaths_82 hp_63 (k := 39) rfl (by decide) (by decide) ?_
      try simp (disch := omega) only [up_at, up_up, up_ne]
      refine g_wa dX11_layPaths_83 hp_74 (k := (41 * w) + (k + 1)) (nk_add (nk_mul (show (41 : Int32) = nI 41 from rfl) (show nI (w) = nI (w) from rfl)) (show nI (k + 1) = nI (k + 1) from rfl)) (by omega) (by decide) ?_
      rw [hq_74]
      try simp (disch := omega) only [up_at, up_up, up_ne]
      refine g_iinc1 dX11_layPaths_84 rfl (by decide) ?_
      refine g_goto (tgt := 55) dX11_layPaths_87 (by decide) ?_
      rw [nI_1]
      refine ih (k + 1) _ I3 (WB_path hB3) (by rw [up_ne (by decide)]; exact hR3) (fun w2 z1 z2 => ?_) ?_ (by omega) (by omega)
      · rw [up_at, e74]
        exact PD_o (hW w2 z1 z2) (fun t t1 t2 => by omega)
      · rw [up_at, e74]
        intro t t1 t2
        by_cases c : t = k + 1
        · subst c
          rw [ud_at]
          exact ⟨m2.trans m1.symm, m0, m3, m1⟩
        · rw [ud_ne (by omega)]
          exact hD t t1 (by omega)

theorem is_M {ms cs x : Nat} {A I I2 : Nat → Nat → Int32} (hP : PLN ms cs A I) (hB : I2 46 25 = I 46 25) (hx : x < 10) : x < ms ↔ ¬ inZ (nI x) 0 (I2 46 25 - 1) = 0 := by
  have h8 := PLN_ms hP
  rw [hB, hP.1.1, show (1 : Int32) = nI 1 from rfl, pk_sub (by omega), in_0]
  constructor
  · rintro h (z | z)
    · exact absurd z (Int32.not_lt.mpr (nI_pos' (by omega)))
    · have := (nI_ltI (by omega) (by omega)).mp z; omega
  · intro h
    refine Decidable.byContradiction fun c => h (Or.inr (nI_lt (by omega) (by omega)))
set_option maxHeartbeats 800000 in
set_option maxRecDepth 100000 in
theorem e_isWho {A : Nat → Nat → Int32} {L : Nat → Nat → Int64} {I : Nat → Nat → Int32} {X : Nat → Int64} {ms cs w : Nat} {x : Int32} {A2 I2 : Nat → Nat → Int32} (hP : PLN ms cs A I) (hB : I2 46 25 = I 46 25) (hx : x = nI w) (hw : w < 10) : Con 3 yX11_isWho cX11_isWho 2 (some .boolean) [.ref 46, .int x] (hp A2 L I2 X) (fun r_ H_ => ∃ v, r_ = some (.int v) ∧ (v = 0 ∨ v = 1) ∧ (¬ v = 0 ↔ wV ms w) ∧ H_ = hp A2 L I2 X) := by
  refine m_con (by decide) (Nat.le_of_ble_eq_true rfl) ?_
  subst hx
  refine g_iload_n dX11_isWho_0 rfl rfl ?_
  refine g_bipush (v := 9) dX11_isWho_1 (by decide) ?_
  refine g_icmp_eq (tgt := 14) dX11_isWho_3 (by decide) (fun c_3 => ?_) (fun c_3 => ?_)
  · refine g_ic_1 dX11_isWho_14 ?_
    refine g_goto (tgt := 19) dX11_isWho_15 (by decide) ?_
    exact g_zret (by first | exact Or.inl rfl | exact Or.inr rfl) dX11_isWho_19 ⟨_, rfl, Or.inr rfl, ⟨fun _ => Or.inl ((nI_eq (a := w) (b := 9) (by omega) (by decide)).mp c_3), fun _ => by decide⟩, rfl⟩
  · refine g_aload_n dX11_isWho_6 rfl rfl ?_
    refine g_iload_n dX11_isWho_7 rfl rfl ?_
    refine g_callV dX11_isWho_8 cv_X11_317 (as' := [_]) hp_46 rfl e_isMonth (by decide) rfl rfl (Nat.le_of_ble_eq_true rfl) ?_
    rintro _ _ ⟨rfl, rfl⟩
    refine g_if_eq (tgt := 18) dX11_isWho_11 (by decide) (fun c_11 => ?_) (fun c_11 => ?_)
    · refine g_ic_0 dX11_isWho_18 ?_
      exact g_zret (by first | exact Or.inl rfl | exact Or.inr rfl) dX11_isWho_19 ⟨_, rfl, Or.inl rfl, ⟨fun z => absurd rfl z, fun z => by rcases z with z | z; exact absurd (show nI w = 9 by rw [z]; rfl) c_3; exact absurd c_11 ((is_M (x := w) hP hB (by omega)).mp z)⟩, rfl⟩
    · refine g_ic_1 dX11_isWho_14 ?_
      refine g_goto (tgt := 19) dX11_isWho_15 (by decide) ?_
      exact g_zret (by first | exact Or.inl rfl | exact Or.inr rfl) dX11_isWho_19 ⟨_, rfl, Or.inr rfl, ⟨fun _ => Or.inr ((is_M (x := w) hP hB (by omega)).mpr c_11), fun _ => by decide⟩, rfl⟩

set_option maxHeartbeats 800000 in
set_option maxRecDepth 100000 in
theorem e_lp1 {A : Nat → Nat → Int32} {L : Nat → Nat → Int64} {I : Nat → Nat → Int32} {X : Nat → Int64} {ms cs g0 : Nat} {g : Int32} {Q : Option Value → m_H → Prop} (h : INV A I) (hP : PLN ms cs A I) (hg : g = nI g0) (hg5 : g0 ≤ 5) (hE : ∀ A3 I3, WB A I A3 I3 → (∀ w2, w2 < 10 → wV ms w2 → PD ms A I g (A3 74) w2 40) → G 8 RX11 cX11_layPaths 4 none Q 96 [some (.ref 46), some (.int (g)), none, none] [] (hp A3 L I3 X)) : ∀ f w A2 I2, WB A I A2 I2 → (∀ w2, w2 < w → wV ms w2 → PD ms A I g (A2 74) w2 40) → w ≤ 10 → 10 - w < f → G 8 RX11 cX11_layPaths 4 none Q 6 [some (.ref 46), some (.int (g)), some (.int (nI w)), none] [] (hp A2 L I2 X) := by
  intro f
  induction f with
  | zero => intro w A2 I2 hB hW h1 h2; omega
  | succ f ih =>
    intro w A2 I2 hB hW h1 h2
    refine g_iload_n dX11_layPaths_6 rfl rfl ?_
    refine g_bipush (v := 9) dX11_layPaths_7 (by decide) ?_
    refine g_icmp_gt (tgt := 96) dX11_layPaths_9 (by decide) (fun c_9 => ?_) (fun c_9 => ?_)
    · have hwn : w = 10 := by have := lit_lt (n := 9) (by decide) (by omega) c_9; omega
      subst hwn
      refine g_loc (ls' := [some (.ref 46), some (.int (g)), none, none]) (fun i v h => by rcases i with _|_|_|_|_ <;> first | exact h | cases h) ?_
      exact hE A2 I2 hB (fun w2 z1 => hW w2 z1)
    · have hlt : w < 10 := by have := lit_nlt (n := 9) (by decide) (by omega) c_9; omega
      refine g_aload_n dX11_layPaths_12 rfl rfl ?_
      refine g_iload_n dX11_layPaths_13 rfl rfl ?_
      refine g_callV dX11_layPaths_14 cv_X11_391 (as' := [_]) hp_46 rfl (e_isWho (w := w) hP (hB.2.2.2 46 25 (by decide)) rfl hlt) (by decide) rfl rfl (Nat.le_of_ble_eq_true rfl) ?_
      rintro _ _ ⟨v, rfl, -, hv, rfl⟩
      try simp (disch := omega) only [up_at, up_up, up_ne]
      refine g_if_eq (tgt := 90) dX11_layPaths_17 (by decide) (fun c_17 => ?_) (fun c_17 => ?_)
      · refine g_loc (ls' := [some (.ref 46), some (.int (g)), some (.int (nI w)), none]) (fun i v h => by rcases i with _|_|_|_|_ <;> first | exact h | cases h) ?_
        have hW5 : ∀ w2, w2 < w + 1 → wV ms w2 → PD ms A I g (A2 74) w2 40 := fun w2 z1 z2 => by rcases (show w2 < w ∨ w2 = w by omega) with z | z; exact hW w2 z z2; rw [z] at z2; exact absurd c_17 (hv.mpr z2)
        have hB5 := hB
        refine g_iinc1 dX11_layPaths_90 rfl (by decide) ?_
        refine g_goto (tgt := 6) dX11_layPaths_93 (by decide) ?_
        rw [nI_1]
        exact ih (w + 1) _ _ hB5 hW5 (by omega) (by omega)
      · have h25 : I2 46 25 = nI ms := (hB.2.2.2 46 25 (by decide)).trans hP.1.1
        have e60 : A2 60 = A 60 := hB.1 60 (by decide) (by decide) (by decide) (by decide) (by decide) (by decide)
        have e61 : A2 61 = A 61 := hB.1 61 (by decide) (by decide) (by decide) (by decide) (by decide) (by decide)
        have e62 : A2 62 = A 62 := hB.1 62 (by decide) (by decide) (by decide) (by decide) (by decide) (by decide)
        have hbR := bg_RJ (N := A2 63) hP.2.2.1
        have hB0 : WB A I (up A2 63 (bgN (A 60) (A 61) (A2 63) ms)) I2 := WB_row hB (fun j hj => bgN_hi (PLN_ms hP).2.1 hj)
        refine g_aload_n dX11_layPaths_20 rfl rfl ?_
        have hwm : ¬ w = 9 → w < ms := fun z => (hv.mp c_17).resolve_left z
        refine g_callV dX11_layPaths_21 cv_X11_270 (as' := []) hp_46 rfl (e_begin h25 (PLN_ms hP).2.1) (by decide) rfl rfl (Nat.le_of_ble_eq_true rfl) ?_
        rintro _ _ ⟨rfl, rfl⟩
        rw [e60, e61]
        try simp (disch := omega) only [up_at, up_up, up_ne]
        refine g_iload_n dX11_layPaths_24 rfl rfl ?_
        refine g_bipush (v := 9) dX11_layPaths_25 (by decide) ?_
        refine g_icmp_eq (tgt := 53) dX11_layPaths_27 (by decide) (fun c_27 => ?_) (fun c_27 => ?_)
        · refine g_ic_1 dX11_layPaths_53 ?_
          refine g_istore_n dX11_layPaths_54 rfl (by decide) ?_
          have hw9 : w = 9 := (nI_eq (a := w) (b := 9) (by omega) (by decide)).mp c_27
          have hg0 : gsW A (nI (sg w)) g = A 17 := by
            rw [hw9]
            exact if_pos rfl
          have hV : wV ms w := Or.inl hw9
          have hR0 : RJ ms cs (A 60) (A 61) (A 62) (tnsS (A 12) (A 13) (I 11 5) (0) (gsW A (nI (sg w)) g, fun _ => 0)).1 (bgN (A 60) (A 61) (A2 63) ms) := by
            show RJ ms cs (A 60) (A 61) (A 62) (gsW A (nI (sg w)) g) _
            rw [hg0]
            exact hbR
          refine g_loc (ls' := [some (.ref 46), some (.int (g)), some (.int (nI w)), some (.int (nI (0 + 1)))]) (fun i v h => by rcases i with _|_|_|_|_ <;> first | exact h | cases h) ?_
          refine e_lp2 h hP (by omega) (fun A5 I5 hB5 hW5 => ?_) 41 0 _ I2 hB0 (by rw [up_at]; exact hR0) (fun w2 z1 z2 => by rw [up_ne (by decide)]; exact hW w2 z1 z2) (fun t t1 t2 => by omega) (by decide) (by decide)
          refine g_iinc1 dX11_layPaths_90 rfl (by decide) ?_
          refine g_goto (tgt := 6) dX11_layPaths_93 (by decide) ?_
          rw [nI_1]
          exact ih (w + 1) _ _ hB5 hW5 (by omega) (by omega)
        · have hw9 : ¬ w = 9 := fun z => c_27 (by rw [z]; rfl)
          have hwm9 := hwm hw9
          have hm8 := (PLN_ms hP).2.1
          refine g_aload_n dX11_layPaths_30 rfl rfl ?_
          refine g_get dX11_layPaths_31 fl_X11_58 hp_46 rfl ?_
          refine g_ic_0 dX11_layPaths_34 ?_
          refine g_iload_n dX11_layPaths_35 rfl rfl ?_
          refine g_iadd dX11_layPaths_36 ?_
          refine g_bipush (v := 9) dX11_layPaths_37 (by decide) ?_
          refine g_aload_n dX11_layPaths_39 rfl rfl ?_
          refine g_get dX11_layPaths_40 fl_X11_58 hp_46 rfl ?_
          refine g_ic_0 dX11_layPaths_43 ?_
          refine g_iload_n dX11_layPaths_44 rfl rfl ?_
          refine g_iadd dX11_layPaths_45 ?_
          refine g_ra dX11_layPaths_46 hp_63 (k := w) (nk_0 (show (0 : Int32) = nI 0 from rfl) (show nI (w) = nI (w) from rfl)) (by omega) (by decide) ?_
          try simp (disch := omega) only [up_at, up_up, up_ne]
          refine g_iload_n dX11_layPaths_47 rfl rfl ?_
          refine g_iadd dX11_layPaths_48 ?_
          refine g_min dX11_layPaths_49 ml_X11_292 ms_min mi_math mc_min (by decide) (Nat.le_of_ble_eq_true rfl) ?_
          refine g_wa dX11_layPaths_52 hp_63 (k := w) (nk_0 (show (0 : Int32) = nI 0 from rfl) (show nI (w) = nI (w) from rfl)) (by omega) (by decide) ?_
          rw [hq_63]
          try simp (disch := omega) only [up_at, up_up, up_ne]
          refine g_ic_1 dX11_layPaths_53 ?_
          refine g_istore_n dX11_layPaths_54 rfl (by decide) ?_
          have hw9 : ¬ w = 9 := fun z => c_27 (by rw [z]; rfl)
          have hV : wV ms w := Or.inr (hwm hw9)
          have hg0 : gsW A (nI (sg w)) g = gsM (A 17) (nI w) g := by
            have hwm := hwm hw9
            have hm8 := (PLN_ms hP).2.1
            unfold gsW sg
            rw [if_neg hw9, if_neg (show ¬ nI w = (8 : Int32) from fun z => by have := (nI_eq (a := w) (b := 8) (by omega) (by decide)).mp z; omega)]
          have hR0 : RJ ms cs (A 60) (A 61) (A 62) (tnsS (A 12) (A 13) (I 11 5) (0) (gsW A (nI (sg w)) g, fun _ => 0)).1 (upd (bgN (A 60) (A 61) (A2 63) ms) w (mn 9 (bgN (A 60) (A 61) (A2 63) ms w + g))) := by
            show RJ ms cs (A 60) (A 61) (A 62) (gsW A (nI (sg w)) g) _
            rw [hg0, hg]
            exact R_gk hbR (hwm hw9) hg5
          have hm8 := (PLN_ms hP).2.1
          have hwm9 := hwm hw9
          have hB1 : WB A I (up A2 63 (upd (bgN (A 60) (A 61) (A2 63) ms) w (mn 9 (bgN (A 60) (A 61) (A2 63) ms w + g)))) I2 := WB_row hB (fun j hj => by rw [ud_ne (by omega)]; exact bgN_hi hm8 hj)
          refine g_loc (ls' := [some (.ref 46), some (.int (g)), some (.int (nI w)), some (.int (nI (0 + 1)))]) (fun i v h => by rcases i with _|_|_|_|_ <;> first | exact h | cases h) ?_
          refine e_lp2 h hP (by omega) (fun A5 I5 hB5 hW5 => ?_) 41 0 _ I2 hB1 (by rw [up_at]; exact hR0) (fun w2 z1 z2 => by rw [up_ne (by decide)]; exact hW w2 z1 z2) (fun t t1 t2 => by omega) (by decide) (by decide)
          refine g_iinc1 dX11_layPaths_90 rfl (by decide) ?_
          refine g_goto (tgt := 6) dX11_layPaths_93 (by decide) ?_
          rw [nI_1]
          exact ih (w + 1) _ _ hB5 hW5 (by omega) (by omega)

set_option maxHeartbeats 800000 in
set_option maxRecDepth 100000 in
theorem e_layPaths {A : Nat → Nat → Int32} {L : Nat → Nat → Int64} {I : Nat → Nat → Int32} {X : Nat → Int64} {ms cs g0 : Nat} {g : Int32} (h : INV A I) (hP : PLN ms cs A I) (hg : g = nI g0) (hg5 : g0 ≤ 5) : Con 8 yX11_layPaths cX11_layPaths 4 none [.ref 46, .int g] (hp A L I X) (fun r_ H_ => r_ = none ∧ ∃ A3 I3, smM A I A3 I3 ∧ (∀ w2, w2 < 10 → wV ms w2 → PD ms A I g (A3 74) w2 40) ∧ H_ = hp A3 L I3 X) := by
  refine m_con (by decide) (Nat.le_of_ble_eq_true rfl) ?_
  refine g_aload_n dX11_layPaths_0 rfl rfl ?_
  refine g_callV dX11_layPaths_1 cv_X11_358 (as' := []) hp_46 rfl e_putAside (by decide) rfl rfl (Nat.le_of_ble_eq_true rfl) ?_
  rintro _ _ ⟨rfl, rfl⟩
  refine g_ic_0 dX11_layPaths_4 ?_
  refine g_istore_n dX11_layPaths_5 rfl (by decide) ?_
  refine g_loc (ls' := [some (.ref 46), some (.int (g)), some (.int (nI 0)), none]) (fun i v h => by rcases i with _|_|_|_|_ <;> first | exact h | cases h) ?_
  refine e_lp1 h hP hg hg5 (fun A3 I3 hB hW => ?_) 11 0 _ _ ?_ (fun w2 z1 z2 => absurd z1 (Nat.not_lt_zero w2)) (by decide) (by decide)
  · refine g_aload_n dX11_layPaths_96 rfl rfl ?_
    refine g_callV dX11_layPaths_97 cv_X11_364 (as' := []) hp_46 rfl e_takeBack (by decide) rfl rfl (Nat.le_of_ble_eq_true rfl) ?_
    rintro _ _ ⟨rfl, rfl⟩
    try simp (disch := omega) only [up_at, up_up, up_ne, up2_at, up2_up2, up2_ne, ud_at, ud_ne]
    exact g_vret dX11_layPaths_100 ⟨rfl, _, I3, WB_back hB, fun w2 z1 z2 => by rw [up_ne (by decide)]; exact hW w2 z1 z2, rfl⟩
  · refine ⟨fun i a b c d e f => ?_, ?_, fun j hj => ?_, fun i k z => up2_ne z⟩
    · rw [up_ne d, up_ne e]
    · rw [up_ne (by decide), up_at]
    · rw [up_ne (by decide), up_ne (by decide)]
