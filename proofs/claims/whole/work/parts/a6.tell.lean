/-! THE REFERENCE: best -/
def ctF (F p : Nat → Int32) (m : Nat) : Nat → Nat
  | 0 => 0
  | k + 1 => ctF F p m k + (if gt 9 F (nI k) = 1 ∧ p k = nI m then 1 else 0)
def mxN (f : Nat → Nat) : Nat → Nat
  | 0 => 0
  | m + 1 => max (mxN f m) (f m)
theorem mxN_le {f : Nat → Nat} {b : Nat} (h : ∀ m, f m ≤ b) : ∀ n, mxN f n ≤ b
  | 0 => Nat.zero_le _
  | n + 1 => Nat.max_le.mpr ⟨mxN_le h n, h n⟩
theorem mxN_ge {f : Nat → Nat} {m : Nat} : ∀ n, m < n → f m ≤ mxN f n
  | 0, h => absurd h (Nat.not_lt_zero m)
  | n + 1, h => by
    show f m ≤ max (mxN f n) (f n)
    by_cases c : m = n
    · rw [c]; exact Nat.le_max_right _ _
    · exact Nat.le_trans (mxN_ge n (by omega)) (Nat.le_max_left _ _)
theorem mxN_up {f f' : Nat → Nat} {m0 N : Nat} (h1 : f' m0 = f m0 + 1) (h2 : ∀ m, m < N → m ≠ m0 → f' m = f m) : ∀ n, n ≤ N → mxN f' n = if m0 < n then max (mxN f n) (f m0 + 1) else mxN f n
  | 0, _ => (if_neg (Nat.not_lt_zero m0)).symm
  | n + 1, hn => by
    show max (mxN f' n) (f' n) = _
    rw [mxN_up h1 h2 n (by omega)]
    by_cases c : m0 < n
    · rw [if_pos c, if_pos (by omega), h2 n (by omega) (by omega)]
      show max (max (mxN f n) (f m0 + 1)) (f n) = max (max (mxN f n) (f n)) (f m0 + 1)
      omega
    · rw [if_neg c]
      by_cases c2 : m0 = n
      · subst c2
        rw [if_pos (by omega), h1]
        show _ = max (max (mxN f m0) (f m0)) (f m0 + 1)
        omega
      · rw [if_neg (by omega), h2 n (by omega) (fun z => c2 z.symm)]
        rfl
theorem mxN_same {f f' : Nat → Nat} {N : Nat} (h2 : ∀ m, m < N → f' m = f m) : ∀ n, n ≤ N → mxN f' n = mxN f n
  | 0, _ => rfl
  | n + 1, hn => by
    show max (mxN f' n) (f' n) = max (mxN f n) (f n)
    rw [mxN_same h2 n (by omega), h2 n (by omega)]
theorem mxN_cut {f : Nat → Nat} {ms N : Nat} (h : ∀ m, ms ≤ m → m < N → f m = 0) : ∀ d, ms + d ≤ N → mxN f (ms + d) = mxN f ms
  | 0, _ => rfl
  | d + 1, hd => by
    show max (mxN f (ms + d)) (f (ms + d)) = _
    rw [mxN_cut h d (by omega), h _ (Nat.le_add_right _ _) (by omega)]
    omega
theorem ctF_le {F p : Nat → Int32} {m : Nat} : ∀ k, ctF F p m k ≤ k
  | 0 => Nat.le_refl _
  | k + 1 => by
    have := ctF_le (F := F) (p := p) (m := m) k
    show ctF F p m k + _ ≤ k + 1
    split <;> omega
theorem ctF_0 {F p : Nat → Int32} {m ms : Nat} (hm : ms ≤ m) (hm8 : m < 8) : ∀ k, (∀ j, j < k → gt 9 F (nI j) = 1 → ∃ m0, m0 < ms ∧ p j = nI m0) → ctF F p m k = 0
  | 0, _ => rfl
  | k + 1, h => by
    show ctF F p m k + _ = 0
    rw [ctF_0 hm hm8 k (fun j hj => h j (by omega)), if_neg]
    rintro ⟨z1, z2⟩
    obtain ⟨m0, h1, h2⟩ := h k (Nat.lt_succ_self k) z1
    have := (nI_eq (by omega) (by omega)).mp (h2.symm.trans z2)
    omega
/-- how many tell the month that most tell -/
def mxS (F p : Nat → Int32) (ms : Nat) : Nat := mxN (fun m => ctF F p m 9) ms
theorem maS_eq {P F p : ROW} {n ms : Nat} (hms : ms ≤ 8) (h : ∀ k, k < 9 → gt 9 F (nI k) = 1 → paS P (nI k) (nI n) = p k ∧ ∃ m0, m0 < ms ∧ p k = nI m0) : maS P F (nI n) = nI (mxS F p ms) := by
  have key : ∀ k, k ≤ 9 → (∀ m, m < 8 → (itn (maC P F (nI n)) k (fun _ => 0, 0)).1 m = nI (ctF F p m k)) ∧ (itn (maC P F (nI n)) k (fun _ => 0, 0)).2 = nI (mxN (fun m => ctF F p m k) 8) := by
    intro k
    induction k with
    | zero => intro _; exact ⟨fun m hm => rfl, rfl⟩
    | succ k ih =>
      intro hk
      obtain ⟨i1, i2⟩ := ih (by omega)
      show (∀ m, m < 8 → (maC P F (nI n) k (itn (maC P F (nI n)) k (fun _ => 0, 0))).1 m = _) ∧ (maC P F (nI n) k (itn (maC P F (nI n)) k (fun _ => 0, 0))).2 = _
      generalize itn (maC P F (nI n)) k (fun _ => 0, 0) = s at i1 i2
      unfold maC
      by_cases c : gt 9 F (nI k) = 1
      · obtain ⟨h1, m0, h2, h3⟩ := h k (by omega) c
        have eF1 : ctF F p m0 (k + 1) = ctF F p m0 k + 1 := by
          show ctF F p m0 k + _ = _
          rw [if_pos ⟨c, h3⟩]
        have eF2 : ∀ m, m < 8 → m ≠ m0 → ctF F p m (k + 1) = ctF F p m k := fun m hm z => by
          show ctF F p m k + _ = _
          rw [if_neg, Nat.add_zero]
          rintro ⟨-, q⟩
          exact z ((nI_eq (by omega) (by omega)).mp (h3.symm.trans q)).symm
        have hb : ctF F p m0 k ≤ 9 := Nat.le_trans (ctF_le k) (by omega)
        have hb2 : mxN (fun m => ctF F p m k) 8 ≤ 9 := mxN_le (fun m => Nat.le_trans (ctF_le k) (by omega)) 8
        rw [if_pos c, h1, h3, pt_nI (by omega) (by decide), gt_nI (by omega) (by decide), gt_nI (by omega) (by decide)]
        refine ⟨fun m hm => ?_, ?_⟩
        · show upd s.1 m0 (s.1 m0 + 1) m = _
          by_cases z : m = m0
          · rw [z, ud_at, i1 m0 (by omega), eF1, nI_1]
          · rw [ud_ne z, eF2 m hm z]
            exact i1 m hm
        · show mx s.2 (upd s.1 m0 (s.1 m0 + 1) m0) = _
          rw [ud_at, i1 m0 (by omega), i2, nI_1, mx_n (by omega) (by omega), mxN_up (N := 8) eF1 eF2 8 (Nat.le_refl _), if_pos (by omega)]
      · rw [if_neg c]
        have eF : ∀ m, m < 8 → ctF F p m (k + 1) = ctF F p m k := fun m hm => by
          show ctF F p m k + _ = _
          rw [if_neg (fun z => c z.1), Nat.add_zero]
        refine ⟨fun m hm => by rw [eF m hm]; exact i1 m hm, ?_⟩
        rw [i2, mxN_same (N := 8) eF 8 (Nat.le_refl _)]
  unfold maS
  rw [(key 9 (Nat.le_refl _)).2]
  unfold mxS
  have e := mxN_cut (f := fun m => ctF F p m 9) (ms := ms) (N := 8) (fun m h1 h2 => ctF_0 h1 h2 9 (fun j hj z => (h j hj z).2)) (8 - ms) (by omega)
  rw [show ms + (8 - ms) = 8 by omega] at e
  rw [e]
theorem ctF_ge {F p : Nat → Int32} {m s : Nat} : ∀ k, s < k → gt 9 F (nI s) = 1 → p s = nI m → 1 ≤ ctF F p m k
  | 0, h, _, _ => absurd h (Nat.not_lt_zero s)
  | k + 1, h, h1, h2 => by
    show 1 ≤ ctF F p m k + _
    by_cases c : s = k
    · subst c
      rw [if_pos ⟨h1, h2⟩]
      omega
    · have := ctF_ge k (by omega) h1 h2
      omega
theorem mxS_le {F p : ROW} {ms : Nat} : mxS F p ms ≤ 9 := mxN_le (fun m => ctF_le 9) ms
theorem mxS_ge {F p : ROW} {ms s m : Nat} (hs : s < 9) (h1 : gt 9 F (nI s) = 1) (h2 : p s = nI m) (hm : m < ms) : 1 ≤ mxS F p ms :=
  Nat.le_trans (ctF_ge 9 hs h1 h2) (mxN_ge (f := fun m => ctF F p m 9) ms hm)
theorem mxS_0 {F p : ROW} {ms : Nat} (h : ∀ s, s < 9 → ¬ gt 9 F (nI s) = 1) : mxS F p ms = 0 := by
  have e : ∀ m k, k ≤ 9 → ctF F p m k = 0 := by
    intro m k
    induction k with
    | zero => intro _; rfl
    | succ k ih =>
      intro hk
      show ctF F p m k + _ = 0
      rw [ih (by omega), if_neg (fun z => h k (by omega) z.1)]
  have : mxS F p ms ≤ 0 := mxN_le (fun m => Nat.le_of_eq (e m 9 (Nat.le_refl _))) ms
  omega
/-- the class's when, turn by turn -/
def loT (P F : ROW) (k : Nat) : Int32 × Int32 := itn (loC P F) k ((-1), 10)
theorem loT_1 {P F : ROW} {v : Nat} (h : maS P F (nI 1) = nI v) (h1 : 1 ≤ v) (h9 : v ≤ 9) : loT P F 1 = (nI 1, nI v) := by
  show (if maS P F (nI (0 + 1)) ≤ 0 then _ else if (10 : Int32) ≤ maS P F (nI (0 + 1)) then _ else _) = _
  rw [h, if_neg (fun z => by have := (nI_leI (a := v) (b := 0) (by omega) (by decide)).mp z; omega), if_neg (fun z => by have := (nI_leI (a := 10) (b := v) (by decide) (by omega)).mp z; omega)]
theorem loT_s {P F : ROW} {k v l : Nat} {b : Int32} (h : maS P F (nI (k + 1)) = nI v) (h1 : 1 ≤ v) (h9 : v ≤ 9) (hs : loT P F k = (b, nI l)) : loT P F (k + 1) = if nI l ≤ nI v then (b, nI l) else (nI (k + 1), nI v) := by
  show loC P F k (loT P F k) = _
  rw [hs]
  show (if maS P F (nI (k + 1)) ≤ 0 then _ else if nI l ≤ maS P F (nI (k + 1)) then _ else _) = _
  rw [h, if_neg (fun z => by have := (nI_leI (a := v) (b := 0) (by omega) (by decide)).mp z; omega)]
theorem loT_0 {P F : ROW} (h : ∀ n, n < 41 → maS P F (nI n) = 0) : ∀ k, k ≤ 40 → loT P F k = ((-1), 10)
  | 0, _ => rfl
  | k + 1, hk => by
    show loC P F k (loT P F k) = _
    rw [loT_0 h k (by omega)]
    exact if_pos (by rw [h (k + 1) (by omega)]; decide)
theorem spL_0 {F : ROW} : ∀ n k, n + k = 9 → (spL F 0 n k 0 = (-1) ↔ ∀ s, k ≤ s → s < 9 → ¬ gt 9 F (nI s) = 1)
  | 0, k, h => ⟨fun _ s h1 h2 => by omega, fun _ => rfl⟩
  | n + 1, k, h => by
    by_cases c : gt 9 F (nI k) = 1
    · rw [show spL F 0 (n + 1) k 0 = _ from (if_pos c).trans (if_pos rfl)]
      constructor
      · intro z
        by_cases c8 : k = 8
        · rw [if_pos c8] at z; exact absurd z (by decide)
        · rw [if_neg c8] at z
          exact absurd (Int32.le_trans (nI_pos' (n := k) (by omega)) (Int32.le_of_eq z)) (by decide)
      · intro z
        exact absurd c (z k (Nat.le_refl _) (by omega))
    · rw [show spL F 0 (n + 1) k 0 = spL F 0 n (k + 1) 0 from if_neg c, spL_0 n (k + 1) (by omega)]
      constructor
      · intro z s h1 h2
        by_cases e : s = k
        · rw [e]; exact c
        · exact z s (by omega) h2
      · intro z s h1 h2
        exact z s (by omega) h2
theorem ct_no {F p : ROW} {m w : Nat} (hw : w < 10) (h : ¬ ((¬ w = 8 ∧ gt 9 F (nI (sg w)) = 1) ∧ p (sg w) = nI m)) : ctF F p m (uW (w + 1)) = ctF F p m (uW w) := by
  rcases (show w < 8 ∨ w = 8 ∨ w = 9 by omega) with c | c | c
  · obtain ⟨e1, e2, e3⟩ := uW_8 c
    rw [e1] at h
    rw [e2, e3]
    show ctF F p m w + _ = _
    rw [if_neg (fun z => h ⟨⟨by omega, z.1⟩, z.2⟩), Nat.add_zero]
  · subst c; rfl
  · subst c
    show ctF F p m 8 + _ = ctF F p m 8
    rw [if_neg (fun z => h ⟨⟨by decide, z.1⟩, z.2⟩), Nat.add_zero]
theorem ct_yes {F p : ROW} {m w : Nat} (hw : w < 10) (h : (¬ w = 8 ∧ gt 9 F (nI (sg w)) = 1) ∧ p (sg w) = nI m) : ctF F p m (uW (w + 1)) = ctF F p m (uW w) + 1 := by
  obtain ⟨⟨h8, h1⟩, h2⟩ := h
  rcases (show w < 8 ∨ w = 9 by omega) with c | c
  · obtain ⟨e1, e2, e3⟩ := uW_8 c
    rw [e1] at h1 h2
    rw [e2, e3]
    show ctF F p m w + _ = _
    rw [if_pos ⟨h1, h2⟩]
  · subst c
    show ctF F p m 8 + _ = ctF F p m 8 + 1
    rw [if_pos ⟨h1, h2⟩]
set_option maxHeartbeats 800000 in
set_option maxRecDepth 100000 in
theorem e_mt2 {A : Nat → Nat → Int32} {L : Nat → Nat → Int64} {I : Nat → Nat → Int32} {X : Nat → Int64} {ms cs K n0 m : Nat} {g mo : Int32} {A2 I2 : Nat → Nat → Int32} {Q : Option Value → m_H → Prop} (h : INV A I) (hP : PLN ms cs A I) (hm : smM A I A2 I2) (hW : ∀ w2, w2 < 10 → wV ms w2 → PD ms A I g (A2 74) w2 40) (hK : I 34 9 = nI K) (hKb : K < 2 ^ 31) (hn1 : 1 ≤ n0) (hn40 : n0 ≤ 40) (hE : G 5 RX11 cX11_mostTell 6 (some .int) Q 66 [some (.ref 46), some (.int (nI n0)), some (.int (mo)), some (.int (nI m)), some (.int (nI (ctF (taS A I g 9).2 (fun k => pw A I g k n0) m 9))), none] [] (hp A2 L I2 X)) : ∀ f w, w ≤ 10 → 10 - w < f → G 5 RX11 cX11_mostTell 6 (some .int) Q 18 [some (.ref 46), some (.int (nI n0)), some (.int (mo)), some (.int (nI m)), some (.int (nI (ctF (taS A I g 9).2 (fun k => pw A I g k n0) (m) (uW (w))))), some (.int (nI w))] [] (hp A2 L I2 X) := by
  intro f
  induction f with
  | zero => intro w h1 h2; omega
  | succ f ih =>
    intro w h1 h2
    refine g_iload dX11_mostTell_18 rfl ?_
    refine g_bipush (v := 9) dX11_mostTell_20 (by decide) ?_
    refine g_icmp_gt (tgt := 66) dX11_mostTell_22 (by decide) (fun c_22 => ?_) (fun c_22 => ?_)
    · have hw10 : w = 10 := by have := lit_lt (n := 9) (by decide) (by omega) c_22; omega
      subst hw10
      refine g_loc (ls' := [some (.ref 46), some (.int (nI n0)), some (.int (mo)), some (.int (nI m)), some (.int (nI (ctF (taS A I g 9).2 (fun k => pw A I g k n0) m 9))), none]) (fun i v h => by rcases i with _|_|_|_|_|_|_ <;> first | exact h | cases h) ?_
      exact hE
    · have hlt : w < 10 := by have := lit_nlt (n := 9) (by decide) (by omega) c_22; omega
      refine g_iload dX11_mostTell_25 rfl ?_
      refine g_aload_n dX11_mostTell_27 rfl rfl ?_
      refine g_iload dX11_mostTell_28 rfl ?_
      refine g_callV dX11_mostTell_30 cv_X11_400 (as' := [_]) hp_46 rfl (e_isSo h hP hm hW hK hKb hlt rfl) (by decide) rfl rfl (Nat.le_of_ble_eq_true rfl) ?_
      rintro _ _ ⟨v, rfl, -, hv, rfl⟩
      refine g_if_eq (tgt := 56) dX11_mostTell_33 (by decide) (fun c_33 => ?_) (fun c_33 => ?_)
      · refine g_ic_0 dX11_mostTell_56 ?_
        refine g_iadd dX11_mostTell_57 ?_
        refine g_istore dX11_mostTell_58 (by decide) ?_
        refine g_iinc1 dX11_mostTell_60 rfl (by decide) ?_
        refine g_goto (tgt := 18) dX11_mostTell_63 (by decide) ?_
        rw [show nI w + 1 = nI (w + 1) from nI_1 w]
        have hvF := hv.trans (wOk_F hP (NT_of h hK hKb).1 hK hlt)
        have e := ct_no (F := (taS A I g 9).2) (p := (fun k => pw A I g k n0)) (m := m) hlt (fun z => hvF.mpr z.1 c_33)
        rw [show nI (ctF (taS A I g 9).2 (fun k => pw A I g k n0) (m) (uW (w))) + 0 = nI (ctF (taS A I g 9).2 (fun k => pw A I g k n0) (m) (uW (w + 1))) from by rw [e]; exact Int32.add_zero _]
        refine g_loc (ls' := [some (.ref 46), some (.int (nI n0)), some (.int (mo)), some (.int (nI m)), some (.int (nI (ctF (taS A I g 9).2 (fun k => pw A I g k n0) (m) (uW (w + 1))))), some (.int (nI (w + 1)))]) (fun i v h => by rcases i with _|_|_|_|_|_|_ <;> first | exact h | cases h) ?_
        exact ih (w + 1) (by omega) (by omega)
      · refine g_aload_n dX11_mostTell_36 rfl rfl ?_
        refine g_get dX11_mostTell_37 fl_X11_96 hp_46 rfl ?_
        refine g_bipush (v := 41) dX11_mostTell_40 (by decide) ?_
        refine g_iload dX11_mostTell_42 rfl ?_
        refine g_imul dX11_mostTell_44 ?_
        refine g_iload_n dX11_mostTell_45 rfl rfl ?_
        refine g_iadd dX11_mostTell_46 ?_
        refine g_ra dX11_mostTell_47 hp_74 (k := (41 * w) + n0) (nk_add (nk_mul (show (41 : Int32) = nI 41 from rfl) (show nI (w) = nI (w) from rfl)) (show nI (n0) = nI (n0) from rfl)) (by omega) (by decide) ?_
        refine g_iload_n dX11_mostTell_48 rfl rfl ?_
        refine g_icmp_ne (tgt := 56) dX11_mostTell_49 (by decide) (fun c_49 => ?_) (fun c_49 => ?_)
        · refine g_ic_0 dX11_mostTell_56 ?_
          refine g_iadd dX11_mostTell_57 ?_
          refine g_istore dX11_mostTell_58 (by decide) ?_
          refine g_iinc1 dX11_mostTell_60 rfl (by decide) ?_
          refine g_goto (tgt := 18) dX11_mostTell_63 (by decide) ?_
          rw [show nI w + 1 = nI (w + 1) from nI_1 w]
          have hvF := hv.trans (wOk_F hP (NT_of h hK hKb).1 hK hlt)
          have ep := (hW w hlt (hv.mp c_33).1 n0 hn1 hn40).1
          rw [ep] at c_49
          have e := ct_no (F := (taS A I g 9).2) (p := (fun k => pw A I g k n0)) (m := m) hlt (fun z => c_49 z.2)
          rw [show nI (ctF (taS A I g 9).2 (fun k => pw A I g k n0) (m) (uW (w))) + 0 = nI (ctF (taS A I g 9).2 (fun k => pw A I g k n0) (m) (uW (w + 1))) from by rw [e]; exact Int32.add_zero _]
          refine g_loc (ls' := [some (.ref 46), some (.int (nI n0)), some (.int (mo)), some (.int (nI m)), some (.int (nI (ctF (taS A I g 9).2 (fun k => pw A I g k n0) (m) (uW (w + 1))))), some (.int (nI (w + 1)))]) (fun i v h => by rcases i with _|_|_|_|_|_|_ <;> first | exact h | cases h) ?_
          exact ih (w + 1) (by omega) (by omega)
        · refine g_ic_1 dX11_mostTell_52 ?_
          refine g_goto (tgt := 57) dX11_mostTell_53 (by decide) ?_
          refine g_iadd dX11_mostTell_57 ?_
          refine g_istore dX11_mostTell_58 (by decide) ?_
          refine g_iinc1 dX11_mostTell_60 rfl (by decide) ?_
          refine g_goto (tgt := 18) dX11_mostTell_63 (by decide) ?_
          rw [show nI w + 1 = nI (w + 1) from nI_1 w]
          have hvF := hv.trans (wOk_F hP (NT_of h hK hKb).1 hK hlt)
          have ep := (hW w hlt (hv.mp c_33).1 n0 hn1 hn40).1
          rw [ep] at c_49
          have e := ct_yes (F := (taS A I g 9).2) (p := (fun k => pw A I g k n0)) (m := m) hlt ⟨hvF.mp c_33, c_49⟩
          rw [show nI (ctF (taS A I g 9).2 (fun k => pw A I g k n0) (m) (uW (w))) + 1 = nI (ctF (taS A I g 9).2 (fun k => pw A I g k n0) (m) (uW (w + 1))) from by rw [e, nI_1]]
          refine g_loc (ls' := [some (.ref 46), some (.int (nI n0)), some (.int (mo)), some (.int (nI m)), some (.int (nI (ctF (taS A I g 9).2 (fun k => pw A I g k n0) (m) (uW (w + 1))))), some (.int (nI (w + 1)))]) (fun i v h => by rcases i with _|_|_|_|_|_|_ <;> first | exact h | cases h) ?_
          exact ih (w + 1) (by omega) (by omega)

set_option maxHeartbeats 800000 in
set_option maxRecDepth 100000 in
theorem e_mt1 {A : Nat → Nat → Int32} {L : Nat → Nat → Int64} {I : Nat → Nat → Int32} {X : Nat → Int64} {ms cs K n0 : Nat} {g : Int32} {A2 I2 : Nat → Nat → Int32} (h : INV A I) (hP : PLN ms cs A I) (hm : smM A I A2 I2) (hW : ∀ w2, w2 < 10 → wV ms w2 → PD ms A I g (A2 74) w2 40) (hK : I 34 9 = nI K) (hKb : K < 2 ^ 31) (hn1 : 1 ≤ n0) (hn40 : n0 ≤ 40) : ∀ f m, m ≤ ms → ms - m < f → G 5 RX11 cX11_mostTell 6 (some .int) (fun r_ H_ => r_ = some (.int (nI (mxS (taS A I g 9).2 (fun k => pw A I g k n0) ms))) ∧ H_ = hp A2 L I2 X) 4 [some (.ref 46), some (.int (nI n0)), some (.int (nI (mxN (fun m => ctF (taS A I g 9).2 (fun k => pw A I g k n0) m 9) (m)))), some (.int (nI m)), none, none] [] (hp A2 L I2 X) := by
  have h8 := PLN_ms hP
  intro f
  induction f with
  | zero => intro m h1 h2; omega
  | succ f ih =>
    intro m h1 h2
    refine g_iload_n dX11_mostTell_4 rfl rfl ?_
    refine g_aload_n dX11_mostTell_5 rfl rfl ?_
    refine g_get dX11_mostTell_6 fl_X11_261 hp_46 rfl ?_
    have e25 : I2 46 25 = nI ms := (hm.2 46 25 (by decide)).trans hP.1.1
    refine g_icmp_ge (tgt := 79) dX11_mostTell_9 (by decide) (fun c_9 => ?_) (fun c_9 => ?_)
    · rw [e25] at c_9
      have hmm : m = ms := by have := (nI_leI (a := ms) (b := m) (by omega) (by omega)).mp c_9; omega
      subst hmm
      refine g_iload_n dX11_mostTell_79 rfl rfl ?_
      exact g_iret dX11_mostTell_80 ⟨rfl, rfl⟩
    · rw [e25] at c_9
      have hlt : m < ms := Nat.not_le.mp (fun z => c_9 ((nI_leI (by omega) (by omega)).mpr z))
      refine g_ic_0 dX11_mostTell_12 ?_
      refine g_istore dX11_mostTell_13 (by decide) ?_
      refine g_ic_0 dX11_mostTell_15 ?_
      refine g_istore dX11_mostTell_16 (by decide) ?_
      refine g_loc (ls' := [some (.ref 46), some (.int (nI n0)), some (.int (nI (mxN (fun m => ctF (taS A I g 9).2 (fun k => pw A I g k n0) m 9) (m)))), some (.int (nI m)), some (.int (nI (ctF (taS A I g 9).2 (fun k => pw A I g k n0) (m) (uW (0))))), some (.int (nI 0))]) (fun i v h => by rcases i with _|_|_|_|_|_|_ <;> first | exact h | cases h) ?_
      refine e_mt2 h hP hm hW hK hKb hn1 hn40 ?_ 11 0 (by decide) (by decide)
      refine g_iload_n dX11_mostTell_66 rfl rfl ?_
      refine g_iload dX11_mostTell_67 rfl ?_
      refine g_max dX11_mostTell_69 ml_X11_294 ms_max mi_math mc_max (by decide) (Nat.le_of_ble_eq_true rfl) ?_
      refine g_istore_n dX11_mostTell_72 rfl (by decide) ?_
      refine g_iinc1 dX11_mostTell_73 rfl (by decide) ?_
      refine g_goto (tgt := 4) dX11_mostTell_76 (by decide) ?_
      rw [show nI m + 1 = nI (m + 1) from nI_1 m]
      rw [show (if nI (mxN (fun m => ctF (taS A I g 9).2 (fun k => pw A I g k n0) m 9) (m)) < nI (ctF (taS A I g 9).2 (fun k => pw A I g k n0) m 9) then nI (ctF (taS A I g 9).2 (fun k => pw A I g k n0) m 9) else nI (mxN (fun m => ctF (taS A I g 9).2 (fun k => pw A I g k n0) m 9) (m))) = nI (mxN (fun m => ctF (taS A I g 9).2 (fun k => pw A I g k n0) m 9) (m + 1)) from mx_n (by have := mxN_le (f := fun m => ctF (taS A I g 9).2 (fun k => pw A I g k n0) m 9) (b := 9) (fun m => ctF_le 9) m; omega) (by have := ctF_le (F := (taS A I g 9).2) (p := (fun k => pw A I g k n0)) (m := m) 9; omega)]
      refine g_loc (ls' := [some (.ref 46), some (.int (nI n0)), some (.int (nI (mxN (fun m => ctF (taS A I g 9).2 (fun k => pw A I g k n0) m 9) (m + 1)))), some (.int (nI (m + 1))), none, none]) (fun i v h => by rcases i with _|_|_|_|_|_|_ <;> first | exact h | cases h) ?_
      exact ih (m + 1) (by omega) (by omega)

set_option maxHeartbeats 800000 in
set_option maxRecDepth 100000 in
theorem e_mostTell {A : Nat → Nat → Int32} {L : Nat → Nat → Int64} {I : Nat → Nat → Int32} {X : Nat → Int64} {ms cs K n0 : Nat} {g x : Int32} {A2 I2 : Nat → Nat → Int32} (h : INV A I) (hP : PLN ms cs A I) (hm : smM A I A2 I2) (hW : ∀ w2, w2 < 10 → wV ms w2 → PD ms A I g (A2 74) w2 40) (hK : I 34 9 = nI K) (hKb : K < 2 ^ 31) (hn1 : 1 ≤ n0) (hn40 : n0 ≤ 40) (hx : x = nI n0) : Con 5 yX11_mostTell cX11_mostTell 6 (some .int) [.ref 46, .int x] (hp A2 L I2 X) (fun r_ H_ => r_ = some (.int (nI (mxS (taS A I g 9).2 (fun k => pw A I g k n0) ms))) ∧ H_ = hp A2 L I2 X) := by
  refine m_con (by decide) (Nat.le_of_ble_eq_true rfl) ?_
  subst hx
  refine g_ic_0 dX11_mostTell_0 ?_
  refine g_istore_n dX11_mostTell_1 rfl (by decide) ?_
  refine g_ic_0 dX11_mostTell_2 ?_
  refine g_istore_n dX11_mostTell_3 rfl (by decide) ?_
  refine g_loc (ls' := [some (.ref 46), some (.int (nI n0)), some (.int (nI (mxN (fun m => ctF (taS A I g 9).2 (fun k => pw A I g k n0) m 9) (0)))), some (.int (nI 0)), none, none]) (fun i v h => by rcases i with _|_|_|_|_|_|_ <;> first | exact h | cases h) ?_
  exact e_mt1 h hP hm hW hK hKb hn1 hn40 (ms + 1) 0 (Nat.zero_le _) (Nat.lt_succ_self _)
