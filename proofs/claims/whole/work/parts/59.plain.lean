/-! READING A PLAIN -/
abbrev ROW : Type := Nat → Int32
def txI (k : Int32) : Nat := if k = 0 then 0 else if k = 1 then 1 else 2
theorem txI5 {k : Int32} : txI k < 5 := by
  unfold txI
  split
  · decide
  · split <;> decide
def usF (D : ROW) (k place : Int32) : Nat → ROW
  | 0 => D
  | i + 1 => pt 143 (usF D k place i) (place + nI i) (gt 15 m_us (k * 5 + nI i))
def usP (D : ROW) (k place : Int32) : ROW := usF D k place (m_sl.getD (txI k) 0)
def roomP (k : Int32) (D : ROW) (h : Int32) : Int32 := if k = 0 then (if h = 0 then 1 else 0) else if k = 1 then (if 8 ≤ gt 143 D 9 then 0 else 1) else (if 5 ≤ gt 143 D 10 then 0 else 1)
def begD (k : Int32) (D : ROW) : ROW := if k = 0 then D else if k = 1 then pt 143 D 9 (gt 143 D 9 + 1) else pt 143 D 10 (gt 143 D 10 + 1)
def begV (k : Int32) (D : ROW) : Int32 := if k = 0 then 0 else if k = 1 then 13 + (gt 143 (begD k D) 9 - 1) * 5 else 53 + (gt 143 (begD k D) 10 - 1) * 6
def itL (T : Nat → Int32) (n : Nat) (k place : Int32) : Nat → Nat → Int32 → ROW → PR ROW
  | 0, a, _, D => .inr (a, D)
  | f + 1, a, had, D =>
    if bt T n (sk T n a) = 59 ∨ bt T n (sk T n a) = (-1) then .inr (sk T n a, D)
    else if lfS (txI k) (bt T n (sk T n a)) < 0 ∨ (had >>> (lfS (txI k) (bt T n (sk T n a)) &&& 31)) &&& 1 = 1 then .inl (sk T n a)
    else match numP T n 2 (gt 15 m_lo (k * 5 + lfS (txI k) (bt T n (sk T n a)))) (gt 15 m_hi (k * 5 + lfS (txI k) (bt T n (sk T n a)))) (sk T n a + 1) with
      | .inl p => .inl p
      | .inr (b, v) => itL T n k place f b (had ||| (1 <<< (lfS (txI k) (bt T n (sk T n a)) &&& 31))) (pt 143 D (place + lfS (txI k) (bt T n (sk T n a))) v)
abbrev PRW : Type := ROW × Int32
def ppB (h : Int32) (s : PR ROW) : PR PRW := match s with
  | .inl p => .inl p
  | .inr (b, D) => .inr (b, (D, h))
def pcP (T : Nat → Int32) (n a : Nat) (q : PRW) : PR PRW :=
  if lfS 3 (bt T n (sk T n a)) < 0 ∨ roomP (lfS 3 (bt T n (sk T n a))) q.1 q.2 = 0 then .inl (sk T n a)
  else ppB (if lfS 3 (bt T n (sk T n a)) = 0 then 1 else q.2) (itL T n (lfS 3 (bt T n (sk T n a))) (begV (lfS 3 (bt T n (sk T n a))) q.1) 6 (sk T n a + 1) 0 (usP (begD (lfS 3 (bt T n (sk T n a))) q.1) (lfS 3 (bt T n (sk T n a))) (begV (lfS 3 (bt T n (sk T n a))) q.1)))
def ppL (T : Nat → Int32) (n : Nat) : Nat → PR PRW → PR PRW
  | 0, s => s
  | f + 1, s => match s with
    | .inl p => .inl p
    | .inr (b, q) => if bt T n (sk T n b) = 59 then ppL T n f (pcP T n (sk T n b + 1) q) else .inr (sk T n b, q)
def ppE (T : Nat → Int32) (n : Nat) (s : PR PRW) : PR PRW := match s with
  | .inl p => .inl p
  | .inr (b, q) => if bt T n (sk T n b) = (-1) ∧ 2 ≤ gt 143 q.1 9 ∧ 1 ≤ gt 143 q.1 10 then .inr (sk T n b, q) else .inl (sk T n b)
def plainP (T : Nat → Int32) (n : Nat) : PR PRW := ppE T n (ppL T n 240 (pcP T n 0 (usP (fun _ => 0) 0 0, 0)))
/-! the reader's state: cursor 4, reader 3, draft 5 (6, 7) -/
def smP (A I A' I' : Nat → Nat → Int32) : Prop := (∀ i, i ≠ 6 → i ≠ 7 → A' i = A i) ∧ ∀ i k, ¬ (i = 4 ∧ (k = 1 ∨ k = 2)) → ¬ (i = 3 ∧ k = 2) → I' i k = I i k
theorem smP_rf {A I : Nat → Nat → Int32} : smP A I A I := ⟨fun _ _ _ => rfl, fun _ _ _ _ => rfl⟩
theorem smP_tr {A I A1 I1 A2 I2 : Nat → Nat → Int32} (h : smP A I A1 I1) (k : smP A1 I1 A2 I2) : smP A I A2 I2 := ⟨fun i z z2 => (k.1 i z z2).trans (h.1 i z z2), fun i l z z2 => (k.2 i l z z2).trans (h.2 i l z z2)⟩
theorem tpS_smP {A I A1 I1 : Nat → Nat → Int32} {n : Nat} (t : tpS A I n) (h : smP A I A1 I1) : tpS A1 I1 n := by
  refine ⟨(h.2 1 1 (by omega) (by omega)).trans t.1, t.2.1, fun j hj => ?_⟩
  rw [h.1 2 (by decide) (by decide)]
  exact t.2.2 j hj
def Pt1 (A I : Nat → Nat → Int32) (n : Nat) (s : PR PRW) : Prop := match s with
  | .inl p => I 4 2 = nI p ∧ p ≤ n
  | .inr (b, q) => I 4 1 = nI b ∧ I 4 2 = (-1) ∧ A 6 = q.1 ∧ I 3 2 = q.2 ∧ b ≤ n
def PS (A0 I0 : Nat → Nat → Int32) (n : Nat) (s : PR PRW) (A I : Nat → Nat → Int32) : Prop := smP A0 I0 A I ∧ Pt1 A I n s
def PQ (A0 : Nat → Nat → Int32) (L : Nat → Nat → Int64) (I0 : Nat → Nat → Int32) (X : Nat → Int64) (n : Nat) (s : PR PRW) : Option Value → m_H → Prop := fun r_ H_ => r_ = none ∧ ∃ A1 I1, PS A0 I0 n s A1 I1 ∧ H_ = hp A1 L I1 X
theorem isC_4 : isC 4 := Or.inl rfl
section PD
variable {A0 I0 A I : Nat → Nat → Int32} {L : Nat → Nat → Int64} {X : Nat → Int64} {n : Nat}
theorem smP_4 {l : Nat} {v : Int32} (hl : l = 1 ∨ l = 2) : smP A I A (up2 I 4 l v) := ⟨fun _ _ _ => rfl, fun i k z _ => up2_ne (by omega)⟩
theorem smP_S {f g : ROW} : smP A I (upS A 6 7 f g) I := ⟨fun i z z2 => upS_ne z z2, fun _ _ _ _ => rfl⟩
theorem smP_3 {v : Int32} : smP A I A (up2 I 3 2 v) := ⟨fun _ _ _ => rfl, fun i k _ z => up2_ne z⟩
def fdP (s : PR PRW) : Int32 := match s with
  | .inl _ => 1
  | .inr _ => 0
theorem p_failed {s : PR PRW} (tp : tpS A0 I0 n) (h : PS A0 I0 n s A I) : Con 1 yX1_failed cX1_failed 1 (some .boolean) [.ref 4] (hp A L I X) (fun r_ H_ => r_ = some (.int (fdP s)) ∧ H_ = hp A L I X) := by
  refine Con.mono (fun r H' z => ⟨z.1.trans ?_, z.2⟩) (u_failed isC_4)
  have h2 := h.2
  cases s with
  | inl p =>
    rw [if_neg (by rw [h2.1]; exact nI_m1 (Nat.le_trans h2.2 tp.2.1))]
    rfl
  | inr q => rw [if_pos h2.2.1]; rfl
theorem p_step {b : Nat} {q : PRW} (hb : b < n) (h : PS A0 I0 n (.inr (b, q)) A I) : Con 1 yX1_step cX1_step 1 none [.ref 4] (hp A L I X) (PQ A0 L I0 X n (.inr (b + 1, q))) := by
  refine Con.mono (fun r H' z => ⟨z.1, A, _, ⟨smP_tr h.1 (smP_4 (Or.inl rfl)), ?_⟩, z.2⟩) (u_step isC_4)
  obtain ⟨e1, e2, e3, e4, e5⟩ := h.2
  exact ⟨by rw [up2_at, e1, nI_1], by rw [up2_ne (by omega)]; exact e2, e3, by rw [up2_ne (by omega)]; exact e4, hb⟩
theorem p_fail {b : Nat} {q : PRW} (h : PS A0 I0 n (.inr (b, q)) A I) : Con 1 yX1_fail cX1_fail 1 none [.ref 4] (hp A L I X) (PQ A0 L I0 X n (.inl b)) := by
  obtain ⟨e1, e2, e3, e4, e5⟩ := h.2
  refine Con.mono (fun r H' z => ⟨z.1, A, flI I 4, ⟨smP_tr h.1 ?_, ?_⟩, z.2⟩) (u_fail isC_4)
  · rw [flI, if_pos e2]
    exact smP_4 (Or.inr rfl)
  · rw [flI, if_pos e2]
    exact ⟨by rw [up2_at, e1], e5⟩
theorem p_failB {p : Nat} (tp : tpS A0 I0 n) (h : PS A0 I0 n (.inl p) A I) : Con 1 yX1_fail cX1_fail 1 none [.ref 4] (hp A L I X) (PQ A0 L I0 X n (.inl p)) := by
  obtain ⟨e1, e2⟩ := h.2
  refine Con.mono (fun r H' z => ⟨z.1, A, flI I 4, ⟨smP_tr h.1 ?_, ?_⟩, z.2⟩) (u_fail isC_4)
  · rw [flI, if_neg (by rw [e1]; exact nI_m1 (Nat.le_trans e2 tp.2.1))]
    exact smP_rf
  · rw [flI, if_neg (by rw [e1]; exact nI_m1 (Nat.le_trans e2 tp.2.1))]
    exact ⟨e1, e2⟩
theorem p_look {b : Nat} {q : PRW} (tp : tpS A0 I0 n) (h : PS A0 I0 n (.inr (b, q)) A I) : Con 2 yX1_look cX1_look 2 (some .int) [.ref 4] (hp A L I X) (fun r_ H_ => r_ = some (.int (bt (A0 2) n (sk (A0 2) n b))) ∧ ∃ A1 I1, PS A0 I0 n (.inr (sk (A0 2) n b, q)) A1 I1 ∧ H_ = hp A1 L I1 X) := by
  have tp1 := tpS_smP tp h.1
  obtain ⟨e1, e2, e3, e4, e5⟩ := h.2
  refine Con.mono (fun r H' z => ⟨?_, A, _, ⟨smP_tr h.1 (smP_4 (Or.inl rfl)), ?_⟩, z.2⟩) (u_look isC_4)
  · rw [z.1, e1, tp1.1, sk_Y tp1.2.1 e5, h.1.1 2 (by decide) (by decide), bt_I tp.2.1 (by have := tp.2.1; have := sk_le (T := A0 2) e5; omega)]
  · exact ⟨by rw [up2_at, e1, tp1.1, sk_Y tp1.2.1 e5, h.1.1 2 (by decide) (by decide)], by rw [up2_ne (by omega)]; exact e2, e3, by rw [up2_ne (by omega)]; exact e4, sk_le e5⟩
theorem p_lookB {p : Nat} (h : PS A0 I0 n (.inl p) A I) : Con 2 yX1_look cX1_look 2 (some .int) [.ref 4] (hp A L I X) (fun r_ H_ => ∃ v, r_ = some (.int v) ∧ ∃ A1 I1, PS A0 I0 n (.inl p) A1 I1 ∧ H_ = hp A1 L I1 X) := by
  obtain ⟨e1, e2⟩ := h.2
  exact Con.mono (fun r H' z => ⟨_, z.1, A, _, ⟨smP_tr h.1 (smP_4 (Or.inl rfl)), by rw [up2_ne (by omega)]; exact e1, e2⟩, z.2⟩) (u_look isC_4)
theorem p_lookFor {b i : Nat} {q : PRW} (tp : tpS A0 I0 n) (hi : i < 5) (h : PS A0 I0 n (.inr (b, q)) A I) : Con 6 yX1_lookFor cX1_lookFor 3 (some .int) [.ref 4, .ref (2000 + i)] (hp A L I X) (fun r_ H_ => r_ = some (.int (lfS i (bt (A0 2) n (sk (A0 2) n b)))) ∧ ∃ A1 I1, PS A0 I0 n (.inr (sk (A0 2) n b, q)) A1 I1 ∧ H_ = hp A1 L I1 X) := by
  have tp1 := tpS_smP tp h.1
  obtain ⟨e1, e2, e3, e4, e5⟩ := h.2
  refine Con.mono (fun r H' z => ⟨?_, A, _, ⟨smP_tr h.1 (smP_4 (Or.inl rfl)), ?_⟩, z.2⟩) (u_lookFor isC_4 hi (tpS_ok tp1))
  · rw [z.1, e1, tp1.1, sk_Y tp1.2.1 e5, h.1.1 2 (by decide) (by decide), bt_I tp.2.1 (by have := tp.2.1; have := sk_le (T := A0 2) e5; omega)]
  · exact ⟨by rw [up2_at, e1, tp1.1, sk_Y tp1.2.1 e5, h.1.1 2 (by decide) (by decide)], by rw [up2_ne (by omega)]; exact e2, e3, by rw [up2_ne (by omega)]; exact e4, sk_le e5⟩
theorem numP_le {T : Nat → Int32} {k : Nat} {lo hi : Int32} {a : Nat} (ha : a ≤ n) : (∀ p, numP T n k lo hi a = .inl p → p ≤ n) ∧ ∀ b v, numP T n k lo hi a = .inr (b, v) → b ≤ n := by
  have hl := sk_le (T := T) ha
  have hd := dgL_le (T := T) k (sk T n a) 0 hl
  unfold numP
  constructor
  · intro p hp
    split at hp
    · split at hp
      · cases hp; exact hd
      · split at hp
        · cases hp; omega
        · cases hp
    · cases hp; exact hl
  · intro b v hp
    split at hp
    · split at hp
      · cases hp
      · split at hp
        · cases hp
        · cases hp; exact hd
    · cases hp
theorem p_number {b : Nat} {q : PRW} {lo hi : Int32} (tp : tpS A0 I0 n) (h : PS A0 I0 n (.inr (b, q)) A I) : Con 3 yX1_number cX1_number 6 (some .int) [.ref 4, .int 2, .int lo, .int hi] (hp A L I X) (fun r_ H_ => ∃ v, r_ = some (.int v) ∧ ∃ A1 I1, PS A0 I0 n (match numP (A0 2) n 2 lo hi b with | .inl p => .inl p | .inr (d, _) => .inr (d, q)) A1 I1 ∧ (∀ d x, numP (A0 2) n 2 lo hi b = .inr (d, x) → v = x) ∧ H_ = hp A1 L I1 X) := by
  have tp1 := tpS_smP tp h.1
  obtain ⟨e1, e2, e3, e4, e5⟩ := h.2
  refine Con.mono (fun r H' z => ?_) (u_number isC_4 (k := 2) (lo := lo) (hi := hi) e2 tp1.1 tp1.2.1 e1 e5 (by decide) (by decide))
  obtain ⟨v, y, z9, hr, hH, hm⟩ := z
  rw [h.1.1 2 (by decide) (by decide)] at hm
  have hsm : smP A0 I0 A (up2 (up2 I 4 1 y) 4 2 z9) := smP_tr h.1 (smP_tr (smP_4 (Or.inl rfl)) (smP_4 (Or.inr rfl)))
  have hb := numP_le (T := A0 2) (k := 2) (lo := lo) (hi := hi) e5
  cases hp : numP (A0 2) n 2 lo hi b with
  | inl p =>
    rw [hp] at hm
    exact ⟨v, hr, A, _, ⟨hsm, by rw [up2_at]; exact hm, hb.1 p hp⟩, (fun d x e => by cases e), hH⟩
  | inr q2 =>
    obtain ⟨d, x⟩ := q2
    rw [hp] at hm
    obtain ⟨rfl, hy, hz⟩ := hm
    exact ⟨v, hr, A, _, ⟨hsm, by rw [up2_c12]; exact hy, by rw [up2_at]; exact hz, e3, by rw [up2_ne (by omega), up2_ne (by omega)]; exact e4, hb.2 d _ hp⟩, (fun d x e => by cases e; rfl), hH⟩
end PD
theorem lg_USUAL : Cond.fieldLink RX6 77 RX6 "USUAL" "[I" ∈ m_T := m_T_2 124 (by decide +kernel) (by decide +kernel)
theorem lg_LOWEST : Cond.fieldLink RX6 113 RX6 "LOWEST" "[I" ∈ m_T := m_T_3 19 (by decide +kernel) (by decide +kernel)
theorem lg_HIGHEST : Cond.fieldLink RX6 116 RX6 "HIGHEST" "[I" ∈ m_T := m_T_3 21 (by decide +kernel) (by decide +kernel)
set_option maxHeartbeats 4000000 in
set_option maxRecDepth 100000 in
theorem p_letters  {Hp : m_H} {k : Int32}  : Con 1 yX6_lettersOf cX6_lettersOf 1 (some (.object "java/lang/String")) [.int k] Hp (fun r_ H_ => r_ = some (.ref (2000 + txI k)) ∧ H_ = Hp) := by
  refine m_con (by decide) (Nat.le_of_ble_eq_true rfl) ?_
  refine g_iload_n dX6_lettersOf_0 rfl rfl ?_
  refine g_if_ne (tgt := 7) dX6_lettersOf_1 (by decide) (fun c_1 => ?_) (fun c_1 => ?_)
  · refine g_iload_n dX6_lettersOf_7 rfl rfl ?_
    refine g_ic_1 dX6_lettersOf_8 ?_
    refine g_icmp_ne (tgt := 17) dX6_lettersOf_9 (by decide) (fun c_9 => ?_) (fun c_9 => ?_)
    · refine g_ldcS (i := 2) dX6_lettersOf_17 (by decide) rfl ?_
      exact g_aret dX6_lettersOf_19 ⟨by rw [txI, if_neg c_1, if_neg c_9], rfl⟩
    · refine g_ldcS (i := 1) dX6_lettersOf_12 (by decide) rfl ?_
      refine g_goto (tgt := 19) dX6_lettersOf_14 (by decide) ?_
      exact g_aret dX6_lettersOf_19 ⟨by rw [txI, if_neg c_1, if_pos c_9], rfl⟩
  · refine g_ldcS (i := 0) dX6_lettersOf_4 (by decide) rfl ?_
    exact g_aret dX6_lettersOf_6 ⟨by rw [txI, if_pos c_1], rfl⟩

set_option maxHeartbeats 4000000 in
set_option maxRecDepth 100000 in
theorem p_usual_loop {A : Nat → Nat → Int32} {L : Nat → Nat → Int64} {I : Nat → Nat → Int32} {X : Nat → Int64} {k place : Int32} : ∀ f i, i ≤ (m_sl.getD (txI k) 0) → (m_sl.getD (txI k) 0) - i < f → G 4 RX6 cX6_putUsual 5 none (fun r_ H_ => r_ = none ∧ H_ = hp (upS A 6 7 (usP (A 6) k place) (A 7)) L I X) 11 [some (.ref 3), some (.int k), some (.int place), some (.int (nI (m_sl.getD (txI k) 0))), some (.int (nI i))] [] (hp (upS A 6 7 (usF (A 6) k place i) (A 7)) L I X) := by
  intro f
  have hl := m_sl5 (txI5 (k := k))
  induction f with
  | zero => intro i h1 h2; omega
  | succ f ih =>
    intro i h1 h2
    refine g_iload dX6_putUsual_11 rfl ?_
    refine g_iload_n dX6_putUsual_13 rfl rfl ?_
    refine g_icmp_ge (tgt := 46) dX6_putUsual_14 (by decide) (fun c_14 => ?_) (fun c_14 => ?_)
    · have h6 := (nI_leI (a := (m_sl.getD (txI k) 0)) (b := i) (by omega) (by omega)).mp c_14
      have hkn : i = (m_sl.getD (txI k) 0) := by omega
      subst hkn
      exact g_vret dX6_putUsual_46 ⟨rfl, rfl⟩
    · refine g_aload_n dX6_putUsual_17 rfl rfl ?_
      refine g_get dX6_putUsual_18 fl_X6_12 hp_3 rfl ?_
      refine g_iload_n dX6_putUsual_21 rfl rfl ?_
      refine g_iload dX6_putUsual_22 rfl ?_
      refine g_iadd dX6_putUsual_24 ?_
      refine g_gets (n := "USUAL") (a := 1000) dX6_putUsual_25 lg_USUAL (Or.inl ⟨rfl, rfl⟩) ?_
      refine g_iload_n dX6_putUsual_28 rfl rfl ?_
      refine g_ic_5 dX6_putUsual_29 ?_
      refine g_imul dX6_putUsual_30 ?_
      refine g_iload dX6_putUsual_31 rfl ?_
      refine g_iadd dX6_putUsual_33 ?_
      refine g_callS dX6_putUsual_34 cs_X6_81 (as := [_, _]) (k_cell (Hp := _) (q := 1000) rfl (by decide)) (by decide) rfl rfl (Nat.le_of_ble_eq_true rfl) ?_
      rintro _ _ ⟨rfl, rfl⟩
      refine g_callV dX6_putUsual_37 cv_X6_85 (as' := [_, _]) hp_5 rfl (h_put isS_5) (by decide) rfl rfl (Nat.le_of_ble_eq_true rfl) ?_
      rintro _ _ ⟨rfl, rfl⟩
      try simp only [upS_upS (show (6 : Nat) ≠ 7 by decide), upS_r (show (6 : Nat) ≠ 7 by decide), upS_c]
      refine g_iinc1 dX6_putUsual_40 rfl (by decide) ?_
      refine g_goto (tgt := 11) dX6_putUsual_43 (by decide) ?_
      have hlt := Nat.not_le.mp (fun z2 => c_14 (nI_le (a := (m_sl.getD (txI k) 0)) (b := i) z2 (by omega)))
      rw [nI_1]
      exact ih (i + 1) (by omega) (by omega)

set_option maxHeartbeats 4000000 in
set_option maxRecDepth 100000 in
theorem p_usual {A : Nat → Nat → Int32} {L : Nat → Nat → Int64} {I : Nat → Nat → Int32} {X : Nat → Int64} {k place : Int32}  : Con 4 yX6_putUsual cX6_putUsual 5 none [.ref 3, .int k, .int place] (hp A L I X) (fun r_ H_ => r_ = none ∧ H_ = hp (upS A 6 7 (usP (A 6) k place) (A 7)) L I X) := by
  refine m_con (by decide) (Nat.le_of_ble_eq_true rfl) ?_
  refine g_iload_n dX6_putUsual_0 rfl rfl ?_
  refine g_callS dX6_putUsual_1 cs_X6_68 (as := [_]) p_letters (by decide) rfl rfl (Nat.le_of_ble_eq_true rfl) ?_
  rintro _ _ ⟨rfl, rfl⟩
  refine g_callT dX6_putUsual_4 ct_X6_72 (as' := []) txI5 rfl (j_len txI5) (by decide) rfl rfl (Nat.le_of_ble_eq_true rfl) ?_
  rintro _ _ ⟨rfl, rfl⟩
  refine g_istore_n dX6_putUsual_7 rfl (by decide) ?_
  refine g_ic_0 dX6_putUsual_8 ?_
  refine g_istore dX6_putUsual_9 (by decide) ?_
  have h := p_usual_loop (A := A) (L := L) (I := I) (X := X) (k := k) (place := place) ((m_sl.getD (txI k) 0) + 1) 0 (Nat.zero_le _) (by omega)
  rw [show usF (A 6) k place 0 = A 6 from rfl, upS_self] at h
  exact h

set_option maxHeartbeats 4000000 in
set_option maxRecDepth 100000 in
theorem p_room {A : Nat → Nat → Int32} {L : Nat → Nat → Int64} {I : Nat → Nat → Int32} {X : Nat → Int64} {k : Int32}  : Con 3 yX6_hasRoom cX6_hasRoom 2 (some .boolean) [.ref 3, .int k] (hp A L I X) (fun r_ H_ => r_ = some (.int (roomP k (A 6) (I 3 2))) ∧ H_ = hp A L I X) := by
  refine m_con (by decide) (Nat.le_of_ble_eq_true rfl) ?_
  refine g_iload_n dX6_hasRoom_0 rfl rfl ?_
  refine g_if_ne (tgt := 17) dX6_hasRoom_1 (by decide) (fun c_1 => ?_) (fun c_1 => ?_)
  · refine g_iload_n dX6_hasRoom_17 rfl rfl ?_
    refine g_ic_1 dX6_hasRoom_18 ?_
    refine g_icmp_ne (tgt := 44) dX6_hasRoom_19 (by decide) (fun c_19 => ?_) (fun c_19 => ?_)
    · refine g_aload_n dX6_hasRoom_44 rfl rfl ?_
      refine g_get dX6_hasRoom_45 fl_X6_12 hp_3 rfl ?_
      refine g_bipush (v := 10) dX6_hasRoom_48 (by decide) ?_
      refine g_callV dX6_hasRoom_50 cv_X6_57 (as' := [_]) hp_5 rfl (h_get isS_5) (by decide) rfl rfl (Nat.le_of_ble_eq_true rfl) ?_
      rintro _ _ ⟨rfl, rfl⟩
      refine g_ic_5 dX6_hasRoom_53 ?_
      refine g_icmp_ge (tgt := 61) dX6_hasRoom_54 (by decide) (fun c_54 => ?_) (fun c_54 => ?_)
      · refine g_ic_0 dX6_hasRoom_61 ?_
        exact g_zret (by first | exact Or.inl rfl | exact Or.inr rfl) dX6_hasRoom_62 ⟨by simp [roomP, c_1, c_19, c_54], rfl⟩
      · refine g_ic_1 dX6_hasRoom_57 ?_
        refine g_goto (tgt := 62) dX6_hasRoom_58 (by decide) ?_
        exact g_zret (by first | exact Or.inl rfl | exact Or.inr rfl) dX6_hasRoom_62 ⟨by simp [roomP, c_1, c_19, c_54], rfl⟩
    · refine g_aload_n dX6_hasRoom_22 rfl rfl ?_
      refine g_get dX6_hasRoom_23 fl_X6_12 hp_3 rfl ?_
      refine g_bipush (v := 9) dX6_hasRoom_26 (by decide) ?_
      refine g_callV dX6_hasRoom_28 cv_X6_57 (as' := [_]) hp_5 rfl (h_get isS_5) (by decide) rfl rfl (Nat.le_of_ble_eq_true rfl) ?_
      rintro _ _ ⟨rfl, rfl⟩
      refine g_bipush (v := 8) dX6_hasRoom_31 (by decide) ?_
      refine g_icmp_ge (tgt := 40) dX6_hasRoom_33 (by decide) (fun c_33 => ?_) (fun c_33 => ?_)
      · refine g_ic_0 dX6_hasRoom_40 ?_
        refine g_goto (tgt := 62) dX6_hasRoom_41 (by decide) ?_
        exact g_zret (by first | exact Or.inl rfl | exact Or.inr rfl) dX6_hasRoom_62 ⟨by simp [roomP, c_1, c_19, c_33], rfl⟩
      · refine g_ic_1 dX6_hasRoom_36 ?_
        refine g_goto (tgt := 62) dX6_hasRoom_37 (by decide) ?_
        exact g_zret (by first | exact Or.inl rfl | exact Or.inr rfl) dX6_hasRoom_62 ⟨by simp [roomP, c_1, c_19, c_33], rfl⟩
  · refine g_aload_n dX6_hasRoom_4 rfl rfl ?_
    refine g_get dX6_hasRoom_5 fl_X6_33 hp_3 rfl ?_
    refine g_if_ne (tgt := 15) dX6_hasRoom_8 (by decide) (fun c_8 => ?_) (fun c_8 => ?_)
    · refine g_ic_0 dX6_hasRoom_15 ?_
      exact g_zret (by first | exact Or.inl rfl | exact Or.inr rfl) dX6_hasRoom_16 ⟨by simp [roomP, c_1, c_8], rfl⟩
    · refine g_ic_1 dX6_hasRoom_11 ?_
      refine g_goto (tgt := 16) dX6_hasRoom_12 (by decide) ?_
      exact g_zret (by first | exact Or.inl rfl | exact Or.inr rfl) dX6_hasRoom_16 ⟨by simp [roomP, c_1, c_8], rfl⟩

set_option maxHeartbeats 4000000 in
set_option maxRecDepth 100000 in
theorem p_begin {A : Nat → Nat → Int32} {L : Nat → Nat → Int64} {I : Nat → Nat → Int32} {X : Nat → Int64} {k : Int32}  : Con 3 yX6_beginClause cX6_beginClause 2 (some .int) [.ref 3, .int k] (hp A L I X) (fun r_ H_ => r_ = some (.int (begV k (A 6))) ∧ H_ = hp (upS A 6 7 (begD k (A 6)) (A 7)) L (if k = 0 then up2 I 3 2 1 else I) X) := by
  refine m_con (by decide) (Nat.le_of_ble_eq_true rfl) ?_
  refine g_iload_n dX6_beginClause_0 rfl rfl ?_
  refine g_if_ne (tgt := 11) dX6_beginClause_1 (by decide) (fun c_1 => ?_) (fun c_1 => ?_)
  · refine g_iload_n dX6_beginClause_11 rfl rfl ?_
    refine g_ic_1 dX6_beginClause_12 ?_
    refine g_icmp_ne (tgt := 43) dX6_beginClause_13 (by decide) (fun c_13 => ?_) (fun c_13 => ?_)
    · refine g_aload_n dX6_beginClause_43 rfl rfl ?_
      refine g_get dX6_beginClause_44 fl_X6_12 hp_3 rfl ?_
      refine g_bipush (v := 10) dX6_beginClause_47 (by decide) ?_
      refine g_ic_1 dX6_beginClause_49 ?_
      refine g_callV dX6_beginClause_50 cv_X6_110 (as' := [_, _]) hp_5 rfl (h_add isS_5) (by decide) rfl rfl (Nat.le_of_ble_eq_true rfl) ?_
      rintro _ _ ⟨rfl, rfl⟩
      try simp only [upS_upS (show (6 : Nat) ≠ 7 by decide), upS_r (show (6 : Nat) ≠ 7 by decide), upS_c]
      refine g_bipush (v := 53) dX6_beginClause_53 (by decide) ?_
      refine g_aload_n dX6_beginClause_55 rfl rfl ?_
      refine g_get dX6_beginClause_56 fl_X6_12 hp_3 rfl ?_
      refine g_bipush (v := 10) dX6_beginClause_59 (by decide) ?_
      refine g_callV dX6_beginClause_61 cv_X6_57 (as' := [_]) hp_5 rfl (h_get isS_5) (by decide) rfl rfl (Nat.le_of_ble_eq_true rfl) ?_
      rintro _ _ ⟨rfl, rfl⟩
      try simp only [upS_upS (show (6 : Nat) ≠ 7 by decide), upS_r (show (6 : Nat) ≠ 7 by decide), upS_c]
      refine g_ic_1 dX6_beginClause_64 ?_
      refine g_isub dX6_beginClause_65 ?_
      refine g_bipush (v := 6) dX6_beginClause_66 (by decide) ?_
      refine g_imul dX6_beginClause_68 ?_
      refine g_iadd dX6_beginClause_69 ?_
      exact g_iret dX6_beginClause_70 ⟨by simp only [begV, begD, if_neg c_1, if_neg c_13], by simp only [begD, if_neg c_1, if_neg c_13]⟩
    · refine g_aload_n dX6_beginClause_16 rfl rfl ?_
      refine g_get dX6_beginClause_17 fl_X6_12 hp_3 rfl ?_
      refine g_bipush (v := 9) dX6_beginClause_20 (by decide) ?_
      refine g_ic_1 dX6_beginClause_22 ?_
      refine g_callV dX6_beginClause_23 cv_X6_110 (as' := [_, _]) hp_5 rfl (h_add isS_5) (by decide) rfl rfl (Nat.le_of_ble_eq_true rfl) ?_
      rintro _ _ ⟨rfl, rfl⟩
      try simp only [upS_upS (show (6 : Nat) ≠ 7 by decide), upS_r (show (6 : Nat) ≠ 7 by decide), upS_c]
      refine g_bipush (v := 13) dX6_beginClause_26 (by decide) ?_
      refine g_aload_n dX6_beginClause_28 rfl rfl ?_
      refine g_get dX6_beginClause_29 fl_X6_12 hp_3 rfl ?_
      refine g_bipush (v := 9) dX6_beginClause_32 (by decide) ?_
      refine g_callV dX6_beginClause_34 cv_X6_57 (as' := [_]) hp_5 rfl (h_get isS_5) (by decide) rfl rfl (Nat.le_of_ble_eq_true rfl) ?_
      rintro _ _ ⟨rfl, rfl⟩
      try simp only [upS_upS (show (6 : Nat) ≠ 7 by decide), upS_r (show (6 : Nat) ≠ 7 by decide), upS_c]
      refine g_ic_1 dX6_beginClause_37 ?_
      refine g_isub dX6_beginClause_38 ?_
      refine g_ic_5 dX6_beginClause_39 ?_
      refine g_imul dX6_beginClause_40 ?_
      refine g_iadd dX6_beginClause_41 ?_
      exact g_iret dX6_beginClause_42 ⟨by simp only [begV, begD, if_neg c_1, if_pos c_13], by simp only [begD, if_neg c_1, if_pos c_13]⟩
  · refine g_aload_n dX6_beginClause_4 rfl rfl ?_
    refine g_ic_1 dX6_beginClause_5 ?_
    refine g_putz dX6_beginClause_6 fw_X6_33 hp_3 (by first | exact Or.inl rfl | exact Or.inr rfl) (Nat.le_of_ble_eq_true rfl) ?_
    rw [hq_3_2]
    refine g_ic_0 dX6_beginClause_9 ?_
    exact g_iret dX6_beginClause_10 ⟨by rw [begV, if_pos c_1], by rw [begD, if_pos c_1, if_pos c_1, upS_self]⟩
