/-! SEASON: turns -/
def dyS (s : (Nat → Int32) × (Nat → Int32) × Int32) : (Nat → Int32) × (Nat → Int32) × Int32 := ((grS (tdF s.1) (gt 143 (tdF s.1) 5)).1, tdG s.1 s.2.1, s.2.2 ||| (grS (tdF s.1) (gt 143 (tdF s.1) 5)).2)
def dysS (p : Int32) (f g : Nat → Int32) : (Nat → Int32) × (Nat → Int32) × Int32 := itn (fun _ => dyS) p.toNatClampNeg (f, g, 0)
def tnS (C Z : Nat → Int32) (hold : Int32) (s : (Nat → Int32) × (Nat → Int32)) : (Nat → Int32) × (Nat → Int32) :=
  let p := plS C Z hold s.1
  let w := dysS p s.1 s.2
  let f4 := pt 143 (ehF w.1) 8 (gt 143 (ehF w.1) 8 + 1)
  (wlF f4 p w.2.2, w.2.1)
def tnsS (C Z : Nat → Int32) (hold : Int32) (n : Nat) (s : (Nat → Int32) × (Nat → Int32)) : (Nat → Int32) × (Nat → Int32) := itn (fun _ => tnS C Z hold) n s
theorem scr_upS {A I A2 I2 : Nat → Nat → Int32} {q r c : Nat} {f g : Nat → Int32} (hs : isS q r c) (h : scr (upS A r c f g) I A2 I2) : ∃ A3, A2 = upS A3 r c f g ∧ scr A I A3 I2 := by
  obtain ⟨V, K, t, rfl, rfl⟩ := h
  obtain ⟨a1, a2, a3, a4, -⟩ := isS_l hs
  refine ⟨up (up A 14 V) 15 K, ?_, V, K, t, rfl, rfl⟩
  funext j
  unfold upS up
  by_cases h5 : j = 15
  · subst h5
    rw [if_pos rfl, if_neg (Ne.symm a4), if_neg (Ne.symm a2), if_pos rfl]
  · rw [if_neg h5]
    by_cases h4 : j = 14
    · subst h4
      rw [if_pos rfl, if_neg (Ne.symm a3), if_neg (Ne.symm a1), if_neg (by decide), if_pos rfl]
    · rw [if_neg h4, if_neg h5, if_neg h4]
theorem pl_upS {A I A1 I1 : Nat → Nat → Int32} {q r c : Nat} {f g : Nat → Int32} (hs : isS q r c) (h : scr A I A1 I1) : plS (upS A1 r c f g 12) (upS A1 r c f g 13) (I1 11 5) (upS A1 r c f g r) = plS (A 12) (A 13) (I 11 5) f := by
  obtain ⟨a1, a2, a3, a4, a5, a6, a7, a8, a9⟩ := isS_l hs
  rw [upS_ne (Ne.symm a5) (Ne.symm a7), upS_ne (Ne.symm a6) (Ne.symm a8), upS_r a9, scr_ne h (j := 12) (by decide) (by decide), scr_ne h (j := 13) (by decide) (by decide), scr_I h (by decide)]

set_option maxHeartbeats 4000000 in
set_option maxRecDepth 100000 in
theorem t_days {A : Nat → Nat → Int32} {L : Nat → Nat → Int64} {I : Nat → Nat → Int32} {X : Nat → Int64} {q r c : Nat} {n0 p0 : Int32} {tl : Option Value} {f g : Nat → Int32} {Q : Option Value → m_H → Prop} (hs : isS q r c) (hE : G 5 RX7 cX7_takeTurns 7 none Q 51 [some (.ref q), some (.int n0), some (.ref 11), tl, some (.int (p0)), some (.int ((dysS p0 f g).2.2)), some (.int (nI p0.toNatClampNeg))] [] (hp (upS A r c (dysS p0 f g).1 (dysS p0 f g).2.1) L I X)) : ∀ n k s, s = itn (fun _ => dyS) k (f, g, 0) → k ≤ p0.toNatClampNeg → p0.toNatClampNeg - k < n → G 5 RX7 cX7_takeTurns 7 none Q 20 [some (.ref q), some (.int n0), some (.ref 11), tl, some (.int (p0)), some (.int (s.2.2)), some (.int (nI k))] [] (hp (upS A r c s.1 s.2.1) L I X) := by
  have a9 := (isS_l hs).2.2.2.2.2.2.2.2
  intro n
  induction n with
  | zero => intro k s hs1 h1 h2; omega
  | succ n ih =>
    intro k s hs1 h1 h2
    have hb := clamp_lt p0
    refine g_iload dX7_takeTurns_20 rfl ?_
    refine g_iload dX7_takeTurns_22 rfl ?_
    refine g_icmp_ge (tgt := 51) dX7_takeTurns_24 (by decide) (fun c_24 => ?_) (fun c_24 => ?_)
    · have h6 := (nI_gen (k := k) (by omega)).mp c_24
      have hkn : k = p0.toNatClampNeg := by omega
      subst hkn
      rw [hs1]
      exact hE
    · have hlt : k < p0.toNatClampNeg := Nat.not_le.mp (fun z => c_24 ((nI_gen (by omega)).mpr z))
      refine g_aload_n dX7_takeTurns_27 rfl rfl ?_
      refine g_callV dX7_takeTurns_28 cv_X7_58 (as' := []) (isS_q hs) rfl (h_takeDay hs) (by decide) rfl rfl (Nat.le_of_ble_eq_true rfl) ?_
      rintro _ _ ⟨rfl, rfl⟩
      simp only [upS_upS a9, upS_r a9, upS_c]
      refine g_iload dX7_takeTurns_31 rfl ?_
      refine g_aload_n dX7_takeTurns_33 rfl rfl ?_
      refine g_aload_n dX7_takeTurns_34 rfl rfl ?_
      refine g_ic_5 dX7_takeTurns_35 ?_
      refine g_callV dX7_takeTurns_36 cv_X7_30 (as' := [_]) (isS_q hs) rfl (h_get hs) (by decide) rfl rfl (Nat.le_of_ble_eq_true rfl) ?_
      rintro _ _ ⟨rfl, rfl⟩
      simp only [upS_upS a9, upS_r a9, upS_c]
      refine g_callV dX7_takeTurns_39 cv_X7_61 (as' := [_]) (isS_q hs) rfl (h_grow hs) (by decide) rfl rfl (Nat.le_of_ble_eq_true rfl) ?_
      rintro _ _ ⟨rfl, rfl⟩
      simp only [upS_upS a9, upS_r a9, upS_c]
      refine g_ior dX7_takeTurns_42 ?_
      refine g_istore dX7_takeTurns_43 (by decide) ?_
      refine g_iinc1 dX7_takeTurns_45 rfl (by decide) ?_
      refine g_goto (tgt := 20) dX7_takeTurns_48 (by decide) ?_
      rw [nI_1]
      exact ih (k + 1) (dyS s) (by rw [hs1]; rfl) (by omega) (by omega)

set_option maxHeartbeats 4000000 in
set_option maxRecDepth 100000 in
theorem t_turns {A : Nat → Nat → Int32} {L : Nat → Nat → Int64} {I : Nat → Nat → Int32} {X : Nat → Int64} {q r c : Nat} {n0 : Int32} {s0 : (Nat → Int32) × (Nat → Int32)} {Q : Option Value → m_H → Prop} (hs : isS q r c) (hQ : ∀ s A1 I1, s = tnsS (A 12) (A 13) (I 11 5) n0.toNatClampNeg s0 → scr A I A1 I1 → Q none (hp (upS A1 r c s.1 s.2) L I1 X)) : ∀ n k s A1 I1, s = tnsS (A 12) (A 13) (I 11 5) k s0 → scr A I A1 I1 → k ≤ n0.toNatClampNeg → n0.toNatClampNeg - k < n → G 5 RX7 cX7_takeTurns 7 none Q 2 [some (.ref q), some (.int n0), some (.ref 11), some (.int (nI k)), none, none, none] [] (hp (upS A1 r c s.1 s.2) L I1 X) := by
  have a9 := (isS_l hs).2.2.2.2.2.2.2.2
  intro n
  induction n with
  | zero => intro k s A1 I1 hs1 hsc h1 h2; omega
  | succ n ih =>
    intro k s A1 I1 hs1 hsc h1 h2
    have hb := clamp_lt n0
    refine g_iload_n dX7_takeTurns_2 rfl rfl ?_
    refine g_iload_n dX7_takeTurns_3 rfl rfl ?_
    refine g_icmp_ge (tgt := 76) dX7_takeTurns_4 (by decide) (fun c_4 => ?_) (fun c_4 => ?_)
    · have h6 := (nI_gen (k := k) (by omega)).mp c_4
      have hkn : k = n0.toNatClampNeg := by omega
      subst hkn
      exact g_vret dX7_takeTurns_76 (hQ _ _ _ hs1 hsc)
    · have hlt : k < n0.toNatClampNeg := Nat.not_le.mp (fun z => c_4 ((nI_gen (by omega)).mpr z))
      refine g_aload_n dX7_takeTurns_7 rfl rfl ?_
      refine g_aload_n dX7_takeTurns_8 rfl rfl ?_
      refine g_callV dX7_takeTurns_9 cv_X7_52 (as' := [_]) hp_11 rfl (l_pull hs) (by decide) rfl rfl (Nat.le_of_ble_eq_true rfl) ?_
      rintro _ _ ⟨rfl, A2, I2, h2, rfl⟩
      obtain ⟨A3, rfl, h3⟩ := scr_upS hs h2
      rw [pl_upS hs hsc]
      have hsc3 := scr_tr hsc h3
      refine g_istore dX7_takeTurns_12 (by decide) ?_
      refine g_ic_0 dX7_takeTurns_14 ?_
      refine g_istore dX7_takeTurns_15 (by decide) ?_
      refine g_ic_0 dX7_takeTurns_17 ?_
      refine g_istore dX7_takeTurns_18 (by decide) ?_
      refine t_days (f := s.1) (g := s.2) hs ?_ _ 0 (s.1, s.2, 0) rfl (Nat.zero_le _) (Nat.lt_succ_self _)
      refine g_aload_n dX7_takeTurns_51 rfl rfl ?_
      refine g_callV dX7_takeTurns_52 cv_X7_64 (as' := []) (isS_q hs) rfl (h_eatHay hs) (by decide) rfl rfl (Nat.le_of_ble_eq_true rfl) ?_
      rintro _ _ ⟨rfl, rfl⟩
      simp only [upS_upS a9, upS_r a9, upS_c]
      refine g_aload_n dX7_takeTurns_55 rfl rfl ?_
      refine g_bipush (v := 8) dX7_takeTurns_56 (by decide) ?_
      refine g_ic_1 dX7_takeTurns_58 ?_
      refine g_callV dX7_takeTurns_59 cv_X7_49 (as' := [_, _]) (isS_q hs) rfl (h_add hs) (by decide) rfl rfl (Nat.le_of_ble_eq_true rfl) ?_
      rintro _ _ ⟨rfl, rfl⟩
      simp only [upS_upS a9, upS_r a9, upS_c]
      refine g_aload_n dX7_takeTurns_62 rfl rfl ?_
      refine g_iload dX7_takeTurns_63 rfl ?_
      refine g_iload dX7_takeTurns_65 rfl ?_
      refine g_callV dX7_takeTurns_67 cv_X7_67 (as' := [_, _]) (isS_q hs) rfl (h_writeLog hs) (by decide) rfl rfl (Nat.le_of_ble_eq_true rfl) ?_
      rintro _ _ ⟨rfl, rfl⟩
      simp only [upS_upS a9, upS_r a9, upS_c]
      refine g_iinc1 dX7_takeTurns_70 rfl (by decide) ?_
      refine g_goto (tgt := 2) dX7_takeTurns_73 (by decide) ?_
      refine g_loc (ls' := [some (.ref q), some (.int n0), some (.ref 11), some (.int (nI k + 1)), none, none, none]) (fun i v h => by rcases i with _|_|_|_|_|_|_|_ <;> first | exact h | cases h) ?_
      rw [nI_1]
      exact ih (k + 1) (tnS (A 12) (A 13) (I 11 5) s) A3 I2 (by rw [hs1]; rfl) hsc3 (by omega) (by omega)

set_option maxHeartbeats 4000000 in
set_option maxRecDepth 100000 in
theorem h_turns {A : Nat → Nat → Int32} {L : Nat → Nat → Int64} {I : Nat → Nat → Int32} {X : Nat → Int64} {q r c : Nat} {n0 : Int32} (hs : isS q r c) : Con 5 yX7_takeTurns cX7_takeTurns 7 none [.ref q, .int n0, .ref 11] (hp A L I X) (fun r_ H_ => r_ = none ∧ ∃ A1 I1, scr A I A1 I1 ∧ H_ = hp (upS A1 r c (tnsS (A 12) (A 13) (I 11 5) n0.toNatClampNeg (A r, A c)).1 (tnsS (A 12) (A 13) (I 11 5) n0.toNatClampNeg (A r, A c)).2) L I1 X) := by
  refine m_con (by decide) (Nat.le_of_ble_eq_true rfl) ?_
  refine g_ic_0 dX7_takeTurns_0 ?_
  refine g_istore_n dX7_takeTurns_1 rfl (by decide) ?_
  have h := t_turns (A := A) (L := L) (I := I) (X := X) (n0 := n0) (s0 := (A r, A c)) (Q := (fun r_ H_ => r_ = none ∧ ∃ A1 I1, scr A I A1 I1 ∧ H_ = hp (upS A1 r c (tnsS (A 12) (A 13) (I 11 5) n0.toNatClampNeg (A r, A c)).1 (tnsS (A 12) (A 13) (I 11 5) n0.toNatClampNeg (A r, A c)).2) L I1 X)) hs (fun s A1 I1 e h => ⟨rfl, A1, I1, h, by rw [e]⟩) _ 0 (A r, A c) A I rfl scr_rf (Nat.zero_le _) (Nat.lt_succ_self _)
  rw [upS_self] at h
  exact h
