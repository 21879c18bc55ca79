/-! LAWS: worth. The stack as a list, its top first -/
def wPush (v : Int32) (S : List Int32) : List Int32 := if S.length < 64 then v :: S else S
def stR (K : Nat → Int32) (t : Int32) (S : List Int32) : Prop := S.length ≤ 64 ∧ t = nI S.length ∧ ∀ j, j < S.length → S.reverse[j]? = some (K j)
theorem stR_nil {K : Nat → Int32} : stR K 0 [] := ⟨Nat.zero_le _, rfl, fun j h => absurd h (Nat.not_lt_zero j)⟩
theorem stR_push {K : Nat → Int32} {t v : Int32} {S : List Int32} (h : stR K t S) : stR (psK K t v) (psT t) (wPush v S) := by
  obtain ⟨h1, rfl, h3⟩ := h
  unfold psK psT wPush
  rw [if_neg (nI_pos (by omega)), if_neg (nI_pos (by omega))]
  by_cases h64 : S.length < 64
  · have hn : ¬ (64 : Int32) ≤ nI S.length := nI_ge (b := 64) h64 (by decide)
    rw [if_neg hn, if_neg hn, if_pos h64, nI_1, nI_clamp (by omega)]
    refine ⟨by simp only [List.length_cons]; omega, by rw [List.length_cons], fun j hj => ?_⟩
    rw [List.length_cons] at hj
    rw [List.reverse_cons]
    by_cases hjl : j < S.length
    · rw [List.getElem?_append_left (by rw [List.length_reverse]; exact hjl), h3 j hjl]
      unfold upd
      rw [if_neg (by omega)]
    · have e : j = S.length := by omega
      subst e
      rw [List.getElem?_append_right (by rw [List.length_reverse]; exact Nat.le_refl _)]
      unfold upd
      simp
  · have hn : (64 : Int32) ≤ nI S.length := nI_le (a := 64) (by omega) (by omega)
    rw [if_pos hn, if_pos hn, if_neg h64]
    exact ⟨h1, rfl, h3⟩
theorem stR_pop {K : Nat → Int32} {t : Int32} {S : List Int32} (h : stR K t S) : ppV K t = S.headD 0 ∧ stR K (ppT t) S.tail := by
  obtain ⟨h1, rfl, h3⟩ := h
  unfold ppV ppT
  cases S with
  | nil =>
    have e : nI (([] : List Int32).length) < 1 := by decide
    rw [if_pos e, if_pos e]
    exact ⟨rfl, h1, rfl, h3⟩
  | cons a S =>
    have e : ¬ nI ((a :: S).length) < 1 := nI_nlt (b := 1) (by simp) (by simp only [List.length_cons] at h1 ⊢; omega)
    have e2 : nI ((a :: S).length) ≤ 64 := nI_le (b := 64) h1 (by decide)
    rw [if_neg e, if_neg e, if_pos e2, if_pos e2, List.length_cons, nI_pred, nI_clamp (by simp only [List.length_cons] at h1; omega)]
    have h4 := h3 S.length (by simp)
    rw [List.reverse_cons, List.getElem?_append_right (by rw [List.length_reverse]; exact Nat.le_refl _)] at h4
    simp at h4
    refine ⟨h4.symm, by simp only [List.length_cons, List.tail_cons] at h1 ⊢; omega, by rw [List.tail_cons], fun j hj => ?_⟩
    rw [List.tail_cons] at hj ⊢
    have h5 := h3 j (by simp only [List.length_cons]; omega)
    rw [List.reverse_cons, List.getElem?_append_left (by rw [List.length_reverse]; exact hj)] at h5
    exact h5
def wRun (C V : Nat → Int32) (base n : Int32) : Nat → Int32 → List Int32 → Int32
  | 0, _, _ => 0
  | fuel + 1, i, S => if n ≤ i then 0 else
    let w := gt 960 C (base + i)
    let a := rm w 10000
    if w / 10000 = 0 then wRun C V base n fuel (i + 1) (wPush a S)
    else if w / 10000 = 1 then wRun C V base n fuel (i + 1) (wPush (gt 6 V a) S)
    else if w / 10000 = 2 then (if a = 33 then wRun C V base n fuel (i + 1) (wPush (hld (jnd 0 a (S.headD 0))) S.tail) else wRun C V base n fuel (i + 1) (wPush (hld (jnd (S.tail.headD 0) a (S.headD 0))) S.tail.tail))
    else if w / 10000 = 3 then (if S.headD 0 = 0 then wRun C V base n fuel (mx i (a - 1) + 1) S.tail else wRun C V base n fuel (i + 1) S.tail)
    else S.headD 0
theorem rm_small (w : Int32) : -10000 < (rm w 10000).toInt ∧ (rm w 10000).toInt < 10000 := by
  have e : (10000 : Int32).toInt = 10000 := by decide
  have h := w.toInt_lt
  have h2 := w.le_toInt
  unfold rm
  rw [Int32.toInt_sub, Int32.toInt_mul, Int32.toInt_div, e]
  have h4 := Int.tmod_add_mul_tdiv w.toInt 10000
  have h5 := Int.lt_tmod_of_pos w.toInt (b := 10000) (by decide)
  have h6 := Int.tmod_lt_of_pos w.toInt (b := 10000) (by decide)
  generalize w.toInt.tdiv 10000 = t at h4 ⊢
  have e3 : t.bmod (2 ^ 32) = t := by
    rw [Int.bmod_def]
    omega
  rw [e3]
  rw [Int.bmod_def, Int.bmod_def]
  omega
theorem mx_toInt (x y : Int32) : (mx x y).toInt = max x.toInt y.toInt := by
  unfold mx
  split
  · rename_i h; rw [Int32.lt_iff_toInt_lt] at h; omega
  · rename_i h; rw [Int32.lt_iff_toInt_lt] at h; omega
theorem mn_toInt (x y : Int32) : (mn x y).toInt = min x.toInt y.toInt := by
  unfold mn
  split
  · rename_i h; rw [Int32.lt_iff_toInt_lt] at h; omega
  · rename_i h; rw [Int32.lt_iff_toInt_lt] at h; omega
theorem add1_toInt {x : Int32} (h : x.toInt < 2 ^ 31 - 1) : (x + 1).toInt = x.toInt + 1 := by
  have h2 := x.le_toInt
  have e : (1 : Int32).toInt = 1 := by decide
  rw [Int32.toInt_add, e, Int.bmod_def]
  omega
theorem sub1_toInt {x : Int32} (h : - 2 ^ 31 < x.toInt) : (x - 1).toInt = x.toInt - 1 := by
  have h2 := x.toInt_lt
  have e : (1 : Int32).toInt = 1 := by decide
  rw [Int32.toInt_sub, e, Int.bmod_def]
  omega

theorem sw4 (x : Int32) : x = 0 ∨ x = 1 ∨ x = 2 ∨ x = 3 ∨ ((x.toInt < 0 ∨ 3 < x.toInt) ∧ ¬ x = 0 ∧ ¬ x = 1 ∧ ¬ x = 2 ∧ ¬ x = 3) := by
  by_cases h0 : x = 0
  · exact Or.inl h0
  by_cases h1 : x = 1
  · exact Or.inr (Or.inl h1)
  by_cases h2 : x = 2
  · exact Or.inr (Or.inr (Or.inl h2))
  by_cases h3 : x = 3
  · exact Or.inr (Or.inr (Or.inr (Or.inl h3)))
  refine Or.inr (Or.inr (Or.inr (Or.inr ⟨?_, h0, h1, h2, h3⟩)))
  have a0 : ¬ x.toInt = 0 := i32_ne h0
  have a1 : ¬ x.toInt = 1 := i32_ne h1
  have a2 : ¬ x.toInt = 2 := i32_ne h2
  have a3 : ¬ x.toInt = 3 := i32_ne h3
  omega
section WR
variable {C V : Nat → Int32} {b n i : Int32} {fuel : Nat} {S : List Int32}
theorem wr_e (h : n ≤ i) : wRun C V b n (fuel + 1) i S = 0 := if_pos h
theorem wr0 (h : ¬ n ≤ i) (e : gt 960 C (b + i) / 10000 = 0) : wRun C V b n (fuel + 1) i S = wRun C V b n fuel (i + 1) (wPush (rm (gt 960 C (b + i)) 10000) S) := (if_neg h).trans (if_pos e)
theorem wr1 (h : ¬ n ≤ i) (e : gt 960 C (b + i) / 10000 = 1) : wRun C V b n (fuel + 1) i S = wRun C V b n fuel (i + 1) (wPush (gt 6 V (rm (gt 960 C (b + i)) 10000)) S) := (if_neg h).trans ((if_neg (by rw [e]; decide)).trans (if_pos e))
theorem wr2 (h : ¬ n ≤ i) (e : gt 960 C (b + i) / 10000 = 2) : wRun C V b n (fuel + 1) i S = (if rm (gt 960 C (b + i)) 10000 = 33 then wRun C V b n fuel (i + 1) (wPush (hld (jnd 0 (rm (gt 960 C (b + i)) 10000) (S.headD 0))) S.tail) else wRun C V b n fuel (i + 1) (wPush (hld (jnd (S.tail.headD 0) (rm (gt 960 C (b + i)) 10000) (S.headD 0))) S.tail.tail)) := (if_neg h).trans ((if_neg (by rw [e]; decide)).trans ((if_neg (by rw [e]; decide)).trans (if_pos e)))
theorem wr3 (h : ¬ n ≤ i) (e : gt 960 C (b + i) / 10000 = 3) : wRun C V b n (fuel + 1) i S = (if S.headD 0 = 0 then wRun C V b n fuel (mx i (rm (gt 960 C (b + i)) 10000 - 1) + 1) S.tail else wRun C V b n fuel (i + 1) S.tail) := (if_neg h).trans ((if_neg (by rw [e]; decide)).trans ((if_neg (by rw [e]; decide)).trans ((if_neg (by rw [e]; decide)).trans (if_pos e))))
theorem wr4 (h : ¬ n ≤ i) (e0 : ¬ gt 960 C (b + i) / 10000 = 0) (e1 : ¬ gt 960 C (b + i) / 10000 = 1) (e2 : ¬ gt 960 C (b + i) / 10000 = 2) (e3 : ¬ gt 960 C (b + i) / 10000 = 3) : wRun C V b n (fuel + 1) i S = S.headD 0 := (if_neg h).trans ((if_neg e0).trans ((if_neg e1).trans ((if_neg e2).trans (if_neg e3))))
end WR
set_option maxHeartbeats 4000000 in
set_option maxRecDepth 100000 in
theorem l_worth_loop {A : Nat → Nat → Int32} {L : Nat → Nat → Int64} {I : Nat → Nat → Int32} {X : Nat → Int64} {b n : Int32} {Q : Option Value → m_H → Prop} (hn : n.toInt ≤ 240) : ∀ (fuel : Nat) (i : Int32) (S : List Int32) (K : Nat → Int32) (t : Int32), stR K t S → 0 ≤ i.toInt → 240 - i.toInt < (fuel : Int) → (∀ K' t', Q (some (.int (wRun (A 12) (A 14) b n fuel i S))) (hp (up A 15 K') L (up2 I 11 6 t') X)) → G 3 RX5 cX5_worth 7 (some .int) Q 34 [some (.ref 11), some (.int b), some (.int n), some (.int i), none, none, none] [] (hp (up A 15 K) L (up2 I 11 6 t) X) := by
  intro fuel
  induction fuel with
  | zero =>
    intro i S K t hK h0 h1 hQ
    have h4 : n ≤ i := by rw [Int32.le_iff_toInt_le]; omega
    refine g_iload_n dX5_worth_34 rfl rfl ?_
    refine g_iload_n dX5_worth_35 rfl rfl ?_
    refine g_icmp_ge (tgt := 189) dX5_worth_36 (by decide) (fun c_36 => ?_) (fun c_36 => ?_)
    · refine g_ic_0 dX5_worth_189 ?_
      exact g_iret dX5_worth_190 (hQ K t)
    · exact absurd h4 c_36
  | succ fuel ih =>
    intro i S K t hK h0 h1 hQ
    refine g_iload_n dX5_worth_34 rfl rfl ?_
    refine g_iload_n dX5_worth_35 rfl rfl ?_
    refine g_icmp_ge (tgt := 189) dX5_worth_36 (by decide) (fun c_36 => ?_) (fun c_36 => ?_)
    · refine g_ic_0 dX5_worth_189 ?_
      exact g_iret dX5_worth_190 (by have h5 := hQ K t; rw [wr_e c_36] at h5; exact h5)
    · have hlt : i.toInt < n.toInt := by rw [Int32.le_iff_toInt_le] at c_36; omega
      refine g_aload_n dX5_worth_39 rfl rfl ?_
      refine g_get dX5_worth_40 fl_X5_9 hp_11 rfl ?_
      refine g_iload_n dX5_worth_43 rfl rfl ?_
      refine g_iload_n dX5_worth_44 rfl rfl ?_
      refine g_iadd dX5_worth_45 ?_
      refine g_callS dX5_worth_46 cs_X5_31 (as := [_, _]) (k_cell (f := A 12) ha_12 (by decide)) (by decide) rfl rfl (Nat.le_of_ble_eq_true rfl) ?_
      rintro _ _ ⟨rfl, rfl⟩
      refine g_istore dX5_worth_49 (by decide) ?_
      refine g_iload dX5_worth_51 rfl ?_
      refine g_sipush (v := 10000) dX5_worth_53 (by decide) ?_
      refine g_irem dX5_worth_56 (by decide) ?_
      refine g_istore dX5_worth_57 (by decide) ?_
      refine g_iload dX5_worth_59 rfl ?_
      refine g_sipush (v := 10000) dX5_worth_61 (by decide) ?_
      refine g_idiv dX5_worth_64 (by decide) ?_
      rcases sw4 ((gt 960 (A 12) (b + i)) / 10000) with h | h | h | h | h
      · refine g_tableIn (tgt := 96) (off := 31) dX5_worth_65 (by rw [h]; decide) (by rw [h]; decide) (by rw [h]; decide +kernel) (by decide) ?_
        refine g_aload_n dX5_worth_96 rfl rfl ?_
        refine g_iload dX5_worth_97 rfl ?_
        refine g_callV dX5_worth_99 cv_X5_64 (as' := [_]) hp_11 rfl l_push (by decide) rfl rfl (Nat.le_of_ble_eq_true rfl) ?_
        rintro _ _ ⟨rfl, rfl⟩
        simp only [up_at, up2_at, up_up, up2_up2]
        refine g_goto (tgt := 183) dX5_worth_102 (by decide) ?_
        refine g_iinc1 dX5_worth_183 rfl (by decide) ?_
        refine g_goto (tgt := 34) dX5_worth_186 (by decide) ?_
        refine g_loc (ls' := [some (.ref 11), some (.int b), some (.int n), some (.int (i + 1)), none, none, none]) (fun i v h => by rcases i with _|_|_|_|_|_|_|_ <;> first | exact h | cases h) ?_
        exact ih (i + 1) _ _ _ (stR_push hK) (by rw [add1_toInt (by omega)]; omega) (by rw [add1_toInt (by omega)]; omega) (fun K2 t2 => Eq.mp (congrArg (fun z => Q (some (Value.int z)) (hp (up A 15 K2) L (up2 I 11 6 t2) X)) (wr0 c_36 h)) (hQ K2 t2))
      · refine g_tableIn (tgt := 105) (off := 40) dX5_worth_65 (by rw [h]; decide) (by rw [h]; decide) (by rw [h]; decide +kernel) (by decide) ?_
        refine g_aload_n dX5_worth_105 rfl rfl ?_
        refine g_aload_n dX5_worth_106 rfl rfl ?_
        refine g_get dX5_worth_107 fl_X5_18 hp_11 rfl ?_
        refine g_iload dX5_worth_110 rfl ?_
        refine g_callS dX5_worth_112 cs_X5_31 (as := [_, _]) (k_cell (f := A 14) ha_14 (by decide)) (by decide) rfl rfl (Nat.le_of_ble_eq_true rfl) ?_
        rintro _ _ ⟨rfl, rfl⟩
        refine g_callV dX5_worth_115 cv_X5_64 (as' := [_]) hp_11 rfl l_push (by decide) rfl rfl (Nat.le_of_ble_eq_true rfl) ?_
        rintro _ _ ⟨rfl, rfl⟩
        simp only [up_at, up2_at, up_up, up2_up2]
        refine g_goto (tgt := 183) dX5_worth_118 (by decide) ?_
        refine g_iinc1 dX5_worth_183 rfl (by decide) ?_
        refine g_goto (tgt := 34) dX5_worth_186 (by decide) ?_
        refine g_loc (ls' := [some (.ref 11), some (.int b), some (.int n), some (.int (i + 1)), none, none, none]) (fun i v h => by rcases i with _|_|_|_|_|_|_|_ <;> first | exact h | cases h) ?_
        exact ih (i + 1) _ _ _ (stR_push hK) (by rw [add1_toInt (by omega)]; omega) (by rw [add1_toInt (by omega)]; omega) (fun K2 t2 => Eq.mp (congrArg (fun z => Q (some (Value.int z)) (hp (up A 15 K2) L (up2 I 11 6 t2) X)) (wr1 c_36 h)) (hQ K2 t2))
      · refine g_tableIn (tgt := 121) (off := 56) dX5_worth_65 (by rw [h]; decide) (by rw [h]; decide) (by rw [h]; decide +kernel) (by decide) ?_
        refine g_aload_n dX5_worth_121 rfl rfl ?_
        refine g_callV dX5_worth_122 cv_X5_68 (as' := []) hp_11 rfl l_pop (by decide) rfl rfl (Nat.le_of_ble_eq_true rfl) ?_
        rintro _ _ ⟨rfl, rfl⟩
        simp only [up_at, up2_at, up_up, up2_up2]
        rw [(stR_pop hK).1]
        have hK1 := (stR_pop hK).2
        refine g_istore dX5_worth_125 (by decide) ?_
        refine g_aload_n dX5_worth_127 rfl rfl ?_
        refine g_iload dX5_worth_128 rfl ?_
        refine g_bipush (v := 33) dX5_worth_130 (by decide) ?_
        refine g_icmp_ne (tgt := 139) dX5_worth_132 (by decide) (fun c_132 => ?_) (fun c_132 => ?_)
        · refine g_aload_n dX5_worth_139 rfl rfl ?_
          refine g_callV dX5_worth_140 cv_X5_68 (as' := []) hp_11 rfl l_pop (by decide) rfl rfl (Nat.le_of_ble_eq_true rfl) ?_
          rintro _ _ ⟨rfl, rfl⟩
          simp only [up_at, up2_at, up_up, up2_up2]
          rw [(stR_pop hK1).1]
          have hK2 := (stR_pop hK1).2
          refine g_iload dX5_worth_143 rfl ?_
          refine g_iload dX5_worth_145 rfl ?_
          refine g_callS dX5_worth_147 cs_X5_71 (as := [_, _, _]) l_joined (by decide) rfl rfl (Nat.le_of_ble_eq_true rfl) ?_
          rintro _ _ ⟨rfl, rfl⟩
          refine g_callS dX5_worth_150 cs_X5_75 (as := [_]) l_held (by decide) rfl rfl (Nat.le_of_ble_eq_true rfl) ?_
          rintro _ _ ⟨rfl, rfl⟩
          refine g_callV dX5_worth_153 cv_X5_64 (as' := [_]) hp_11 rfl l_push (by decide) rfl rfl (Nat.le_of_ble_eq_true rfl) ?_
          rintro _ _ ⟨rfl, rfl⟩
          simp only [up_at, up2_at, up_up, up2_up2]
          refine g_goto (tgt := 183) dX5_worth_156 (by decide) ?_
          refine g_iinc1 dX5_worth_183 rfl (by decide) ?_
          refine g_goto (tgt := 34) dX5_worth_186 (by decide) ?_
          refine g_loc (ls' := [some (.ref 11), some (.int b), some (.int n), some (.int (i + 1)), none, none, none]) (fun i v h => by rcases i with _|_|_|_|_|_|_|_ <;> first | exact h | cases h) ?_
          exact ih (i + 1) _ _ _ (stR_push hK2) (by rw [add1_toInt (by omega)]; omega) (by rw [add1_toInt (by omega)]; omega) (fun K2 t2 => Eq.mp (congrArg (fun z => Q (some (Value.int z)) (hp (up A 15 K2) L (up2 I 11 6 t2) X)) ((wr2 c_36 h).trans (if_neg c_132))) (hQ K2 t2))
        · refine g_ic_0 dX5_worth_135 ?_
          refine g_goto (tgt := 143) dX5_worth_136 (by decide) ?_
          refine g_iload dX5_worth_143 rfl ?_
          refine g_iload dX5_worth_145 rfl ?_
          refine g_callS dX5_worth_147 cs_X5_71 (as := [_, _, _]) l_joined (by decide) rfl rfl (Nat.le_of_ble_eq_true rfl) ?_
          rintro _ _ ⟨rfl, rfl⟩
          refine g_callS dX5_worth_150 cs_X5_75 (as := [_]) l_held (by decide) rfl rfl (Nat.le_of_ble_eq_true rfl) ?_
          rintro _ _ ⟨rfl, rfl⟩
          refine g_callV dX5_worth_153 cv_X5_64 (as' := [_]) hp_11 rfl l_push (by decide) rfl rfl (Nat.le_of_ble_eq_true rfl) ?_
          rintro _ _ ⟨rfl, rfl⟩
          simp only [up_at, up2_at, up_up, up2_up2]
          refine g_goto (tgt := 183) dX5_worth_156 (by decide) ?_
          refine g_iinc1 dX5_worth_183 rfl (by decide) ?_
          refine g_goto (tgt := 34) dX5_worth_186 (by decide) ?_
          refine g_loc (ls' := [some (.ref 11), some (.int b), some (.int n), some (.int (i + 1)), none, none, none]) (fun i v h => by rcases i with _|_|_|_|_|_|_|_ <;> first | exact h | cases h) ?_
          exact ih (i + 1) _ _ _ (stR_push hK1) (by rw [add1_toInt (by omega)]; omega) (by rw [add1_toInt (by omega)]; omega) (fun K2 t2 => Eq.mp (congrArg (fun z => Q (some (Value.int z)) (hp (up A 15 K2) L (up2 I 11 6 t2) X)) ((wr2 c_36 h).trans (if_pos c_132))) (hQ K2 t2))
      · refine g_tableIn (tgt := 159) (off := 94) dX5_worth_65 (by rw [h]; decide) (by rw [h]; decide) (by rw [h]; decide +kernel) (by decide) ?_
        refine g_aload_n dX5_worth_159 rfl rfl ?_
        refine g_callV dX5_worth_160 cv_X5_68 (as' := []) hp_11 rfl l_pop (by decide) rfl rfl (Nat.le_of_ble_eq_true rfl) ?_
        rintro _ _ ⟨rfl, rfl⟩
        simp only [up_at, up2_at, up_up, up2_up2]
        rw [(stR_pop hK).1]
        have hK1 := (stR_pop hK).2
        refine g_if_ne (tgt := 183) dX5_worth_163 (by decide) (fun c_163 => ?_) (fun c_163 => ?_)
        · refine g_iinc1 dX5_worth_183 rfl (by decide) ?_
          refine g_goto (tgt := 34) dX5_worth_186 (by decide) ?_
          refine g_loc (ls' := [some (.ref 11), some (.int b), some (.int n), some (.int (i + 1)), none, none, none]) (fun i v h => by rcases i with _|_|_|_|_|_|_|_ <;> first | exact h | cases h) ?_
          exact ih (i + 1) _ _ _ hK1 (by rw [add1_toInt (by omega)]; omega) (by rw [add1_toInt (by omega)]; omega) (fun K2 t2 => Eq.mp (congrArg (fun z => Q (some (Value.int z)) (hp (up A 15 K2) L (up2 I 11 6 t2) X)) ((wr3 c_36 h).trans (if_neg c_163))) (hQ K2 t2))
        · refine g_iload_n dX5_worth_166 rfl rfl ?_
          refine g_iload dX5_worth_167 rfl ?_
          refine g_ic_1 dX5_worth_169 ?_
          refine g_isub dX5_worth_170 ?_
          refine g_max dX5_worth_171 ml_X5_58 ms_max mi_math mc_max (by decide) (Nat.le_of_ble_eq_true rfl) ?_
          refine g_istore_n dX5_worth_174 rfl (by decide) ?_
          refine g_goto (tgt := 183) dX5_worth_175 (by decide) ?_
          refine g_iinc1 dX5_worth_183 rfl (by decide) ?_
          refine g_goto (tgt := 34) dX5_worth_186 (by decide) ?_
          have hr := rm_small (gt 960 (A 12) (b + i))
          have hm : (mx i (rm (gt 960 (A 12) (b + i)) 10000 - 1) + 1).toInt = max i.toInt ((rm (gt 960 (A 12) (b + i)) 10000).toInt - 1) + 1 := by rw [add1_toInt (by rw [mx_toInt, sub1_toInt (by omega)]; omega), mx_toInt, sub1_toInt (by omega)]
          have hm1 : 0 ≤ (mx i (rm (gt 960 (A 12) (b + i)) 10000 - 1) + 1).toInt := by omega
          have hm2 : 240 - (mx i (rm (gt 960 (A 12) (b + i)) 10000 - 1) + 1).toInt < (fuel : Int) := by omega
          refine g_loc (ls' := [some (.ref 11), some (.int b), some (.int n), some (.int (mx i (rm (gt 960 (A 12) (b + i)) 10000 - 1) + 1)), none, none, none]) (fun i v h => by rcases i with _|_|_|_|_|_|_|_ <;> first | exact h | cases h) ?_
          exact ih (mx i (rm (gt 960 (A 12) (b + i)) 10000 - 1) + 1) _ _ _ hK1 hm1 hm2 (fun K2 t2 => Eq.mp (congrArg (fun z => Q (some (Value.int z)) (hp (up A 15 K2) L (up2 I 11 6 t2) X)) ((wr3 c_36 h).trans (if_pos c_163))) (hQ K2 t2))
      · refine g_tableOut (tgt := 178) dX5_worth_65 h.1 (by decide) ?_
        refine g_aload_n dX5_worth_178 rfl rfl ?_
        refine g_callV dX5_worth_179 cv_X5_68 (as' := []) hp_11 rfl l_pop (by decide) rfl rfl (Nat.le_of_ble_eq_true rfl) ?_
        rintro _ _ ⟨rfl, rfl⟩
        simp only [up_at, up2_at, up_up, up2_up2]
        rw [(stR_pop hK).1]
        have hK1 := (stR_pop hK).2
        exact g_iret dX5_worth_182 (by have h5 := hQ K (ppT t); rw [wr4 c_36 h.2.1 h.2.2.1 h.2.2.2.1 h.2.2.2.2] at h5; exact h5)

def wrt (C Z V : Nat → Int32) (hold : Int32) : Int32 := wRun C V (hold * 240) (mn 240 (gt 4 Z hold)) 241 0 []

set_option maxHeartbeats 4000000 in
set_option maxRecDepth 100000 in
theorem l_worth {A : Nat → Nat → Int32} {L : Nat → Nat → Int64} {I : Nat → Nat → Int32} {X : Nat → Int64}   : Con 3 yX5_worth cX5_worth 7 (some .int) [.ref 11] (hp A L I X) (fun r_ H_ => r_ = some (.int (wrt (A 12) (A 13) (A 14) (I 11 5))) ∧ ∃ K t, H_ = hp (up A 15 K) L (up2 I 11 6 t) X) := by
  refine m_con (by decide) (Nat.le_of_ble_eq_true rfl) ?_
  refine g_aload_n dX5_worth_0 rfl rfl ?_
  refine g_get dX5_worth_1 fl_X5_24 hp_11 rfl ?_
  refine g_sipush (v := 240) dX5_worth_4 (by decide) ?_
  refine g_imul dX5_worth_7 ?_
  refine g_istore_n dX5_worth_8 rfl (by decide) ?_
  refine g_sipush (v := 240) dX5_worth_9 (by decide) ?_
  refine g_aload_n dX5_worth_12 rfl rfl ?_
  refine g_get dX5_worth_13 fl_X5_15 hp_11 rfl ?_
  refine g_aload_n dX5_worth_16 rfl rfl ?_
  refine g_get dX5_worth_17 fl_X5_24 hp_11 rfl ?_
  refine g_callS dX5_worth_20 cs_X5_31 (as := [_, _]) (k_cell (Hp := _) (q := 13) ha_13 (by decide)) (by decide) rfl rfl (Nat.le_of_ble_eq_true rfl) ?_
  rintro _ _ ⟨rfl, rfl⟩
  refine g_min dX5_worth_23 ml_X5_53 ms_min mi_math mc_min (by decide) (Nat.le_of_ble_eq_true rfl) ?_
  refine g_istore_n dX5_worth_26 rfl (by decide) ?_
  refine g_aload_n dX5_worth_27 rfl rfl ?_
  refine g_ic_0 dX5_worth_28 ?_
  refine g_puti dX5_worth_29 fw_X5_61 hp_11 (Nat.le_of_ble_eq_true rfl) ?_
  rw [hq_11_6]
  refine g_ic_0 dX5_worth_32 ?_
  refine g_istore_n dX5_worth_33 rfl (by decide) ?_
  have hn : (mn 240 (gt 4 (A 13) (I 11 5))).toInt ≤ 240 := by rw [mn_toInt, show (240 : Int32).toInt = 240 by decide]; omega
  have h := l_worth_loop (A := A) (L := L) (I := I) (X := X) (b := I 11 5 * 240) (n := mn 240 (gt 4 (A 13) (I 11 5))) (Q := (fun r_ H_ => r_ = some (.int (wrt (A 12) (A 13) (A 14) (I 11 5))) ∧ ∃ K t, H_ = hp (up A 15 K) L (up2 I 11 6 t) X)) hn 241 0 [] (A 15) 0 stR_nil (by decide) (by decide) (fun K2 t2 => ⟨rfl, K2, t2, rfl⟩)
  rw [up_self] at h
  exact h
