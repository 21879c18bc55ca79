/-! READING, by natural places -/
abbrev PR (α : Type) : Type := Nat ⊕ (Nat × α)
def bt (T : Nat → Int32) (n a : Nat) : Int32 := if a < n then T a else (-1)
def skp (T : Nat → Int32) (n : Nat) : Nat → Nat → Nat
  | 0, a => a
  | f + 1, a => if bt T n a = 32 then skp T n f (a + 1) else a
def sk (T : Nat → Int32) (n a : Nat) : Nat := skp T n (n + 1) a
theorem bt_I {T : Nat → Int32} {n a : Nat} (hn : n ≤ 240) (ha : a < 2 ^ 31) : btI T (nI n) (nI a) = bt T n a := by
  unfold btI bt
  by_cases h : a < n
  · rw [if_pos h, if_neg, nI_clamp ha]
    rintro (z | z | z)
    · exact absurd (nI_pos' ha) (Int32.not_le.mpr z)
    · exact absurd ((nI_leI (by omega) ha).mp z) (by omega)
    · exact z ((nI_ltI (b := 240) ha (by omega)).mpr (by omega))
  · rw [if_neg h, if_pos (Or.inr (Or.inl (nI_le (by omega) ha)))]
theorem skp_ge {T : Nat → Int32} {n : Nat} : ∀ f a, a ≤ skp T n f a
  | 0, a => Nat.le_refl _
  | f + 1, a => by
    unfold skp
    split
    · exact Nat.le_trans (Nat.le_succ a) (skp_ge f (a + 1))
    · exact Nat.le_refl _
theorem skp_le {T : Nat → Int32} {n : Nat} : ∀ f a, a ≤ n → skp T n f a ≤ n
  | 0, a, h => h
  | f + 1, a, h => by
    unfold skp
    split
    · rename_i h1
      have h2 : a < n := by
        apply Nat.lt_of_not_le
        intro z
        unfold bt at h1
        rw [if_neg (by omega)] at h1
        exact absurd h1 (by decide)
      exact skp_le f (a + 1) h2
    · exact h
theorem skp_end {T : Nat → Int32} {n : Nat} : ∀ f a, n < f + a → bt T n (skp T n f a) ≠ 32
  | 0, a, h => by
    unfold skp bt
    rw [if_neg (by omega)]
    decide
  | f + 1, a, h => by
    unfold skp
    split
    · exact skp_end f (a + 1) (by omega)
    · assumption
theorem skp_id {T : Nat → Int32} {n a : Nat} (h : bt T n a ≠ 32) : ∀ f, skp T n f a = a
  | 0 => rfl
  | f + 1 => by unfold skp; rw [if_neg h]
theorem sk_ge {T : Nat → Int32} {n a : Nat} : a ≤ sk T n a := skp_ge _ _
theorem sk_le {T : Nat → Int32} {n a : Nat} (h : a ≤ n) : sk T n a ≤ n := skp_le _ _ h
theorem sk_end {T : Nat → Int32} {n a : Nat} : bt T n (sk T n a) ≠ 32 := skp_end _ _ (by omega)
theorem sk_sk {T : Nat → Int32} {n a : Nat} : sk T n (sk T n a) = sk T n a := skp_id sk_end _
theorem skI_p {T : Nat → Int32} {n : Nat} (hn : n ≤ 240) : ∀ f a, a ≤ n → skI T (nI n) f (nI a) = nI (skp T n f a)
  | 0, a, h => rfl
  | f + 1, a, h => by
    unfold skI skp
    rw [bt_I hn (by omega)]
    by_cases h1 : bt T n a = 32
    · have h2 : a < n := by
        apply Nat.lt_of_not_le
        intro z
        unfold bt at h1
        rw [if_neg (by omega)] at h1
        exact absurd h1 (by decide)
      rw [if_pos ⟨(nI_ltI (by omega) (by omega)).mpr h2, h1⟩, if_pos h1, nI_1]
      exact skI_p hn f (a + 1) h2
    · rw [if_neg (fun z => h1 z.2), if_neg h1]
theorem sk_Y {T : Nat → Int32} {n a : Nat} (hn : n ≤ 240) (ha : a ≤ n) : skY T (nI n) (nI a) = nI (sk T n a) := by
  unfold skY sk
  rw [nI_clamp (by omega)]
  exact skI_p hn _ _ ha
theorem bt_lt {T : Nat → Int32} {n a : Nat} (h : bt T n a ≠ (-1)) : a < n := by
  apply Nat.lt_of_not_le
  intro z
  exact h (if_neg (by omega))
/-- some digits, no more than k -/
def dgL (T : Nat → Int32) (n : Nat) : Nat → Nat → Int32 → Int32 × Nat
  | 0, a, v => (v, a)
  | k + 1, a, v => if isDg (bt T n a) then dgL T n k (a + 1) (v * 10 + bt T n a - 48) else (v, a)
def numP (T : Nat → Int32) (n k : Nat) (lo hi : Int32) (a : Nat) : PR Int32 :=
  if isDg (bt T n (sk T n a)) then
    if isDg (bt T n (dgL T n k (sk T n a) 0).2) then .inl (dgL T n k (sk T n a) 0).2
    else if (dgL T n k (sk T n a) 0).1 < lo ∨ hi < (dgL T n k (sk T n a) 0).1 then .inl ((dgL T n k (sk T n a) 0).2 - 1)
    else .inr ((dgL T n k (sk T n a) 0).2, (dgL T n k (sk T n a) 0).1)
  else .inl (sk T n a)
theorem isDg_lt {T : Nat → Int32} {n a : Nat} (h : isDg (bt T n a)) : a < n := bt_lt (fun z => by rw [z] at h; exact absurd h.1 (by decide))
theorem dgL_ge {T : Nat → Int32} {n : Nat} : ∀ k a v, a ≤ (dgL T n k a v).2
  | 0, a, v => Nat.le_refl _
  | k + 1, a, v => by
    unfold dgL
    split
    · exact Nat.le_trans (Nat.le_succ a) (dgL_ge k _ _)
    · exact Nat.le_refl _
theorem dgL_le {T : Nat → Int32} {n : Nat} : ∀ k a v, a ≤ n → (dgL T n k a v).2 ≤ n
  | 0, a, v, h => h
  | k + 1, a, v, h => by
    unfold dgL
    split
    · rename_i h1
      exact dgL_le k _ _ (isDg_lt h1)
    · exact h
theorem dgL_gt {T : Nat → Int32} {n k a : Nat} {v : Int32} (h : isDg (bt T n a)) (hk : 0 < k) : a < (dgL T n k a v).2 := by
  obtain ⟨j, rfl⟩ : ∃ j, k = j + 1 := ⟨k - 1, by omega⟩
  unfold dgL
  rw [if_pos h]
  exact dgL_ge _ _ _
/-- what a number's reading leaves -/
def numQ (A : Nat → Nat → Int32) (L : Nat → Nat → Int64) (I : Nat → Nat → Int32) (X : Nat → Int64) (c : Nat) (res : PR Int32) : Option Value → m_H → Prop := fun r_ H_ =>
  ∃ v y z, r_ = some (.int v) ∧ H_ = hp A L (up2 (up2 I c 1 y) c 2 z) X ∧ match res with
    | .inr (b, w) => v = w ∧ y = nI b ∧ z = (-1)
    | .inl p => z = nI p
theorem up2_12 {c : Nat} (hc : isC c) {I : Nat → Nat → Int32} {v w : Int32} : up2 (up2 I c 1 v) c 2 w 1 1 = I 1 1 := by rw [up2_11 hc, up2_11 hc]
theorem up2_c12 {I : Nat → Nat → Int32} {c : Nat} {v w : Int32} : up2 (up2 I c 1 v) c 2 w c 1 = v := by rw [up2_ne (by omega), up2_at]
theorem up2_c2 {I : Nat → Nat → Int32} {c : Nat} {v : Int32} : up2 I c 1 v c 2 = I c 2 := up2_ne (by omega)
theorem up2_s2 {I : Nat → Nat → Int32} {c : Nat} {v : Int32} (h : I c 2 = (-1)) : up2 I c 1 v = up2 (up2 I c 1 v) c 2 (-1) := by
  funext j l
  unfold up2
  by_cases h1 : j = c ∧ l = 2
  · rw [if_pos h1, if_neg (by omega), h1.1, h1.2, h]
  · rw [if_neg h1]
theorem m1_nI {b : Nat} (h : 0 < b) : nI b - 1 = nI (b - 1) := pk_sub (a := b) (b := 1) h
theorem flI_1 {I : Nat → Nat → Int32} {c : Nat} {y : Int32} (h : I c 2 = (-1)) : flI (up2 I c 1 y) c = up2 (up2 I c 1 y) c 2 y := by
  rw [flI, if_pos (by rw [up2_c2, h]), up2_at]
set_option maxHeartbeats 4000000 in
set_option maxRecDepth 100000 in
theorem u_num75 {A : Nat → Nat → Int32} {L : Nat → Nat → Int64} {I : Nat → Nat → Int32} {X : Nat → Int64} {c n k b : Nat} {lo hi v : Int32} {Q : Option Value → m_H → Prop} (hc : isC c) (h2 : I c 2 = (-1)) (hn : I 1 1 = nI n) (h240 : n ≤ 240) (hb : b ≤ n) (hb0 : 0 < b)
    (hM : isDg (bt (A 2) n b) → ∀ w H_, H_ = hp A L (up2 (up2 I c 1 (nI b)) c 2 (nI b)) X → Q (some (.int w)) H_)
    (hR : ¬ isDg (bt (A 2) n b) → (v < lo ∨ hi < v) → ∀ H_, H_ = hp A L (up2 (up2 I c 1 (nI (b - 1))) c 2 (nI (b - 1))) X → Q (some (.int v)) H_)
    (hO : ¬ isDg (bt (A 2) n b) → ¬ (v < lo ∨ hi < v) → ∀ {H_}, H_ = hp A L (up2 (up2 I c 1 (nI b)) c 2 (-1)) X → Q (some (.int v)) H_) : G 3 RX1 cX1_number 6 (some .int) Q 75 [some (.ref c), some (.int (nI k)), some (.int lo), some (.int hi), some (.int v), none] [] (hp A L (up2 I c 1 (nI b)) X) := by
  refine g_aload_n dX1_number_75 rfl rfl ?_
  refine g_callV dX1_number_76 cv_X1_43 (as' := []) (hpC hc) rfl (u_onDigit hc) (by decide) rfl rfl (Nat.le_of_ble_eq_true rfl) ?_
  rintro _ _ ⟨rfl, rfl⟩
  rw [up2_11 hc, hn, up2_at, bt_I h240 (by omega)]
  refine g_if_eq (tgt := 89) dX1_number_79 (by decide) (fun c_79 => ?_) (fun c_79 => ?_)
  · refine g_iload dX1_number_89 rfl ?_
    refine g_iload_n dX1_number_91 rfl rfl ?_
    refine g_icmp_lt (tgt := 101) dX1_number_92 (by decide) (fun c_92 => ?_) (fun c_92 => ?_)
    · refine g_aload_n dX1_number_101 rfl rfl ?_
      refine g_dup dX1_number_102 rfl ?_
      refine g_get dX1_number_103 fl_X1_15 (hpC hc) rfl ?_
      refine g_ic_1 dX1_number_106 ?_
      refine g_isub dX1_number_107 ?_
      refine g_puti dX1_number_108 fw_X1_15 (hpC hc) (Nat.le_of_ble_eq_true rfl) ?_
      rw [hqC_1 hc]
      refine g_aload_n dX1_number_111 rfl rfl ?_
      refine g_callV dX1_number_112 cv_X1_40 (as' := []) (hpC hc) rfl (u_fail hc) (by decide) rfl rfl (Nat.le_of_ble_eq_true rfl) ?_
      rintro _ _ ⟨rfl, rfl⟩
      refine g_iload dX1_number_115 rfl ?_
      exact g_iret dX1_number_117 (hR (fun z => by rw [if_pos z] at c_79; exact absurd c_79 (by decide)) (Or.inl c_92) _ (by rw [up2_at, up2_up2, m1_nI hb0, flI_1 h2]))
    · refine g_iload dX1_number_95 rfl ?_
      refine g_iload_n dX1_number_97 rfl rfl ?_
      refine g_icmp_le (tgt := 115) dX1_number_98 (by decide) (fun c_98 => ?_) (fun c_98 => ?_)
      · refine g_iload dX1_number_115 rfl ?_
        exact g_iret dX1_number_117 (hO (fun z => by rw [if_pos z] at c_79; exact absurd c_79 (by decide)) (fun z => z.elim c_92 (fun z => absurd c_98 (Int32.not_le.mpr z))) (congrArg (fun z => hp A L z X) (up2_s2 h2)))
      · refine g_aload_n dX1_number_101 rfl rfl ?_
        refine g_dup dX1_number_102 rfl ?_
        refine g_get dX1_number_103 fl_X1_15 (hpC hc) rfl ?_
        refine g_ic_1 dX1_number_106 ?_
        refine g_isub dX1_number_107 ?_
        refine g_puti dX1_number_108 fw_X1_15 (hpC hc) (Nat.le_of_ble_eq_true rfl) ?_
        rw [hqC_1 hc]
        refine g_aload_n dX1_number_111 rfl rfl ?_
        refine g_callV dX1_number_112 cv_X1_40 (as' := []) (hpC hc) rfl (u_fail hc) (by decide) rfl rfl (Nat.le_of_ble_eq_true rfl) ?_
        rintro _ _ ⟨rfl, rfl⟩
        refine g_iload dX1_number_115 rfl ?_
        exact g_iret dX1_number_117 (hR (fun z => by rw [if_pos z] at c_79; exact absurd c_79 (by decide)) (Or.inr (Int32.not_le.mp c_98)) _ (by rw [up2_at, up2_up2, m1_nI hb0, flI_1 h2]))
  · refine g_aload_n dX1_number_82 rfl rfl ?_
    refine g_callV dX1_number_83 cv_X1_40 (as' := []) (hpC hc) rfl (u_fail hc) (by decide) rfl rfl (Nat.le_of_ble_eq_true rfl) ?_
    rintro _ _ ⟨rfl, rfl⟩
    refine g_goto (tgt := 115) dX1_number_86 (by decide) ?_
    refine g_iload dX1_number_115 rfl ?_
    exact g_iret dX1_number_117 (hM (by by_cases z : isDg (bt (A 2) n b); exact z; rw [if_neg z] at c_79; exact absurd rfl c_79) _ _ (by rw [flI_1 h2]))

set_option maxHeartbeats 4000000 in
set_option maxRecDepth 100000 in
theorem u_num24 {A : Nat → Nat → Int32} {L : Nat → Nat → Int64} {I : Nat → Nat → Int32} {X : Nat → Int64} {c n k : Nat} {lo hi : Int32} {Q : Option Value → m_H → Prop} (hc : isC c) (h2 : I c 2 = (-1)) (hn : I 1 1 = nI n) (h240 : n ≤ 240) (hk4 : k ≤ 4) : ∀ r i b v, r + i = k → b ≤ n → G 3 RX1 cX1_number 6 (some .int) Q 75 [some (.ref c), some (.int (nI k)), some (.int lo), some (.int hi), some (.int (dgL (A 2) n r b v).1), none] [] (hp A L (up2 I c 1 (nI (dgL (A 2) n r b v).2)) X) → G 3 RX1 cX1_number 6 (some .int) Q 24 [some (.ref c), some (.int (nI k)), some (.int lo), some (.int hi), some (.int v), some (.int (nI i))] [] (hp A L (up2 I c 1 (nI b)) X) := by
  intro r
  induction r with
  | zero =>
    intro i b v hr hb hE
    refine g_iload dX1_number_24 rfl ?_
    refine g_iload_n dX1_number_26 rfl rfl ?_
    refine g_icmp_ge (tgt := 75) dX1_number_27 (by decide) (fun c_27 => ?_) (fun c_27 => ?_)
    · refine g_loc (ls' := [some (.ref c), some (.int (nI k)), some (.int lo), some (.int hi), some (.int v), none]) (fun i v h => by rcases i with _|_|_|_|_|_|_ <;> first | exact h | cases h) ?_
      exact hE
    · exact absurd (nI_le (a := k) (b := i) (by omega) (by omega)) c_27
  | succ r ih =>
    intro i b v hr hb hE
    refine g_iload dX1_number_24 rfl ?_
    refine g_iload_n dX1_number_26 rfl rfl ?_
    refine g_icmp_ge (tgt := 75) dX1_number_27 (by decide) (fun c_27 => ?_) (fun c_27 => ?_)
    · refine g_loc (ls' := [some (.ref c), some (.int (nI k)), some (.int lo), some (.int hi), some (.int v), none]) (fun i v h => by rcases i with _|_|_|_|_|_|_ <;> first | exact h | cases h) ?_
      exact absurd ((nI_leI (by omega) (by omega)).mp c_27) (by omega)
    · refine g_aload_n dX1_number_30 rfl rfl ?_
      refine g_callV dX1_number_31 cv_X1_43 (as' := []) (hpC hc) rfl (u_onDigit hc) (by decide) rfl rfl (Nat.le_of_ble_eq_true rfl) ?_
      rintro _ _ ⟨rfl, rfl⟩
      rw [up2_11 hc, hn, up2_at, bt_I h240 (by omega)]
      refine g_if_eq (tgt := 75) dX1_number_34 (by decide) (fun c_34 => ?_) (fun c_34 => ?_)
      · refine g_loc (ls' := [some (.ref c), some (.int (nI k)), some (.int lo), some (.int hi), some (.int v), none]) (fun i v h => by rcases i with _|_|_|_|_|_|_ <;> first | exact h | cases h) ?_
        have hdg : ¬ isDg (bt (A 2) n b) := fun z => by rw [if_pos z] at c_34; exact absurd c_34 (by decide)
        rw [dgL, if_neg hdg] at hE
        exact hE
      · have hdg : isDg (bt (A 2) n b) := by by_cases z : isDg (bt (A 2) n b); exact z; rw [if_neg z] at c_34; exact absurd rfl c_34
        have hlt := isDg_lt hdg
        refine g_iload dX1_number_37 rfl ?_
        refine g_bipush (v := 10) dX1_number_39 (by decide) ?_
        refine g_imul dX1_number_41 ?_
        refine g_aload_n dX1_number_42 rfl rfl ?_
        refine g_get dX1_number_43 fl_X1_9 (hpC hc) rfl ?_
        refine g_aload_n dX1_number_46 rfl rfl ?_
        refine g_get dX1_number_47 fl_X1_15 (hpC hc) rfl ?_
        refine g_callV dX1_number_50 cv_X1_28 (as' := [_]) hp_1 rfl u_byteAt (by decide) rfl rfl (Nat.le_of_ble_eq_true rfl) ?_
        rintro _ _ ⟨rfl, rfl⟩
        rw [up2_11 hc, hn, up2_at, bt_I h240 (by omega)]
        refine g_iadd dX1_number_53 ?_
        refine g_bipush (v := 48) dX1_number_54 (by decide) ?_
        refine g_isub dX1_number_56 ?_
        refine g_istore dX1_number_57 (by decide) ?_
        refine g_aload_n dX1_number_59 rfl rfl ?_
        refine g_dup dX1_number_60 rfl ?_
        refine g_get dX1_number_61 fl_X1_15 (hpC hc) rfl ?_
        refine g_ic_1 dX1_number_64 ?_
        refine g_iadd dX1_number_65 ?_
        refine g_puti dX1_number_66 fw_X1_15 (hpC hc) (Nat.le_of_ble_eq_true rfl) ?_
        rw [hqC_1 hc]
        refine g_iinc1 dX1_number_69 rfl (by decide) ?_
        refine g_goto (tgt := 24) dX1_number_72 (by decide) ?_
        rw [up2_up2, up2_at, nI_1, nI_1]
        exact ih (i + 1) (b + 1) _ (by omega) (by omega) (by rw [dgL, if_pos hdg] at hE; exact hE)

set_option maxHeartbeats 4000000 in
set_option maxRecDepth 100000 in
theorem u_number {A : Nat → Nat → Int32} {L : Nat → Nat → Int64} {I : Nat → Nat → Int32} {X : Nat → Int64} {c n k a : Nat} {lo hi : Int32} (hc : isC c) (h2 : I c 2 = (-1)) (hn : I 1 1 = nI n) (h240 : n ≤ 240) (h1 : I c 1 = nI a) (ha : a ≤ n) (hk4 : k ≤ 4) (hk0 : 0 < k) : Con 3 yX1_number cX1_number 6 (some .int) [.ref c, .int (nI k), .int lo, .int hi] (hp A L I X) (numQ A L I X c (numP (A 2) n k lo hi a)) := by
  refine m_con (by decide) (Nat.le_of_ble_eq_true rfl) ?_
  refine g_aload_n dX1_number_0 rfl rfl ?_
  refine g_callV dX1_number_1 cv_X1_32 (as' := []) (hpC hc) rfl (u_look hc) (by decide) rfl rfl (Nat.le_of_ble_eq_true rfl) ?_
  rintro _ _ ⟨rfl, rfl⟩
  rw [h1, hn, sk_Y h240 ha]
  refine g_pop dX1_number_4 rfl ?_
  refine g_aload_n dX1_number_5 rfl rfl ?_
  refine g_callV dX1_number_6 cv_X1_43 (as' := []) (hpC hc) rfl (u_onDigit hc) (by decide) rfl rfl (Nat.le_of_ble_eq_true rfl) ?_
  rintro _ _ ⟨rfl, rfl⟩
  rw [up2_11 hc, hn, up2_at, bt_I h240 (by have := sk_le (T := A 2) ha; omega)]
  refine g_if_ne (tgt := 18) dX1_number_9 (by decide) (fun c_9 => ?_) (fun c_9 => ?_)
  · refine g_ic_0 dX1_number_18 ?_
    refine g_istore dX1_number_19 (by decide) ?_
    refine g_ic_0 dX1_number_21 ?_
    refine g_istore dX1_number_22 (by decide) ?_
    have hd : isDg (bt (A 2) n (sk (A 2) n a)) := by by_cases z : isDg (bt (A 2) n (sk (A 2) n a)); exact z; rw [if_neg z] at c_9; exact absurd rfl c_9
    have hg := dgL_gt (v := 0) hd hk0
    have hl := dgL_le (T := A 2) k (sk (A 2) n a) 0 (sk_le ha)
    refine u_num24 hc h2 hn h240 hk4 k 0 (sk (A 2) n a) 0 rfl (sk_le ha) ?_
    refine u_num75 hc h2 hn h240 hl (by omega) (fun z w H_ e => ?_) (fun z zr H_ e => ?_) (fun z zr H_ e => ?_)
    · rw [numP, if_pos hd, if_pos z]
      exact ⟨w, _, _, rfl, e, rfl⟩
    · rw [numP, if_pos hd, if_neg z, if_pos zr]
      exact ⟨_, _, _, rfl, e, rfl⟩
    · rw [numP, if_pos hd, if_neg z, if_neg zr]
      exact ⟨_, _, _, rfl, e, rfl, rfl, rfl⟩
  · refine g_aload_n dX1_number_12 rfl rfl ?_
    refine g_callV dX1_number_13 cv_X1_40 (as' := []) (hpC hc) rfl (u_fail hc) (by decide) rfl rfl (Nat.le_of_ble_eq_true rfl) ?_
    rintro _ _ ⟨rfl, rfl⟩
    refine g_ic_0 dX1_number_16 ?_
    exact g_iret dX1_number_17 (by rw [numP, if_neg (fun z => by rw [if_pos z] at c_9; exact absurd c_9 (by decide))]; exact ⟨0, _, _, rfl, by rw [flI_1 h2], rfl⟩)
