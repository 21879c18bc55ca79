/-! THE ACTS KEEP THE RELATION -/
theorem ad_neg {a b : Nat} (h : b ≤ a) : nI a + -(nI b) = nI (a - b) := by
  rw [← Int32.sub_eq_add_neg]
  exact pk_sub h
theorem rp_cl : ∀ r, r < 32 → ∀ c, c < 5 → r / 2 ^ c % 2 = 1 → nI r &&& ((1 <<< (nI c &&& 31)) ^^^ (-1)) = nI (r - 2 ^ c) := by decide +kernel
theorem rp_cb : ∀ r, r < 32 → ∀ c, c < 5 → r / 2 ^ c % 2 = 1 → ∀ e, e < 5 → (r - 2 ^ c) / 2 ^ e % 2 = if e = c then 0 else r / 2 ^ e % 2 := by decide +kernel
section
variable {ms cs : Nat} {R M C f N : ROW}
theorem RF_hay (h : RF ms cs R M C f N) {n : Int32} (hz : ¬ inZ n 1 99 = 0) (h99 : ¬ 99 < N 36 + n) (hn : n ≤ N 37) : RF ms cs R M C (hyF f n) (upd (upd N 36 (N 36 + n)) 37 (N 37 - n)) := by
  obtain ⟨k, k1, k99, rfl⟩ := in_1' (a := 1) (b := 99) (by decide) (by decide) hz
  obtain ⟨a, a1, a2⟩ := h.2.2
  obtain ⟨-, ⟨⟨s0, b0⟩, ⟨s1, -⟩, s2, ⟨s3, p, p1, p2⟩, ⟨s4, b4⟩, s7, s8, -⟩, -⟩ := id h.1
  have hp1 : k ≤ p := by
    rw [p2] at hn
    exact (nI_leI (by omega) (by omega)).mp hn
  have ha : a + k ≤ 99 := by
    rw [a2, nI_add] at h99
    exact Nat.le_of_not_lt (fun z => h99 (nI_lt (a := 99) z (by omega)))
  have e1 : hyF f (nI k) = upd (upd f 3 (nI (p - k))) 1 (nI (a + k)) := by
    unfold hyF
    rw [p143_1, p143_3, g143_3, g143_1, ud_ne (show ¬ (1 : Nat) = 3 by decide), s3, s1, p2, a2, ad_neg hp1, nI_add]
  have e2 : upd (upd N 36 (N 36 + nI k)) 37 (N 37 - nI k) = upd (upd N 36 (nI (a + k))) 37 (nI (p - k)) := by rw [a2, p2, nI_add, pk_sub hp1]
  rw [e1, e2]
  refine ⟨?_, LG_ext h.2.1 ?_ ?_ (fun j hj => ?_) (fun j hj => ?_), ?_⟩
  · refine R_sc h.1 (y0 := N 35) (y1 := nI (a + k)) (y3 := nI (p - k)) (y4 := N 38) (y8 := N 42) ?_ ?_ b0 ?_ ?_ (bd_k (by omega)) ?_ ?_ (bd_k (by omega)) ?_ ?_ b4 ?_ ?_ (fun j j0 j1 j3 j4 j8 => ?_) (fun j j0 j1 j3 j4 j8 => ?_)
    all_goals simp (disch := omega) only [ud_at, ud_ne]
    all_goals assumption
  · simp (disch := omega) only [ud_at, ud_ne]
  · simp (disch := omega) only [ud_at, ud_ne]
  · simp (disch := omega) only [ud_at, ud_ne]
  · simp (disch := omega) only [ud_at, ud_ne]
  · rw [ud_ne (show ¬ (36 : Nat) = 37 by decide), ud_at]
    exact bd_k ha
theorem RF_rev (h : RF ms cs R M C f N) : RF ms cs R M C (trn f) (upd N 38 (1 - N 38)) := by
  refine ⟨R_way h.1, LG_ext h.2.1 ?_ ?_ (fun j hj => ?_) (fun j hj => ?_), ?_⟩
  · unfold trn
    rw [p143_4, ud_ne (show ¬ (11 : Nat) = 4 by decide)]
  · unfold trn
    rw [p143_4, ud_ne (show ¬ (12 : Nat) = 4 by decide)]
  · unfold trn
    rw [p143_4, ud_ne (show ¬ j = 4 by omega)]
  · exact ud_ne (show ¬ j = 38 by omega)
  · rw [ud_ne (show ¬ (36 : Nat) = 38 by decide)]
    exact h.2.2
theorem RF_buy (h : RF ms cs R M C f N) {v : Int32} (hv : bd 30 v) (hn : 20 ≤ N 37) : RF ms cs R M C (byF f v) (upd (upd N 35 v) 37 (N 37 - 20)) := by
  obtain ⟨-, ⟨⟨s0, b0⟩, ⟨s1, b1⟩, s2, ⟨s3, p, p1, p2⟩, ⟨s4, b4⟩, s7, s8, -⟩, -⟩ := id h.1
  have hp1 : 20 ≤ p := by
    rw [p2] at hn
    exact (nI_leI (a := 20) (by omega) (by omega)).mp hn
  have e1 : byF f v = upd (upd f 3 (nI (p - 20))) 0 v := by
    unfold byF
    rw [p143_0, p143_3, g143_3, s3, p2, show (-20 : Int32) = -(nI 20) from rfl, ad_neg hp1]
  have e2 : upd (upd N 35 v) 37 (N 37 - 20) = upd (upd N 35 v) 37 (nI (p - 20)) := by rw [p2, show (20 : Int32) = nI 20 from rfl, pk_sub hp1]
  rw [e1, e2]
  refine ⟨?_, LG_ext h.2.1 ?_ ?_ (fun j hj => ?_) (fun j hj => ?_), ?_⟩
  · refine R_sc h.1 (y0 := v) (y1 := N 36) (y3 := nI (p - 20)) (y4 := N 38) (y8 := N 42) ?_ ?_ hv ?_ ?_ b1 ?_ ?_ (bd_k (by omega)) ?_ ?_ b4 ?_ ?_ (fun j j0 j1 j3 j4 j8 => ?_) (fun j j0 j1 j3 j4 j8 => ?_)
    all_goals simp (disch := omega) only [ud_at, ud_ne]
    all_goals assumption
  · simp (disch := omega) only [ud_at, ud_ne]
  · simp (disch := omega) only [ud_at, ud_ne]
  · simp (disch := omega) only [ud_at, ud_ne]
  · simp (disch := omega) only [ud_at, ud_ne]
  · rw [ud_ne (show ¬ (36 : Nat) = 37 by decide), ud_ne (show ¬ (36 : Nat) = 35 by decide)]
    exact h.2.2
theorem R_mon (h : RJ ms cs R M C f N) {m : Nat} (hm : m < ms) {f' N' : ROW} {y3 a b c : Int32} (e3 : f' 3 = y3) (n3 : N' 37 = y3) (b3 : bd 999 y3) (ea : f' (13 + m * 5 + 1) = a) (na : N' m = a) (ba : bd 9 a) (eb : f' (13 + m * 5 + 2) = b) (nb : N' (8 + m) = b) (bb : bd 9 b) (ec : f' (13 + m * 5 + 3) = c) (nc : N' (16 + m) = c) (bc : bd 9 c) (ef : ∀ j, j ≠ 3 → j ≠ 13 + m * 5 + 1 → j ≠ 13 + m * 5 + 2 → j ≠ 13 + m * 5 + 3 → f' j = f j) (en : ∀ j, j ≠ 37 → j ≠ m → j ≠ 8 + m → j ≠ 16 + m → N' j = N j) : RJ ms cs R M C f' N' := by
  obtain ⟨⟨a1, a2, a3, a4, a5, a6⟩, ⟨s0, s1, s2, s3, s4, s7, s8, s12⟩, ⟨m0, d, l, d1, d2, d3, d4, d5, d6, d7, d8⟩, hM, hC, r, hr, hr2, hr3⟩ := h
  refine ⟨⟨a1, a2, a3, a4, ?_, ?_⟩, ⟨?_, ?_, ?_, ⟨e3.trans n3.symm, by rw [n3]; exact b3⟩, ?_, ?_, ?_, ?_⟩, ⟨m0, d, l, ?_, ?_, d3, ?_, ?_, ?_, d7, d8⟩, fun j hj => ?_, fun j hj => ?_, r, hr, ?_, fun c hc => ?_⟩
  all_goals try (simp (disch := omega) only [ef, en]; assumption)
  · have q := hM j hj
    by_cases hjm : j = m
    · subst hjm
      obtain ⟨q0, q1, q2, q3, q4⟩ := q
      refine ⟨?_, ⟨ea.trans na.symm, by rw [na]; exact ba⟩, ⟨eb.trans nb.symm, by rw [nb]; exact bb⟩, ⟨ec.trans nc.symm, by rw [nc]; exact bc⟩, ?_⟩
      · simp (disch := omega) only [ef]
        exact q0
      · simp (disch := omega) only [ef]
        exact q4
    · unfold RMo at q ⊢
      simp (disch := omega) only [ef, en]
      exact q
  · have q := hC j hj
    unfold RCr at q ⊢
    simp (disch := omega) only [ef, en]
    exact q
  · simp (disch := omega) only [ef, en]
    exact hr3 c hc
theorem RF_gr (h : RF ms cs R M C f N) {m : Nat} (hm : m < ms) (h9 : ¬ N m = 9) (hn : 1 ≤ N 37) : RF ms cs R M C (grF f (nI m)) (upd (upd N m (N m + 1)) 37 (N 37 - 1)) ∧ oM (grF f (nI m)) (nI m) 1 = N m + 1 := by
  have h8 : ms ≤ 8 := h.1.1.2.1
  have hm8 : m < 8 := by omega
  obtain ⟨-, ⟨-, -, -, ⟨s3, p, p1, p2⟩, -⟩, -, hM, -⟩ := id h.1
  obtain ⟨q0, ⟨q1, g, g1, g2⟩, ⟨q2, b2⟩, ⟨q3, b3⟩, q4⟩ := hM m hm
  have hp1 : 1 ≤ p := by
    rw [p2] at hn
    exact (nI_leI (a := 1) (by omega) (by omega)).mp hn
  have hg : g ≤ 8 := by
    have : g ≠ 9 := by
      rintro rfl
      exact h9 g2
    omega
  have e1 : grF f (nI m) = upd (upd f 3 (nI (p - 1))) (13 + m * 5 + 1) (nI (g + 1)) := by
    unfold grF gsM
    rw [pM_1 hm8, oM_1 hm8, p143_3, g143_3, s3, p2, show (-1 : Int32) = -(nI 1) from rfl, ad_neg hp1, ud_ne (show ¬ 13 + m * 5 + 1 = 3 by omega), q1, g2, nI_1, show (9 : Int32) = nI 9 from rfl, mn_n (by decide) (by omega), Nat.min_eq_right (by omega)]
  have e2 : upd (upd N m (N m + 1)) 37 (N 37 - 1) = upd (upd N m (nI (g + 1))) 37 (nI (p - 1)) := by rw [g2, p2, nI_1, show (1 : Int32) = nI 1 from rfl, pk_sub hp1]
  rw [e1, e2]
  refine ⟨⟨?_, LG_ext h.2.1 ?_ ?_ (fun j hj => ?_) (fun j hj => ?_), ?_⟩, ?_⟩
  · refine R_mon h.1 hm (y3 := nI (p - 1)) (a := nI (g + 1)) (b := N (8 + m)) (c := N (16 + m)) ?_ ?_ (bd_k (by omega)) ?_ ?_ (bd_k (by omega)) ?_ ?_ b2 ?_ ?_ b3 (fun j j0 j1 j2 j3 => ?_) (fun j j0 j1 j2 j3 => ?_)
    all_goals simp (disch := omega) only [ud_at, ud_ne]
    all_goals assumption
  · simp (disch := omega) only [ud_at, ud_ne]
  · simp (disch := omega) only [ud_at, ud_ne]
  · simp (disch := omega) only [ud_at, ud_ne]
  · simp (disch := omega) only [ud_at, ud_ne]
  · rw [ud_ne (show ¬ (36 : Nat) = 37 by decide), ud_ne (show ¬ (36 : Nat) = m by omega)]
    exact h.2.2
  · rw [oM_1 hm8, ud_at, g2, nI_1]
theorem RF_ch (h : RF ms cs R M C f N) {m : Nat} (hm : m < ms) (h0 : ¬ N (8 + m) = 0) : RF ms cs R M C (chM f (nI m)) (chN N m) ∧ oM (chM f (nI m)) (nI m) 2 = chN N m (8 + m) := by
  have h8 : ms ≤ 8 := h.1.1.2.1
  have hm8 : m < 8 := by omega
  obtain ⟨-, ⟨-, -, -, ⟨s3, b9⟩, -⟩, -, hM, -⟩ := id h.1
  obtain ⟨q0, ⟨q1, b1⟩, ⟨q2, u, u1, u2⟩, ⟨q3, v, v1, v2⟩, q4⟩ := hM m hm
  have hu : 1 ≤ u := by
    have : u ≠ 0 := by
      rintro rfl
      exact h0 u2
    omega
  have e1 : chM f (nI m) = upd (upd f (13 + m * 5 + 2) (nI (u - 1))) (13 + m * 5 + 3) (nI (min 9 (v + 1))) := by
    unfold chM
    rw [pM_3 hm8, pM_2 hm8, oM_2 hm8, oM_3 hm8, q2, u2, show (-1 : Int32) = -(nI 1) from rfl, ad_neg hu, ud_ne (show ¬ 13 + m * 5 + 3 = 13 + m * 5 + 2 by omega), q3, v2, nI_1, show (9 : Int32) = nI 9 from rfl, mn_n (by decide) (by omega)]
  have e2 : chN N m = upd (upd N (8 + m) (nI (u - 1))) (16 + m) (nI (min 9 (v + 1))) := by
    unfold chN
    rw [u2, v2, nI_1, show (9 : Int32) = nI 9 from rfl, mn_n (by decide) (by omega), show (1 : Int32) = nI 1 from rfl, pk_sub hu]
  rw [e1, e2]
  refine ⟨⟨?_, LG_ext h.2.1 ?_ ?_ (fun j hj => ?_) (fun j hj => ?_), ?_⟩, ?_⟩
  · refine R_mon h.1 hm (y3 := N 37) (a := N m) (b := nI (u - 1)) (c := nI (min 9 (v + 1))) ?_ ?_ b9 ?_ ?_ b1 ?_ ?_ (bd_k (by omega)) ?_ ?_ (bd_k (by omega)) (fun j j0 j1 j2 j3 => ?_) (fun j j0 j1 j2 j3 => ?_)
    all_goals simp (disch := omega) only [ud_at, ud_ne]
    all_goals assumption
  · simp (disch := omega) only [ud_at, ud_ne]
  · simp (disch := omega) only [ud_at, ud_ne]
  · simp (disch := omega) only [ud_at, ud_ne]
  · simp (disch := omega) only [ud_at, ud_ne]
  · rw [ud_ne (show ¬ (36 : Nat) = 16 + m by omega), ud_ne (show ¬ (36 : Nat) = 8 + m by omega)]
    exact h.2.2
  · rw [oM_2 hm8]
    simp (disch := omega) only [ud_at, ud_ne]
end