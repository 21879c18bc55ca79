/-! THE RELATION: scalars, hay, the turn, the log's place -/
section RD3
variable {ms cs : Nat} {R M C f N : ROW}
theorem R_ext (h : RJ ms cs R M C f N) {f' N' : ROW} (ef : ∀ j, j < 83 → j ≠ 11 → j ≠ 12 → f' j = f j) (h12 : bd 59 (f' 12)) (en : ∀ j, j < 43 → N' j = N j) : RJ ms cs R M C f' N' := by
  obtain ⟨⟨a1, a2, a3, a4, a5, a6⟩, ⟨s0, s1, s2, s3, s4, s7, s8, s12⟩, ⟨m, d, l, d1, d2, d3, d4, d5, d6, d7, d8⟩, hM, hC, r, hr, hr2, hr3⟩ := h
  refine ⟨⟨a1, a2, a3, a4, ?_, ?_⟩, ⟨?_, ?_, ?_, ?_, ?_, ?_, ?_, h12⟩, ⟨m, d, l, ?_, ?_, d3, ?_, ?_, ?_, d7, d8⟩, fun j hj => ?_, fun j hj => ?_, r, hr, ?_, fun c hc => ?_⟩
  all_goals try (simp (disch := omega) only [ef, en]; assumption)
  · have q := hM j hj
    unfold RMo at q ⊢
    simp (disch := omega) only [ef, en]
    exact q
  · have q := hC j hj
    unfold RCr at q ⊢
    simp (disch := omega) only [ef, en]
    exact q
  · simp (disch := omega) only [ef, en]
    exact hr3 c hc
theorem R_sc (h : RJ ms cs R M C f N) {f' N' : ROW} {y0 y1 y3 y4 y8 : Int32} (e0 : f' 0 = y0) (n0 : N' 35 = y0) (b0 : bd 30 y0) (e1 : f' 1 = y1) (n1 : N' 36 = y1) (b1 : bd 300 y1) (e3 : f' 3 = y3) (n3 : N' 37 = y3) (b3 : bd 999 y3) (e4 : f' 4 = y4) (n4 : N' 38 = y4) (b4 : bd 1 y4) (e8 : f' 8 = y8) (n8 : N' 42 = y8) (ef : ∀ j, j ≠ 0 → j ≠ 1 → j ≠ 3 → j ≠ 4 → j ≠ 8 → f' j = f j) (en : ∀ j, j ≠ 35 → j ≠ 36 → j ≠ 37 → j ≠ 38 → j ≠ 42 → N' j = N j) : RJ ms cs R M C f' N' := by
  obtain ⟨⟨a1, a2, a3, a4, a5, a6⟩, ⟨s0, s1, s2, s3, s4, s7, s8, s12⟩, ⟨m, d, l, d1, d2, d3, d4, d5, d6, d7, d8⟩, hM, hC, r, hr, hr2, hr3⟩ := h
  refine ⟨⟨a1, a2, a3, a4, ?_, ?_⟩, ⟨⟨e0.trans n0.symm, by rw [n0]; exact b0⟩, ⟨e1.trans n1.symm, by rw [n1]; exact b1⟩, ?_, ⟨e3.trans n3.symm, by rw [n3]; exact b3⟩, ⟨e4.trans n4.symm, by rw [n4]; exact b4⟩, ?_, e8.trans n8.symm, ?_⟩, ⟨m, d, l, ?_, ?_, d3, ?_, ?_, ?_, d7, d8⟩, fun j hj => ?_, fun j hj => ?_, r, hr, ?_, fun c hc => ?_⟩
  all_goals try (simp (disch := omega) only [ef, en]; assumption)
  · have q := hM j hj
    unfold RMo at q ⊢
    simp (disch := omega) only [ef, en]
    exact q
  · have q := hC j hj
    unfold RCr at q ⊢
    simp (disch := omega) only [ef, en]
    exact q
  · simp (disch := omega) only [ef, en]
    exact hr3 c hc
theorem unr_ext {f' : ROW} {n : Nat} (h10 : f 10 = nI n) (hn : n ≤ 5) (he : f' 10 = f 10) (h : ∀ j, 53 ≤ j → j < 83 → f' j = f j) : unrS f' = unrS f := by
  rw [unr_n (n := n) (he.trans h10) (by omega), unr_n h10 (by omega)]
  refine sum_same n (fun j hj => ?_)
  unfold uT
  rw [oC_5 (by omega), oC_2 (by omega), oC_5 (by omega), oC_2 (by omega), h _ (by omega) (by omega), h _ (by omega) (by omega)]
/-- hay is eaten -/
def eaN (N R : ROW) : ROW := if 0 < N 35 then (if R 2 ≤ N 36 then upd (upd N 36 (N 36 - R 2)) 35 (N 35 - 0) else upd (upd N 36 0) 35 (N 35 - 1)) else N
theorem R_eat (h : RJ ms cs R M C f N) : RJ ms cs R M C (pt 143 (ehF f) 8 (gt 143 (ehF f) 8 + 1)) (upd (eaN N R) 42 (eaN N R 42 + 1)) ∧ (∀ j, j ≠ 0 → j ≠ 1 → j ≠ 8 → pt 143 (ehF f) 8 (gt 143 (ehF f) 8 + 1) j = f j) ∧ ∀ j, j ≠ 35 → j ≠ 36 → j ≠ 42 → upd (eaN N R) 42 (eaN N R 42 + 1) j = N j := by
  have h0 := h
  obtain ⟨⟨a1, a2, a3, a4, a5, a6⟩, ⟨⟨s0, k, hk, ek⟩, ⟨s1, a, ha, ea⟩, ⟨s2, b, hb, eb⟩, ⟨s3, b3⟩, ⟨s4, b4⟩, s7, s8, s12⟩, -⟩ := h
  rw [p143_8, g143_8]
  by_cases k0 : k = 0
  · subst k0
    have e1 : ehF f = f := if_neg (by rw [g143_0, s0, ek]; decide)
    have e2 : eaN N R = N := if_neg (by rw [ek]; decide)
    rw [e1, e2]
    refine ⟨R_sc h0 (y0 := N 35) (y1 := N 36) (y3 := N 37) (y4 := N 38) (y8 := N 42 + 1) ?_ ?_ (by rw [ek]; exact bd_k hk) ?_ ?_ (by rw [ea]; exact bd_k ha) ?_ ?_ b3 ?_ ?_ b4 ?_ ?_ (fun j j0 j1 j3 j4 j8 => ?_) (fun j j0 j1 j3 j4 j8 => ?_), fun j j0 j1 j8 => ?_, fun j j0 j1 j8 => ?_⟩
    all_goals (try rw [s8])
    all_goals simp (disch := omega) only [ud_at, ud_ne]
    all_goals assumption
  · have c1 : (1 : Int32) ≤ gt 143 f 0 := by
      rw [g143_0, s0, ek]
      exact nI_le (a := 1) (by omega) (by omega)
    have c2 : (0 : Int32) < N 35 := by
      rw [ek]
      exact nI_lt (a := 0) (by omega) (by omega)
    have eL : ehL f = nI a - nI b := by
      unfold ehL
      rw [g143_1, g143_2, s1, s2, ea, eb]
    by_cases hba : b ≤ a
    · have e1 : ehF f = upd f 1 (nI (a - b)) := by
        have q : ehL f = nI (a - b) := by rw [eL, pk_sub hba]
        refine (if_pos c1).trans ((if_pos (by rw [q]; exact nI_pos' (by omega))).trans ?_)
        rw [q, p143_1, show (0 : Int32) = nI 0 from rfl, mx_n (by decide) (by omega), Nat.max_eq_right (Nat.zero_le _)]
      have e2 : eaN N R = upd (upd N 36 (nI (a - b))) 35 (N 35) := by
        refine (if_pos c2).trans ((if_pos (by rw [ea, eb]; exact nI_le hba (by omega))).trans ?_)
        rw [ea, eb, pk_sub hba, Int32.sub_zero]
      rw [e1, e2]
      refine ⟨R_sc h0 (y0 := N 35) (y1 := nI (a - b)) (y3 := N 37) (y4 := N 38) (y8 := N 42 + 1) ?_ ?_ (by rw [ek]; exact bd_k hk) ?_ ?_ (bd_k (by omega)) ?_ ?_ b3 ?_ ?_ b4 ?_ ?_ (fun j j0 j1 j3 j4 j8 => ?_) (fun j j0 j1 j3 j4 j8 => ?_), fun j j0 j1 j8 => ?_, fun j j0 j1 j8 => ?_⟩
      all_goals simp (disch := omega) only [ud_at, ud_ne]
      all_goals (try rw [s8])
      all_goals assumption
    · have hn : ehL f < 0 := by rw [eL]; exact pk_sneg (by omega) (by omega)
      have e1 : ehF f = upd (upd f 1 0) 0 (nI (k - 1)) := by
        have q : mx 0 (ehL f) = 0 := if_neg (fun z => absurd (Int32.lt_trans z hn) Int32.lt_irrefl)
        refine (if_pos c1).trans ((if_neg (Int32.not_le.mpr hn)).trans ?_)
        rw [q, p143_1, p143_0, g143_0]
        simp (disch := omega) only [ud_at, ud_ne]
        rw [s0, ek, sb_m1 (by omega)]
      have e2 : eaN N R = upd (upd N 36 0) 35 (nI (k - 1)) := by
        refine (if_pos c2).trans ((if_neg (by rw [ea, eb]; exact nI_ge (by omega) (by omega))).trans ?_)
        rw [ek, show (1 : Int32) = nI 1 from rfl, pk_sub (by omega)]
      rw [e1, e2]
      refine ⟨R_sc h0 (y0 := nI (k - 1)) (y1 := 0) (y3 := N 37) (y4 := N 38) (y8 := N 42 + 1) ?_ ?_ (bd_k (by omega)) ?_ ?_ (bd_k (k := 0) (by omega)) ?_ ?_ b3 ?_ ?_ b4 ?_ ?_ (fun j j0 j1 j3 j4 j8 => ?_) (fun j j0 j1 j3 j4 j8 => ?_), fun j j0 j1 j8 => ?_, fun j j0 j1 j8 => ?_⟩
      all_goals simp (disch := omega) only [ud_at, ud_ne]
      all_goals (try rw [s8])
      all_goals assumption
/-- the log's line and its place -/
def lnW (f : ROW) (p b : Int32) : Int32 := (((f 5 <<< (15 &&& 31)) ||| (f 6 <<< (10 &&& 31))) ||| (p <<< (5 &&& 31))) ||| b
theorem wl_F {p b : Int32} {k : Nat} (hk : k ≤ 59) (h12 : f 12 = nI k) : wlF f p b = upd (upd (upd f (83 + k) (lnW f p b)) 12 (nI ((k + 1) % 60))) 11 (mn 60 (f 11 + 1)) := by
  have e : (83 : Int32) + nI k = nI (83 + k) := nI_add 83 k
  unfold wlF
  simp only [g143_12, g143_5, g143_6, p143_12, p143_11, g143_11]
  rw [h12, e, pt_nI (by omega) (by decide)]
  simp (disch := omega) only [ud_ne]
  rw [nI_1, show (60 : Int32) = nI 60 from rfl, rm_n (by omega) (by decide) (by decide)]
  rfl
theorem R_log (h : RJ ms cs R M C f N) {p b : Int32} : RJ ms cs R M C (wlF f p b) N := by
  obtain ⟨k, hk, ek⟩ := h.2.1.2.2.2.2.2.2.2
  rw [wl_F hk ek]
  refine R_ext h (fun j j1 j2 j3 => ?_) ?_ (fun _ _ => rfl)
  · simp (disch := omega) only [ud_at, ud_ne]
  · simp (disch := omega) only [ud_at, ud_ne]
    exact bd_k (by omega)
theorem AC_or : ∀ a, a < 32 → ∀ b, b < 32 → (∀ c, c < 5 → a / 2 ^ c % 2 + b / 2 ^ c % 2 ≤ 1) → nI a ||| nI b = nI (a + b) ∧ ∀ c, c < 5 → (a + b) / 2 ^ c % 2 = a / 2 ^ c % 2 + b / 2 ^ c % 2 := by decide +kernel
theorem AC_join {r0 r1 : Nat} {b b2 x : Int32} (h1 : r1 < 32) (h : AC r0 b (nI r1)) (k : AC r1 b2 x) : AC r0 (b ||| b2) x := by
  obtain ⟨a, rfl, e, h2, h3⟩ := h
  obtain ⟨a2, rfl, e2, k2, k3⟩ := k
  have hr : r1 = r0 + a := (nI_eq (by omega) (by omega)).mp e
  subst hr
  have hd : ∀ c, c < 5 → a / 2 ^ c % 2 + a2 / 2 ^ c % 2 ≤ 1 := fun c hc => by
    have q1 := h3 c hc
    have q2 := k3 c hc
    have q3 : (r0 + a + a2) / 2 ^ c % 2 < 2 := Nat.mod_lt _ (by decide)
    omega
  obtain ⟨o1, o2⟩ := AC_or a (by omega) a2 (by omega) hd
  refine ⟨a + a2, o1, by rw [e2, Nat.add_assoc], by omega, fun c hc => ?_⟩
  rw [o2 c hc, ← Nat.add_assoc]
  have q1 := h3 c hc
  have q2 := k3 c hc
  omega
end RD3