/-! SOWING AND A STRIKE KEEP THE RELATION -/
section
variable {ms cs : Nat} {R M C f N : ROW}
theorem RF_sow (h : RF ms cs R M C f N) {c : Nat} (hc : c < cs) (h0 : ¬ haZ (N 34) (nI c) = 0) (hn : 2 ≤ N 37) : RF ms cs R M C (soF f (nI c)) (upd (upd (upd (upd N (24 + c) 0) (29 + c) 0) 34 (N 34 &&& ((1 <<< (nI c &&& 31)) ^^^ (-1)))) 37 (N 37 - 2)) := by
  have hcs : cs ≤ 5 := h.1.1.2.2.2.1
  have hc5 : c < 5 := by omega
  obtain ⟨⟨a1, a2, a3, a4, a5, a6⟩, ⟨s0, s1, s2, ⟨s3, p, p1, p2⟩, s4, s7, s8, s12⟩, ⟨m0, d, l, d1, d2, d3, d4, d5, d6, d7, d8⟩, hM, hC, r, hr, hr2, hr3⟩ := id h.1
  have h32 : r < 32 := Nat.lt_of_lt_of_le hr (rp_32 cs (by omega))
  have hb1 : r / 2 ^ c % 2 = 1 := by
    rw [hr2, rp_has r h32 c hc5] at h0
    have h2 : r / 2 ^ c % 2 < 2 := Nat.mod_lt _ (by decide)
    have h3 : ¬ r / 2 ^ c % 2 = 0 := fun z => h0 (by rw [z]; exact nI_0)
    omega
  have hp1 : 2 ≤ p := by
    rw [p2] at hn
    exact (nI_leI (a := 2) (by omega) (by omega)).mp hn
  have e1 : soF f (nI c) = upd (upd (upd (upd f 3 (nI (p - 2))) (53 + c * 6 + 3) 0) (53 + c * 6 + 4) 0) (53 + c * 6 + 5) 0 := by
    unfold soF swC
    rw [pC_5 hc5, pC_4 hc5, pC_3 hc5, p143_3, g143_3, s3, p2, show (-2 : Int32) = -(nI 2) from rfl, ad_neg hp1]
  have e2 : upd (upd (upd (upd N (24 + c) 0) (29 + c) 0) 34 (N 34 &&& ((1 <<< (nI c &&& 31)) ^^^ (-1)))) 37 (N 37 - 2) = upd (upd (upd (upd N (24 + c) 0) (29 + c) 0) 34 (nI (r - 2 ^ c))) 37 (nI (p - 2)) := by
    rw [hr2, rp_cl r h32 c hc5 hb1, p2, show (2 : Int32) = nI 2 from rfl, pk_sub hp1]
  rw [e1, e2]
  refine ⟨⟨⟨a1, a2, a3, a4, ?_, ?_⟩, ⟨?_, ?_, ?_, ⟨?_, ?_⟩, ?_, ?_, ?_, ?_⟩, ⟨m0, d, l, ?_, ?_, d3, ?_, ?_, ?_, d7, d8⟩, fun j hj => ?_, fun j hj => ?_, r - 2 ^ c, Nat.lt_of_le_of_lt (Nat.sub_le _ _) hr, ?_, fun e he => ?_⟩, LG_ext h.2.1 ?_ ?_ (fun j hj => ?_) (fun j hj => ?_), ?_⟩
  all_goals try (simp (disch := omega) only [ud_at, ud_ne]; assumption)
  · simp (disch := omega) only [ud_at, ud_ne]
  · simp (disch := omega) only [ud_at, ud_ne]
    exact bd_k (by omega)
  · have q := hM j hj
    unfold RMo at q ⊢
    simp (disch := omega) only [ud_ne]
    exact q
  · have q := hC j hj
    by_cases hjc : j = c
    · subst hjc
      obtain ⟨q0, q1, q2, q3, q4⟩ := q
      refine ⟨?_, ?_, ?_, ⟨?_, ?_⟩, ?_, ?_⟩
      all_goals try (simp (disch := omega) only [ud_at, ud_ne]; assumption)
      all_goals simp (disch := omega) only [ud_at, ud_ne]
      all_goals exact bd_k (k := 0) (by omega)
    · unfold RCr at q ⊢
      simp (disch := omega) only [ud_ne]
      exact q
  · simp (disch := omega) only [ud_at, ud_ne]
  · rw [rp_cb r h32 c hc5 hb1 e (by omega)]
    by_cases hec : e = c
    · subst hec
      rw [ud_at, if_pos rfl]
      exact nI_0.symm
    · rw [if_neg hec]
      simp (disch := omega) only [ud_ne]
      exact hr3 e he
  · simp (disch := omega) only [ud_at, ud_ne]
  · simp (disch := omega) only [ud_at, ud_ne]
  · simp (disch := omega) only [ud_at, ud_ne]
  · simp (disch := omega) only [ud_at, ud_ne]
  · simp (disch := omega) only [ud_ne]
    exact h.2.2
theorem RF_sk1 (h : RF ms cs R M C f N) {x : Int64} {hail : Int32} : RF ms cs R M C (sk1 f x hail).1 (dt1 N x hail (nI ms)).1 ∧ (sk1 f x hail).2 = (dt1 N x hail (nI ms)).2 := by
  have h2 : 2 ≤ ms := h.1.1.1
  have h8 : ms ≤ 8 := h.1.1.2.1
  unfold sk1 dt1
  by_cases c1 : hail ≤ drV x 10
  · rw [if_pos c1, if_pos c1]
    exact ⟨h, rfl⟩
  · rw [if_neg c1, if_neg c1]
    obtain ⟨m, hm, em⟩ := drV_n (x := drX x) (ms := ms) (by omega) (by omega)
    rw [g143_9, h.1.1.2.2.2.2.1, em, nI_clamp (by omega), oM_2 (by omega)]
    obtain ⟨-, -, ⟨q2, u, u1, u2⟩, -⟩ := h.1.2.2.2.1 m hm
    rw [q2]
    by_cases c2 : N (8 + m) ≤ 0
    · rw [if_pos c2, if_pos c2]
      exact ⟨h, rfl⟩
    · rw [if_neg c2, if_neg c2]
      exact ⟨(RF_ch h hm (fun z => c2 (by rw [z]; exact Int32.le_refl 0))).1, rfl⟩
theorem RF_sk2 {s s' : ROW × Int64} (h : RF ms cs R M C s.1 s'.1) (hx : s.2 = s'.2) {th : Int32} : RF ms cs R M C (sk2 s th).1 (dt2 s' th).1 ∧ (sk2 s th).2 = (dt2 s' th).2 := by
  obtain ⟨f, x⟩ := s
  obtain ⟨N, x'⟩ := s'
  have hx2 : x = x' := hx
  subst hx2
  have h : RF ms cs R M C f N := h
  unfold sk2 dt2
  dsimp only
  by_cases c1 : th ≤ drV x 10
  · rw [if_pos c1, if_pos c1]
    exact ⟨h, rfl⟩
  · rw [if_neg c1, if_neg c1]
    obtain ⟨a, a1, a2⟩ := h.2.2
    obtain ⟨-, ⟨⟨s0, b0⟩, ⟨s1, -⟩, s2, ⟨s3, b3⟩, ⟨s4, b4⟩, s7, s8, -⟩, -⟩ := id h.1
    have ed : nI a / 2 = nI (a / 2) := pk_div (by omega) (by decide) (by decide)
    have e1 : pt 143 f 1 (gt 143 f 1 / 2) = upd f 1 (nI (a / 2)) := by rw [p143_1, g143_1, s1, a2, ed]
    have e2 : upd N 36 (N 36 / 2) = upd N 36 (nI (a / 2)) := by rw [a2, ed]
    rw [e1, e2]
    dsimp only
    refine ⟨⟨?_, LG_ext h.2.1 ?_ ?_ (fun j hj => ?_) (fun j hj => ?_), ?_⟩, rfl⟩
    · refine R_sc h.1 (y0 := N 35) (y1 := nI (a / 2)) (y3 := N 37) (y4 := N 38) (y8 := N 42) ?_ ?_ b0 ?_ ?_ (bd_k (by omega)) ?_ ?_ b3 ?_ ?_ b4 ?_ ?_ (fun j j0 j1 j3 j4 j8 => ?_) (fun j j0 j1 j3 j4 j8 => ?_)
      all_goals simp (disch := omega) only [ud_at, ud_ne]
      all_goals assumption
    · simp (disch := omega) only [ud_ne]
    · simp (disch := omega) only [ud_ne]
    · simp (disch := omega) only [ud_ne]
    · simp (disch := omega) only [ud_ne]
    · rw [ud_at]
      exact bd_k (by omega)
theorem RF_sk (h : RF ms cs R M C f N) {x : Int64} {hail th : Int32} : RF ms cs R M C (skS f x hail th).1 (dtN N x hail th (nI ms)).1 ∧ (skS f x hail th).2 = (dtN N x hail th (nI ms)).2 := by
  have k := RF_sk1 h (x := x) (hail := hail)
  unfold skS dtN
  exact RF_sk2 k.1 k.2
end