/-! THE RELATION: a crop's growing -/
theorem rp_has : ∀ r, r < 32 → ∀ c, c < 5 → haZ (nI r) (nI c) = nI (r / 2 ^ c % 2) := by decide +kernel
theorem rp_or : ∀ r, r < 32 → ∀ c, c < 5 → r / 2 ^ c % 2 = 0 → nI r ||| (1 <<< (nI c &&& 31)) = nI (r + 2 ^ c) := by decide +kernel
theorem rp_bit : ∀ r, r < 32 → ∀ c, c < 5 → r / 2 ^ c % 2 = 0 → ∀ e, e < 5 → (r + 2 ^ c) / 2 ^ e % 2 = if e = c then 1 else r / 2 ^ e % 2 := by decide +kernel
theorem rp_lt : ∀ cs, cs < 6 → ∀ r, r < 2 ^ cs → ∀ c, c < cs → r / 2 ^ c % 2 = 0 → r + 2 ^ c < 2 ^ cs := by decide +kernel
theorem rp_32 : ∀ cs, cs < 6 → 2 ^ cs ≤ 32 := by decide +kernel
section RD2
variable {ms cs : Nat} {R M C f N : ROW}
theorem R_got (h : RJ ms cs R M C f N) {k : Nat} (hk : k < cs) {a b : Int32} (ha : bd 999 a) (hb : bd 999 b) : RJ ms cs R M C (upd (upd f (53 + k * 6 + 3) a) (53 + k * 6 + 4) b) (upd (upd N (24 + k) a) (29 + k) b) := by
  obtain ⟨⟨a1, a2, a3, a4, a5, a6⟩, ⟨s0, s1, s2, s3, s4, s7, s8, s12⟩, ⟨m, d, l, d1, d2, d3, d4, d5, d6, d7, d8⟩, hM, hC, r, hr, hr2, hr3⟩ := h
  refine ⟨⟨a1, a2, a3, a4, ?_, ?_⟩, ⟨?_, ?_, ?_, ?_, ?_, ?_, ?_, ?_⟩, ⟨m, d, l, ?_, ?_, d3, ?_, ?_, ?_, d7, d8⟩, fun j hj => ?_, fun j hj => ?_, r, hr, ?_, fun c hc => ?_⟩
  all_goals try (simp (disch := omega) only [ud_at, ud_ne]; assumption)
  · have q := hM j hj
    unfold RMo at q ⊢
    simp (disch := omega) only [ud_at, ud_ne]
    exact q
  · have q := hC j hj
    unfold RCr at q ⊢
    by_cases hjk : j = k
    · subst hjk
      simp (disch := omega) only [ud_at, ud_ne]
      exact ⟨q.1, q.2.1, q.2.2.1, ⟨trivial, ha⟩, trivial, hb⟩
    · simp (disch := omega) only [ud_at, ud_ne]
      exact q
  · simp (disch := omega) only [ud_at, ud_ne]
    exact hr3 c hc
theorem R_rip (h : RJ ms cs R M C f N) {k r : Nat} (hk : k < cs) {p : Int32} (hp : bd 999 p) (hr : N 34 = nI r) (hr5 : r < 2 ^ cs) (hz : r / 2 ^ k % 2 = 0) : RJ ms cs R M C (upd (upd f (53 + k * 6 + 5) 1) 3 p) (upd (upd N 34 (nI (r + 2 ^ k))) 37 p) := by
  obtain ⟨⟨a1, a2, a3, a4, a5, a6⟩, ⟨s0, s1, s2, s3, s4, s7, s8, s12⟩, ⟨m, d, l, d1, d2, d3, d4, d5, d6, d7, d8⟩, hM, hC, r0, hr0, hr2, hr3⟩ := h
  have h32 := rp_32 cs (by omega)
  have hrr : r0 = r := (nI_eq (by omega) (by omega)).mp (hr2.symm.trans hr)
  subst hrr
  refine ⟨⟨a1, a2, a3, a4, ?_, ?_⟩, ⟨?_, ?_, ?_, ?_, ?_, ?_, ?_, ?_⟩, ⟨m, d, l, ?_, ?_, d3, ?_, ?_, ?_, d7, d8⟩, fun j hj => ?_, fun j hj => ?_, r0 + 2 ^ k, rp_lt cs (by omega) r0 hr0 k hk hz, ?_, fun c hc => ?_⟩
  all_goals try (simp (disch := omega) only [ud_at, ud_ne]; assumption)
  · simp (disch := omega) only [ud_at, ud_ne]
    exact ⟨trivial, hp⟩
  · have q := hM j hj
    unfold RMo at q ⊢
    simp (disch := omega) only [ud_at, ud_ne]
    exact q
  · have q := hC j hj
    unfold RCr at q ⊢
    simp (disch := omega) only [ud_at, ud_ne]
    exact q
  · simp (disch := omega) only [ud_at, ud_ne]
  · rw [rp_bit r0 (by omega) k (by omega) hz c (by omega)]
    by_cases hck : c = k
    · subst hck
      rw [if_pos rfl]
      simp (disch := omega) only [ud_at, ud_ne]
      rfl
    · rw [if_neg hck]
      simp (disch := omega) only [ud_at, ud_ne]
      exact hr3 c hc
/-- what ripened since r0: a -/
def AC (r0 : Nat) (b x : Int32) : Prop := ∃ a, b = nI a ∧ x = nI (r0 + a) ∧ r0 + a < 32 ∧ ∀ c, c < 5 → a / 2 ^ c % 2 + r0 / 2 ^ c % 2 = (r0 + a) / 2 ^ c % 2
theorem AC_0 {r : Nat} (h : r < 32) : AC r 0 (nI r) := ⟨0, rfl, rfl, h, fun c _ => by rw [Nat.zero_div, Nat.zero_mod, Nat.zero_add, Nat.add_zero]⟩
theorem AC_end : ∀ r, r < 32 → ∀ a, a < 32 → (∀ c, c < 5 → a / 2 ^ c % 2 + r / 2 ^ c % 2 = (r + a) / 2 ^ c % 2) → nI (r + a) &&& (nI r ^^^ (-1)) = nI a := by decide +kernel
theorem AC_step {r0 r k : Nat} {b : Int32} (h : AC r0 b (nI r)) (hr : r < 32) (hk : k < 5) (hz : r / 2 ^ k % 2 = 0) (hr2 : r + 2 ^ k < 32) : AC r0 (b ||| (1 <<< (nI k &&& 31))) (nI (r + 2 ^ k)) := by
  obtain ⟨a, rfl, e, h1, h2⟩ := h
  have hra : r = r0 + a := (nI_eq (by omega) (by omega)).mp e
  subst hra
  have h3 := h2 k hk
  have ha0 : a / 2 ^ k % 2 = 0 := by omega
  have hr0 : r0 / 2 ^ k % 2 = 0 := by omega
  refine ⟨a + 2 ^ k, rp_or a (by omega) k hk ha0, by rw [Nat.add_assoc], by omega, fun c hc => ?_⟩
  rw [rp_bit a (by omega) k hk ha0 c hc, ← Nat.add_assoc, rp_bit (r0 + a) (by omega) k hk hz c hc]
  by_cases hck : c = k
  · subst hck
    rw [if_pos rfl, if_pos rfl, hr0]
  · rw [if_neg hck, if_neg hck]
    exact h2 c hc
/-- what is not ripe yet, one by one -/
def uT (f : ROW) (k : Nat) : Int32 := if oC f (nI k) 5 = 0 then oC f (nI k) 2 else 0
theorem unr_n {n : Nat} (h : f 10 = nI n) (hn : n < 2 ^ 31) : unrS f = itn (fun k s => s + uT f k) n 0 := by
  unfold unrS
  rw [g143_10, h, nI_clamp hn]
  rfl
theorem sum_one {u v : Nat → Int32} {k : Nat} : ∀ n, (∀ j, j < n → j ≠ k → v j = u j) → itn (fun j s => s + v j) n (0 : Int32) + (if k < n then u k else 0) = itn (fun j s => s + u j) n 0 + (if k < n then v k else 0) := by
  intro n
  induction n with
  | zero => intro _; rfl
  | succ n ih =>
    intro h
    have ih := ih (fun j hj => h j (by omega))
    show itn (fun j s => s + v j) n (0 : Int32) + v n + _ = itn (fun j s => s + u j) n 0 + u n + _
    by_cases hk : k < n
    · rw [if_pos hk, if_pos hk] at ih
      rw [if_pos (by omega), if_pos (by omega), h n (by omega) (by omega), Int32.add_assoc, Int32.add_comm (u n), ← Int32.add_assoc, ih, Int32.add_assoc, Int32.add_comm (v k), ← Int32.add_assoc]
    · rw [if_neg hk, if_neg hk, Int32.add_zero, Int32.add_zero] at ih
      by_cases hk2 : k = n
      · subst hk2
        rw [if_pos (by omega), if_pos (by omega), ih, Int32.add_assoc, Int32.add_comm (v k), ← Int32.add_assoc]
      · rw [if_neg (by omega), if_neg (by omega), h n (by omega) (fun z => hk2 z.symm), ih]
theorem sum_same {u v : Nat → Int32} : ∀ n, (∀ j, j < n → v j = u j) → itn (fun j s => s + v j) n (0 : Int32) = itn (fun j s => s + u j) n 0 := by
  intro n
  induction n with
  | zero => intro _; rfl
  | succ n ih =>
    intro h
    show itn (fun j s => s + v j) n (0 : Int32) + v n = itn (fun j s => s + u j) n 0 + u n
    rw [ih (fun j hj => h j (by omega)), h n (by omega)]
theorem R_grow (h : RJ ms cs R M C f N) {m k r0 : Nat} {b : Int32} (hm : N 39 = nI m) (hmq : m < ms) (hk : k < cs) (hz : haZ (N 34) (nI k) = 0) (hA : AC r0 b (N 34)) : RJ ms cs R M C (grC (N (8 + m)) (N (16 + m)) k (f, b)).1 (gwN N C m k).1 ∧ (∀ j, j < 24 → (gwN N C m k).1 j = N j) ∧ (gwN N C m k).1 39 = N 39 ∧ AC r0 (grC (N (8 + m)) (N (16 + m)) k (f, b)).2 ((gwN N C m k).1 34) ∧ (gwN N C m k).2 + unrS (grC (N (8 + m)) (N (16 + m)) k (f, b)).1 = unrS f ∧ ∀ j, 43 ≤ j → (gwN N C m k).1 j = N j := by
  have h0 := h
  obtain ⟨⟨a1, a2, a3, a4, a5, a6⟩, ⟨s0, s1, s2, s3, s4, s7, s8, s12⟩, hD, hM, hC, r, hr, hr2, hr3⟩ := h
  have h32 := rp_32 cs (by omega)
  have hc5 : k < 5 := by omega
  have hm8 : m < 8 := by omega
  have hz0 : r / 2 ^ k % 2 = 0 := by
    rw [hr2, rp_has r (by omega) k hc5] at hz
    have h2 : r / 2 ^ k % 2 < 2 := Nat.mod_lt _ (by decide)
    exact (nI_eq (by omega) (by omega)).mp (hz.trans nI_0.symm)
  obtain ⟨c0, c1, c2, ⟨c3, g3, g3l, g3e⟩, c4, g4, g4l, g4e⟩ := hC k hk
  obtain ⟨m0, m1, ⟨m2, u2, u2l, u2e⟩, ⟨m3, u3, u3l, u3e⟩, m4⟩ := hM m hmq
  have e5 : oC f (nI k) 5 = 0 := by rw [oC_5 hc5, hr3 k hk, hz0]; rfl
  have e3 : oC f (nI k) 3 = N (24 + k) := by rw [oC_3 hc5]; exact c3
  have e4 : oC f (nI k) 4 = N (29 + k) := by rw [oC_4 hc5]; exact c4
  have bA : bd 999 (mn 999 (N (24 + k) + N (8 + m))) := by
    rw [g3e, u2e, nI_add, show (999 : Int32) = nI 999 from rfl, mn_n (by decide) (by omega)]
    exact bd_k (Nat.min_le_left _ _)
  have bB : bd 999 (mn 999 (N (29 + k) + N (16 + m))) := by
    rw [g4e, u3e, nI_add, show (999 : Int32) = nI 999 from rfl, mn_n (by decide) (by omega)]
    exact bd_k (Nat.min_le_left _ _)
  have eT : grT (N (8 + m)) (N (16 + m)) k f = upd (upd f (53 + k * 6 + 3) (mn 999 (N (24 + k) + N (8 + m)))) (53 + k * 6 + 4) (mn 999 (N (29 + k) + N (16 + m))) := by
    unfold grT
    rw [e3, e4, pC_3 hc5, pC_4 hc5]
  have t0 : oC (grT (N (8 + m)) (N (16 + m)) k f) (nI k) 0 = C (3 * k) := by
    rw [oC_0 hc5, eT]
    simp (disch := omega) only [ud_at, ud_ne]
    exact c0.1
  have t1 : oC (grT (N (8 + m)) (N (16 + m)) k f) (nI k) 1 = C (3 * k + 1) := by
    rw [oC_1 hc5, eT]
    simp (disch := omega) only [ud_at, ud_ne]
    exact c1.1
  have hgot := R_got h0 hk bA bB
  have same : unrS (upd (upd f (53 + k * 6 + 3) (mn 999 (N (24 + k) + N (8 + m)))) (53 + k * 6 + 4) (mn 999 (N (29 + k) + N (16 + m)))) = unrS f := by
    rw [unr_n (n := cs) (by simp (disch := omega) only [ud_at, ud_ne]; exact a6) (by omega), unr_n a6 (by omega)]
    refine sum_same cs (fun j hj => ?_)
    unfold uT
    rw [oC_5 (by omega), oC_2 (by omega), oC_5 (by omega), oC_2 (by omega)]
    simp (disch := omega) only [ud_at, ud_ne]
  by_cases q1 : mn 999 (N (24 + k) + N (8 + m)) < C (3 * k)
  · have eg : grC (N (8 + m)) (N (16 + m)) k (f, b) = _ := grC_1 (s := (f, b)) e5 (by rw [e3, t0]; exact q1)
    have en : gwN N C m k = _ := if_pos q1
    rw [eg, en, eT]
    refine ⟨hgot, fun j hj => ?_, ?_, ?_, ?_, fun j hj => ?_⟩
    · simp (disch := omega) only [ud_at, ud_ne]
    · simp (disch := omega) only [ud_at, ud_ne]
    · simp (disch := omega) only [ud_at, ud_ne]
      exact hA
    · rw [show ((0 : Int32)) + _ = _ from Int32.zero_add _]
      exact same
    · simp (disch := omega) only [ud_at, ud_ne]
  · by_cases q2 : mn 999 (N (29 + k) + N (16 + m)) < C (3 * k + 1)
    · have eg : grC (N (8 + m)) (N (16 + m)) k (f, b) = _ := grC_2 (s := (f, b)) e5 (by rw [e3, t0]; exact q1) (by rw [e4, t1]; exact q2)
      have en : gwN N C m k = _ := (if_neg q1).trans (if_pos q2)
      rw [eg, en, eT]
      refine ⟨hgot, fun j hj => ?_, ?_, ?_, ?_, fun j hj => ?_⟩
      · simp (disch := omega) only [ud_at, ud_ne]
      · simp (disch := omega) only [ud_at, ud_ne]
      · simp (disch := omega) only [ud_at, ud_ne]
        exact hA
      · rw [show ((0 : Int32)) + _ = _ from Int32.zero_add _]
        exact same
      · simp (disch := omega) only [ud_at, ud_ne]
    · have eg : grC (N (8 + m)) (N (16 + m)) k (f, b) = _ := grC_3 (s := (f, b)) e5 (by rw [e3, t0]; exact q1) (by rw [e4, t1]; exact q2)
      have en : gwN N C m k = _ := (if_neg q1).trans (if_neg q2)
      obtain ⟨p3, k3, k3l, k3e⟩ := s3
      obtain ⟨v2, w2, w2l, w2e⟩ := c2
      have bP : bd 999 (mn 999 (N 37 + C (3 * k + 2))) := by
        rw [k3e, w2e, nI_add, show (999 : Int32) = nI 999 from rfl, mn_n (by decide) (by omega)]
        exact bd_k (Nat.min_le_left _ _)
      have eU : grU (N (8 + m)) (N (16 + m)) k f = upd (upd (upd (upd f (53 + k * 6 + 3) (mn 999 (N (24 + k) + N (8 + m)))) (53 + k * 6 + 4) (mn 999 (N (29 + k) + N (16 + m)))) (53 + k * 6 + 5) 1) 3 (mn 999 (N 37 + C (3 * k + 2))) := by
        unfold grU
        rw [eT, p143_3, g143_3, pC_5 hc5, oC_2 hc5]
        simp (disch := omega) only [ud_at, ud_ne]
        rw [p3, v2]
      have eO : N 34 ||| (1 <<< (nI k &&& 31)) = nI (r + 2 ^ k) := by rw [hr2]; exact rp_or r (by omega) k hc5 hz0
      have hl := rp_lt cs (by omega) r hr k hk hz0
      have hrip := R_rip hgot hk bP (show _ = nI r from by simp (disch := omega) only [ud_at, ud_ne]; exact hr2) hr hz0
      rw [eg, en, eU, eO]
      refine ⟨hrip, fun j hj => ?_, ?_, ?_, ?_, fun j hj => ?_⟩
      · simp (disch := omega) only [ud_at, ud_ne]
      · simp (disch := omega) only [ud_at, ud_ne]
      · simp (disch := omega) only [ud_at, ud_ne]
        rw [hr2] at hA
        exact AC_step hA (by omega) hc5 hz0 (by omega)
      · rw [unr_n (n := cs) (by simp (disch := omega) only [ud_at, ud_ne]; exact a6) (by omega), unr_n a6 (by omega)]
        have hs := sum_one (u := uT f) (v := uT (upd (upd (upd (upd f (53 + k * 6 + 3) (mn 999 (N (24 + k) + N (8 + m)))) (53 + k * 6 + 4) (mn 999 (N (29 + k) + N (16 + m)))) (53 + k * 6 + 5) 1) 3 (mn 999 (N 37 + C (3 * k + 2))))) (k := k) cs (fun j hj hjk => by
          unfold uT
          rw [oC_5 (by omega), oC_2 (by omega), oC_5 (by omega), oC_2 (by omega)]
          simp (disch := omega) only [ud_at, ud_ne])
        rw [if_pos hk, if_pos hk] at hs
        have v0 : uT (upd (upd (upd (upd f (53 + k * 6 + 3) (mn 999 (N (24 + k) + N (8 + m)))) (53 + k * 6 + 4) (mn 999 (N (29 + k) + N (16 + m)))) (53 + k * 6 + 5) 1) 3 (mn 999 (N 37 + C (3 * k + 2)))) k = 0 := by
          unfold uT
          rw [oC_5 hc5]
          simp (disch := omega) only [ud_at, ud_ne]
          exact if_neg (by decide)
        have u0 : uT f k = C (3 * k + 2) := by
          unfold uT
          rw [if_pos e5, oC_2 hc5, v2]
        rw [v0, u0, Int32.add_zero] at hs
        rw [Int32.add_comm]
        exact hs
      · simp (disch := omega) only [ud_at, ud_ne]
end RD2