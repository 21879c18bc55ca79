/-! JOINS: text -/
theorem bd_of {a b : Nat} {v : Int32} (ha : a < 2 ^ 31) (hb : b < 2 ^ 31) (h1 : ¬ v < nI a) (h2 : ¬ nI b < v) : ∃ k, a ≤ k ∧ k ≤ b ∧ v = nI k := by
  have g1 : nI a ≤ v := Int32.not_lt.mp h1
  have g2 : v ≤ nI b := Int32.not_lt.mp h2
  have h0 : (0 : Int32) ≤ v := Int32.le_trans (nI_pos' ha) g1
  have hz : ¬ inZ v 0 (nI b) = 0 := fun z => by
    rcases in_0.mp z with z | z
    · exact absurd z (Int32.not_lt.mpr h0)
    · exact h2 z
  obtain ⟨k, k1, e⟩ := in_1 hb hz
  rw [e] at g1
  exact ⟨k, (nI_leI ha (by omega)).mp g1, k1, e⟩
theorem lh_b {kd l a b : Nat} {v : Int32} (h : LH kd l v) (ea : gt 15 m_lo (nI kd * 5 + nI l) = nI a) (eb : gt 15 m_hi (nI kd * 5 + nI l) = nI b) (ha : a < 2 ^ 31) (hb : b < 2 ^ 31) : ∃ k, a ≤ k ∧ k ≤ b ∧ v = nI k := by
  unfold LH at h
  rw [ea, eb] at h
  exact bd_of ha hb h.1 h.2
theorem lh_d {kd l b : Nat} {v : Int32} (h : LH kd l v) (ea : gt 15 m_lo (nI kd * 5 + nI l) = nI 0) (eb : gt 15 m_hi (nI kd * 5 + nI l) = nI b) (hb : b < 2 ^ 31) : bd b v := by
  obtain ⟨k, -, h2, h3⟩ := lh_b h ea eb (by decide) hb
  exact ⟨k, h2, h3⟩
theorem lhT_0 : (gt 15 m_lo (nI 0 * 5 + nI 0) = nI 1 ∧ gt 15 m_hi (nI 0 * 5 + nI 0) = nI 30) ∧ (gt 15 m_lo (nI 0 * 5 + nI 1) = nI 0 ∧ gt 15 m_hi (nI 0 * 5 + nI 1) = nI 99) ∧ (gt 15 m_lo (nI 0 * 5 + nI 2) = nI 0 ∧ gt 15 m_hi (nI 0 * 5 + nI 2) = nI 9) ∧ gt 15 m_lo (nI 0 * 5 + nI 3) = nI 0 ∧ gt 15 m_hi (nI 0 * 5 + nI 3) = nI 99 := by decide +kernel
theorem lhT_1 : (gt 15 m_lo (nI 1 * 5 + nI 0) = nI 1 ∧ gt 15 m_hi (nI 1 * 5 + nI 0) = nI 9) ∧ (gt 15 m_lo (nI 1 * 5 + nI 1) = nI 0 ∧ gt 15 m_hi (nI 1 * 5 + nI 1) = nI 9) ∧ (gt 15 m_lo (nI 1 * 5 + nI 2) = nI 0 ∧ gt 15 m_hi (nI 1 * 5 + nI 2) = nI 9) ∧ (gt 15 m_lo (nI 1 * 5 + nI 3) = nI 0 ∧ gt 15 m_hi (nI 1 * 5 + nI 3) = nI 9) ∧ gt 15 m_lo (nI 1 * 5 + nI 4) = nI 1 ∧ gt 15 m_hi (nI 1 * 5 + nI 4) = nI 9 := by decide +kernel
theorem lhT_2 : (gt 15 m_lo (nI 2 * 5 + nI 0) = nI 0 ∧ gt 15 m_hi (nI 2 * 5 + nI 0) = nI 99) ∧ (gt 15 m_lo (nI 2 * 5 + nI 1) = nI 0 ∧ gt 15 m_hi (nI 2 * 5 + nI 1) = nI 99) ∧ gt 15 m_lo (nI 2 * 5 + nI 2) = nI 0 ∧ gt 15 m_hi (nI 2 * 5 + nI 2) = nI 99 := by decide +kernel
theorem TD_PW {m c : Nat} {D : ROW} {A : Nat → Nat → Int32} {U V W : ROW} (h : PW m c D A) (m2 : 2 ≤ m) (c1 : 1 ≤ c) : TD m c (fl (A 57) U 4) (fl (A 58) V 40) (fl (A 59) W 15) D := by
  obtain ⟨⟨a1, a2, a3, a4⟩, h0, h1, h2, ⟨f1, f2, f3, f4, f5, f6, f7⟩, g⟩ := h
  obtain ⟨⟨t1, t2⟩, ⟨t3, t4⟩, ⟨t5, t6⟩, t7, t8⟩ := lhT_0
  obtain ⟨⟨u1, u2⟩, ⟨u3, u4⟩, ⟨u5, u6⟩, ⟨u7, u8⟩, u9, u0⟩ := lhT_1
  obtain ⟨⟨w1, w2⟩, ⟨w3, w4⟩, w5, w6⟩ := lhT_2
  have r0 : ∀ k, k < 4 → fl (A 57) U 4 k = D k ∧ LH 0 k (D k) := fun k hk => by
    obtain ⟨x1, x2⟩ := h0 k hk
    rw [Nat.zero_add] at x1 x2
    rw [fl_lt hk]
    exact ⟨x1, x2⟩
  have r1 : ∀ i k, i < m → k < 5 → fl (A 58) V 40 (5 * i + k) = D (13 + i * 5 + k) ∧ LH 1 k (D (13 + i * 5 + k)) := fun i k hi hk => by
    obtain ⟨x1, x2⟩ := h1 i hi k hk
    rw [fl_lt (by omega), Nat.mul_comm i 5]
    exact ⟨x1, x2⟩
  have r2 : ∀ i k, i < c → k < 3 → fl (A 59) W 15 (3 * i + k) = D (53 + i * 6 + k) ∧ LH 2 k (D (53 + i * 6 + k)) := fun i k hi hk => by
    obtain ⟨x1, x2⟩ := h2 i hi k hk
    rw [fl_lt (by omega), Nat.mul_comm i 6]
    exact ⟨x1, x2⟩
  refine ⟨⟨m2, a1, c1, a2, a3, a4⟩, ?_, ⟨f1, f2, f3, f4, f5, f6, f7⟩, fun i hi => ?_, fun i hi => ?_⟩
  · obtain ⟨x0, y0⟩ := r0 0 (by decide)
    obtain ⟨x1, y1⟩ := r0 1 (by decide)
    obtain ⟨x2, y2⟩ := r0 2 (by decide)
    obtain ⟨x3, y3⟩ := r0 3 (by decide)
    rw [x0, x1, x2, x3]
    exact ⟨rfl, lh_b y0 t1 t2 (by decide) (by decide), rfl, lh_d y1 t3 t4 (by decide), rfl, lh_d y2 t5 t6 (by decide), rfl, lh_d y3 t7 t8 (by decide)⟩
  · obtain ⟨x0, y0⟩ := r1 i 0 hi (by decide)
    obtain ⟨x1, y1⟩ := r1 i 1 hi (by decide)
    obtain ⟨x2, y2⟩ := r1 i 2 hi (by decide)
    obtain ⟨x3, y3⟩ := r1 i 3 hi (by decide)
    obtain ⟨x4, y4⟩ := r1 i 4 hi (by decide)
    rw [Nat.add_zero, Nat.add_zero] at x0
    rw [Nat.add_zero] at y0
    rw [x0, x1, x2, x3, x4]
    exact ⟨⟨rfl, lh_b y0 u1 u2 (by decide) (by decide)⟩, ⟨rfl, lh_d y1 u3 u4 (by decide)⟩, ⟨rfl, lh_d y2 u5 u6 (by decide)⟩, ⟨rfl, lh_d y3 u7 u8 (by decide)⟩, rfl, lh_b y4 u9 u0 (by decide) (by decide)⟩
  · obtain ⟨x0, y0⟩ := r2 i 0 hi (by decide)
    obtain ⟨x1, y1⟩ := r2 i 1 hi (by decide)
    obtain ⟨x2, y2⟩ := r2 i 2 hi (by decide)
    rw [Nat.add_zero, Nat.add_zero] at x0
    rw [Nat.add_zero] at y0
    have gi := g i (by omega)
    rw [Nat.mul_comm 6 i] at gi
    rw [x0, x1, x2]
    exact ⟨⟨rfl, lh_d y0 w1 w2 (by decide)⟩, ⟨rfl, lh_d y1 w3 w4 (by decide)⟩, ⟨rfl, lh_d y2 w5 w6 (by decide)⟩, gi⟩
theorem bgN_43 {R M N : ROW} {ms : Nat} (hms : ms ≤ 8) : upd (bgN R M N ms) 43 0 = bgN R M (upd N 43 0) ms := by
  funext j
  by_cases h : j = 43
  · rw [h, ud_at, bgN_hi hms (by decide), ud_at]
  · rw [ud_ne h]
    by_cases h2 : j < 43
    · have e : fl (fun _ => 0) N 43 j = fl (fun _ => 0) (upd N 43 0) 43 j := by rw [fl_lt h2, fl_lt h2]
      have e2 : bgM M (fl (fun _ => 0) N 43) ms j = bgM M (fl (fun _ => 0) (upd N 43 0) 43) ms j := by
        unfold bgM
        rw [e]
      unfold bgN
      by_cases k1 : j = 37
      · rw [k1, ud_at, ud_at]
      · rw [ud_ne k1, ud_ne k1]
        by_cases k2 : j = 36
        · rw [k2, ud_at, ud_at]
        · rw [ud_ne k2, ud_ne k2]
          by_cases k3 : j = 35
          · rw [k3, ud_at, ud_at]
          · rw [ud_ne k3, ud_ne k3]
            exact e2
    · rw [bgN_hi hms (by omega), bgN_hi hms (by omega), ud_ne h]
theorem RF_new {m c : Nat} {R M C D N : ROW} (h : TD m c R M C D) : RF m c R M C D (upd (bgN R M N m) 43 0) := by
  have hm : m ≤ 8 := h.1.2.1
  refine ⟨?_, ⟨0, 0, by decide, by decide, h.2.2.1.2.2.2.2.2.1, ud_at, h.2.2.1.2.2.2.2.2.2, fun i hi => absurd hi (Nat.not_lt_zero i)⟩, ?_⟩
  · rw [bgN_43 hm]
    exact bg_RJ h
  · rw [ud_ne (by decide)]
    have e : bgN R M N m 36 = R 1 := by
      unfold bgN
      rw [ud_ne (by decide), ud_at]
    rw [e]
    exact h.2.1.2.2.2.1
theorem INV_new {A I A1 I1 A2 I2 : Nat → Nat → Int32} {m c : Nat} {D : ROW} (h : INV A I) (s : smP A I A1 I1) (hD : A1 6 = D) (q : mP (upS (upS A1 17 18 (A1 6) (fun _ => 0)) 20 21 (A1 6) (fun _ => 0)) (up2 (up2 (up2 (up2 (up2 I1 25 1 0) 34 9 0) 0 12 1) 0 13 0) 1 1 0) A2 I2) (m2 : 2 ≤ m) (c1 : 1 ≤ c) (r20 : I2 46 20 = nI m) (r21 : I2 46 21 = nI c) (hw : PW m c D A2) : INV (up (tkA A2) 63 (tkN A2 m)) (tkI (up2 I2 46 2 0)) := by
  have eA : ∀ i, (i ≠ 60 ∧ i ≠ 61 ∧ i ≠ 62 ∧ i ≠ 63 ∧ i ≠ 57 ∧ i ≠ 58 ∧ i ≠ 59 ∧ i ≠ 17 ∧ i ≠ 18 ∧ i ≠ 20 ∧ i ≠ 21 ∧ i ≠ 6 ∧ i ≠ 7) → up (tkA A2) 63 (tkN A2 m) i = A i := fun i hi => by
    obtain ⟨a1, a2, a3, a4, a5, a6, a7, a8, a9, b1, b2, b3, b4⟩ := hi
    rw [up_ne a4]
    unfold tkA
    rw [up_ne a3, up_ne a2, up_ne a1, q.1 i a5 a6 a7, upS_ne b1 b2, upS_ne a8 a9]
    exact s.1 i b3 b4
  have eI : ∀ i k, (¬ (i = 46 ∧ (k = 2 ∨ k = 3 ∨ k = 4 ∨ k = 20 ∨ k = 21 ∨ k = 25 ∨ k = 26 ∨ k = 46 ∨ k = 35 ∨ k = 50)) ∧ ¬ (i = 25 ∧ k = 1) ∧ ¬ (i = 34 ∧ k = 9) ∧ ¬ (i = 0 ∧ (k = 12 ∨ k = 13)) ∧ ¬ (i = 1 ∧ k = 1) ∧ ¬ (i = 4 ∧ (k = 1 ∨ k = 2)) ∧ ¬ (i = 3 ∧ k = 2)) → tkI (up2 I2 46 2 0) i k = I i k := fun i k hk => by
    obtain ⟨a1, a2, a3, a4, a5, a6, a7⟩ := hk
    unfold tkI tkJ
    rw [up2_ne (by omega), up2_ne (by omega), up2_ne (by omega), up2_ne (by omega), up2_ne (by omega), up2_ne (by omega), q.2 i k (by omega), up2_ne (by omega), up2_ne (by omega), up2_ne (by omega), up2_ne (by omega), up2_ne (by omega)]
    exact s.2 i k a6 a7
  have q2 : ∀ i k, ¬ (i = 46 ∧ (k = 2 ∨ k = 3 ∨ k = 4 ∨ k = 20 ∨ k = 21 ∨ k = 25 ∨ k = 26 ∨ k = 46 ∨ k = 35 ∨ k = 50)) → tkI (up2 I2 46 2 0) i k = (up2 (up2 (up2 (up2 (up2 I1 25 1 0) 34 9 0) 0 12 1) 0 13 0) 1 1 0) i k := fun i k a1 => by
    unfold tkI tkJ
    rw [up2_ne (by omega), up2_ne (by omega), up2_ne (by omega), up2_ne (by omega), up2_ne (by omega), up2_ne (by omega), q.2 i k (by omega)]
  have q3 : ∀ i, i ≠ 60 → i ≠ 61 → i ≠ 62 → i ≠ 63 → i ≠ 57 → i ≠ 58 → i ≠ 59 → up (tkA A2) 63 (tkN A2 m) i = (upS (upS A1 17 18 (A1 6) (fun _ => 0)) 20 21 (A1 6) (fun _ => 0)) i := fun i a1 a2 a3 a4 a5 a6 a7 => by
    rw [up_ne a4]
    unfold tkA
    rw [up_ne a3, up_ne a2, up_ne a1, q.1 i a5 a6 a7]
  have e60 : up (tkA A2) 63 (tkN A2 m) 60 = fl (A2 57) (A2 60) 4 := by
    rw [up_ne (by decide)]
    unfold tkA
    rw [up_ne (by decide), up_ne (by decide), up_at]
  have e61 : up (tkA A2) 63 (tkN A2 m) 61 = fl (A2 58) (A2 61) 40 := by
    rw [up_ne (by decide)]
    unfold tkA
    rw [up_ne (by decide), up_at]
  have e62 : up (tkA A2) 63 (tkN A2 m) 62 = fl (A2 59) (A2 62) 15 := by
    rw [up_ne (by decide)]
    unfold tkA
    rw [up_at]
  have hT := TD_PW (U := A2 60) (V := A2 61) (W := A2 62) hw m2 c1
  have e17 : up (tkA A2) 63 (tkN A2 m) 17 = D := by
    rw [q3 17 (by decide) (by decide) (by decide) (by decide) (by decide) (by decide) (by decide), upS_ne (by decide) (by decide), upS_r (by decide)]
    exact hD
  have e20 : up (tkA A2) 63 (tkN A2 m) 20 = D := by
    rw [q3 20 (by decide) (by decide) (by decide) (by decide) (by decide) (by decide) (by decide), upS_r (by decide)]
    exact hD
  obtain ⟨nx, nx4, hnx⟩ : ∃ nx, nx < 40 ∧ I 25 2 = nI nx := by
    rcases h.2.2.2.2 with ⟨-, hN⟩ | ⟨-, ms, cs, hP⟩
    · exact hN.2.2.2.2.1.2.2
    · obtain ⟨a, nx, -, n4, -, -, hx, -⟩ := hP.2.2.2.1
      exact ⟨nx, n4, hx⟩
  refine ⟨⟨?_, ?_, 0, ?_⟩, ?_, ?_, ?_, Or.inr ⟨?_, m, c, ⟨?_, ?_⟩, ?_, ?_, ⟨0, nx, by decide, nx4, ?_, ?_, ?_, fun i hi => absurd hi (Nat.not_lt_zero i)⟩, ?_, Or.inl ?_⟩⟩
  · rw [eA 47 (by decide), eA 2 (by decide)]
    exact h.1.1
  · rw [q2 1 1 (by decide), up2_at]
    unfold tkI tkJ
    rw [up2_ne (by decide), up2_ne (by decide), up2_ne (by decide), up2_ne (by decide), up2_ne (by decide), up2_at]
  · refine ⟨?_, by decide, fun j hj => absurd hj (Nat.not_lt_zero j)⟩
    rw [q2 1 1 (by decide), up2_at]
    rfl
  · exact I_L_ext (fun i hi => eA i ((by decide : ∀ i, i ∈ [12, 13, 48, 49, 51, 52, 53, 54] → i ≠ 60 ∧ i ≠ 61 ∧ i ≠ 62 ∧ i ≠ 63 ∧ i ≠ 57 ∧ i ≠ 58 ∧ i ≠ 59 ∧ i ≠ 17 ∧ i ≠ 18 ∧ i ≠ 20 ∧ i ≠ 21 ∧ i ≠ 6 ∧ i ≠ 7) i hi)) (eI 46 29 (by decide)) (eI 11 5 (by decide)) (eI 46 13 (by decide)) (eI 11 4 (by decide)) h.2.1
  · exact I_M_ext (eA 64 (by decide)) (eA 45 (by decide)) (eI 46 30 (by decide)) (eI 46 31 (by decide)) (eI 0 14 (by decide)) (eI 0 15 (by decide)) h.2.2.1
  · have e34 : tkI (up2 I2 46 2 0) 34 9 = 0 := by
      rw [q2 34 9 (by decide), up2_ne (by decide), up2_ne (by decide), up2_ne (by decide), up2_at]
    have e46 : tkI (up2 I2 46 2 0) 46 46 = 0 := by
      unfold tkI
      rw [up2_ne (by decide), up2_ne (by decide), up2_at]
    obtain ⟨-, s1, s2, s3, -⟩ := h.2.2.2.1
    refine ⟨e46.trans e34.symm, ?_, ?_, ?_, 0, by decide, e34, fun i hi => absurd hi (Nat.not_lt_zero i)⟩
    · rw [eA 71 (by decide), eA 38 (by decide)]; exact s1
    · rw [eA 72 (by decide), eA 39 (by decide)]; exact s2
    · rw [eA 73 (by decide), eA 40 (by decide)]; exact s3
  · rw [q2 0 12 (by decide), up2_ne (by decide), up2_ne (by decide), up2_at]
  · unfold tkI tkJ
    rw [up2_ne (by decide), up2_ne (by decide), up2_ne (by decide), up2_ne (by decide), up2_at, up2_ne (by decide)]
    exact r20
  · unfold tkI tkJ
    rw [up2_ne (by decide), up2_ne (by decide), up2_ne (by decide), up2_at, up2_ne (by decide)]
    exact r21
  · rw [e60, e61, e62, e20, up_at]
    exact RF_new hT
  · rw [e60, e61, e62, e17]
    exact hT
  · rw [q2 25 1 (by decide), up2_ne (by decide), up2_ne (by decide), up2_ne (by decide), up2_ne (by decide), up2_at]
    rfl
  · unfold tkI
    rw [up2_ne (by decide), up2_at]
    rfl
  · rw [eI 25 2 (by decide)]
    exact hnx
  · unfold tkI
    rw [up2_at]
    rw [show up2 (up2 (up2 (tkJ (up2 I2 46 2 0)) 46 46 0) 46 35 0) 46 50 0 = tkI (up2 I2 46 2 0) from rfl, q2 0 13 (by decide), up2_ne (by decide), up2_at]
  · rw [q2 0 13 (by decide), up2_ne (by decide), up2_at]
