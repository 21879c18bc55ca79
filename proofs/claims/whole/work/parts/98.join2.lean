/-! JOINS: turn, decades, undo, image, back -/
def jA : List Nat := [2, 47, 12, 13, 48, 49, 51, 52, 53, 54, 45, 64, 38, 39, 40, 71, 72, 73, 17, 60, 61, 62]
def jI : List (Nat × Nat) := [(1, 1), (46, 2), (46, 13), (11, 4), (11, 5), (46, 29), (0, 12), (0, 14), (0, 15), (46, 30), (46, 31), (34, 9), (46, 46), (46, 25), (46, 26)]
theorem INV_pl {ms cs : Nat} {A I A' I' : Nat → Nat → Int32} (h : INV A I) (hP : PLN ms cs A I) (e : ∀ i, i ∈ jA → A' i = A i) (e2 : ∀ p, p ∈ jI → I' p.1 p.2 = I p.1 p.2) (hR : RF ms cs (A 60) (A 61) (A 62) (A' 20) (A' 63)) (hK : AKX ms cs (A 60) (A 61) (A 62) (A' 26) (I' 25 1) (I' 25 2) (A' 66) (I' 46 35)) (hI : I' 46 50 = I' 0 13 ∧ (I' 0 13 = 0 ∨ (I' 0 13 = 1 ∧ RF ms cs (A 60) (A 61) (A 62) (A' 23) (A' 76)))) : INV A' I' := by
  have h12 := PLN_12 h hP
  obtain ⟨h1, h2, h3, h4, -⟩ := h
  obtain ⟨k1, k2, k3, k4, k5⟩ := hP
  have q : ∀ i k, (i, k) ∈ jI → I' i k = I i k := fun i k hk => e2 (i, k) hk
  refine ⟨I_T_ext (e 47 (by decide)) (e 2 (by decide)) (q 46 2 (by decide)) (q 1 1 (by decide)) h1, I_L_ext (fun i hi => e i ((by decide : ∀ i, i ∈ [12, 13, 48, 49, 51, 52, 53, 54] → i ∈ jA) i hi)) (q 46 29 (by decide)) (q 11 5 (by decide)) (q 46 13 (by decide)) (q 11 4 (by decide)) h2, I_M_ext (e 64 (by decide)) (e 45 (by decide)) (q 46 30 (by decide)) (q 46 31 (by decide)) (q 0 14 (by decide)) (q 0 15 (by decide)) h3, I_S_ext (fun i hi => e i ((by decide : ∀ i, i ∈ [38, 39, 40, 71, 72, 73] → i ∈ jA) i hi)) (q 46 46 (by decide)) (q 34 9 (by decide)) h4, Or.inr ⟨(q 0 12 (by decide)).trans h12, ms, cs, ⟨(q 46 25 (by decide)).trans k1.1, (q 46 26 (by decide)).trans k1.2⟩, ?_, ?_, ?_, hI.1, ?_⟩⟩
  · rw [e 60 (by decide), e 61 (by decide), e 62 (by decide)]
    exact hR
  · rw [e 60 (by decide), e 61 (by decide), e 62 (by decide), e 17 (by decide)]
    exact k3
  · apply AKT_of
    rw [e 60 (by decide), e 61 (by decide), e 62 (by decide)]
    exact hK
  · rw [e 60 (by decide), e 61 (by decide), e 62 (by decide)]
    exact hI.2
theorem TT_beg {ms cs : Nat} {A I A1 I1 : Nat → Nat → Int32} (hP : PLN ms cs A I) (hs : smT A I A1 I1) : TT ms cs A1 I1 (cor A I) A1 I1 := by
  have e : ∀ i, nsT i = true → A1 i = A i := hs.1
  refine ⟨smU_rf, ?_, ?_⟩
  · rw [e 60 (by decide), e 61 (by decide), e 62 (by decide), e 63 (by decide)]
    exact hP.2.1
  · rw [e 60 (by decide), e 61 (by decide), e 62 (by decide), e 66 (by decide), hs.2 46 35 (by decide)]
    exact AKX_of hP.2.2.2.1
theorem LWA_T {A I A1 I1 : Nat → Nat → Int32} (h : INV A I) (hs : smT A I A1 I1) : LWA A1 I1 :=
  LWA_A (fun i hi => hs.1 i ((by decide : ∀ i, i ∈ [12, 13, 48, 49, 51, 52, 53, 54] → nsT i = true) i hi)) (hs.2 46 29 (by decide)) (hs.2 11 5 (by decide)) (INV_LWA h)
theorem INV_TT {ms cs : Nat} {A I A1 I1 A4 I4 : Nat → Nat → Int32} (h : INV A I) (hP : PLN ms cs A I) (hs : smT A I A1 I1) (hT : TT ms cs A1 I1 (cor A1 I1) A4 I4) : INV A4 I4 := by
  have e : ∀ i, nsT i = true → A1 i = A i := hs.1
  have hI : ∀ i k, niT i k = true → I1 i k = I i k := hs.2
  obtain ⟨⟨t1, t2⟩, t3, t4⟩ := hT
  have e4 : ∀ i, i ∈ jA → A4 i = A i := fun i hi => by
    obtain ⟨z0, z1, z2, z3, z4, z5⟩ := (by decide : ∀ i, i ∈ jA → nsT i = true ∧ i ≠ 55 ∧ i ≠ 56 ∧ i ≠ 63 ∧ i ≠ 65 ∧ i ≠ 66) i hi
    exact (t1 i z1 z2 z3 z4 z5).trans (e i z0)
  have i4 : ∀ p, p ∈ jI → I4 p.1 p.2 = I p.1 p.2 := fun p hp2 => by
    obtain ⟨z0, z1⟩ := (by decide : ∀ p, p ∈ jI → niT p.1 p.2 = true ∧ ¬ (p.1 = 46 ∧ (p.2 = 33 ∨ p.2 = 35))) p hp2
    exact (t2 p.1 p.2 z1).trans (hI p.1 p.2 z0)
  have k20 : A4 20 = A1 20 := t1 20 (by decide) (by decide) (by decide) (by decide) (by decide)
  have k26 : A4 26 = A1 26 := t1 26 (by decide) (by decide) (by decide) (by decide) (by decide)
  have k1 : I4 25 1 = I1 25 1 := t2 25 1 (by decide)
  have k2 : I4 25 2 = I1 25 2 := t2 25 2 (by decide)
  rw [e 60 (by decide), e 61 (by decide), e 62 (by decide)] at t3 t4
  refine INV_pl h hP e4 i4 ?_ ?_ ?_
  · rw [k20]; exact t3
  · rw [k26, k1, k2]; exact t4
  · rw [t2 46 50 (by decide), t2 0 13 (by decide), hI 46 50 (by decide), hI 0 13 (by decide), t1 23 (by decide) (by decide) (by decide) (by decide) (by decide), t1 76 (by decide) (by decide) (by decide) (by decide) (by decide), e 23 (by decide), e 76 (by decide)]
    exact hP.2.2.2.2
theorem TT_mon {ms cs : Nat} {A1 I1 A4 I4 : Nat → Nat → Int32} (hT : TT ms cs A1 I1 (cor A1 I1) A4 I4) : A4 63 39 = gt 143 (A1 20) 5 := by
  obtain ⟨m, d, l, a, b, -⟩ := hT.2.1.1.2.2.1
  rw [g143_5]
  exact b.trans a.symm
theorem step_turn {A : Nat → Nat → Int32} {L : Nat → Nat → Int64} {I : Nat → Nat → Int32} {X : Nat → Int64} {n : Int32} (h : INV A I) : ST 6 yX10_turn cX10_turn 3 9 yX11_turn cX11_turn 3 (some .int) [.int n] (hp A L I X) := by
  refine ST_of (by rintro r_ H_ (⟨g1, rfl, rfl⟩ | ⟨g1, A1, I1, q1, q2, rfl, rfl⟩) <;> exact ⟨_, _, _, _, rfl⟩) ?_ (m_turn (A := A) (L := L) (I := I) (X := X) (n := n))
  have e8 : ∀ ms cs, PLN ms cs A I → gt 143 (A 20) 8 = A 63 42 := fun ms cs hP => by
    rw [g143_8]
    exact hP.2.1.1.2.1.2.2.2.2.2.2.1
  rintro r_ H_ (⟨g1, rfl, rfl⟩ | ⟨g1, A1, I1, q1, q2, rfl, rfl⟩)
  · refine ⟨(-1), rfl, ?_⟩
    by_cases h0 : I 0 12 = 0
    · have eg : gdTurn A I n = nI 0 := (if_pos h0).trans nI_0.symm
      rw [eg]
      exact Con.mono (fun r2 H2 q => rf_of h (k := 0) (by decide) q) (e_turn0 ((INV_0 h).mpr h0))
    · obtain ⟨ms, cs, hP⟩ := INV_P h h0
      have h25 := no_P h hP
      by_cases hz : inZ n 1 60 = 0
      · have eg : gdTurn A I n = nI 1 := by
          unfold gdTurn
          rw [if_neg h0, if_pos]
          · rfl
          · rcases in_0.mp hz with z | z
            · exact Or.inl z
            · exact Or.inr (Int32.not_le.mpr z)
        rw [eg]
        exact Con.mono (fun r2 H2 q => rf_of h (k := 1) (by decide) q) (e_turn1 h25 hz)
      · have c2 : ¬ (n < 1 ∨ ¬ n ≤ 60) := fun z => hz (in_0.mpr (z.imp id Int32.not_le.mp))
        have c3 : ¬ gt 143 (A 20) 8 + n ≤ 9999 := fun z => g1 (by
          unfold gdTurn
          rw [if_neg h0, if_neg c2, if_pos z])
        have eg : gdTurn A I n = nI 4 := by
          unfold gdTurn
          rw [if_neg h0, if_neg c2, if_neg c3]
          rfl
        have h4 : atZ ((up A 45 (rfS (A 45) (nI 4))) 63) n = 0 := by
          rw [up_ne (by decide)]
          unfold atZ
          rw [if_neg hz, if_pos]
          rw [e8 ms cs hP] at c3
          exact Int32.not_le.mp c3
        rw [eg]
        exact Con.mono (fun r2 H2 q => rf_of h (k := 4) (by decide) q) (e_turn4 h25 hz h4)
  · refine ⟨_, rfl, ?_⟩
    have h0 : ¬ I 0 12 = 0 := fun z => by
      have e : gdTurn A I n = 0 := if_pos z
      rw [e] at g1
      exact absurd g1 (by decide)
    obtain ⟨ms, cs, hP⟩ := INV_P h h0
    unfold gdTurn at g1
    rw [if_neg h0] at g1
    have hz : ¬ inZ n 1 60 = 0 := fun z => by
      rw [if_pos] at g1
      · exact absurd g1 (by decide)
      · exact (in_0.mp z).imp id Int32.not_le.mpr
    rw [if_neg (fun z => hz (in_0.mpr (z.imp id Int32.not_le.mp)))] at g1
    have c3 : gt 143 (A 20) 8 + n ≤ 9999 := by
      refine Decidable.byContradiction fun z => ?_
      rw [if_neg z] at g1
      exact absurd g1 (by decide)
    have h4 : ¬ atZ (A1 63) n = 0 := by
      rw [q1.1 63 (by decide)]
      unfold atZ
      rw [if_neg hz, if_neg]
      · decide
      · rw [e8 ms cs hP] at c3
        exact Int32.not_lt.mpr c3
    have h25 : I1 46 25 = nI ms := (q1.2 46 25 (by decide)).trans hP.1.1
    have h26 : I1 46 26 = nI cs := (q1.2 46 26 (by decide)).trans hP.1.2
    have k0 : ¬ I1 46 25 = 0 := by
      rw [q1.2 46 25 (by decide)]
      exact no_P h hP
    refine Con.mono ?_ (e_turn (A := A1) (L := L) (I := I1) (X := X) (n0 := n) (LWA_T h q1) h25 h26 (TT_beg hP q1) k0 hz h4)
    rintro r2 H2 ⟨A4, I4, t1, rfl, rfl⟩
    rw [q1.1 12 (by decide), q1.1 13 (by decide), q1.2 11 5 (by decide), ← q2] at t1
    exact ⟨by rw [TT_mon t1], _, _, _, _, rfl, INV_TT h hP q1 t1⟩
theorem step_decades {A : Nat → Nat → Int32} {L : Nat → Nat → Int64} {I : Nat → Nat → Int32} {X : Nat → Int64} {n : Int32} {x : Int64} (h : INV A I) : ST 6 yX10_decades cX10_decades 5 9 yX11_decades cX11_decades 5 (some .int) [.int n, .long x] (hp A L I X) := by
  refine ST_of (by rintro r_ H_ (⟨g1, rfl, rfl⟩ | ⟨g1, A1, I1, X1, q1, -, q2, rfl, rfl⟩) <;> exact ⟨_, _, _, _, rfl⟩) ?_ (m_decades (A := A) (L := L) (I := I) (X := X) (n := n) (x := x))
  have e8 : ∀ ms cs, PLN ms cs A I → gt 143 (A 20) 8 = A 63 42 := fun ms cs hP => by
    rw [g143_8]
    exact hP.2.1.1.2.1.2.2.2.2.2.2.1
  rintro r_ H_ (⟨g1, rfl, rfl⟩ | ⟨g1, A1, I1, X1, q1, -, q2, rfl, rfl⟩)
  · refine ⟨(-1), rfl, ?_⟩
    refine Con.mono ?_ (e_dec0 ?_)
    · rintro r2 H2 ⟨rfl, rfl⟩
      exact ⟨rfl, _, _, _, _, rfl, h⟩
    · by_cases h0 : I 0 12 = 0
      · exact Or.inl ((INV_0 h).mpr h0)
      · obtain ⟨ms, cs, hP⟩ := INV_P h h0
        refine Or.inr ?_
        unfold atZ
        by_cases hz : inZ n 1 60 = 0
        · rw [if_pos hz]
        · rw [if_neg hz]
          have hz2 := fun z => hz (in_0.mpr z)
          rcases g1 with z | z | z | z
          · exact absurd z h0
          · exact absurd (Or.inl z) hz2
          · exact absurd (Or.inr z) hz2
          · rw [e8 ms cs hP] at z
            exact if_pos (Int32.not_le.mp z)
  · refine ⟨_, rfl, ?_⟩
    have h0 : ¬ I 0 12 = 0 := fun z => g1 (Or.inl z)
    obtain ⟨ms, cs, hP⟩ := INV_P h h0
    have h4 : ¬ atZ (A1 63) n = 0 := by
      rw [q1.1 63 (by decide)]
      have hz : ¬ inZ n 1 60 = 0 := fun z => g1 (Or.inr ((in_0.mp z).imp id Or.inl))
      unfold atZ
      rw [if_neg hz, if_neg]
      · decide
      · intro z
        rw [← e8 ms cs hP] at z
        exact g1 (Or.inr (Or.inr (Or.inr (Int32.not_le.mpr z))))
    have h25 : I1 46 25 = nI ms := (q1.2 46 25 (by decide)).trans hP.1.1
    have h26 : I1 46 26 = nI cs := (q1.2 46 26 (by decide)).trans hP.1.2
    have k0 : ¬ I1 46 25 = 0 := by
      rw [q1.2 46 25 (by decide)]
      exact no_P h hP
    have hM := h.2.2.1
    have m30 : I1 46 30 = I 0 14 := (q1.2 46 30 (by decide)).trans hM.2.1.1
    have m31 : I1 46 31 = I 0 15 := (q1.2 46 31 (by decide)).trans hM.2.2.1
    refine Con.mono ?_ (e_decades (A := A1) (L := L) (I := I1) (X := X1) (n0 := n) (x0 := x) (LWA_T h q1) h25 h26 (TT_beg hP q1) k0 h4)
    rintro r2 H2 ⟨A4, I4, X4, t1, -, rfl, rfl⟩
    rw [q1.1 12 (by decide), q1.1 13 (by decide), q1.2 11 5 (by decide), m30, m31] at t1
    revert q2 t1
    generalize itn (fun _ => deS (A 12) (A 13) (I 11 5) (I 0 14) (I 0 15)) n.toNatClampNeg (cor A I, x) = s
    intro q2 t1
    rw [← q2] at t1
    exact ⟨by rw [TT_mon t1], _, _, _, _, rfl, INV_TT h hP q1 t1⟩
theorem AKX_undo {ms cs a : Nat} {R M C K K' : ROW} {c1 c2 c3 : Int32} (h : AKX ms cs R M C K c1 c2 K' c3) (ha : c3 = nI (a + 1)) (h40 : a ≤ 39) : RF ms cs R M C (tbR K (rm (c2 + 40 - 1) 40)) (fun j => K' (284 * a + j)) ∧ AKX ms cs R M C K (c1 - 1) (rm (c2 + 40 - 1) 40) K' (nI a) := by
  obtain ⟨b, nx, b40, n40, rfl, h3, rfl, hI⟩ := h
  have hb : b = a + 1 := (nI_eq (by omega) (by omega)).mp (h3.symm.trans ha)
  subst hb
  have er : rm (nI nx + 40 - 1) 40 = nI ((nx + 39) % 40) := by
    rw [show (40 : Int32) = nI 40 from rfl, nI_add, show (1 : Int32) = nI 1 from rfl, pk_sub (by omega), rm_n (by omega) (by decide) (by decide), show nx + 40 - 1 = nx + 39 by omega]
  rw [er]
  refine ⟨?_, a, (nx + 39) % 40, by omega, by omega, ?_, rfl, rfl, fun i hi => ?_⟩
  · refine RF_eq (hI 0 (by omega)) (fun j hj => ?_) (fun j hj => ?_)
    · unfold tbR
      rw [show (143 : Int32) = nI 143 from rfl, pk_mul, nI_add, gt_nI (by omega) (by decide)]
      rfl
    · show K' (284 * a + j) = K' (284 * (a + 1 - 1 - 0) + j)
      rfl
  · rw [show (1 : Int32) = nI 1 from rfl, pk_sub (by omega), show a + 1 - 1 = a by omega]
  · have q := hI (i + 1) (by omega)
    rw [show (nx + 39 - (i + 1)) % 40 = ((nx + 39) % 40 + 39 - i) % 40 by omega, show a + 1 - 1 - (i + 1) = a - 1 - i by omega] at q
    exact q
theorem step_undo {A : Nat → Nat → Int32} {L : Nat → Nat → Int64} {I : Nat → Nat → Int32} {X : Nat → Int64} (h : INV A I) : ST 4 yX10_undo cX10_undo 1 1 yX11_undo cX11_undo 2 (some .int) [] (hp A L I X) := by
  refine ST_of (by rintro r_ H_ (⟨g1, rfl, rfl⟩ | ⟨g1, rfl, rfl⟩) <;> exact ⟨_, _, _, _, rfl⟩) ?_ (m_undo (A := A) (L := L) (I := I) (X := X))
  have ha : ∃ a, a ≤ 40 ∧ I 25 1 = nI a ∧ I 46 35 = nI a := by
    rcases h.2.2.2.2 with ⟨-, k⟩ | ⟨-, ms, cs, k⟩
    · exact ⟨0, by decide, k.2.2.2.2.1.1.trans nI_0.symm, k.2.2.2.2.1.2.1.trans nI_0.symm⟩
    · obtain ⟨a, nx, z1, z2, z3, z4, -⟩ := k.2.2.2.1
      exact ⟨a, z1, z3, z4⟩
  obtain ⟨a, a40, a1, a2⟩ := ha
  rintro r_ H_ (⟨g1, rfl, rfl⟩ | ⟨g1, rfl, rfl⟩)
  · refine ⟨(-1), rfl, ?_⟩
    have e0 : a = 0 := by
      rw [a1] at g1
      have := (nI_ltI (b := 1) (by omega) (by omega)).mp g1
      omega
    subst e0
    refine Con.mono ?_ (e_undo0 (a2.trans nI_0))
    rintro r2 H2 ⟨rfl, rfl⟩
    exact ⟨rfl, _, _, _, _, rfl, h⟩
  · refine ⟨_, rfl, ?_⟩
    rw [a1] at g1
    have g2 := (nI_leI (a := 1) (by omega) (by omega)).mp g1
    obtain ⟨b, rfl⟩ : ∃ b, a = b + 1 := ⟨a - 1, by omega⟩
    obtain ⟨ms, cs, hP⟩ : ∃ ms cs, PLN ms cs A I := by
      rcases h.2.2.2.2 with ⟨-, k⟩ | ⟨-, k⟩
      · exact absurd ((nI_eq (b := 0) (by omega) (by omega)).mp (a1.symm.trans (k.2.2.2.2.1.1.trans nI_0.symm))) (by omega)
      · exact k
    obtain ⟨u1, u2⟩ := AKX_undo (AKX_of hP.2.2.2.1) a2 (by omega)
    have ei : (up2 (up2 I 25 2 (rm (I 25 2 + 40 - 1) 40)) 25 1 (I 25 1 - 1)) 46 35 = nI (b + 1) := by
      rw [up2_ne (by decide), up2_ne (by decide)]
      exact a2
    refine Con.mono ?_ (e_undo ei (by omega))
    rintro r2 H2 ⟨rfl, rfl⟩
    refine ⟨?_, _, _, _, _, rfl, INV_pl h hP (fun i hi => ?_) (fun p hp2 => ?_) ?_ ?_ ?_⟩
    · rw [a1, show (1 : Int32) = nI 1 from rfl, pk_sub (by omega)]
      rfl
    · obtain ⟨z1, z2⟩ := (by decide : ∀ i, i ∈ jA → i ≠ 63 ∧ i ≠ 20) i hi
      rw [up_ne z1, up_ne z2]
    · obtain ⟨z1, z2, z3⟩ := (by decide : ∀ p, p ∈ jI → ¬ (p.1 = 46 ∧ p.2 = 35) ∧ ¬ (p.1 = 25 ∧ p.2 = 1) ∧ ¬ (p.1 = 25 ∧ p.2 = 2)) p hp2
      rw [up2_ne z1, up2_ne z2, up2_ne z3]
    · rw [up_at, up_ne (by decide), up_at]
      refine RF_eq u1 (fun j hj => rfl) (fun j hj => ?_)
      rw [fl_lt hj, up_ne (by decide)]
    · rw [up_ne (by decide), up_ne (by decide), up_ne (by decide), up_ne (by decide), up2_at, up2_ne (by decide), up2_at, up2_ne (by decide), up2_ne (by decide), up2_at]
      exact u2
    · rw [up_ne (by decide), up_ne (by decide), up_ne (by decide), up_ne (by decide), up2_ne (by decide), up2_ne (by decide), up2_ne (by decide), up2_ne (by decide), up2_ne (by decide), up2_ne (by decide)]
      exact hP.2.2.2.2
theorem step_image {A : Nat → Nat → Int32} {L : Nat → Nat → Int64} {I : Nat → Nat → Int32} {X : Nat → Int64} (h : INV A I) : ST 4 yX10_image cX10_image 1 1 yX11_image cX11_image 2 (some .int) [] (hp A L I X) := by
  refine ST_of (by rintro r_ H_ (⟨g1, rfl, rfl⟩ | ⟨g1, rfl, rfl⟩) <;> exact ⟨_, _, _, _, rfl⟩) ?_ (m_image (A := A) (L := L) (I := I) (X := X))
  rintro r_ H_ (⟨g1, rfl, rfl⟩ | ⟨g1, rfl, rfl⟩)
  · refine ⟨(-1), rfl, Con.mono ?_ (e_image0 ((INV_0 h).mpr g1))⟩
    rintro r2 H2 ⟨rfl, rfl⟩
    exact ⟨rfl, _, _, _, _, rfl, h⟩
  · obtain ⟨ms, cs, hP⟩ := INV_P h g1
    refine ⟨_, rfl, Con.mono ?_ (e_image ?_)⟩
    · rintro r2 H2 ⟨rfl, rfl⟩
      have e63 : (upS A 23 24 (A 20) (fun _ => 0)) 63 = A 63 := upS_ne (by decide) (by decide)
      refine ⟨?_, _, _, _, _, rfl, INV_pl h hP (fun i hi => ?_) (fun p hp2 => ?_) ?_ ?_ ?_⟩
      · rw [e63, g143_8, hP.2.1.1.2.1.2.2.2.2.2.2.1]
      · obtain ⟨z1, z2, z3⟩ := (by decide : ∀ i, i ∈ jA → i ≠ 76 ∧ i ≠ 23 ∧ i ≠ 24) i hi
        rw [up_ne z1, upS_ne z2 z3]
      · obtain ⟨z1, z2⟩ := (by decide : ∀ p, p ∈ jI → ¬ (p.1 = 46 ∧ p.2 = 50) ∧ ¬ (p.1 = 0 ∧ p.2 = 13)) p hp2
        rw [up2_ne z1, up2_ne z2]
      · rw [up_ne (by decide), upS_ne (by decide) (by decide), up_ne (by decide), e63]
        exact hP.2.1
      · rw [up_ne (by decide), upS_ne (by decide) (by decide), up_ne (by decide), upS_ne (by decide) (by decide), up2_ne (by decide), up2_ne (by decide), up2_ne (by decide), up2_ne (by decide), up2_ne (by decide), up2_ne (by decide)]
        exact AKX_of hP.2.2.2.1
      · rw [up2_at, up2_ne (by decide), up2_at, up_at, up_ne (by decide), e63]
        refine ⟨rfl, Or.inr ⟨rfl, ?_⟩⟩
        refine RF_eq hP.2.1 (fun j hj => rfl) (fun j hj => fl_lt hj)
    · rw [up2_ne (by decide)]
      exact no_P h hP
theorem step_back {A : Nat → Nat → Int32} {L : Nat → Nat → Int64} {I : Nat → Nat → Int32} {X : Nat → Int64} (h : INV A I) : ST 4 yX10_back cX10_back 1 1 yX11_back cX11_back 2 (some .int) [] (hp A L I X) := by
  refine ST_of (by rintro r_ H_ (⟨g1, rfl, rfl⟩ | ⟨g1, rfl, rfl⟩) <;> exact ⟨_, _, _, _, rfl⟩) ?_ (m_back (A := A) (L := L) (I := I) (X := X))
  have e50 : I 46 50 = I 0 13 := by
    rcases h.2.2.2.2 with ⟨-, k⟩ | ⟨-, ms, cs, k⟩
    · exact k.2.2.2.2.2.1.1.trans k.2.2.2.2.2.1.2.symm
    · exact k.2.2.2.2.1
  rintro r_ H_ (⟨g1, rfl, rfl⟩ | ⟨g1, rfl, rfl⟩)
  · refine ⟨(-1), rfl, Con.mono ?_ (e_bk0 (e50.trans g1))⟩
    rintro r2 H2 ⟨rfl, rfl⟩
    exact ⟨rfl, _, _, _, _, rfl, h⟩
  · obtain ⟨ms, cs, hP⟩ : ∃ ms cs, PLN ms cs A I := by
      rcases h.2.2.2.2 with ⟨-, k⟩ | ⟨-, k⟩
      · exact absurd k.2.2.2.2.2.1.2 g1
      · exact k
    have hR : RF ms cs (A 60) (A 61) (A 62) (A 23) (A 76) := by
      rcases hP.2.2.2.2.2 with z | z
      · exact absurd z g1
      · exact z.2
    refine ⟨_, rfl, Con.mono ?_ (e_bk ?_)⟩
    · rintro r2 H2 ⟨rfl, rfl⟩
      have e76 : (upS A 20 21 (A 23) (fun _ => 0)) 76 = A 76 := upS_ne (by decide) (by decide)
      refine ⟨?_, _, _, _, _, rfl, INV_pl h hP (fun i hi => ?_) (fun p hp2 => ?_) ?_ ?_ ?_⟩
      · rw [e76, g143_8, hR.1.2.1.2.2.2.2.2.2.1]
      · obtain ⟨z1, z2, z3⟩ := (by decide : ∀ i, i ∈ jA → i ≠ 63 ∧ i ≠ 20 ∧ i ≠ 21) i hi
        rw [up_ne z1, upS_ne z2 z3]
      · obtain ⟨z1, z2⟩ := (by decide : ∀ p, p ∈ jI → ¬ (p.1 = 46 ∧ p.2 = 35) ∧ ¬ (p.1 = 25 ∧ p.2 = 1)) p hp2
        rw [up2_ne z1, up2_ne z2]
      · rw [up_ne (by decide), show (upS A 20 21 (A 23) (fun _ => 0)) 20 = A 23 from rfl, up_at, e76]
        refine RF_eq hR (fun j hj => rfl) (fun j hj => fl_lt hj)
      · obtain ⟨a, nx, -, n40, -, -, n2, -⟩ := hP.2.2.2.1
        rw [up2_ne (by decide), up2_at, up2_ne (by decide), up2_ne (by decide), up2_at]
        exact ⟨0, nx, by decide, n40, nI_0.symm, nI_0.symm, n2, fun i hi => absurd hi (Nat.not_lt_zero i)⟩
      · rw [up2_ne (by decide), up2_ne (by decide), up2_ne (by decide), up2_ne (by decide), up_ne (by decide), upS_ne (by decide) (by decide), up_ne (by decide), e76]
        exact hP.2.2.2.2
    · rw [up2_ne (by decide), e50]
      exact g1
