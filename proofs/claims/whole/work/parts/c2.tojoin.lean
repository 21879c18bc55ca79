/-! JOINS: fault and text -/
/-- the relation again, when only the tape and the laws were touched -/
theorem INV_TL {A I A' I' : Nat → Nat → Int32} (h : INV A I) (e : ∀ i, i ∈ [45, 64, 38, 39, 40, 71, 72, 73, 20, 63, 17, 60, 61, 62, 23, 76, 26, 66] → A' i = A i) (e2 : ∀ p : Nat × Nat, p ∈ [(0, 12), (0, 13), (0, 14), (0, 15), (46, 30), (46, 31), (34, 9), (46, 46), (46, 25), (46, 26), (25, 1), (25, 2), (46, 35), (46, 50)] → I' p.1 p.2 = I p.1 p.2) (hT : I_T A' I') (hL : I_L A' I') : INV A' I' := by
  obtain ⟨h1, h2, h3, h4, h5⟩ := h
  have q : ∀ i k, (i, k) ∈ [((0 : Nat), (12 : Nat)), (0, 13), (0, 14), (0, 15), (46, 30), (46, 31), (34, 9), (46, 46), (46, 25), (46, 26), (25, 1), (25, 2), (46, 35), (46, 50)] → I' i k = I i k := fun i k hk => e2 (i, k) hk
  refine ⟨hT, hL, I_M_ext (e 64 (by decide)) (e 45 (by decide)) (q 46 30 (by decide)) (q 46 31 (by decide)) (q 0 14 (by decide)) (q 0 15 (by decide)) h3, I_S_ext (fun i hi => e i ((by decide : ∀ i, i ∈ [38, 39, 40, 71, 72, 73] → i ∈ [45, 64, 38, 39, 40, 71, 72, 73, 20, 63, 17, 60, 61, 62, 23, 76, 26, 66]) i hi)) (q 46 46 (by decide)) (q 34 9 (by decide)) h4, ?_⟩
  rw [q 0 12 (by decide)]
  rcases h5 with ⟨h5, h6⟩ | ⟨h5, ms, cs, h6⟩
  · refine Or.inl ⟨h5, ?_⟩
    unfold NPN at h6 ⊢
    rw [q 46 25 (by decide), q 46 26 (by decide), e 20 (by decide), e 63 (by decide), e 17 (by decide), q 25 1 (by decide), q 46 35 (by decide), q 25 2 (by decide), q 46 50 (by decide), q 0 13 (by decide), q 34 9 (by decide)]
    exact h6
  · refine Or.inr ⟨h5, ms, cs, ?_⟩
    obtain ⟨k1, k2, k3, k4, k5⟩ := h6
    refine ⟨by rw [q 46 25 (by decide), q 46 26 (by decide)]; exact k1, by rw [e 60 (by decide), e 61 (by decide), e 62 (by decide), e 20 (by decide), e 63 (by decide)]; exact k2, by rw [e 60 (by decide), e 61 (by decide), e 62 (by decide), e 17 (by decide)]; exact k3, AKT_ext (fun i hi => e i ((by decide : ∀ i, i ∈ [60, 61, 62, 26, 66] → i ∈ [45, 64, 38, 39, 40, 71, 72, 73, 20, 63, 17, 60, 61, 62, 23, 76, 26, 66]) i hi)) (q 25 1 (by decide)) (q 46 35 (by decide)) (q 25 2 (by decide)) k4, ?_⟩
    rw [q 46 50 (by decide), q 0 13 (by decide), e 60 (by decide), e 61 (by decide), e 62 (by decide), e 23 (by decide), e 76 (by decide)]
    exact k5
theorem rwd_ext {A A' : Nat → Nat → Int32} {p : Nat} {w : TL} (h : rwd A p w) (e : ∀ j, j < w.length → A' 48 (p + j) = A 48 (p + j) ∧ A' 49 (p + j) = A 49 (p + j)) : rwd A' p w := fun j x hj => by
  obtain ⟨e1, e2⟩ := e j (List.getElem?_eq_some_iff.mp hj).1
  rw [e1, e2]
  exact h j x hj
theorem lyR_ext {A A' : Nat → Nat → Int32} {q : Nat} (e1 : ∀ j, 520 * q ≤ j → j < 520 * q + 520 → A' 48 j = A 48 j ∧ A' 49 j = A 49 j) (e2 : ∀ j, 140 * q ≤ j → j < 140 * q + 140 → A' 52 j = A 52 j ∧ A' 53 j = A 53 j ∧ A' 54 j = A 54 j) : ∀ (cl : List CLA) (j p : Nat), j + cl.length ≤ 140 → p + (flR cl).length ≤ 520 → lyR A q j p cl → lyR A' q j p cl
  | [], _, _, _, _, _ => trivial
  | c :: cl, j, p, hj, hp2, h => by
    obtain ⟨h1, h2, h3, h4, h5, h6⟩ := h
    have hj' : j + (cl.length + 1) ≤ 140 := hj
    have hp' : p + (c1 c ++ c.2 ++ flR cl).length ≤ 520 := hp2
    simp only [List.length_append] at hp'
    obtain ⟨k1, k2, k3⟩ := e2 (140 * q + j) (by omega) (by omega)
    refine ⟨k1.trans h1, k2.trans h2, k3.trans h3, rwd_ext h4 (fun i hi => e1 _ (by omega) (by omega)), rwd_ext h5 (fun i hi => e1 _ (by omega) (by omega)), lyR_ext e1 e2 cl (j + 1) _ (by omega) (by omega) h6⟩
theorem LRel_mL {A I A1 I1 : Nat → Nat → Int32} {q q' : Nat} (h : LRel A q') (hm : mL q A I A1 I1) (hq : q' ≠ q) : LRel A1 q' := by
  obtain ⟨cl, k1, k2, k3, k4, k5, k6, k7, k8⟩ := h
  obtain ⟨m1, m2, m3, m4, m5⟩ := hm
  refine ⟨cl, k1, (m3 q' hq).2.trans k2, k3, lyR_ext (fun j ja jb => m2 j (by omega)) (fun j ja jb => m4 j (by omega)) cl 0 0 (by omega) (by omega) k4, k5, by rw [m1 13 (by decide) (by decide) (by decide) (by decide) (by decide) (by decide) (by decide)]; exact k6, k7, by rw [m1 12 (by decide) (by decide) (by decide) (by decide) (by decide) (by decide) (by decide)]; exact k8⟩
theorem adC_at {C W : ROW} {q : Nat} (hq : q < 4) : ∀ k, k ≤ 240 → ∀ j, adC C W (nI q) k j = if 240 * q ≤ j ∧ j < 240 * q + k then W (j - 240 * q) else C j
  | 0, _, j => by
    rw [if_neg (by omega)]
    rfl
  | k + 1, hk, j => by
    have e : nI q * 240 + nI k = nI (240 * q + k) := by
      rw [show (240 : Int32) = nI 240 from rfl, pk_mul, nI_add, Nat.mul_comm]
    show pt 960 (adC C W (nI q) k) (nI q * 240 + nI k) (gt 240 W (nI k)) j = _
    rw [e, pt_nI (by omega) (by decide), gt_nI (by omega) (by decide)]
    by_cases c : j = 240 * q + k
    · rw [c, ud_at, if_pos (by omega), show 240 * q + k - 240 * q = k by omega]
    · rw [ud_ne c, adC_at hq k (by omega) j]
      by_cases c2 : 240 * q ≤ j ∧ j < 240 * q + k
      · rw [if_pos c2, if_pos (by omega)]
      · rw [if_neg c2, if_neg (by omega)]
theorem tp_M {A I : Nat → Nat → Int32} {n : Nat} (h : INV A I) (tp : tpS A I n) : tpM A I n := by
  obtain ⟨h1, h2, -⟩ := h.1
  exact ⟨h2.trans tp.1, tp.2.1, fun j hj => by rw [h1]; exact tp.2.2 j hj⟩
theorem INV_PM {A I A1 I1 A2 I2 : Nat → Nat → Int32} (h : INV A I) (s : smP A I A1 I1) (m : mP A1 I1 A2 I2) : INV A2 I2 := by
  refine INV_ext (fun i hi => ?_) (fun p hp2 => ?_) h
  · obtain ⟨a, b, c, d, e⟩ := (by decide : ∀ i, i ∈ iA → i ≠ 6 ∧ i ≠ 7 ∧ i ≠ 57 ∧ i ≠ 58 ∧ i ≠ 59) i hi
    exact (m.1 i c d e).trans (s.1 i a b)
  · obtain ⟨a, b, c⟩ := (by decide : ∀ p, p ∈ iI → ¬ (p.1 = 46 ∧ (p.2 = 3 ∨ p.2 = 4 ∨ p.2 = 20 ∨ p.2 = 21)) ∧ ¬ (p.1 = 4 ∧ (p.2 = 1 ∨ p.2 = 2)) ∧ ¬ (p.1 = 3 ∧ p.2 = 2)) p hp2
    exact (m.2 _ _ a).trans (s.2 _ _ b c)
theorem INV_LM {A I A1 I1 A2 I2 : Nat → Nat → Int32} {q : Nat} (h : INV A I) (s : smL A I A1 I1) (m : mL q A1 I1 A2 I2) (hq : ∀ nl, I 11 4 = nI nl → nl ≤ 4 → nl ≤ q) : INV A2 I2 := by
  have eA : ∀ i, i ≠ 10 ∧ i ≠ 48 ∧ i ≠ 49 ∧ i ≠ 50 ∧ i ≠ 51 ∧ i ≠ 52 ∧ i ≠ 53 ∧ i ≠ 54 → A2 i = A i := fun i ⟨a, b, c, d, e, f, g, k⟩ => (m.1 i b c d e f g k).trans (s.1 i a)
  have eI : ∀ i k, ¬ (i = 46 ∧ (k = 3 ∨ k = 4 ∨ k = 5 ∨ k = 14)) → ¬ (i = 9 ∧ (k = 1 ∨ k = 2)) → ¬ (i = 8 ∧ k = 2) → I2 i k = I i k := fun i k a b c => (m.2.2.2.2 i k a).trans (s.2 i k b c)
  obtain ⟨l1, l2, nl, l3, l4, l5, l6⟩ := id h.2.1
  refine INV_TL h (fun i hi => eA i ((by decide : ∀ i, i ∈ [45, 64, 38, 39, 40, 71, 72, 73, 20, 63, 17, 60, 61, 62, 23, 76, 26, 66] → i ≠ 10 ∧ i ≠ 48 ∧ i ≠ 49 ∧ i ≠ 50 ∧ i ≠ 51 ∧ i ≠ 52 ∧ i ≠ 53 ∧ i ≠ 54) i hi)) (fun p hp2 => ?_) ?_ ?_
  · obtain ⟨a, b, c⟩ := (by decide : ∀ p, p ∈ [((0 : Nat), (12 : Nat)), (0, 13), (0, 14), (0, 15), (46, 30), (46, 31), (34, 9), (46, 46), (46, 25), (46, 26), (25, 1), (25, 2), (46, 35), (46, 50)] → ¬ (p.1 = 46 ∧ (p.2 = 3 ∨ p.2 = 4 ∨ p.2 = 5 ∨ p.2 = 14)) ∧ ¬ (p.1 = 9 ∧ (p.2 = 1 ∨ p.2 = 2)) ∧ ¬ (p.1 = 8 ∧ p.2 = 2)) p hp2
    exact eI _ _ a b c
  · exact I_T_ext (eA 47 (by decide)) (eA 2 (by decide)) (eI 46 2 (by decide) (by decide) (by decide)) (eI 1 1 (by decide) (by decide) (by decide)) h.1
  · refine ⟨by rw [eI 46 29 (by decide) (by decide) (by decide), eI 11 5 (by decide) (by decide) (by decide)]; exact l1, by rw [eI 46 13 (by decide) (by decide) (by decide), eI 11 4 (by decide) (by decide) (by decide)]; exact l2, nl, l3, by rw [eI 11 4 (by decide) (by decide) (by decide)]; exact l4, fun q' hq' => ?_, by rw [eI 11 5 (by decide) (by decide) (by decide)]; exact l6⟩
    refine LRel_mL (LRel_A (fun i hi => s.1 i ((by decide : ∀ i, i ∈ [12, 13, 48, 49, 51, 52, 53, 54] → i ≠ 10) i hi)) (l5 q' hq')) m ?_
    have := hq nl l4 l3
    omega
theorem step_fault {A : Nat → Nat → Int32} {L : Nat → Nat → Int64} {I : Nat → Nat → Int32} {X : Nat → Int64} {x : Int32} (h : INV A I) : ST 39 yX10_fault cX10_fault 2 38 yX11_fault cX11_fault 2 (some .int) [.int x] (hp A L I X) := by
  obtain ⟨t47, t2, n, tp⟩ := id h.1
  have tpm := tp_M h tp
  by_cases c0 : x = 0
  · subst c0
    refine ST_of (by rintro r_ H_ ⟨rfl, A1, I1, ⟨s1, -⟩, rfl⟩ <;> exact ⟨_, _, _, _, rfl⟩) ?_ (m_fault0 (L := L) (X := X) tp)
    rintro r_ H_ ⟨rfl, A1, I1, ⟨s1, -⟩, rfl⟩
    have e47 : A1 47 = A 2 := (s1.1 47 (by decide) (by decide)).trans t47
    have tp1 : tpM A1 I1 n := ⟨(s1.2 46 2 (by decide) (by decide)).trans tpm.1, tpm.2.1, by rw [s1.1 47 (by decide) (by decide)]; exact tpm.2.2⟩
    refine ⟨_, rfl, Con.mono ?_ (e_fault0 (L := L) (X := X) tp1)⟩
    rintro r_ H_ ⟨rfl, A2, I2, m2, -, rfl⟩
    exact ⟨by rw [e47], A2, L, I2, X, rfl, INV_PM h s1 m2⟩
  · by_cases c1 : x = 1
    · subst c1
      refine ST_of (by rintro r_ H_ ⟨rfl, A1, I1, ⟨s1, -⟩, rfl⟩ <;> exact ⟨_, _, _, _, rfl⟩) ?_ (m_fault1 (L := L) (X := X) tp)
      rintro r_ H_ ⟨rfl, A1, I1, ⟨s1, -⟩, rfl⟩
      have e47 : A1 47 = A 2 := (s1.1 47 (by decide)).trans t47
      have tp1 : tpM A1 I1 n := ⟨(s1.2 46 2 (by decide) (by decide)).trans tpm.1, tpm.2.1, by rw [s1.1 47 (by decide)]; exact tpm.2.2⟩
      refine ⟨_, rfl, Con.mono ?_ (e_fault1 (L := L) (X := X) tp1)⟩
      rintro r_ H_ ⟨rfl, A2, I2, m2, -, rfl⟩
      exact ⟨by rw [e47], A2, L, I2, X, rfl, INV_LM h s1 m2 (fun nl _ a => a)⟩
    · refine ST_of (by rintro r_ H_ ⟨rfl, rfl⟩ <;> exact ⟨_, _, _, _, rfl⟩) ?_ (m_faultn (A := A) (L := L) (I := I) (X := X) c0 c1)
      rintro r_ H_ ⟨rfl, rfl⟩
      refine ⟨_, rfl, Con.mono ?_ (e_faultn (A := A) (L := L) (I := I) (X := X) c0 c1)⟩
      rintro r_ H_ ⟨rfl, rfl⟩
      exact ⟨rfl, A, L, I, X, rfl, h⟩
