/-! JOINS: text -/
theorem INV_law {A I A1 I1 A2 I2 : Nat → Nat → Int32} {n nl b : Nat} {cs : List CLA} (h : INV A I) (tp : tpS A I n) (hn : I 11 4 = nI nl) (n4 : nl < 4) (hs : SS A I n [] 0 (lwW (lawP (A 2) n)) A1 I1) (e1 : lawP (A 2) n = .inr (b, cs)) (m : mL nl (up (up A1 12 (adC (A1 12) (A1 10) (I 11 4) (flW cs).length)) 13 (pt 4 (A1 13) (I 11 4) (nI (flW cs).length))) (up2 (up2 I1 11 4 (I 11 4 + 1)) 1 1 0) A2 I2) (hc : CLs nl n (lawP (A 2) n) A2 I2) : INV A2 (up2 (up2 I2 46 2 0) 46 13 ((up2 (up2 I1 11 4 (I 11 4 + 1)) 1 1 0) 46 13 + 1)) := by
  obtain ⟨s, h2⟩ := hs
  rw [e1] at h2 hc
  have hz : (flW cs).length ≤ 240 := by
    have h5 : b ≤ n := h2.2.2.2.2.1
    have h6 : ([] ++ flW cs).length + 0 ≤ b := h2.2.2.2.2.2
    have := tp.2.1
    simp only [List.nil_append] at h6
    omega
  have h10 : ∀ i x, (flW cs)[i]? = some x → A1 10 i = x := h2.2.2.2.1
  obtain ⟨-, -, -, c4, c5, c6, c7, c8, c9, c10⟩ := hc
  have hn240 := tp.2.1
  have eA : ∀ i, (i ≠ 10 ∧ i ≠ 12 ∧ i ≠ 13 ∧ i ≠ 48 ∧ i ≠ 49 ∧ i ≠ 50 ∧ i ≠ 51 ∧ i ≠ 52 ∧ i ≠ 53 ∧ i ≠ 54) → A2 i = A i := fun i ⟨a, a2, a3, b, c, d, e, f, g, k⟩ => by
    rw [m.1 i b c d e f g k, up_ne a3, up_ne a2]
    exact s.1 i a
  have eI : ∀ i k, (¬ (i = 46 ∧ (k = 2 ∨ k = 3 ∨ k = 4 ∨ k = 5 ∨ k = 14 ∨ k = 13)) ∧ ¬ (i = 9 ∧ (k = 1 ∨ k = 2)) ∧ ¬ (i = 8 ∧ k = 2) ∧ ¬ (i = 11 ∧ k = 4) ∧ ¬ (i = 1 ∧ k = 1)) → (up2 (up2 I2 46 2 0) 46 13 ((up2 (up2 I1 11 4 (I 11 4 + 1)) 1 1 0) 46 13 + 1)) i k = I i k := fun i k ⟨a, b, c, d, e⟩ => by
    rw [up2_ne (by omega), up2_ne (by omega), m.2.2.2.2 i k (by omega), up2_ne (by omega), up2_ne (by omega)]
    exact s.2 i k b c
  obtain ⟨l1, l2, nl', l3, l4, l5, l6⟩ := id h.2.1
  obtain rfl : nl' = nl := (nI_eq (by omega) (by omega)).mp (l4.symm.trans hn)
  have e12 : A2 12 = adC (A1 12) (A1 10) (nI nl') (flW cs).length := by
    rw [m.1 12 (by decide) (by decide) (by decide) (by decide) (by decide) (by decide) (by decide), up_ne (by decide), up_at, hn]
  have e13 : A2 13 = upd (A1 13) nl' (nI (flW cs).length) := by
    rw [m.1 13 (by decide) (by decide) (by decide) (by decide) (by decide) (by decide) (by decide), up_at, hn, pt_nI n4 (by decide)]
  have e4 : (up2 (up2 I2 46 2 0) 46 13 ((up2 (up2 I1 11 4 (I 11 4 + 1)) 1 1 0) 46 13 + 1)) 11 4 = nI (nl' + 1) := by
    rw [up2_ne (by decide), up2_ne (by decide), m.2.2.2.2 11 4 (by decide), up2_ne (by decide), up2_at, hn, show (1 : Int32) = nI 1 from rfl, nI_add]
  have e46 : (up2 (up2 I2 46 2 0) 46 13 ((up2 (up2 I1 11 4 (I 11 4 + 1)) 1 1 0) 46 13 + 1)) 46 13 = nI (nl' + 1) := by
    rw [up2_at, up2_ne (by decide), up2_ne (by decide), s.2 46 13 (by decide) (by decide), l2, hn, show (1 : Int32) = nI 1 from rfl, nI_add]
  refine INV_TL h (fun i hi => eA i ((by decide : ∀ i, i ∈ [45, 64, 38, 39, 40, 71, 72, 73, 20, 63, 17, 60, 61, 62, 23, 76, 26, 66] → i ≠ 10 ∧ i ≠ 12 ∧ i ≠ 13 ∧ i ≠ 48 ∧ i ≠ 49 ∧ i ≠ 50 ∧ i ≠ 51 ∧ i ≠ 52 ∧ i ≠ 53 ∧ i ≠ 54) i hi)) (fun p hp2 => eI _ _ ((by decide : ∀ p, p ∈ [((0 : Nat), (12 : Nat)), (0, 13), (0, 14), (0, 15), (46, 30), (46, 31), (34, 9), (46, 46), (46, 25), (46, 26), (25, 1), (25, 2), (46, 35), (46, 50)] → ¬ (p.1 = 46 ∧ (p.2 = 2 ∨ p.2 = 3 ∨ p.2 = 4 ∨ p.2 = 5 ∨ p.2 = 14 ∨ p.2 = 13)) ∧ ¬ (p.1 = 9 ∧ (p.2 = 1 ∨ p.2 = 2)) ∧ ¬ (p.1 = 8 ∧ p.2 = 2) ∧ ¬ (p.1 = 11 ∧ p.2 = 4) ∧ ¬ (p.1 = 1 ∧ p.2 = 1)) p hp2)) ?_ ?_
  · have z1 : (up2 (up2 I2 46 2 0) 46 13 ((up2 (up2 I1 11 4 (I 11 4 + 1)) 1 1 0) 46 13 + 1)) 1 1 = 0 := by rw [up2_ne (by decide), up2_ne (by decide), m.2.2.2.2 1 1 (by decide), up2_at]
    have z2 : (up2 (up2 I2 46 2 0) 46 13 ((up2 (up2 I1 11 4 (I 11 4 + 1)) 1 1 0) 46 13 + 1)) 46 2 = 0 := by rw [up2_ne (by decide), up2_at]
    refine ⟨?_, z2.trans z1.symm, 0, z1, by decide, fun j hj => absurd hj (Nat.not_lt_zero j)⟩
    rw [eA 47 (by decide), eA 2 (by decide)]
    exact h.1.1
  · refine ⟨by rw [eI 46 29 (by decide), eI 11 5 (by decide)]; exact l1, e46.trans e4.symm, nl' + 1, by omega, e4, fun q' hq' => ?_, ?_⟩
    · by_cases c : q' = nl'
      · subst c
        refine ⟨cs, okCs_law (okT2_of (tp_M h tp)) b cs (by rw [h.1.1]; exact e1), c5, by omega, ly_of cs 0 0 c6 (by rw [Nat.add_zero]; exact c7), by omega, by rw [e13, ud_at], hz, fun i x hx => ?_⟩
        have hi := (List.getElem?_eq_some_iff.mp hx).1
        rw [e12, adC_at n4 _ hz, if_pos (by omega), show 240 * q' + i - 240 * q' = i by omega]
        exact h10 i x hx
      · have hlt : q' < nl' := by omega
        obtain ⟨cl, k1, k2, k3, k4, k5, k6, k7, k8⟩ := l5 q' hlt
        have s12 : A1 12 = A 12 := s.1 12 (by decide)
        have s13 : A1 13 = A 13 := s.1 13 (by decide)
        have hmA : ∀ i, i ≠ 10 → i ≠ 12 → i ≠ 13 → (up (up A1 12 (adC (A1 12) (A1 10) (I 11 4) (flW cs).length)) 13 (pt 4 (A1 13) (I 11 4) (nI (flW cs).length))) i = A i := fun i a a2 a3 => by
          rw [up_ne a3, up_ne a2]
          exact s.1 i a
        obtain ⟨-, m2, m3, m4, -⟩ := m
        rw [hmA 48 (by decide) (by decide) (by decide), hmA 49 (by decide) (by decide) (by decide)] at m2
        rw [hmA 50 (by decide) (by decide) (by decide), hmA 51 (by decide) (by decide) (by decide)] at m3
        rw [hmA 52 (by decide) (by decide) (by decide), hmA 53 (by decide) (by decide) (by decide), hmA 54 (by decide) (by decide) (by decide)] at m4
        refine ⟨cl, k1, (m3 q' c).2.trans k2, k3, lyR_ext (fun j ja jb => m2 j (by omega)) (fun j ja jb => m4 j (by omega)) cl 0 0 (by omega) (by omega) k4, k5, ?_, k7, fun i x hx => ?_⟩
        · rw [e13, ud_ne c, s13]
          exact k6
        · have hi := (List.getElem?_eq_some_iff.mp hx).1
          rw [e12, adC_at n4 _ hz, if_neg (by omega), s12]
          exact k8 i x hx
    · rw [eI 11 5 (by decide)]
      rcases l6 with l6 | ⟨q', l6, l7⟩
      · exact Or.inl l6
      · exact Or.inr ⟨q', by omega, l7⟩
theorem step_text {A : Nat → Nat → Int32} {L : Nat → Nat → Int64} {I : Nat → Nat → Int32} {X : Nat → Int64} {x : Int32} (h : INV A I) : ST 39 yX10_text cX10_text 2 38 yX11_text cX11_text 2 (some .int) [.int x] (hp A L I X) := by
  obtain ⟨t47, t2, n, tp⟩ := id h.1
  have tpm := tp_M h tp
  obtain ⟨l1, l2, nl, l3, l4, l5, l6⟩ := id h.2.1
  by_cases c0 : x = 0
  · subst c0
    refine ST_of (by rintro r_ H_ ⟨A1, I1, ⟨s1, p1⟩, ⟨v1, rfl, rfl⟩ | ⟨v1, rfl, rfl⟩⟩ <;> exact ⟨_, _, _, _, rfl⟩) ?_ (m_text0 (L := L) (X := X) tp)
    rintro r_ H_ ⟨A1, I1, ⟨s1, p1⟩, ⟨v1, rfl, rfl⟩ | ⟨v1, rfl, rfl⟩⟩
    · have e47 : A1 47 = A 2 := (s1.1 47 (by decide) (by decide)).trans t47
      have tp1 : tpM A1 I1 n := ⟨(s1.2 46 2 (by decide) (by decide)).trans tpm.1, tpm.2.1, by rw [s1.1 47 (by decide) (by decide)]; exact tpm.2.2⟩
      have hb : ∀ p, plainP (A1 47) n = .inl p → p < 2 ^ 31 := fun p z => by
        rw [e47] at z
        rw [z] at p1
        have h3 : p ≤ n := p1.2
        have := tp.2.1
        omega
      refine ⟨_, rfl, Con.mono ?_ (e_text0 (L := L) (X := X) tp1 hb)⟩
      rintro r_ H_ ⟨A2, I2, m2, -, ⟨-, rfl, rfl⟩ | ⟨v2, -⟩⟩
      · exact ⟨rfl, A2, L, I2, X, rfl, INV_PM h s1 m2⟩
      · rw [e47] at v2
        exact absurd v2 v1
    · have e47 : (upS (upS A1 17 18 (A1 6) (fun _ => 0)) 20 21 (A1 6) (fun _ => 0)) 47 = A 2 := by
        rw [upS_ne (by decide) (by decide), upS_ne (by decide) (by decide)]
        exact (s1.1 47 (by decide) (by decide)).trans t47
      have hb0 : ∀ p, plainP (A 2) n = .inl p → p < 2 ^ 31 := fun p z => by
        rw [z] at p1
        have h3 : p ≤ n := p1.2
        have := tp.2.1
        omega
      have hb : ∀ p, plainP ((upS (upS A1 17 18 (A1 6) (fun _ => 0)) 20 21 (A1 6) (fun _ => 0)) 47) n = .inl p → p < 2 ^ 31 := by
        rw [e47]
        exact hb0
      have tp1 : tpM (upS (upS A1 17 18 (A1 6) (fun _ => 0)) 20 21 (A1 6) (fun _ => 0)) (up2 (up2 (up2 (up2 (up2 I1 25 1 0) 34 9 0) 0 12 1) 0 13 0) 1 1 0) n := by
        refine ⟨?_, tpm.2.1, by rw [e47, ← t47]; exact tpm.2.2⟩
        rw [up2_ne (by decide), up2_ne (by decide), up2_ne (by decide), up2_ne (by decide), up2_ne (by decide)]
        exact (s1.2 46 2 (by decide) (by decide)).trans tpm.1
      refine ⟨_, rfl, Con.mono ?_ (e_text0 (L := L) (X := X) tp1 hb)⟩
      rintro r_ H_ ⟨A2, I2, m2, -, ⟨v2, -⟩ | ⟨-, b, D, hv, m, c, e1, q2, q1, r20, r21, hw, rfl, rfl⟩⟩
      · rw [e47] at v2
        exact absurd v1 v2
      · rw [e47] at e1
        rw [e1] at p1
        have hD : A1 6 = D := p1.2.2.1
        refine ⟨?_, _, L, _, X, rfl, INV_new h s1 hD m2 q2 q1 r20 r21 hw⟩
        rw [hD, g143_9, hw.1.2.2.1]
  · by_cases c1 : x = 1
    · subst c1
      refine ST_of (by rintro r_ H_ (⟨v0, rfl, rfl⟩ | ⟨v0, A1, I1, hs, ⟨v1, rfl, rfl⟩ | ⟨v1, b, cs, e1, rfl, rfl⟩⟩) <;> exact ⟨_, _, _, _, rfl⟩) ?_ (m_text1 (L := L) (X := X) tp)
      rintro r_ H_ (⟨v0, rfl, rfl⟩ | ⟨v0, A1, I1, hs, ⟨v1, rfl, rfl⟩ | ⟨v1, b, cs, e1, rfl, rfl⟩⟩)
      · refine ⟨_, rfl, Con.mono ?_ (e_text1 (L := L) (X := X) (q := nl) tpm (l2.trans l4) l3)⟩
        rintro r_ H_ (⟨-, rfl, rfl⟩ | ⟨v2, -⟩)
        · exact ⟨rfl, A, L, I, X, rfl, h⟩
        · rw [l2] at v2
          exact absurd v2 v0
      · have s1 := hs.1
        have e47 : A1 47 = A 2 := (s1.1 47 (by decide)).trans t47
        have tp1 : tpM A1 I1 n := ⟨(s1.2 46 2 (by decide) (by decide)).trans tpm.1, tpm.2.1, by rw [s1.1 47 (by decide)]; exact tpm.2.2⟩
        have e13 : I1 46 13 = I 11 4 := (s1.2 46 13 (by decide) (by decide)).trans l2
        refine ⟨_, rfl, Con.mono ?_ (e_text1 (L := L) (X := X) (q := nl) tp1 (e13.trans l4) l3)⟩
        rintro r_ H_ (⟨v2, -⟩ | ⟨-, A2, I2, m2, -, ⟨-, rfl, rfl⟩ | ⟨v2, -⟩⟩)
        · rw [e13] at v2
          exact absurd v0 v2
        · exact ⟨rfl, A2, L, I2, X, rfl, INV_LM h s1 m2 (fun nl2 a a2 => by rw [l4] at a; exact Nat.le_of_eq ((nI_eq (by omega) (by omega)).mp a).symm)⟩
        · rw [e47] at v2
          exact absurd v2 v1
      · have s1 := hs.1
        have e47 : (up (up A1 12 (adC (A1 12) (A1 10) (I 11 4) (flW cs).length)) 13 (pt 4 (A1 13) (I 11 4) (nI (flW cs).length))) 47 = A 2 := by
          rw [up_ne (by decide), up_ne (by decide)]
          exact (s1.1 47 (by decide)).trans t47
        have tp1 : tpM (up (up A1 12 (adC (A1 12) (A1 10) (I 11 4) (flW cs).length)) 13 (pt 4 (A1 13) (I 11 4) (nI (flW cs).length))) (up2 (up2 I1 11 4 (I 11 4 + 1)) 1 1 0) n := by
          refine ⟨?_, tpm.2.1, by rw [e47, ← t47]; exact tpm.2.2⟩
          rw [up2_ne (by decide), up2_ne (by decide)]
          exact (s1.2 46 2 (by decide) (by decide)).trans tpm.1
        have e13 : (up2 (up2 I1 11 4 (I 11 4 + 1)) 1 1 0) 46 13 = I 11 4 := by
          rw [up2_ne (by decide), up2_ne (by decide)]
          exact (s1.2 46 13 (by decide) (by decide)).trans l2
        have n4 : nl < 4 := by
          rw [l4] at v0
          exact Nat.not_le.mp (fun z => absurd v0 (Int32.not_lt.mpr ((nI_leI (a := 4) (b := nl) (by decide) (by omega)).mpr z)))
        refine ⟨_, rfl, Con.mono ?_ (e_text1 (L := L) (X := X) (q := nl) tp1 (e13.trans l4) l3)⟩
        rintro r_ H_ (⟨v2, -⟩ | ⟨-, A2, I2, m2, hc, ⟨v2, -⟩ | ⟨-, rfl, rfl⟩⟩)
        · rw [e13] at v2
          exact absurd v0 v2
        · rw [e47] at v2
          exact absurd v1 v2
        · rw [e47] at hc
          exact ⟨by rw [e13], A2, L, _, X, rfl, INV_law h tp l4 n4 hs e1 m2 hc⟩
    · refine ST_of (by rintro r_ H_ ⟨rfl, rfl⟩ <;> exact ⟨_, _, _, _, rfl⟩) ?_ (m_textn (A := A) (L := L) (I := I) (X := X) c0 c1)
      rintro r_ H_ ⟨rfl, rfl⟩
      refine ⟨_, rfl, Con.mono ?_ (e_textn (A := A) (L := L) (I := I) (X := X) c0 c1)⟩
      rintro r_ H_ ⟨rfl, rfl⟩
      exact ⟨rfl, A, L, I, X, rfl, h⟩
