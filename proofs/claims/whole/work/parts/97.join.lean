/-! JOINS: a call of the class and then of the reference, from one state; the acts -/
/-- the reference's answer is v, and the relation holds at the end -/
def jnR (v : Int32) : Option Value → m_H → Prop := fun r_ H_ => r_ = some (.int v) ∧ ∃ A L I X, H_ = hp A L I X ∧ INV A I
def isHp (H_ : m_H) : Prop := ∃ A L I X, H_ = hp A L I X
def ST (d1 : Nat) (y1 : MethodName) (c1 : ByteArray) (n1 : Nat) (d2 : Nat) (y2 : MethodName) (c2 : ByteArray) (n2 : Nat) (ret : Option FieldType) (as : List Value) (H : m_H) : Prop :=
  Con d1 y1 c1 n1 ret (.ref 0 :: as) H (fun r_ H_ => (∃ v, r_ = some (.int v) ∧ Con d2 y2 c2 n2 ret (.ref 46 :: as) H_ (jnR v)) ∧ isHp H_)
theorem ST_of {d1 : Nat} {y1 : MethodName} {c1 : ByteArray} {n1 : Nat} {d2 : Nat} {y2 : MethodName} {c2 : ByteArray} {n2 : Nat} {ret : Option FieldType} {as : List Value} {H : m_H} {Qc : Option Value → m_H → Prop} (h1 : ∀ r_ H_, Qc r_ H_ → isHp H_) (h2 : ∀ r_ H_, Qc r_ H_ → ∃ v, r_ = some (.int v) ∧ Con d2 y2 c2 n2 ret (.ref 46 :: as) H_ (jnR v)) (hc : Con d1 y1 c1 n1 ret (.ref 0 :: as) H Qc) : ST d1 y1 c1 n1 d2 y2 c2 n2 ret as H :=
  Con.mono (fun r_ H_ q => ⟨h2 r_ H_ q, h1 r_ H_ q⟩) hc
theorem rf_of {A I : Nat → Nat → Int32} {L : Nat → Nat → Int64} {X : Nat → Int64} (h : INV A I) {k : Nat} (hk : k < 5) {r_ : Option Value} {H_ : m_H} (q : rfN (up A 45 (rfS (A 45) (nI k))) L I X k r_ H_) : jnR (-1) r_ H_ := by
  obtain ⟨q1, q2⟩ := q
  refine ⟨q1, _, L, I, X, q2, ?_⟩
  rw [up_ne (show (64 : Nat) ≠ 45 by decide)]
  exact INV_rf h hk
theorem gd_k {k k2 : Nat} (h : k < 5) (h2 : k2 < 5) (e : nI k = nI k2) : k = k2 := (nI_eq (by omega) (by omega)).mp e
theorem gd_no {k : Nat} (h : k < 5) : ¬ nI k = (-1) := by
  rcases (show k = 0 ∨ k = 1 ∨ k = 2 ∨ k = 3 ∨ k = 4 by omega) with rfl | rfl | rfl | rfl | rfl <;> decide
theorem ST_act {d1 d2 n1 n2 : Nat} {y1 y2 : MethodName} {c1 c2 : ByteArray} {as : List Value} {A I : Nat → Nat → Int32} {L : Nat → Nat → Int64} {X : Nat → Int64} {gd v v2 : Int32} {f' : ROW} (h : INV A I)
  (hc : Con d1 y1 c1 n1 (some .int) (.ref 0 :: as) (hp A L I X) (actQ A L I X gd v (upS (kA A I) 20 21 f' (A 21)) (kI I)))
  (hr : (gd = 0 ∧ ∀ A1, Con d2 y2 c2 n2 (some .int) (.ref 46 :: as) (hp A1 L I X) (rfN A1 L I X 0)) ∨ (∃ ms cs N2, PLN ms cs A I ∧ (gd = (-1) → v = v2 ∧ RF ms cs (A 60) (A 61) (A 62) f' N2) ∧ ∀ A1 I1 a, A1 63 = A 63 → A1 60 = A 60 → I1 46 35 = nI a → a ≤ 40 → I1 46 25 = I 46 25 → I1 46 26 = I 46 26 → Con d2 y2 c2 n2 (some .int) (.ref 46 :: as) (hp A1 L I1 X) (actN A1 L I1 X a gd v2 N2))) : ST d1 y1 c1 n1 d2 y2 c2 n2 (some .int) as (hp A L I X) := by
  refine ST_of (by rintro r_ H_ (⟨g1, rfl, rfl⟩ | ⟨g1, rfl, rfl⟩) <;> exact ⟨_, _, _, _, rfl⟩) ?_ hc
  rintro r_ H_ (⟨g1, rfl, rfl⟩ | ⟨g1, rfl, rfl⟩)
  · refine ⟨(-1), rfl, ?_⟩
    rcases hr with ⟨rfl, hr⟩ | ⟨ms, cs, N2, hP, -, hr⟩
    · exact Con.mono (fun r2 H2 q => rf_of h (k := 0) (by decide) q) (hr _)
    · obtain ⟨a, -, ha40, -, -, ha, -⟩ := hP.2.2.2.1
      refine Con.mono ?_ (hr _ I a (up_ne (by decide)) (up_ne (by decide)) ha ha40 rfl rfl)
      rintro r2 H2 (⟨k2, q1, q2, q3, q4⟩ | ⟨q1, -⟩)
      · rw [q2] at q4
        exact rf_of h q1 ⟨q3, q4⟩
      · exact absurd q1 g1
  · refine ⟨v, rfl, ?_⟩
    rcases hr with ⟨rfl, hr⟩ | ⟨ms, cs, N2, hP, hR, hr⟩
    · exact absurd g1 (by decide)
    · obtain ⟨a, nx, ha40, -, -, ha, -⟩ := id hP.2.2.2.1
      have e63 : (upS (kA A I) 20 21 f' (A 21)) 63 = A 63 := (upS_ne (by decide) (by decide)).trans (up_ne (by decide))
      have e66 : (upS (kA A I) 20 21 f' (A 21)) 66 = A 66 := (upS_ne (by decide) (by decide)).trans (up_ne (by decide))
      have e60 : (upS (kA A I) 20 21 f' (A 21)) 60 = A 60 := (upS_ne (by decide) (by decide)).trans (up_ne (by decide))
      have ei : ∀ k, (kI I) 46 k = I 46 k := fun k => by
        unfold kI
        rw [up2_ne (by simp), up2_ne (by simp)]
      refine Con.mono ?_ (hr _ (kI I) a e63 e60 ((ei 35).trans ha) ha40 (ei 25) (ei 26))
      rintro r2 H2 (⟨k2, q1, q2, q3, q4⟩ | ⟨-, q2, q3⟩)
      · exact absurd (q2.symm.trans g1) (gd_no q1)
      · rw [← (hR g1).1] at q2
        refine ⟨q2, _, L, _, X, q3, ?_⟩
        rw [e63, e66]
        exact INV_act h hP ha ha40 (hR g1).2
theorem no_P {A I : Nat → Nat → Int32} (h : INV A I) {ms cs : Nat} (hP : PLN ms cs A I) : ¬ I 46 25 = 0 := by
  rw [INV_0 h, PLN_12 h hP]
  decide
theorem step_hay {A : Nat → Nat → Int32} {L : Nat → Nat → Int64} {I : Nat → Nat → Int32} {X : Nat → Int64} {n : Int32} (h : INV A I) : ST 4 yX10_hay cX10_hay 2 2 yX11_hay cX11_hay 2 (some .int) [.int n] (hp A L I X) := by
  have hc := m_hay (A := A) (L := L) (I := I) (X := X) (n := n)
  by_cases h0 : I 0 12 = 0
  · exact ST_act (v2 := 0) h hc (Or.inl ⟨if_pos h0, fun A1 => e_hay0 ((INV_0 h).mpr h0)⟩)
  · obtain ⟨ms, cs, hP⟩ := INV_P h h0
    have hR := hP.2.1
    obtain ⟨-, ⟨⟨s0, b0⟩, ⟨s1, b1⟩, s2, ⟨s3, b3⟩, ⟨s4, b4⟩, s7, s8, -⟩, -⟩ := id hR.1
    have eg : gdHay A I n = gyN (A 63) n := by
      unfold gdHay gyN
      rw [if_neg h0, g143_1, g143_3, s1, s3]
      by_cases c1 : inZ n 1 99 = 0
      · rw [if_pos c1, if_pos]
        rcases in_0.mp c1 with z | z
        · exact Or.inl z
        · exact Or.inr (Or.inl z)
      · rw [if_neg c1]
        by_cases c2 : 99 < A 63 36 + n
        · rw [if_pos c2, if_pos]
          exact Or.inr (Or.inr (Int32.not_le.mpr c2))
        · rw [if_neg c2, if_neg]
          rintro (z | z | z)
          · exact c1 (in_0.mpr (Or.inl z))
          · exact c1 (in_0.mpr (Or.inr z))
          · exact c2 (Int32.not_le.mp z)
    rw [eg] at hc
    refine ST_act (v2 := A 63 36 + n) h hc (Or.inr ⟨ms, cs, upd (upd (A 63) 36 (A 63 36 + n)) 37 (A 63 37 - n), hP, fun z => ?_, fun A1 I1 a e63 e60 ha ha40 e25 e26 => ?_⟩)
    · have hF : RF ms cs (A 60) (A 61) (A 62) (hyF (A 20) n) (upd (upd (A 63) 36 (A 63 36 + n)) 37 (A 63 37 - n)) := by
        unfold gyN at z
        split at z
        · exact absurd z (by decide)
        · split at z
          · exact absurd z (by decide)
          · split at z
            · exact RF_hay hR (by assumption) (by assumption) (by assumption)
            · exact absurd z (by decide)
      refine ⟨?_, hF⟩
      rw [g143_1, hF.1.2.1.2.1.1, ud_ne (by decide), ud_at]
    · have q := e_hay (A := A1) (L := L) (I := I1) (X := X) (n := n) ha ha40 (by rw [e25]; exact no_P h hP)
      rw [e63] at q
      exact q
theorem step_grease {A : Nat → Nat → Int32} {L : Nat → Nat → Int64} {I : Nat → Nat → Int32} {X : Nat → Int64} {n : Int32} (h : INV A I) : ST 4 yX10_grease cX10_grease 2 3 yX11_grease cX11_grease 2 (some .int) [.int n] (hp A L I X) := by
  have hc := m_grease (A := A) (L := L) (I := I) (X := X) (n := n)
  have hM := INV_M h n
  by_cases h0 : inZ n 0 (I 46 25 - 1) = 0
  · exact ST_act (v2 := 0) h hc (Or.inl ⟨if_pos (hM.trans h0), fun A1 => e_grease0 h0⟩)
  · obtain ⟨ms, cs, m, hP, rfl, hm, hm8⟩ := INV_Pm h h0
    have hR := hP.2.1
    obtain ⟨-, ⟨-, -, -, ⟨s3, b3⟩, -⟩, -, hMo, -⟩ := id hR.1
    obtain ⟨-, ⟨k1, kb⟩, -⟩ := hMo m hm
    have eg : gdGrease A I (nI m) = if A 63 m = 9 then 1 else if 1 ≤ A 63 37 then (-1) else 2 := by
      unfold gdGrease
      rw [if_neg (fun z => h0 (hM.symm.trans z)), g143_3, s3, oM_1 hm8, k1]
      obtain ⟨k, k9, ek⟩ := kb
      rw [ek]
      by_cases c : k = 9
      · subst c
        rw [if_pos (show nI 9 = (9 : Int32) from rfl), if_neg (show ¬ nI 9 < (9 : Int32) by decide)]
      · rw [if_pos (show nI k < (9 : Int32) from nI_lt (b := 9) (by omega) (by omega)), if_neg (show ¬ nI k = (9 : Int32) from fun z => c ((nI_eq (b := 9) (by omega) (by omega)).mp z))]
    rw [eg] at hc
    refine ST_act (v2 := A 63 m + 1) h hc (Or.inr ⟨ms, cs, upd (upd (A 63) m (A 63 m + 1)) 37 (A 63 37 - 1), hP, fun z => ?_, fun A1 I1 a e63 e60 ha ha40 e25 e26 => ?_⟩)
    · split at z
      · exact absurd z (by decide)
      · split at z
        · have q := RF_gr hR hm (by assumption) (by assumption)
          exact ⟨q.2, q.1⟩
        · exact absurd z (by decide)
    · have q := e_grease (A := A1) (L := L) (I := I1) (X := X) ha ha40 (by rw [e25]; exact h0) rfl hm8
      rw [e63] at q
      exact q
theorem step_chip {A : Nat → Nat → Int32} {L : Nat → Nat → Int64} {I : Nat → Nat → Int32} {X : Nat → Int64} {n : Int32} (h : INV A I) : ST 4 yX10_chip cX10_chip 2 3 yX11_chip cX11_chip 2 (some .int) [.int n] (hp A L I X) := by
  have hc := m_chip (A := A) (L := L) (I := I) (X := X) (n := n)
  have hM := INV_M h n
  by_cases h0 : inZ n 0 (I 46 25 - 1) = 0
  · exact ST_act (v2 := 0) h hc (Or.inl ⟨if_pos (hM.trans h0), fun A1 => e_chip0 h0⟩)
  · obtain ⟨ms, cs, m, hP, rfl, hm, hm8⟩ := INV_Pm h h0
    have hR := hP.2.1
    obtain ⟨-, -, -, hMo, -⟩ := id hR.1
    obtain ⟨-, -, ⟨k1, kb⟩, -⟩ := hMo m hm
    have eg : gdChip A I (nI m) = if A 63 (8 + m) = 0 then 3 else (-1) := by
      unfold gdChip
      rw [if_neg (fun z => h0 (hM.symm.trans z)), oM_2 hm8, k1]
      obtain ⟨k, k9, ek⟩ := kb
      rw [ek]
      by_cases c : k = 0
      · subst c
        rw [if_pos nI_0, if_neg (show ¬ (1 : Int32) ≤ nI 0 by decide)]
      · rw [if_pos (show (1 : Int32) ≤ nI k from (nI_leI (a := 1) (by omega) (by omega)).mpr (by omega)), if_neg (fun z => c ((nI_eq (b := 0) (by omega) (by omega)).mp (z.trans nI_0.symm)))]
    rw [eg] at hc
    refine ST_act (v2 := chN (A 63) m (8 + m)) h hc (Or.inr ⟨ms, cs, chN (A 63) m, hP, fun z => ?_, fun A1 I1 a e63 e60 ha ha40 e25 e26 => ?_⟩)
    · split at z
      · exact absurd z (by decide)
      · have q := RF_ch hR hm (by assumption)
        exact ⟨q.2, q.1⟩
    · have q := e_chip (A := A1) (L := L) (I := I1) (X := X) ha ha40 (by rw [e25]; exact h0) rfl hm8
      rw [e63] at q
      exact q
theorem step_reverse {A : Nat → Nat → Int32} {L : Nat → Nat → Int64} {I : Nat → Nat → Int32} {X : Nat → Int64} (h : INV A I) : ST 4 yX10_reverse cX10_reverse 1 2 yX11_reverse cX11_reverse 1 (some .int) [] (hp A L I X) := by
  have hc := m_reverse (A := A) (L := L) (I := I) (X := X)
  by_cases h0 : I 0 12 = 0
  · exact ST_act (v2 := 0) h hc (Or.inl ⟨if_pos h0, fun A1 => e_rev0 ((INV_0 h).mpr h0)⟩)
  · obtain ⟨ms, cs, hP⟩ := INV_P h h0
    have eg : gdRev A I = (-1) := if_neg h0
    rw [eg] at hc
    refine ST_act (v2 := 1 - A 63 38) h hc (Or.inr ⟨ms, cs, upd (A 63) 38 (1 - A 63 38), hP, fun z => ?_, fun A1 I1 a e63 e60 ha ha40 e25 e26 => ?_⟩)
    · have hF := RF_rev hP.2.1
      refine ⟨?_, hF⟩
      rw [g143_4, hF.1.2.1.2.2.2.2.1.1, ud_at]
    · have q := e_rev (A := A1) (L := L) (I := I1) (X := X) ha ha40 (by rw [e25]; exact no_P h hP)
      rw [e63] at q
      exact q
theorem step_buy {A : Nat → Nat → Int32} {L : Nat → Nat → Int64} {I : Nat → Nat → Int32} {X : Nat → Int64} (h : INV A I) : ST 4 yX10_buy cX10_buy 1 2 yX11_buy cX11_buy 1 (some .int) [] (hp A L I X) := by
  have hc := m_buy (A := A) (L := L) (I := I) (X := X)
  by_cases h0 : I 0 12 = 0
  · exact ST_act (v2 := 0) h hc (Or.inl ⟨if_pos h0, fun A1 => e_buy0 ((INV_0 h).mpr h0)⟩)
  · obtain ⟨ms, cs, hP⟩ := INV_P h h0
    have hR := hP.2.1
    obtain ⟨-, ⟨-, -, -, ⟨s3, b3⟩, -⟩, -⟩ := id hR.1
    have hT := hP.2.2.1
    have e17 : gt 143 (A 17) 0 = A 60 0 := by rw [g143_0]; exact hT.2.1.1
    have hb : bd 30 (A 60 0) := by
      obtain ⟨k, k1, k2, k3⟩ := hT.2.1.2.1
      exact ⟨k, k2, k3⟩
    have eg : gdBuy A I = if 20 ≤ A 63 37 then (-1) else 2 := by
      unfold gdBuy
      rw [if_neg h0, g143_3, s3]
    rw [eg, e17] at hc
    refine ST_act (v2 := A 63 37 - 20) h hc (Or.inr ⟨ms, cs, upd (upd (A 63) 35 (A 60 0)) 37 (A 63 37 - 20), hP, fun z => ?_, fun A1 I1 a e63 e60 ha ha40 e25 e26 => ?_⟩)
    · have hF : RF ms cs (A 60) (A 61) (A 62) (byF (A 20) (A 60 0)) (upd (upd (A 63) 35 (A 60 0)) 37 (A 63 37 - 20)) := by
        split at z
        · exact RF_buy hR hb (by assumption)
        · exact absurd z (by decide)
      refine ⟨?_, hF⟩
      rw [g143_3, hF.1.2.1.2.2.2.1.1, ud_at]
    · have q := e_buy (A := A1) (L := L) (I := I1) (X := X) ha ha40 (by rw [e25]; exact no_P h hP)
      rw [e63, e60] at q
      exact q
theorem step_sow {A : Nat → Nat → Int32} {L : Nat → Nat → Int64} {I : Nat → Nat → Int32} {X : Nat → Int64} {n : Int32} (h : INV A I) : ST 4 yX10_sow cX10_sow 2 3 yX11_sow cX11_sow 2 (some .int) [.int n] (hp A L I X) := by
  have hc := m_sow (A := A) (L := L) (I := I) (X := X) (n := n)
  have hM := INV_C h n
  by_cases h0 : inZ n 0 (I 46 26 - 1) = 0
  · exact ST_act (v2 := 0) h hc (Or.inl ⟨if_pos (hM.trans h0), fun A1 => e_sow0 h0⟩)
  · obtain ⟨ms, cs, c, hP, rfl, hc2, hc5⟩ := INV_Pc h h0
    have hR := hP.2.1
    obtain ⟨-, ⟨-, -, -, ⟨s3, b3⟩, -⟩, -⟩ := id hR.1
    have eg : gdSow A I (nI c) = if 2 ≤ A 63 37 then (if haZ (A 63 34) (nI c) = 0 then 3 else (-1)) else 2 := by
      unfold gdSow
      rw [if_neg (fun z => h0 (hM.symm.trans z)), g143_3, s3, cr_r hP hc2]
    rw [eg] at hc
    refine ST_act (v2 := A 63 37 - 2) h hc (Or.inr ⟨ms, cs, upd (upd (upd (upd (A 63) (24 + c) 0) (29 + c) 0) 34 (A 63 34 &&& ((1 <<< (nI c &&& 31)) ^^^ (-1)))) 37 (A 63 37 - 2), hP, fun z => ?_, fun A1 I1 a e63 e60 ha ha40 e25 e26 => ?_⟩)
    · have hF : RF ms cs (A 60) (A 61) (A 62) (soF (A 20) (nI c)) (upd (upd (upd (upd (A 63) (24 + c) 0) (29 + c) 0) 34 (A 63 34 &&& ((1 <<< (nI c &&& 31)) ^^^ (-1)))) 37 (A 63 37 - 2)) := by
        split at z
        · split at z
          · exact absurd z (by decide)
          · exact RF_sow hR hc2 (by assumption) (by assumption)
        · exact absurd z (by decide)
      refine ⟨?_, hF⟩
      rw [g143_3, hF.1.2.1.2.2.2.1.1, ud_at]
    · have q := e_sow (A := A1) (L := L) (I := I1) (X := X) ha ha40 (by rw [e26]; exact h0) rfl hc5
      rw [e63] at q
      exact q
