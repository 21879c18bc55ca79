/-! THE WHOLE RELATION, kept by every call -/
def RF (ms cs : Nat) (R M C f N : ROW) : Prop := RJ ms cs R M C f N ∧ LG f N ∧ bd 99 (N 36)
/-- as it was told -/
def TD (ms cs : Nat) (R M C f : ROW) : Prop :=
  (2 ≤ ms ∧ ms ≤ 8 ∧ 1 ≤ cs ∧ cs ≤ 5 ∧ f 9 = nI ms ∧ f 10 = nI cs) ∧
  (f 0 = R 0 ∧ (∃ k, 1 ≤ k ∧ k ≤ 30 ∧ R 0 = nI k) ∧ f 1 = R 1 ∧ bd 99 (R 1) ∧ f 2 = R 2 ∧ bd 9 (R 2) ∧ f 3 = R 3 ∧ bd 99 (R 3)) ∧
  (f 4 = 0 ∧ f 5 = 0 ∧ f 6 = 0 ∧ f 7 = 0 ∧ f 8 = 0 ∧ f 11 = 0 ∧ f 12 = 0) ∧
  (∀ m, m < ms → (f (13 + m * 5) = M (5 * m) ∧ ∃ l, 1 ≤ l ∧ l ≤ 9 ∧ M (5 * m) = nI l) ∧ (f (13 + m * 5 + 1) = M (5 * m + 1) ∧ bd 9 (M (5 * m + 1))) ∧ (f (13 + m * 5 + 2) = M (5 * m + 2) ∧ bd 9 (M (5 * m + 2))) ∧ (f (13 + m * 5 + 3) = M (5 * m + 3) ∧ bd 9 (M (5 * m + 3))) ∧ (f (13 + m * 5 + 4) = M (5 * m + 4) ∧ ∃ p, 1 ≤ p ∧ p ≤ 9 ∧ M (5 * m + 4) = nI p)) ∧
  ∀ c, c < cs → (f (53 + c * 6) = C (3 * c) ∧ bd 99 (C (3 * c))) ∧ (f (53 + c * 6 + 1) = C (3 * c + 1) ∧ bd 99 (C (3 * c + 1))) ∧ (f (53 + c * 6 + 2) = C (3 * c + 2) ∧ bd 99 (C (3 * c + 2))) ∧ f (53 + c * 6 + 3) = 0 ∧ f (53 + c * 6 + 4) = 0 ∧ f (53 + c * 6 + 5) = 0
def AKT (ms cs : Nat) (A I : Nat → Nat → Int32) : Prop := ∃ a nx, a ≤ 40 ∧ nx < 40 ∧ I 25 1 = nI a ∧ I 46 35 = nI a ∧ I 25 2 = nI nx ∧ ∀ i, i < a → RF ms cs (A 60) (A 61) (A 62) (fun j => A 26 ((nx + 39 - i) % 40 * 143 + j)) (fun j => A 66 (284 * (a - 1 - i) + j))
def I_T (A I : Nat → Nat → Int32) : Prop := A 47 = A 2 ∧ I 46 2 = I 1 1 ∧ ∃ n, tpS A I n
def I_L (A I : Nat → Nat → Int32) : Prop := I 46 29 = I 11 5 ∧ I 46 13 = I 11 4 ∧ ∃ nl, nl ≤ 4 ∧ I 11 4 = nI nl ∧ (∀ q, q < nl → LRel A q) ∧ (I 11 5 = (-1) ∨ ∃ q, q < nl ∧ I 11 5 = nI q)
def I_M (A I : Nat → Nat → Int32) : Prop := A 64 = A 45 ∧ (I 46 30 = I 0 14 ∧ bd 9 (I 0 14)) ∧ I 46 31 = I 0 15 ∧ bd 9 (I 0 15)
def I_S (A I : Nat → Nat → Int32) : Prop := I 46 46 = I 34 9 ∧ A 71 = A 38 ∧ A 72 = A 39 ∧ A 73 = A 40 ∧ ∃ k, k ≤ 10 ∧ I 34 9 = nI k ∧ ∀ i, i < k → (∃ t, 1 ≤ t ∧ t ≤ 40 ∧ A 38 i = nI t) ∧ (∃ m, m < 8 ∧ A 39 i = nI m) ∧ (A 40 i = 0 ∨ A 40 i = 1)
def PLN (ms cs : Nat) (A I : Nat → Nat → Int32) : Prop := (I 46 25 = nI ms ∧ I 46 26 = nI cs) ∧ RF ms cs (A 60) (A 61) (A 62) (A 20) (A 63) ∧ TD ms cs (A 60) (A 61) (A 62) (A 17) ∧ AKT ms cs A I ∧ I 46 50 = I 0 13 ∧ (I 0 13 = 0 ∨ (I 0 13 = 1 ∧ RF ms cs (A 60) (A 61) (A 62) (A 23) (A 76)))
def NPN (A I : Nat → Nat → Int32) : Prop := (I 46 25 = 0 ∧ I 46 26 = 0) ∧ A 20 = (fun _ => 0) ∧ A 63 = (fun _ => 0) ∧ A 17 = (fun _ => 0) ∧ (I 25 1 = 0 ∧ I 46 35 = 0 ∧ ∃ nx, nx < 40 ∧ I 25 2 = nI nx) ∧ (I 46 50 = 0 ∧ I 0 13 = 0) ∧ I 34 9 = 0
def INV (A I : Nat → Nat → Int32) : Prop := I_T A I ∧ I_L A I ∧ I_M A I ∧ I_S A I ∧ ((I 0 12 = 0 ∧ NPN A I) ∨ (I 0 12 = 1 ∧ ∃ ms cs, PLN ms cs A I))
def iA : List Nat := [2, 47, 12, 13, 48, 49, 51, 52, 53, 54, 45, 64, 38, 39, 40, 71, 72, 73, 20, 63, 17, 60, 61, 62, 23, 76, 26, 66]
def iI : List (Nat × Nat) := [(1, 1), (46, 2), (46, 13), (11, 4), (11, 5), (46, 29), (0, 12), (0, 13), (0, 14), (0, 15), (46, 30), (46, 31), (34, 9), (46, 46), (46, 25), (46, 26), (25, 1), (25, 2), (46, 35), (46, 50)]
theorem I_T_ext {A I A' I' : Nat → Nat → Int32} (e1 : A' 47 = A 47) (e2 : A' 2 = A 2) (e3 : I' 46 2 = I 46 2) (e4 : I' 1 1 = I 1 1) (h : I_T A I) : I_T A' I' := by
  obtain ⟨h1, h2, n, h3, h4, h5⟩ := h
  exact ⟨by rw [e1, e2]; exact h1, by rw [e3, e4]; exact h2, n, by rw [e4]; exact h3, h4, fun j hj => by rw [e2]; exact h5 j hj⟩
theorem I_L_ext {A I A' I' : Nat → Nat → Int32} (e : ∀ i, i ∈ [12, 13, 48, 49, 51, 52, 53, 54] → A' i = A i) (e1 : I' 46 29 = I 46 29) (e2 : I' 11 5 = I 11 5) (e3 : I' 46 13 = I 46 13) (e4 : I' 11 4 = I 11 4) (h : I_L A I) : I_L A' I' := by
  obtain ⟨h1, h2, nl, h3, h4, h5, h6⟩ := h
  exact ⟨by rw [e1, e2]; exact h1, by rw [e3, e4]; exact h2, nl, h3, by rw [e4]; exact h4, fun q hq => LRel_A e (h5 q hq), by rw [e2]; exact h6⟩
theorem I_M_ext {A I A' I' : Nat → Nat → Int32} (e1 : A' 64 = A 64) (e2 : A' 45 = A 45) (e3 : I' 46 30 = I 46 30) (e4 : I' 46 31 = I 46 31) (e5 : I' 0 14 = I 0 14) (e6 : I' 0 15 = I 0 15) (h : I_M A I) : I_M A' I' := by
  unfold I_M at h ⊢
  rw [e1, e2, e3, e4, e5, e6]
  exact h
theorem I_S_ext {A I A' I' : Nat → Nat → Int32} (e : ∀ i, i ∈ [38, 39, 40, 71, 72, 73] → A' i = A i) (e1 : I' 46 46 = I 46 46) (e2 : I' 34 9 = I 34 9) (h : I_S A I) : I_S A' I' := by
  unfold I_S at h ⊢
  rw [e1, e2, e 38 (by decide), e 39 (by decide), e 40 (by decide), e 71 (by decide), e 72 (by decide), e 73 (by decide)]
  exact h
theorem AKT_ext {ms cs : Nat} {A I A' I' : Nat → Nat → Int32} (e : ∀ i, i ∈ [60, 61, 62, 26, 66] → A' i = A i) (e1 : I' 25 1 = I 25 1) (e2 : I' 46 35 = I 46 35) (e3 : I' 25 2 = I 25 2) (h : AKT ms cs A I) : AKT ms cs A' I' := by
  unfold AKT at h ⊢
  rw [e1, e2, e3, e 60 (by decide), e 61 (by decide), e 62 (by decide), e 26 (by decide), e 66 (by decide)]
  exact h
theorem INV_ext {A I A' I' : Nat → Nat → Int32} (e : ∀ i, i ∈ iA → A' i = A i) (e2 : ∀ p, p ∈ iI → I' p.1 p.2 = I p.1 p.2) (h : INV A I) : INV A' I' := by
  obtain ⟨h1, h2, h3, h4, h5⟩ := h
  have q : ∀ i k, (i, k) ∈ iI → I' i k = I i k := fun i k hk => e2 (i, k) hk
  refine ⟨I_T_ext (e 47 (by decide)) (e 2 (by decide)) (q 46 2 (by decide)) (q 1 1 (by decide)) h1, I_L_ext (fun i hi => e i ((by decide : ∀ i, i ∈ [12, 13, 48, 49, 51, 52, 53, 54] → i ∈ iA) i hi)) (q 46 29 (by decide)) (q 11 5 (by decide)) (q 46 13 (by decide)) (q 11 4 (by decide)) h2, I_M_ext (e 64 (by decide)) (e 45 (by decide)) (q 46 30 (by decide)) (q 46 31 (by decide)) (q 0 14 (by decide)) (q 0 15 (by decide)) h3, I_S_ext (fun i hi => e i ((by decide : ∀ i, i ∈ [38, 39, 40, 71, 72, 73] → i ∈ iA) i hi)) (q 46 46 (by decide)) (q 34 9 (by decide)) h4, ?_⟩
  rw [q 0 12 (by decide)]
  rcases h5 with ⟨h5, h6⟩ | ⟨h5, ms, cs, h6⟩
  · refine Or.inl ⟨h5, ?_⟩
    unfold NPN at h6 ⊢
    rw [q 46 25 (by decide), q 46 26 (by decide), e 20 (by decide), e 63 (by decide), e 17 (by decide), q 25 1 (by decide), q 46 35 (by decide), q 25 2 (by decide), q 46 50 (by decide), q 0 13 (by decide), q 34 9 (by decide)]
    exact h6
  · refine Or.inr ⟨h5, ms, cs, ?_⟩
    obtain ⟨k1, k2, k3, k4, k5⟩ := h6
    refine ⟨by rw [q 46 25 (by decide), q 46 26 (by decide)]; exact k1, by rw [e 60 (by decide), e 61 (by decide), e 62 (by decide), e 20 (by decide), e 63 (by decide)]; exact k2, by rw [e 60 (by decide), e 61 (by decide), e 62 (by decide), e 17 (by decide)]; exact k3, AKT_ext (fun i hi => e i ((by decide : ∀ i, i ∈ [60, 61, 62, 26, 66] → i ∈ iA) i hi)) (q 25 1 (by decide)) (q 46 35 (by decide)) (q 25 2 (by decide)) k4, ?_⟩
    rw [q 46 50 (by decide), q 0 13 (by decide), e 60 (by decide), e 61 (by decide), e 62 (by decide), e 23 (by decide), e 76 (by decide)]
    exact k5
theorem INV_sm {A I A' I' : Nat → Nat → Int32} {L L' : Nat → Nat → Int64} (h : sm A L I A' L' I') (k : INV A I) : INV A' I' :=
  INV_ext (fun i hi => h.1 i ((by decide : ∀ i, i ∈ iA → nsc i = true) i hi)) (fun p hp2 => h.2.1 p.1 p.2 ((by decide : ∀ p, p ∈ iI → nsi p.1 p.2 = true) p hp2)) k
/-- all but the reference's cells of one call's own -/
def nsM (i : Nat) : Bool := !([55, 56, 65, 67, 68, 69, 70, 74].contains i)
def niM (i k : Nat) : Bool := !(i == 46 && (k == 33 || k == 39 || k == 40))
def smM (A I A' I' : Nat → Nat → Int32) : Prop := (∀ i, nsM i = true → A' i = A i) ∧ ∀ i k, niM i k = true → I' i k = I i k
theorem smM_rf {A I : Nat → Nat → Int32} : smM A I A I := ⟨fun _ _ => rfl, fun _ _ _ => rfl⟩
theorem smM_tr {A I A1 I1 A2 I2 : Nat → Nat → Int32} (h : smM A I A1 I1) (k : smM A1 I1 A2 I2) : smM A I A2 I2 := ⟨fun i z => (k.1 i z).trans (h.1 i z), fun i l z => (k.2 i l z).trans (h.2 i l z)⟩
theorem INV_smM {A I A' I' : Nat → Nat → Int32} (h : smM A I A' I') (k : INV A I) : INV A' I' :=
  INV_ext (fun i hi => h.1 i ((by decide : ∀ i, i ∈ iA → nsM i = true) i hi)) (fun p hp2 => h.2 p.1 p.2 ((by decide : ∀ p, p ∈ iI → niM p.1 p.2 = true) p hp2)) k
theorem INV_LWA {A I : Nat → Nat → Int32} (h : INV A I) : LWA A I := by
  obtain ⟨-, ⟨h1, h2, nl, h3, h4, h5, h6⟩, -⟩ := h
  refine ⟨h1, ?_⟩
  rcases h6 with z | ⟨q, q1, q2⟩
  · exact Or.inl z
  · exact Or.inr ⟨q, by omega, q2, h5 q q1⟩
/-- a reference's question: what it answers, and that nothing of account changes -/
def QM (A : Nat → Nat → Int32) (I : Nat → Nat → Int32) (X : Nat → Int64) (v : Int32) : Option Value → m_H → Prop := fun r_ H_ => r_ = some (.int v) ∧ ∃ A2 L2 I2, smM A I A2 I2 ∧ H_ = hp A2 L2 I2 X
theorem in_0 {v a b : Int32} : inZ v a b = 0 ↔ (v < a ∨ b < v) := by
  unfold inZ
  by_cases h : v < a
  · rw [if_pos h]; exact ⟨fun _ => Or.inl h, fun _ => rfl⟩
  · rw [if_neg h]
    by_cases h2 : b < v
    · rw [if_pos h2]; exact ⟨fun _ => Or.inr h2, fun _ => rfl⟩
    · rw [if_neg h2]; exact ⟨fun z => absurd z (by decide), fun z => z.elim (fun w => absurd w h) (fun w => absurd w h2)⟩
theorem in_1 {v : Int32} {b : Nat} (hb : b < 2 ^ 31) (h : ¬ inZ v 0 (nI b) = 0) : ∃ j, j ≤ b ∧ v = nI j := by
  have h2 : ¬ (v < 0 ∨ nI b < v) := fun z => h (in_0.mpr z)
  exact nI_of2 (nI_toInt hb) (fun z => h2 (Or.inl z)) (Int32.not_lt.mp (fun z => h2 (Or.inr z)))
/-- is it a month, is it a crop -/
theorem has_M {ms cs : Nat} {A I : Nat → Nat → Int32} (h : PLN ms cs A I) (x : Int32) : hasM (A 20) x = inZ x 0 (I 46 25 - 1) := by
  have k : A 20 9 = nI ms := h.2.1.1.1.2.2.2.2.1
  have h2 : 2 ≤ ms := h.2.1.1.1.1
  have h8 : ms ≤ 8 := h.2.1.1.1.2.1
  rw [h.1.1, show (1 : Int32) = nI 1 from rfl, pk_sub (by omega)]
  unfold hasM inZ
  rw [g143_9, k]
  by_cases hx : x < 0
  · rw [if_pos hx, if_pos hx]
  · rw [if_neg hx, if_neg hx]
    obtain ⟨j, hj, rfl⟩ := nI_of hx
    by_cases hj2 : ms ≤ j
    · rw [if_pos (nI_le hj2 hj), if_pos (nI_lt (by omega) hj)]
    · rw [if_neg (nI_ge (by omega) (by omega)), if_neg (nI_nlt (by omega) (by omega))]
theorem has_C {ms cs : Nat} {A I : Nat → Nat → Int32} (h : PLN ms cs A I) (x : Int32) : hasC (A 20) x = inZ x 0 (I 46 26 - 1) := by
  have k : A 20 10 = nI cs := h.2.1.1.1.2.2.2.2.2
  have h2 : 1 ≤ cs := h.2.1.1.1.2.2.1
  have h8 : cs ≤ 5 := h.2.1.1.1.2.2.2.1
  rw [h.1.2, show (1 : Int32) = nI 1 from rfl, pk_sub (by omega)]
  unfold hasC inZ
  rw [g143_10, k]
  by_cases hx : x < 0
  · rw [if_pos hx, if_pos hx]
  · rw [if_neg hx, if_neg hx]
    obtain ⟨j, hj, rfl⟩ := nI_of hx
    by_cases hj2 : cs ≤ j
    · rw [if_pos (nI_le hj2 hj), if_pos (nI_lt (by omega) hj)]
    · rw [if_neg (nI_ge (by omega) (by omega)), if_neg (nI_nlt (by omega) (by omega))]
theorem hasN_M {A I : Nat → Nat → Int32} (h : NPN A I) (x : Int32) : hasM (A 20) x = 0 ∧ inZ x 0 (I 46 25 - 1) = 0 := by
  rw [h.1.1, h.2.1]
  unfold hasM inZ
  by_cases hx : x < 0
  · rw [if_pos hx, if_pos hx]; exact ⟨rfl, rfl⟩
  · rw [if_neg hx, if_neg hx]
    obtain ⟨j, hj, rfl⟩ := nI_of hx
    exact ⟨if_pos (by rw [g143_9]; exact nI_pos' hj), if_pos (Int32.lt_of_lt_of_le (by decide) (nI_pos' hj))⟩
theorem hasN_C {A I : Nat → Nat → Int32} (h : NPN A I) (x : Int32) : hasC (A 20) x = 0 ∧ inZ x 0 (I 46 26 - 1) = 0 := by
  rw [h.1.2, h.2.1]
  unfold hasC inZ
  by_cases hx : x < 0
  · rw [if_pos hx, if_pos hx]; exact ⟨rfl, rfl⟩
  · rw [if_neg hx, if_neg hx]
    obtain ⟨j, hj, rfl⟩ := nI_of hx
    exact ⟨if_pos (by rw [g143_10]; exact nI_pos' hj), if_pos (Int32.lt_of_lt_of_le (by decide) (nI_pos' hj))⟩
theorem INV_M {A I : Nat → Nat → Int32} (h : INV A I) (x : Int32) : hasM (A 20) x = inZ x 0 (I 46 25 - 1) := by
  rcases h.2.2.2.2 with ⟨h5, h6⟩ | ⟨h5, ms, cs, h6⟩
  · rw [(hasN_M h6 x).1, (hasN_M h6 x).2]
  · exact has_M h6 x
theorem INV_C {A I : Nat → Nat → Int32} (h : INV A I) (x : Int32) : hasC (A 20) x = inZ x 0 (I 46 26 - 1) := by
  rcases h.2.2.2.2 with ⟨h5, h6⟩ | ⟨h5, ms, cs, h6⟩
  · rw [(hasN_C h6 x).1, (hasN_C h6 x).2]
  · exact has_C h6 x
/-- no plain: no months -/
theorem INV_0 {A I : Nat → Nat → Int32} (h : INV A I) : (I 46 25 = 0 ↔ I 0 12 = 0) := by
  rcases h.2.2.2.2 with ⟨h5, h6⟩ | ⟨h5, ms, cs, h6⟩
  · rw [h5, h6.1.1]
  · rw [h5, h6.1.1]
    have h2 : 2 ≤ ms := h6.2.1.1.1.1
    have h8 : ms ≤ 8 := h6.2.1.1.1.2.1
    exact ⟨fun z => absurd ((nI_eq (by omega) (by decide)).mp (z.trans nI_0.symm)) (by omega), fun z => absurd z (by decide)⟩
theorem INV_P {A I : Nat → Nat → Int32} (h : INV A I) (hp2 : ¬ I 0 12 = 0) : ∃ ms cs, PLN ms cs A I := by
  rcases h.2.2.2.2 with ⟨h5, h6⟩ | ⟨h5, h6⟩
  · exact absurd h5 hp2
  · exact h6
theorem INV_Pm {A I : Nat → Nat → Int32} (h : INV A I) {x : Int32} (hx : ¬ inZ x 0 (I 46 25 - 1) = 0) : ∃ ms cs m, PLN ms cs A I ∧ x = nI m ∧ m < ms ∧ m < 8 := by
  rcases h.2.2.2.2 with ⟨h5, h6⟩ | ⟨h5, ms, cs, h6⟩
  · exact absurd (hasN_M h6 x).2 hx
  · have h2 : 2 ≤ ms := h6.2.1.1.1.1
    have h8 : ms ≤ 8 := h6.2.1.1.1.2.1
    rw [h6.1.1, show (1 : Int32) = nI 1 from rfl, pk_sub (by omega)] at hx
    obtain ⟨j, j1, j2⟩ := in_1 (by omega) hx
    exact ⟨ms, cs, j, h6, j2, by omega, by omega⟩
theorem INV_Pc {A I : Nat → Nat → Int32} (h : INV A I) {x : Int32} (hx : ¬ inZ x 0 (I 46 26 - 1) = 0) : ∃ ms cs m, PLN ms cs A I ∧ x = nI m ∧ m < cs ∧ m < 5 := by
  rcases h.2.2.2.2 with ⟨h5, h6⟩ | ⟨h5, ms, cs, h6⟩
  · exact absurd (hasN_C h6 x).2 hx
  · have h2 : 1 ≤ cs := h6.2.1.1.1.2.2.1
    have h8 : cs ≤ 5 := h6.2.1.1.1.2.2.2.1
    rw [h6.1.2, show (1 : Int32) = nI 1 from rfl, pk_sub (by omega)] at hx
    obtain ⟨j, j1, j2⟩ := in_1 (by omega) hx
    exact ⟨ms, cs, j, h6, j2, by omega, by omega⟩