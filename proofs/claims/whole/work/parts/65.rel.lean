/-! THE RELATION: a season's row f and the reference's row N -/
def bd (c : Nat) (x : Int32) : Prop := ∃ k : Nat, k ≤ c ∧ x = nI k
def RMo (M f N : ROW) (m : Nat) : Prop := (f (13 + m * 5) = M (5 * m) ∧ ∃ l, 1 ≤ l ∧ l ≤ 9 ∧ M (5 * m) = nI l) ∧ (f (13 + m * 5 + 1) = N m ∧ bd 9 (N m)) ∧ (f (13 + m * 5 + 2) = N (8 + m) ∧ bd 9 (N (8 + m))) ∧ (f (13 + m * 5 + 3) = N (16 + m) ∧ bd 9 (N (16 + m))) ∧ (f (13 + m * 5 + 4) = M (5 * m + 4) ∧ ∃ p, 1 ≤ p ∧ p ≤ 9 ∧ M (5 * m + 4) = nI p)
def RCr (C f N : ROW) (c : Nat) : Prop := (f (53 + c * 6) = C (3 * c) ∧ bd 99 (C (3 * c))) ∧ (f (53 + c * 6 + 1) = C (3 * c + 1) ∧ bd 99 (C (3 * c + 1))) ∧ (f (53 + c * 6 + 2) = C (3 * c + 2) ∧ bd 99 (C (3 * c + 2))) ∧ (f (53 + c * 6 + 3) = N (24 + c) ∧ bd 999 (N (24 + c))) ∧ (f (53 + c * 6 + 4) = N (29 + c) ∧ bd 999 (N (29 + c)))
def RRi (cs : Nat) (f N : ROW) : Prop := ∃ r, r < 2 ^ cs ∧ N 34 = nI r ∧ ∀ c, c < cs → f (53 + c * 6 + 5) = nI (r / 2 ^ c % 2)
def RSc (R f N : ROW) : Prop := (f 0 = N 35 ∧ bd 30 (N 35)) ∧ (f 1 = N 36 ∧ bd 300 (N 36)) ∧ (f 2 = R 2 ∧ bd 9 (R 2)) ∧ (f 3 = N 37 ∧ bd 999 (N 37)) ∧ (f 4 = N 38 ∧ bd 1 (N 38)) ∧ (f 7 = N 41 ∧ bd 2519 (N 41)) ∧ f 8 = N 42 ∧ bd 59 (f 12)
def RDa (ms : Nat) (f N : ROW) : Prop := ∃ m d l, f 5 = nI m ∧ N 39 = nI m ∧ m < ms ∧ f 6 = nI d ∧ N 40 = nI d ∧ f (13 + m * 5) = nI l ∧ d < l ∧ l ≤ 9
def RJ (ms cs : Nat) (R M C f N : ROW) : Prop := (2 ≤ ms ∧ ms ≤ 8 ∧ 1 ≤ cs ∧ cs ≤ 5 ∧ f 9 = nI ms ∧ f 10 = nI cs) ∧ RSc R f N ∧ RDa ms f N ∧ (∀ m, m < ms → RMo M f N m) ∧ (∀ c, c < cs → RCr C f N c) ∧ RRi cs f N
theorem bd_k {c k : Nat} (h : k ≤ c) : bd c (nI k) := ⟨k, h, rfl⟩
theorem bd_up {c d : Nat} {x : Int32} (h : bd c x) (hd : c ≤ d) : bd d x := by
  obtain ⟨k, hk, e⟩ := h
  exact ⟨k, Nat.le_trans hk hd, e⟩
theorem mn_n {a b : Nat} (ha : a < 2 ^ 31) (hb : b < 2 ^ 31) : mn (nI a) (nI b) = nI (min a b) := by
  unfold mn
  by_cases h : b < a
  · rw [if_pos ((nI_ltI hb ha).mpr h), Nat.min_eq_right (by omega)]
  · rw [if_neg (fun z => h ((nI_ltI hb ha).mp z)), Nat.min_eq_left (by omega)]
theorem mx_n {a b : Nat} (ha : a < 2 ^ 31) (hb : b < 2 ^ 31) : mx (nI a) (nI b) = nI (max a b) := by
  unfold mx
  by_cases h : a < b
  · rw [if_pos ((nI_ltI ha hb).mpr h), Nat.max_eq_right (by omega)]
  · rw [if_neg (fun z => h ((nI_ltI ha hb).mp z)), Nat.max_eq_left (by omega)]
theorem rm_n {a d : Nat} (ha : a < 2 ^ 31) (h0 : 0 < d) (hd : d < 2 ^ 31) : rm (nI a) (nI d) = nI (a % d) := pk_rem ha h0 hd
theorem p143_0 {f : ROW} {v : Int32} : pt 143 f 0 v = upd f 0 v := pt_nI (k := 0) (by decide) (by decide)
theorem g143_0 {f : ROW} : gt 143 f 0 = f 0 := gt_nI (k := 0) (by decide) (by decide)
theorem p143_1 {f : ROW} {v : Int32} : pt 143 f 1 v = upd f 1 v := pt_nI (k := 1) (by decide) (by decide)
theorem g143_1 {f : ROW} : gt 143 f 1 = f 1 := gt_nI (k := 1) (by decide) (by decide)
theorem p143_2 {f : ROW} {v : Int32} : pt 143 f 2 v = upd f 2 v := pt_nI (k := 2) (by decide) (by decide)
theorem g143_2 {f : ROW} : gt 143 f 2 = f 2 := gt_nI (k := 2) (by decide) (by decide)
theorem p143_3 {f : ROW} {v : Int32} : pt 143 f 3 v = upd f 3 v := pt_nI (k := 3) (by decide) (by decide)
theorem g143_3 {f : ROW} : gt 143 f 3 = f 3 := gt_nI (k := 3) (by decide) (by decide)
theorem p143_4 {f : ROW} {v : Int32} : pt 143 f 4 v = upd f 4 v := pt_nI (k := 4) (by decide) (by decide)
theorem g143_4 {f : ROW} : gt 143 f 4 = f 4 := gt_nI (k := 4) (by decide) (by decide)
theorem p143_5 {f : ROW} {v : Int32} : pt 143 f 5 v = upd f 5 v := pt_nI (k := 5) (by decide) (by decide)
theorem g143_5 {f : ROW} : gt 143 f 5 = f 5 := gt_nI (k := 5) (by decide) (by decide)
theorem p143_6 {f : ROW} {v : Int32} : pt 143 f 6 v = upd f 6 v := pt_nI (k := 6) (by decide) (by decide)
theorem g143_6 {f : ROW} : gt 143 f 6 = f 6 := gt_nI (k := 6) (by decide) (by decide)
theorem p143_7 {f : ROW} {v : Int32} : pt 143 f 7 v = upd f 7 v := pt_nI (k := 7) (by decide) (by decide)
theorem g143_7 {f : ROW} : gt 143 f 7 = f 7 := gt_nI (k := 7) (by decide) (by decide)
theorem p143_8 {f : ROW} {v : Int32} : pt 143 f 8 v = upd f 8 v := pt_nI (k := 8) (by decide) (by decide)
theorem g143_8 {f : ROW} : gt 143 f 8 = f 8 := gt_nI (k := 8) (by decide) (by decide)
theorem p143_9 {f : ROW} {v : Int32} : pt 143 f 9 v = upd f 9 v := pt_nI (k := 9) (by decide) (by decide)
theorem g143_9 {f : ROW} : gt 143 f 9 = f 9 := gt_nI (k := 9) (by decide) (by decide)
theorem p143_10 {f : ROW} {v : Int32} : pt 143 f 10 v = upd f 10 v := pt_nI (k := 10) (by decide) (by decide)
theorem g143_10 {f : ROW} : gt 143 f 10 = f 10 := gt_nI (k := 10) (by decide) (by decide)
theorem p143_11 {f : ROW} {v : Int32} : pt 143 f 11 v = upd f 11 v := pt_nI (k := 11) (by decide) (by decide)
theorem g143_11 {f : ROW} : gt 143 f 11 = f 11 := gt_nI (k := 11) (by decide) (by decide)
theorem p143_12 {f : ROW} {v : Int32} : pt 143 f 12 v = upd f 12 v := pt_nI (k := 12) (by decide) (by decide)
theorem g143_12 {f : ROW} : gt 143 f 12 = f 12 := gt_nI (k := 12) (by decide) (by decide)
theorem oM_0 {f : ROW} {m : Nat} (h : m < 8) : oM f (nI m) 0 = f (13 + m * 5) := by
  unfold oM
  rw [show (13 : Int32) + nI m * 5 + 0 = nI (13 + m * 5 + 0) from by rw [show (13 : Int32) = nI 13 from rfl, show (5 : Int32) = nI 5 from rfl, show (0 : Int32) = nI 0 from rfl, pk_mul, nI_add, nI_add]]
  exact gt_nI (by omega) (by decide)
theorem pM_0 {f : ROW} {m : Nat} {v : Int32} (h : m < 8) : pM f (nI m) 0 v = upd f (13 + m * 5) v := by
  unfold pM
  rw [show (13 : Int32) + nI m * 5 + 0 = nI (13 + m * 5 + 0) from by rw [show (13 : Int32) = nI 13 from rfl, show (5 : Int32) = nI 5 from rfl, show (0 : Int32) = nI 0 from rfl, pk_mul, nI_add, nI_add]]
  exact pt_nI (by omega) (by decide)
theorem oM_1 {f : ROW} {m : Nat} (h : m < 8) : oM f (nI m) 1 = f (13 + m * 5 + 1) := by
  unfold oM
  rw [show (13 : Int32) + nI m * 5 + 1 = nI (13 + m * 5 + 1) from by rw [show (13 : Int32) = nI 13 from rfl, show (5 : Int32) = nI 5 from rfl, show (1 : Int32) = nI 1 from rfl, pk_mul, nI_add, nI_add]]
  exact gt_nI (by omega) (by decide)
theorem pM_1 {f : ROW} {m : Nat} {v : Int32} (h : m < 8) : pM f (nI m) 1 v = upd f (13 + m * 5 + 1) v := by
  unfold pM
  rw [show (13 : Int32) + nI m * 5 + 1 = nI (13 + m * 5 + 1) from by rw [show (13 : Int32) = nI 13 from rfl, show (5 : Int32) = nI 5 from rfl, show (1 : Int32) = nI 1 from rfl, pk_mul, nI_add, nI_add]]
  exact pt_nI (by omega) (by decide)
theorem oM_2 {f : ROW} {m : Nat} (h : m < 8) : oM f (nI m) 2 = f (13 + m * 5 + 2) := by
  unfold oM
  rw [show (13 : Int32) + nI m * 5 + 2 = nI (13 + m * 5 + 2) from by rw [show (13 : Int32) = nI 13 from rfl, show (5 : Int32) = nI 5 from rfl, show (2 : Int32) = nI 2 from rfl, pk_mul, nI_add, nI_add]]
  exact gt_nI (by omega) (by decide)
theorem pM_2 {f : ROW} {m : Nat} {v : Int32} (h : m < 8) : pM f (nI m) 2 v = upd f (13 + m * 5 + 2) v := by
  unfold pM
  rw [show (13 : Int32) + nI m * 5 + 2 = nI (13 + m * 5 + 2) from by rw [show (13 : Int32) = nI 13 from rfl, show (5 : Int32) = nI 5 from rfl, show (2 : Int32) = nI 2 from rfl, pk_mul, nI_add, nI_add]]
  exact pt_nI (by omega) (by decide)
theorem oM_3 {f : ROW} {m : Nat} (h : m < 8) : oM f (nI m) 3 = f (13 + m * 5 + 3) := by
  unfold oM
  rw [show (13 : Int32) + nI m * 5 + 3 = nI (13 + m * 5 + 3) from by rw [show (13 : Int32) = nI 13 from rfl, show (5 : Int32) = nI 5 from rfl, show (3 : Int32) = nI 3 from rfl, pk_mul, nI_add, nI_add]]
  exact gt_nI (by omega) (by decide)
theorem pM_3 {f : ROW} {m : Nat} {v : Int32} (h : m < 8) : pM f (nI m) 3 v = upd f (13 + m * 5 + 3) v := by
  unfold pM
  rw [show (13 : Int32) + nI m * 5 + 3 = nI (13 + m * 5 + 3) from by rw [show (13 : Int32) = nI 13 from rfl, show (5 : Int32) = nI 5 from rfl, show (3 : Int32) = nI 3 from rfl, pk_mul, nI_add, nI_add]]
  exact pt_nI (by omega) (by decide)
theorem oM_4 {f : ROW} {m : Nat} (h : m < 8) : oM f (nI m) 4 = f (13 + m * 5 + 4) := by
  unfold oM
  rw [show (13 : Int32) + nI m * 5 + 4 = nI (13 + m * 5 + 4) from by rw [show (13 : Int32) = nI 13 from rfl, show (5 : Int32) = nI 5 from rfl, show (4 : Int32) = nI 4 from rfl, pk_mul, nI_add, nI_add]]
  exact gt_nI (by omega) (by decide)
theorem pM_4 {f : ROW} {m : Nat} {v : Int32} (h : m < 8) : pM f (nI m) 4 v = upd f (13 + m * 5 + 4) v := by
  unfold pM
  rw [show (13 : Int32) + nI m * 5 + 4 = nI (13 + m * 5 + 4) from by rw [show (13 : Int32) = nI 13 from rfl, show (5 : Int32) = nI 5 from rfl, show (4 : Int32) = nI 4 from rfl, pk_mul, nI_add, nI_add]]
  exact pt_nI (by omega) (by decide)
theorem oC_0 {f : ROW} {c : Nat} (h : c < 5) : oC f (nI c) 0 = f (53 + c * 6) := by
  unfold oC
  rw [show (53 : Int32) + nI c * 6 + 0 = nI (53 + c * 6 + 0) from by rw [show (53 : Int32) = nI 53 from rfl, show (6 : Int32) = nI 6 from rfl, show (0 : Int32) = nI 0 from rfl, pk_mul, nI_add, nI_add]]
  exact gt_nI (by omega) (by decide)
theorem pC_0 {f : ROW} {c : Nat} {v : Int32} (h : c < 5) : pC f (nI c) 0 v = upd f (53 + c * 6) v := by
  unfold pC
  rw [show (53 : Int32) + nI c * 6 + 0 = nI (53 + c * 6 + 0) from by rw [show (53 : Int32) = nI 53 from rfl, show (6 : Int32) = nI 6 from rfl, show (0 : Int32) = nI 0 from rfl, pk_mul, nI_add, nI_add]]
  exact pt_nI (by omega) (by decide)
theorem oC_1 {f : ROW} {c : Nat} (h : c < 5) : oC f (nI c) 1 = f (53 + c * 6 + 1) := by
  unfold oC
  rw [show (53 : Int32) + nI c * 6 + 1 = nI (53 + c * 6 + 1) from by rw [show (53 : Int32) = nI 53 from rfl, show (6 : Int32) = nI 6 from rfl, show (1 : Int32) = nI 1 from rfl, pk_mul, nI_add, nI_add]]
  exact gt_nI (by omega) (by decide)
theorem pC_1 {f : ROW} {c : Nat} {v : Int32} (h : c < 5) : pC f (nI c) 1 v = upd f (53 + c * 6 + 1) v := by
  unfold pC
  rw [show (53 : Int32) + nI c * 6 + 1 = nI (53 + c * 6 + 1) from by rw [show (53 : Int32) = nI 53 from rfl, show (6 : Int32) = nI 6 from rfl, show (1 : Int32) = nI 1 from rfl, pk_mul, nI_add, nI_add]]
  exact pt_nI (by omega) (by decide)
theorem oC_2 {f : ROW} {c : Nat} (h : c < 5) : oC f (nI c) 2 = f (53 + c * 6 + 2) := by
  unfold oC
  rw [show (53 : Int32) + nI c * 6 + 2 = nI (53 + c * 6 + 2) from by rw [show (53 : Int32) = nI 53 from rfl, show (6 : Int32) = nI 6 from rfl, show (2 : Int32) = nI 2 from rfl, pk_mul, nI_add, nI_add]]
  exact gt_nI (by omega) (by decide)
theorem pC_2 {f : ROW} {c : Nat} {v : Int32} (h : c < 5) : pC f (nI c) 2 v = upd f (53 + c * 6 + 2) v := by
  unfold pC
  rw [show (53 : Int32) + nI c * 6 + 2 = nI (53 + c * 6 + 2) from by rw [show (53 : Int32) = nI 53 from rfl, show (6 : Int32) = nI 6 from rfl, show (2 : Int32) = nI 2 from rfl, pk_mul, nI_add, nI_add]]
  exact pt_nI (by omega) (by decide)
theorem oC_3 {f : ROW} {c : Nat} (h : c < 5) : oC f (nI c) 3 = f (53 + c * 6 + 3) := by
  unfold oC
  rw [show (53 : Int32) + nI c * 6 + 3 = nI (53 + c * 6 + 3) from by rw [show (53 : Int32) = nI 53 from rfl, show (6 : Int32) = nI 6 from rfl, show (3 : Int32) = nI 3 from rfl, pk_mul, nI_add, nI_add]]
  exact gt_nI (by omega) (by decide)
theorem pC_3 {f : ROW} {c : Nat} {v : Int32} (h : c < 5) : pC f (nI c) 3 v = upd f (53 + c * 6 + 3) v := by
  unfold pC
  rw [show (53 : Int32) + nI c * 6 + 3 = nI (53 + c * 6 + 3) from by rw [show (53 : Int32) = nI 53 from rfl, show (6 : Int32) = nI 6 from rfl, show (3 : Int32) = nI 3 from rfl, pk_mul, nI_add, nI_add]]
  exact pt_nI (by omega) (by decide)
theorem oC_4 {f : ROW} {c : Nat} (h : c < 5) : oC f (nI c) 4 = f (53 + c * 6 + 4) := by
  unfold oC
  rw [show (53 : Int32) + nI c * 6 + 4 = nI (53 + c * 6 + 4) from by rw [show (53 : Int32) = nI 53 from rfl, show (6 : Int32) = nI 6 from rfl, show (4 : Int32) = nI 4 from rfl, pk_mul, nI_add, nI_add]]
  exact gt_nI (by omega) (by decide)
theorem pC_4 {f : ROW} {c : Nat} {v : Int32} (h : c < 5) : pC f (nI c) 4 v = upd f (53 + c * 6 + 4) v := by
  unfold pC
  rw [show (53 : Int32) + nI c * 6 + 4 = nI (53 + c * 6 + 4) from by rw [show (53 : Int32) = nI 53 from rfl, show (6 : Int32) = nI 6 from rfl, show (4 : Int32) = nI 4 from rfl, pk_mul, nI_add, nI_add]]
  exact pt_nI (by omega) (by decide)
theorem oC_5 {f : ROW} {c : Nat} (h : c < 5) : oC f (nI c) 5 = f (53 + c * 6 + 5) := by
  unfold oC
  rw [show (53 : Int32) + nI c * 6 + 5 = nI (53 + c * 6 + 5) from by rw [show (53 : Int32) = nI 53 from rfl, show (6 : Int32) = nI 6 from rfl, show (5 : Int32) = nI 5 from rfl, pk_mul, nI_add, nI_add]]
  exact gt_nI (by omega) (by decide)
theorem pC_5 {f : ROW} {c : Nat} {v : Int32} (h : c < 5) : pC f (nI c) 5 v = upd f (53 + c * 6 + 5) v := by
  unfold pC
  rw [show (53 : Int32) + nI c * 6 + 5 = nI (53 + c * 6 + 5) from by rw [show (53 : Int32) = nI 53 from rfl, show (6 : Int32) = nI 6 from rfl, show (5 : Int32) = nI 5 from rfl, pk_mul, nI_add, nI_add]]
  exact pt_nI (by omega) (by decide)
section RD1
variable {ms cs : Nat} {R M C f N : ROW}
theorem R_move (h : RJ ms cs R M C f N) {m d l : Nat} (hm : m < ms) (hl : f (13 + m * 5) = nI l) (hd : d < l) (hl9 : l ≤ 9) {f' N' : ROW} (e5 : f' 5 = nI m) (e6 : f' 6 = nI d) (e7 : f' 7 = rm (f 7 + 1) 2520) (ef : ∀ j, j ≠ 5 → j ≠ 6 → j ≠ 7 → f' j = f j) (n39 : N' 39 = nI m) (n40 : N' 40 = nI d) (n41 : N' 41 = rm (N 41 + 1) 2520) (en : ∀ j, j ≠ 39 → j ≠ 40 → j ≠ 41 → N' j = N j) : RJ ms cs R M C f' N' := by
  obtain ⟨⟨a1, a2, a3, a4, a5, a6⟩, ⟨s0, s1, s2, s3, s4, s7, s8, s12⟩, -, hM, hC, r, hr, hr2, hr3⟩ := h
  refine ⟨⟨a1, a2, a3, a4, ?_, ?_⟩, ⟨?_, ?_, ?_, ?_, ?_, ?_, ?_, ?_⟩, ⟨m, d, l, e5, n39, hm, e6, n40, ?_, hd, hl9⟩, fun k hk => ?_, fun k hk => ?_, r, hr, ?_, fun c hc => ?_⟩
  · rw [ef 9 (by decide) (by decide) (by decide)]; exact a5
  · rw [ef 10 (by decide) (by decide) (by decide)]; exact a6
  · simp (disch := omega) only [ef, en]; exact s0
  · simp (disch := omega) only [ef, en]; exact s1
  · simp (disch := omega) only [ef, en]; exact s2
  · simp (disch := omega) only [ef, en]; exact s3
  · simp (disch := omega) only [ef, en]; exact s4
  · rw [e7, n41, s7.1]
    obtain ⟨k, hk, e⟩ := s7.2
    refine ⟨rfl, ?_⟩
    rw [e, nI_1, show (2520 : Int32) = nI 2520 from rfl, rm_n (by omega) (by decide) (by decide)]
    exact bd_k (by omega)
  · simp (disch := omega) only [ef, en]; exact s8
  · simp (disch := omega) only [ef, en]; exact s12
  · simp (disch := omega) only [ef, en]; exact hl
  · have q := hM k hk
    unfold RMo at q ⊢
    simp (disch := omega) only [ef, en]
    exact q
  · have q := hC k hk
    unfold RCr at q ⊢
    simp (disch := omega) only [ef, en]
    exact q
  · simp (disch := omega) only [ef, en]; exact hr2
  · simp (disch := omega) only [ef, en]; exact hr3 c hc
theorem td_F : tdF f = upd (upd (upd f 5 (tdM f)) 6 (tdD f)) 7 (rm (f 7 + 1) 2520) := by
  unfold tdF
  simp (disch := omega) only [p143_5, p143_6, p143_7, g143_7, ud_ne]
theorem R_day {m : Nat} (h : RJ ms cs R M C f N) (hm : N 39 = nI m) (hmq : m < ms) : RJ ms cs R M C (tdF f) (dyN N M m ms).1 ∧ (dyN N M m ms).2 < ms ∧ tdM f = nI (dyN N M m ms).2 ∧ (dyN N M m ms).1 39 = nI (dyN N M m ms).2 := by
  have h0 := h
  obtain ⟨⟨a1, a2, a3, a4, a5, a6⟩, ⟨s0, s1, s2, s3, s4, s7, s8, s12⟩, ⟨m1, d, l, d1, d2, d3, d4, d5, d6, d7, d8⟩, hM, hC, hRi⟩ := h
  have hmm : m1 = m := (nI_eq (by omega) (by omega)).mp (d2.symm.trans hm)
  subst hmm
  have eL : M (5 * m1) = nI l := (hM m1 hmq).1.1.symm.trans d6
  have eO : oM f (gt 143 f 5) 0 = nI l := by rw [g143_5, d1, oM_0 (by omega)]; exact d6
  obtain ⟨k, hk, e4⟩ := s4.2
  -- what is enough
  have key : ∀ m' d' l', m' < ms → f (13 + m' * 5) = nI l' → d' < l' → l' ≤ 9 → tdM f = nI m' → tdD f = nI d' → (dyN N M m1 ms).2 = m' → (dyN N M m1 ms).1 39 = nI m' → (dyN N M m1 ms).1 40 = nI d' → (dyN N M m1 ms).1 41 = rm (N 41 + 1) 2520 → (∀ j, j ≠ 39 → j ≠ 40 → j ≠ 41 → (dyN N M m1 ms).1 j = N j) → RJ ms cs R M C (tdF f) (dyN N M m1 ms).1 ∧ (dyN N M m1 ms).2 < ms ∧ tdM f = nI (dyN N M m1 ms).2 ∧ (dyN N M m1 ms).1 39 = nI (dyN N M m1 ms).2 := by
    intro m' d' l' b1 b2 b3 b4 b5 b6 b7 b8 b9 b10 b11
    refine ⟨R_move h0 b1 b2 b3 b4 ?_ ?_ ?_ (fun j j1 j2 j3 => ?_) b8 b9 b10 b11, by rw [b7]; exact b1, by rw [b7]; exact b5, by rw [b7]; exact b8⟩
    · rw [td_F, ud_ne (by decide), ud_ne (by decide), ud_at]; exact b5
    · rw [td_F, ud_ne (by decide), ud_at]; exact b6
    · rw [td_F, ud_at]
    · rw [td_F, ud_ne j3, ud_ne j2, ud_ne j1]
  rcases (show k = 0 ∨ k = 1 by omega) with rfl | rfl
  · have w : tdW f = nI (d + 1) := by
      unfold tdW
      rw [g143_6, g143_4, d4, s4.1, e4, if_pos nI_0, nI_1]
    have w2 : dnT N = nI (d + 1) := by
      unfold dnT
      rw [d5, e4, if_pos nI_0, nI_1]
    have p0 : (0 : Int32) ≤ tdW f := by rw [w]; exact nI_pos' (by omega)
    by_cases hd1 : d + 1 = l
    · have n1 : ¬ tdW f < oM f (gt 143 f 5) 0 := by
        rw [w, eO]
        exact nI_nlt (by omega) (by omega)
      have hb : (m1 + 1) % ms < ms := Nat.mod_lt _ (by omega)
      obtain ⟨⟨q1, l0, l1, l2, l3⟩, -⟩ := hM _ hb
      have e : dyN N M m1 ms = (upd (upd (upd (upd N 40 (dnT N)) 39 (nI ((m1 + 1) % ms))) 40 0) 41 (rm (N 41 + 1) 2520), (m1 + 1) % ms) := if_pos (by rw [w2, eL, hd1])
      refine key ((m1 + 1) % ms) 0 l0 hb (q1.trans l3) (by omega) l2 ?_ ?_ (by rw [e]) ?_ ?_ ?_ (fun j j1 j2 j3 => ?_)
      · unfold tdM
        rw [if_pos p0, if_neg n1, g143_9, g143_5, a5, d1, show (1 : Int32) = nI 1 from rfl, pk_sub (by omega)]
        by_cases hw : m1 + 1 = ms
        · rw [if_pos (nI_le (by omega) (by omega)), hw, Nat.mod_self]
          rfl
        · rw [if_neg (nI_ge (by omega) (by omega)), nI_add, Nat.mod_eq_of_lt (by omega)]
      · unfold tdD
        rw [if_pos p0, if_neg n1]
        rfl
      · rw [e]; simp (disch := omega) only [ud_at, ud_ne]
      · rw [e]; simp (disch := omega) only [ud_at, ud_ne]; rfl
      · rw [e]; simp (disch := omega) only [ud_at, ud_ne]
      · rw [e]; simp (disch := omega) only [ud_at, ud_ne]
    · have p1 : tdW f < oM f (gt 143 f 5) 0 := by
        rw [w, eO]
        exact nI_lt (by omega) (by omega)
      have e : dyN N M m1 ms = (upd (upd N 40 (dnT N)) 41 (rm (N 41 + 1) 2520), m1) := (if_neg (by
        rw [w2, eL]
        exact fun z => hd1 ((nI_eq (by omega) (by omega)).mp z))).trans (if_pos (by rw [w2]; exact nI_pos' (by omega)))
      refine key m1 (d + 1) l hmq d6 (by omega) d8 ?_ ?_ (by rw [e]) ?_ ?_ ?_ (fun j j1 j2 j3 => ?_)
      · unfold tdM
        rw [if_pos p0, if_pos p1, g143_5, d1]
      · unfold tdD
        rw [if_pos p0, if_pos p1, w]
      · rw [e]; simp (disch := omega) only [ud_at, ud_ne]; exact d2
      · rw [e]; simp (disch := omega) only [ud_at, ud_ne]; exact w2
      · rw [e]; simp (disch := omega) only [ud_at, ud_ne]
      · rw [e]; simp (disch := omega) only [ud_at, ud_ne]
  · have w : tdW f = nI d + (-1) := by
      unfold tdW
      rw [g143_6, g143_4, d4, s4.1, e4, if_neg (by decide)]
    have w2 : dnT N = nI d + (-1) := by
      unfold dnT
      rw [d5, e4, if_neg (by decide)]
    by_cases hd1 : d = 0
    · subst hd1
      have wm : nI 0 + (-1) = (-1 : Int32) := by decide
      have p0 : ¬ (0 : Int32) ≤ tdW f := by rw [w, wm]; decide
      have hb : (m1 + ms - 1) % ms < ms := Nat.mod_lt _ (by omega)
      obtain ⟨⟨q1, l0, l1, l2, l3⟩, -⟩ := hM _ hb
      have e : dyN N M m1 ms = (upd (upd (upd (upd N 40 (dnT N)) 39 (nI ((m1 + ms - 1) % ms))) 40 (M (5 * ((m1 + ms - 1) % ms)) - 1)) 41 (rm (N 41 + 1) 2520), (m1 + ms - 1) % ms) := (if_neg (by
        rw [w2, eL, wm]
        exact fun z => m1_ne (x := -1) (k := l) (N := 10) z (by omega) (by decide) rfl)).trans (if_neg (by rw [w2, wm]; decide))
      have eM : tdM f = nI ((m1 + ms - 1) % ms) := by
        unfold tdM
        rw [if_neg p0, g143_9, g143_5, a5, d1]
        by_cases hw : m1 = 0
        · subst hw
          rw [if_pos (by decide), show (1 : Int32) = nI 1 from rfl, pk_sub (by omega), Nat.zero_add, Nat.mod_eq_of_lt (by omega)]
        · rw [if_neg (nI_nle (by omega) (by omega)), show (1 : Int32) = nI 1 from rfl, pk_sub (by omega), show m1 + ms - 1 = (m1 - 1) + ms by omega, Nat.add_mod_right, Nat.mod_eq_of_lt (by omega)]
      refine key ((m1 + ms - 1) % ms) (l0 - 1) l0 hb (q1.trans l3) (by omega) l2 eM ?_ (by rw [e]) ?_ ?_ ?_ (fun j j1 j2 j3 => ?_)
      · unfold tdD
        rw [if_neg p0, eM, oM_0 (by omega), q1, l3, show (1 : Int32) = nI 1 from rfl, pk_sub (by omega)]
      · rw [e]; simp (disch := omega) only [ud_at, ud_ne]
      · rw [e]; simp (disch := omega) only [ud_at, ud_ne]
        rw [l3, show (1 : Int32) = nI 1 from rfl, pk_sub (by omega)]
      · rw [e]; simp (disch := omega) only [ud_at, ud_ne]
      · rw [e]; simp (disch := omega) only [ud_at, ud_ne]
    · have wm : nI d + (-1) = nI (d - 1) := sb_m1 (by omega)
      have p0 : (0 : Int32) ≤ tdW f := by rw [w, wm]; exact nI_pos' (by omega)
      have p1 : tdW f < oM f (gt 143 f 5) 0 := by
        rw [w, wm, eO]
        exact nI_lt (by omega) (by omega)
      have e : dyN N M m1 ms = (upd (upd N 40 (dnT N)) 41 (rm (N 41 + 1) 2520), m1) := (if_neg (by
        rw [w2, wm, eL]
        exact fun z => absurd ((nI_eq (by omega) (by omega)).mp z) (by omega))).trans (if_pos (by rw [w2, wm]; exact nI_pos' (by omega)))
      refine key m1 (d - 1) l hmq d6 (by omega) d8 ?_ ?_ (by rw [e]) ?_ ?_ ?_ (fun j j1 j2 j3 => ?_)
      · unfold tdM
        rw [if_pos p0, if_pos p1, g143_5, d1]
      · unfold tdD
        rw [if_pos p0, if_pos p1, w, wm]
      · rw [e]; simp (disch := omega) only [ud_at, ud_ne]; exact d2
      · rw [e]; simp (disch := omega) only [ud_at, ud_ne]; exact w2.trans wm
      · rw [e]; simp (disch := omega) only [ud_at, ud_ne]
      · rw [e]; simp (disch := omega) only [ud_at, ud_ne]
end RD1