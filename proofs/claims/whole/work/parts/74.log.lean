/-! THE LOG -/
theorem nI_or (a b : Nat) : nI a ||| nI b = nI (a ||| b) := by
  apply Int32.toBitVec_inj.mp
  show (nI a).toBitVec ||| (nI b).toBitVec = _
  show BitVec.ofNat 32 a ||| BitVec.ofNat 32 b = BitVec.ofNat 32 (a ||| b)
  exact (BitVec.ofNat_or ..).symm
theorem or_add {x y k : Nat} (h : y < 2 ^ k) : x * 2 ^ k ||| y = x * 2 ^ k + y := by
  rw [Nat.mul_comm]
  exact (Nat.two_pow_add_eq_or_of_lt h x).symm
theorem ln_n {f : ROW} {a b c d : Nat} {p z : Int32} (h5 : f 5 = nI a) (h6 : f 6 = nI b) (hp2 : p = nI c) (hz : z = nI d) (ha : a < 32) (hb : b < 32) (hc : c < 32) (hd : d < 32) : lnW f p z = nI (a * 32768 + b * 1024 + c * 32 + d) := by
  unfold lnW
  rw [h5, h6, hp2, hz, pk_shlN (15 &&& 31) 15 (by decide) (by omega), pk_shlN (10 &&& 31) 10 (by decide) (by omega), pk_shlN (5 &&& 31) 5 (by decide) (by omega), nI_or, nI_or, nI_or]
  congr 1
  rw [show a * 2 ^ 15 = (a * 32) * 2 ^ 10 by omega, show b * 2 ^ 10 = (b * 1) * 2 ^ 10 by omega]
  rw [show (a * 32 * 2 ^ 10 ||| b * 1 * 2 ^ 10) = a * 32 * 2 ^ 10 + b * 2 ^ 10 from by
    rw [show a * 32 * 2 ^ 10 = a * 2 ^ 15 by omega, or_add (k := 15) (by omega)]
    omega]
  rw [show a * 32 * 2 ^ 10 + b * 2 ^ 10 = (a * 32 + b) * 2 ^ 10 by omega, or_add (k := 10) (by omega)]
  rw [show (a * 32 + b) * 2 ^ 10 + c * 2 ^ 5 = ((a * 32 + b) * 32 + c) * 2 ^ 5 by omega, or_add (k := 5) (by omega)]
  omega
def LG (f N : ROW) : Prop := ∃ L nx, L ≤ 60 ∧ nx ≤ 59 ∧ f 11 = nI L ∧ N 43 = nI L ∧ f 12 = nI nx ∧ ∀ i, i < L → ∃ a b c d, a < 32 ∧ b < 32 ∧ c < 32 ∧ d < 32 ∧ f (83 + (nx + 59 - i) % 60) = nI (a * 32768 + b * 1024 + c * 32 + d) ∧ N (44 + 4 * (L - 1 - i)) = nI a ∧ N (44 + 4 * (L - 1 - i) + 1) = nI b ∧ N (44 + 4 * (L - 1 - i) + 2) = nI c ∧ N (44 + 4 * (L - 1 - i) + 3) = nI d
theorem LG_ext {f N f' N' : ROW} (h : LG f N) (h11 : f' 11 = f 11) (h12 : f' 12 = f 12) (hf : ∀ j, 83 ≤ j → f' j = f j) (hN : ∀ j, 43 ≤ j → N' j = N j) : LG f' N' := by
  obtain ⟨L, nx, a1, a2, a3, a4, a5, a6⟩ := h
  refine ⟨L, nx, a1, a2, h11.trans a3, (hN 43 (by decide)).trans a4, h12.trans a5, fun i hi => ?_⟩
  obtain ⟨a, b, c, d, b1, b2, b3, b4, b5, b6, b7, b8, b9⟩ := a6 i hi
  exact ⟨a, b, c, d, b1, b2, b3, b4, (hf _ (by omega)).trans b5, (hN _ (by omega)).trans b6, (hN _ (by omega)).trans b7, (hN _ (by omega)).trans b8, (hN _ (by omega)).trans b9⟩
/-- the log's lines are moved up by one -/
def shN (N : ROW) (k : Nat) : ROW := fun j => if 44 ≤ j ∧ j + 4 < 44 + k then N (j + 4) else N j
theorem sh_4 {N : ROW} : shN N 4 = N := by
  funext j
  exact if_neg (by omega)
theorem sh_step {N : ROW} {k : Nat} (h4 : 4 ≤ k) : upd (shN N k) (44 + k - 4) (shN N k (44 + k)) = shN N (k + 1) := by
  funext j
  unfold upd
  by_cases h : j = 44 + k - 4
  · rw [if_pos h]
    unfold shN
    rw [if_neg (by omega), if_pos (by omega), show j + 4 = 44 + k by omega]
  · rw [if_neg h]
    unfold shN
    by_cases h2 : 44 ≤ j ∧ j + 4 < 44 + k
    · rw [if_pos h2, if_pos (by omega)]
    · rw [if_neg h2, if_neg (by omega)]
/-- the place of the next line, and the row in which it is written -/
def lgT (N : ROW) (L : Nat) : ROW := if L = 60 then upd (shN N 240) 43 (nI 59) else N
def lgL (L : Nat) : Nat := if L = 60 then 59 else L
def ptN (N : ROW) (L : Nat) (p x : Int32) : ROW := upd (upd (upd (upd (upd (lgT N L) (44 + 4 * lgL L) (N 39)) (44 + 4 * lgL L + 1) (N 40)) (44 + 4 * lgL L + 2) p) (44 + 4 * lgL L + 3) x) 43 (nI (lgL L + 1))
theorem pt_lo {N : ROW} {L : Nat} {p x : Int32} {j : Nat} (hj : j < 43) : ptN N L p x j = N j := by
  unfold ptN
  simp (disch := omega) only [ud_at, ud_ne]
  unfold lgT
  split
  · simp (disch := omega) only [ud_at, ud_ne]
    exact if_neg (by omega)
  · rfl
theorem LG_put {f N f' : ROW} {L nx a b c d : Nat} {p x : Int32} (h : LG f N) (hL : f 11 = nI L) (hL6 : L ≤ 60) (hn : f 12 = nI nx) (hn5 : nx ≤ 59) (n39 : N 39 = nI a) (n40 : N 40 = nI b) (hp2 : p = nI c) (hx : x = nI d) (ha : a < 32) (hb : b < 32) (hc : c < 32) (hd : d < 32) (e11 : f' 11 = mn 60 (f 11 + 1)) (e12 : f' 12 = nI ((nx + 1) % 60)) (en : f' (83 + nx) = nI (a * 32768 + b * 1024 + c * 32 + d)) (ef : ∀ j, 83 ≤ j → j ≠ 83 + nx → f' j = f j) : LG f' (ptN N L p x) := by
  obtain ⟨L0, nx0, a1, a2, a3, a4, a5, a6⟩ := h
  have hL0 : L0 = L := (nI_eq (by omega) (by omega)).mp (a3.symm.trans hL)
  have hn0 : nx0 = nx := (nI_eq (by omega) (by omega)).mp (a5.symm.trans hn)
  subst hL0 hn0
  have e11 : f' 11 = nI (lgL L0 + 1) := by
    rw [e11, a3, nI_1, show (60 : Int32) = nI 60 from rfl, mn_n (by decide) (by omega)]
    unfold lgL
    congr 1
    split <;> omega
  have hl59 : lgL L0 ≤ 59 := by unfold lgL; split <;> omega
  have hT : ∀ i w, 1 ≤ i → i < lgL L0 + 1 → w < 4 → lgT N L0 (44 + 4 * (lgL L0 - i) + w) = N (44 + 4 * (L0 - i) + w) := by
    intro i w i1 i2 hw
    unfold lgT lgL at *
    by_cases h60 : L0 = 60
    · rw [if_pos h60, if_pos h60]
      rw [if_pos h60] at i2
      simp (disch := omega) only [ud_at, ud_ne]
      unfold shN
      rw [if_pos (by omega)]
      congr 1
      omega
    · rw [if_neg h60, if_neg h60]
  refine ⟨lgL L0 + 1, (nx0 + 1) % 60, by omega, by omega, e11, ?_, e12, fun i hi => ?_⟩
  · unfold ptN
    simp (disch := omega) only [ud_at, ud_ne]
  · by_cases hi0 : i = 0
    · subst hi0
      refine ⟨a, b, c, d, ha, hb, hc, hd, ?_, ?_, ?_, ?_, ?_⟩
      · rw [show ((nx0 + 1) % 60 + 59 - 0) % 60 = nx0 by omega]
        exact en
      · rw [show lgL L0 + 1 - 1 - 0 = lgL L0 by omega]
        unfold ptN
        simp (disch := omega) only [ud_at, ud_ne]
        exact n39
      · rw [show lgL L0 + 1 - 1 - 0 = lgL L0 by omega]
        unfold ptN
        simp (disch := omega) only [ud_at, ud_ne]
        exact n40
      · rw [show lgL L0 + 1 - 1 - 0 = lgL L0 by omega]
        unfold ptN
        simp (disch := omega) only [ud_at, ud_ne]
        exact hp2
      · rw [show lgL L0 + 1 - 1 - 0 = lgL L0 by omega]
        unfold ptN
        simp (disch := omega) only [ud_at, ud_ne]
        exact hx
    · have hlL : lgL L0 ≤ L0 := by unfold lgL; split <;> omega
      obtain ⟨a', b', c', d', b1, b2, b3, b4, b5, b6, b7, b8, b9⟩ := a6 (i - 1) (by omega)
      refine ⟨a', b', c', d', b1, b2, b3, b4, ?_, ?_, ?_, ?_, ?_⟩
      · rw [show ((nx0 + 1) % 60 + 59 - i) % 60 = (nx0 + 59 - (i - 1)) % 60 by omega, ef _ (by omega) (by omega)]
        exact b5
      · rw [show lgL L0 + 1 - 1 - i = lgL L0 - i by omega]
        unfold ptN
        simp (disch := omega) only [ud_at, ud_ne]
        rw [show 44 + 4 * (lgL L0 - i) = 44 + 4 * (lgL L0 - i) + 0 from rfl, hT i 0 (by omega) (by omega) (by omega), show 44 + 4 * (L0 - i) + 0 = 44 + 4 * (L0 - 1 - (i - 1)) by omega]
        exact b6
      · rw [show lgL L0 + 1 - 1 - i = lgL L0 - i by omega]
        unfold ptN
        simp (disch := omega) only [ud_at, ud_ne]
        rw [hT i 1 (by omega) (by omega) (by omega), show 44 + 4 * (L0 - i) + 1 = 44 + 4 * (L0 - 1 - (i - 1)) + 1 by omega]
        exact b7
      · rw [show lgL L0 + 1 - 1 - i = lgL L0 - i by omega]
        unfold ptN
        simp (disch := omega) only [ud_at, ud_ne]
        rw [hT i 2 (by omega) (by omega) (by omega), show 44 + 4 * (L0 - i) + 2 = 44 + 4 * (L0 - 1 - (i - 1)) + 2 by omega]
        exact b8
      · rw [show lgL L0 + 1 - 1 - i = lgL L0 - i by omega]
        unfold ptN
        simp (disch := omega) only [ud_at, ud_ne]
        rw [hT i 3 (by omega) (by omega) (by omega), show 44 + 4 * (L0 - i) + 3 = 44 + 4 * (L0 - 1 - (i - 1)) + 3 by omega]
        exact b9
/-- what a turn leaves of the log until its end -/
theorem gr_hi {mS mR : Int32} {k : Nat} {s : ROW × Int32} (hk : k < 5) {j : Nat} (hj : j = 10 ∨ j = 11 ∨ j = 12 ∨ 83 ≤ j) : (grC mS mR k s).1 j = s.1 j := by
  unfold grC
  simp only [pC_3 hk, pC_4 hk, pC_5 hk, p143_3]
  split
  · split
    · simp (disch := omega) only [ud_at, ud_ne]
    · split
      · simp (disch := omega) only [ud_at, ud_ne]
      · simp (disch := omega) only [ud_at, ud_ne]
  · rfl
theorem gi_hi {mS mR : Int32} {s : ROW × Int32} {j : Nat} (hj : j = 10 ∨ j = 11 ∨ j = 12 ∨ 83 ≤ j) : ∀ k, k ≤ 5 → (itn (grC mS mR) k s).1 j = s.1 j
  | 0, _ => rfl
  | k + 1, h => (gr_hi (by omega) hj).trans (gi_hi hj k (by omega))
theorem dy_hi {cs : Nat} {s : ROW × ROW × Int32} (hc : cs ≤ 5) (h10 : s.1 10 = nI cs) {j : Nat} (hj : j = 10 ∨ j = 11 ∨ j = 12 ∨ 83 ≤ j) : (dyS s).1 j = s.1 j := by
  have e : ∀ j, (j = 10 ∨ j = 11 ∨ j = 12 ∨ 83 ≤ j) → tdF s.1 j = s.1 j := fun j hj => by rw [td_F]; simp (disch := omega) only [ud_at, ud_ne]
  show (grS (tdF s.1) (gt 143 (tdF s.1) 5)).1 j = _
  unfold grS
  rw [g143_10, e 10 (Or.inl rfl), h10, nI_clamp (by omega), gi_hi hj cs hc]
  exact e j hj
theorem dys_hi {cs : Nat} {p : Int32} {f g : ROW} (hc : cs ≤ 5) (h10 : f 10 = nI cs) {j : Nat} (hj : j = 10 ∨ j = 11 ∨ j = 12 ∨ 83 ≤ j) : (dysS p f g).1 j = f j := by
  have h : ∀ n, (∀ j, (j = 10 ∨ j = 11 ∨ j = 12 ∨ 83 ≤ j) → (itn (fun _ => dyS) n (f, g, 0)).1 j = f j) := by
    intro n
    induction n with
    | zero => intro j _; rfl
    | succ n ih =>
      intro j hj
      exact (dy_hi hc ((ih 10 (Or.inl rfl)).trans h10) hj).trans (ih j hj)
  exact h _ j hj
theorem pl_b {ms cs : Nat} {R M C f N : ROW} {C2 Z : ROW} {hold : Int32} (h : RJ ms cs R M C f N) : ∃ c, c ≤ 9 ∧ plS C2 Z hold f = nI c := by
  have hcl : ∀ v : Int32, ∃ c, c ≤ 9 ∧ mx 0 (mn 9 v) = nI c := by
    intro v
    unfold mn mx
    by_cases h : v < 9
    · rw [if_pos h]
      by_cases h2 : 0 < v
      · rw [if_pos h2]
        obtain ⟨j, j1, j2⟩ := nI_of2 (x := v) (M := 9) (n := 9) (by decide) (fun z => absurd (Int32.lt_trans z h2) Int32.lt_irrefl) (Int32.le_of_lt h)
        exact ⟨j, j1, j2⟩
      · rw [if_neg h2]
        exact ⟨0, by decide, rfl⟩
    · rw [if_neg h]
      exact ⟨9, by decide, by decide⟩
  obtain ⟨m, b1, b2, b3, b4, -⟩ := pl_m h
  by_cases hz : N 35 = 0
  · exact ⟨0, by decide, pl_0 h hz⟩
  · by_cases hh : hold = (-1)
    · rw [← pl_1 h b4 b2 hz hh]
      exact hcl _
    · unfold plS
      rw [if_pos (pl_pos h hz), if_neg hh]
      exact hcl _