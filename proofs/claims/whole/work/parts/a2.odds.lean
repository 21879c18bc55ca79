/-! ODDS, PRICE: parts as natural numbers -/
def nL (x : Nat) : Int64 := Int64.ofNat x
theorem nL_add (a b : Nat) : nL a + nL b = nL (a + b) := (Int64.ofNat_add a b).symm
theorem nL_sub {a b : Nat} (h : b ≤ a) : nL a - nL b = nL (a - b) := (Int64.ofNat_sub a b h).symm
theorem nL_mul (a b : Nat) : nL a * nL b = nL (a * b) := (Int64.ofNat_mul a b).symm
theorem nL_div {a b : Nat} (ha : a < 2 ^ 63) (hb : b < 2 ^ 63) : nL a / nL b = nL (a / b) := (Int64.ofNat_div ha hb).symm
theorem nL_32 (a : Nat) : (nL a).toInt32 = nI a := Int64.toInt32_ofNat'
theorem nI_64 {a : Nat} (h : a < 2 ^ 31) : (nI a).toInt64 = nL a := by
  apply Int64.toInt_inj.mp
  rw [Int32.toInt_toInt64, nI_toInt h]
  exact (Int64.toInt_ofNat_of_lt (by omega)).symm
/-- one step of the mule's fading -/
def stN (c k : Nat) (P : Nat → Nat) : Nat → Nat := fun j => if j = k then P k + P (k + 1) * c / 100 else if j = k + 1 then P (k + 1) - P (k + 1) * c / 100 else P j
def RLp (p : Nat → Int64) (P : Nat → Nat) : Prop := ∀ j, j < 31 → p j = nL (P j)
def SN (P : Nat → Nat) : Nat → Nat
  | 0 => 0
  | n + 1 => SN P n + P n
theorem SN_le {P : Nat → Nat} {j : Nat} : ∀ n, j < n → P j ≤ SN P n
  | 0, h => absurd h (Nat.not_lt_zero j)
  | n + 1, h => by
    show P j ≤ SN P n + P n
    by_cases c : j = n
    · subst c; omega
    · have := SN_le (P := P) (j := j) n (by omega); omega
theorem ls_le {x c : Nat} (hc : c ≤ 100) : x * c / 100 ≤ x := by
  have h : x * c ≤ x * 100 := Nat.mul_le_mul_left x hc
  omega
theorem SN_st {P : Nat → Nat} {c k : Nat} (hc : c ≤ 100) : ∀ n, (n ≤ k → SN (stN c k P) n = SN P n) ∧ (n = k + 1 → SN (stN c k P) n = SN P n + P (k + 1) * c / 100) ∧ (k + 1 < n → SN (stN c k P) n = SN P n)
  | 0 => ⟨fun _ => rfl, fun h => by omega, fun h => by omega⟩
  | n + 1 => by
    obtain ⟨h1, h2, h3⟩ := SN_st (P := P) (c := c) (k := k) hc n
    have hl := ls_le (x := P (k + 1)) hc
    refine ⟨fun h => ?_, fun h => ?_, fun h => ?_⟩
    · show SN (stN c k P) n + stN c k P n = SN P n + P n
      rw [h1 (by omega), show stN c k P n = P n from (if_neg (by omega)).trans (if_neg (by omega))]
    · have hn : n = k := by omega
      subst hn
      show SN (stN c n P) n + stN c n P n = SN P n + P n + _
      rw [h1 (by omega), show stN c n P n = P n + P (n + 1) * c / 100 from if_pos rfl, Nat.add_assoc]
    · show SN (stN c k P) n + stN c k P n = SN P n + P n
      by_cases hk : n = k + 1
      · subst hk
        rw [h2 rfl, show stN c k P (k + 1) = P (k + 1) - P (k + 1) * c / 100 from (if_neg (by omega)).trans (if_pos rfl)]
        omega
      · rw [h3 (by omega), show stN c k P n = P n from (if_neg (by omega)).trans (if_neg (by omega))]
/-- parts that are well: they sum to a thousand million -/
def WP (P : Nat → Nat) : Prop := SN P 31 = 1000000000
theorem WP_st {P : Nat → Nat} {c k : Nat} (h : WP P) (hc : c ≤ 100) (hk : k < 30) : WP (stN c k P) := ((SN_st hc 31).2.2 (by omega)).trans h
theorem WP_le {P : Nat → Nat} (h : WP P) {j : Nat} (hj : j < 31) : P j ≤ 1000000000 := by
  have := SN_le (P := P) 31 hj
  unfold WP at h
  omega
theorem uL_at {p : Nat → Int64} {i : Nat} {v : Int64} : vp_updL p i v i = v := if_pos rfl
theorem uL_ne {p : Nat → Int64} {i j : Nat} {v : Int64} (h : ¬ j = i) : vp_updL p i v j = p j := if_neg h
/-- what is lost -/
theorem ls_n {P : Nat → Nat} {c k : Nat} (h : WP P) (hc : c ≤ 100) (hk : k < 31) : nL (P k) * (nI c).toInt64 / 100 = nL (P k * c / 100) := by
  have h1 := WP_le h hk
  have h2 : P k * c ≤ 1000000000 * 100 := Nat.mul_le_mul h1 hc
  rw [nI_64 (by omega), nL_mul, show (100 : Int64) = nL 100 from rfl, nL_div (by omega) (by decide)]
theorem gl_n {p : Nat → Int64} {k : Nat} (h : k < 31) : gl p (nI k) = p k := by
  unfold gl
  rw [nI_clamp (by omega), if_neg]
  rintro (z | z)
  · exact absurd z (Int32.not_lt.mpr (nI_pos' (by omega)))
  · omega
theorem pl_n {p : Nat → Int64} {k : Nat} {v : Int64} (h : k < 31) : pl p (nI k) v = vp_updL p k v := by
  unfold pl
  rw [nI_clamp (by omega), if_neg]
  rintro (z | z)
  · exact absurd z (Int32.not_lt.mpr (nI_pos' (by omega)))
  · omega
theorem dpC_n {p : Nat → Int64} {P : Nat → Nat} {c k : Nat} (h : RLp p P) (hw : WP P) (hc : c ≤ 100) (hk : k < 30) : RLp (dpC (nI c).toInt64 k p) (stN c k P) := by
  have e : dpC (nI c).toInt64 k p = vp_updL (vp_updL p (k + 1) (nL (P (k + 1) - P (k + 1) * c / 100))) k (nL (P k + P (k + 1) * c / 100)) := by
    unfold dpC
    simp only
    rw [show (1 : Int32) = nI 1 from rfl, pk_sub (show 1 ≤ k + 1 by omega), show k + 1 - 1 = k by omega, gl_n (show k + 1 < 31 by omega), pl_n (show k < 31 by omega), pl_n (show k + 1 < 31 by omega), gl_n (show k < 31 by omega), uL_ne (show ¬ k = k + 1 by omega), h (k + 1) (by omega), h k (by omega), ls_n hw hc (show k + 1 < 31 by omega), nL_add, nL_sub (ls_le hc)]
  intro j hj
  rw [e]
  unfold stN
  by_cases h1 : j = k
  · rw [h1, uL_at, if_pos rfl]
  · rw [uL_ne h1, if_neg h1]
    by_cases h2 : j = k + 1
    · rw [h2, uL_at, if_pos rfl]
    · rw [uL_ne h2, if_neg h2]
      exact h j hj
/-- the reference's step -/
theorem odC_n {p : Nat → Int64} {P : Nat → Nat} {c k : Nat} (h : RLp p P) (hw : WP P) (hc : c ≤ 100) (hk : k < 30) : RLp (vp_updL (vp_updL p k (p k + p (k + 1) * (nI c).toInt64 / 100)) (k + 1) ((vp_updL p k (p k + p (k + 1) * (nI c).toInt64 / 100)) (k + 1) - p (k + 1) * (nI c).toInt64 / 100)) (stN c k P) := by
  rw [uL_ne (show ¬ k + 1 = k by omega), h (k + 1) (by omega), h k (by omega), ls_n hw hc (show k + 1 < 31 by omega), nL_add, nL_sub (ls_le hc)]
  intro j hj
  unfold stN
  by_cases h1 : j = k
  · rw [h1, uL_ne (by omega), uL_at, if_pos rfl]
  · rw [if_neg h1]
    by_cases h2 : j = k + 1
    · rw [h2, uL_at, if_pos rfl]
    · rw [uL_ne h2, uL_ne h1, if_neg h2]
      exact h j hj
def daN (c : Nat) (P : Nat → Nat) : Nat → Nat := itn (stN c) 30 P
def P0 (m : Nat) : Nat → Nat := fun j => if j = m then 1000000000 else 0
def dpN (m n c : Nat) : Nat → Nat := itn (fun _ => daN c) n (P0 m)
theorem WP_it {P : Nat → Nat} {c : Nat} (h : WP P) (hc : c ≤ 100) : ∀ k, k ≤ 30 → WP (itn (stN c) k P)
  | 0, _ => h
  | k + 1, hk => WP_st (WP_it h hc k (by omega)) hc (by omega)
theorem WP_dp {P : Nat → Nat} {c : Nat} (h : WP P) (hc : c ≤ 100) : ∀ n, WP (itn (fun _ => daN c) n P)
  | 0 => h
  | n + 1 => WP_it (WP_dp h hc n) hc 30 (Nat.le_refl _)
theorem SN_0 {m : Nat} : ∀ n, SN (P0 m) n = if m < n then 1000000000 else 0
  | 0 => (if_neg (Nat.not_lt_zero m)).symm
  | n + 1 => by
    show SN (P0 m) n + P0 m n = _
    rw [SN_0 n]
    unfold P0
    by_cases h : n = m
    · rw [if_pos h, if_neg (by omega), if_pos (by omega)]
    · rw [if_neg h]
      by_cases h2 : m < n
      · rw [if_pos h2, if_pos (by omega)]
      · rw [if_neg h2, if_neg (by omega)]
theorem WP_0 {m : Nat} (h : m ≤ 30) : WP (P0 m) := (SN_0 31).trans (if_pos (by omega))
theorem dpS_n {p : Nat → Int64} {m n c : Nat} (hm : m ≤ 30) (hn : n ≤ 30) (hc : c ≤ 100) : RLp (dpS p (nI m) (nI n) (nI c)) (dpN m n c) := by
  have h0 : ∀ k, k ≤ 31 → ∀ j, j < k → (itn (fun k P => pl P (nI k) 0) k p) j = 0 := by
    intro k
    induction k with
    | zero => intro _ j hj; omega
    | succ k ih =>
      intro hk j hj
      show (pl (itn (fun k P => pl P (nI k) 0) k p) (nI k) 0) j = 0
      rw [pl_n (by omega)]
      by_cases c : j = k
      · rw [c, uL_at]
      · rw [uL_ne c]
        exact ih (by omega) j (by omega)
  have h1 : RLp (pl (dp0 p) (nI m) 1000000000) (P0 m) := by
    intro j hj
    rw [pl_n (by omega)]
    unfold P0
    by_cases c : j = m
    · rw [c, uL_at, if_pos rfl]
      rfl
    · rw [uL_ne c, if_neg c]
      exact h0 31 (Nat.le_refl _) j hj
  have h2 : ∀ P q, RLp q P → WP P → ∀ k, k ≤ 30 → RLp (itn (dpC (nI c).toInt64) k q) (itn (stN c) k P) := by
    intro P q hq hP k
    induction k with
    | zero => intro _; exact hq
    | succ k ih => intro hk; exact dpC_n (ih (by omega)) (WP_it hP hc k (by omega)) hc (by omega)
  have h3 : ∀ t, RLp (itn (fun _ => dpT (nI c).toInt64) t (pl (dp0 p) (nI m) 1000000000)) (itn (fun _ => daN c) t (P0 m)) := by
    intro t
    induction t with
    | zero => exact h1
    | succ t ih => exact h2 _ _ ih (WP_dp (WP_0 hm) hc t) 30 (Nat.le_refl _)
  unfold dpS dpN
  rw [nI_clamp (by omega)]
  exact h3 n
theorem dpV_n {A : Nat → Nat → Int32} {L : Nat → Nat → Int64} {m n c : Nat} (h : gt 143 (A 20) 0 = nI m) (hm : m ≤ 30) (hn : n ≤ 30) (hc : c ≤ 100) : dpV A L (nI n) (nI c) = nL (dpN m n c 0) ∧ WP (dpN m n c) := by
  unfold dpV
  rw [h, show (0 : Int32) = nI 0 from rfl, gl_n (by decide)]
  exact ⟨dpS_n hm hn hc 0 (by decide), WP_dp (WP_0 hm) hc n⟩
set_option maxHeartbeats 800000 in
set_option maxRecDepth 100000 in
theorem e_od1 {A : Nat → Nat → Int32} {L : Nat → Nat → Int64} {I : Nat → Nat → Int32} {X : Nat → Int64} {m n c : Nat} {Q : Option Value → m_H → Prop} (hm : A 63 35 = nI m) (hm30 : m ≤ 30) (hE : ∀ q, RLp q (P0 m) → G 1 RX11 cX11_oddsOf 7 (some .int) Q 38 [some (.ref 46), some (.int (nI n)), some (.int (nI c)), none, none, none, none] [] (hp A (up L 75 q) I X)) : ∀ f k q, k ≤ 31 → (∀ j, j < k → q j = nL (P0 m j)) → 31 - k < f → G 1 RX11 cX11_oddsOf 7 (some .int) Q 2 [some (.ref 46), some (.int (nI n)), some (.int (nI c)), some (.int (nI k)), none, none, none] [] (hp A (up L 75 q) I X) := by
  intro f
  induction f with
  | zero => intro k q h1 hq h2; omega
  | succ f ih =>
    intro k q h1 hq h2
    refine g_iload_n dX11_oddsOf_2 rfl rfl ?_
    refine g_bipush (v := 30) dX11_oddsOf_3 (by decide) ?_
    refine g_icmp_gt (tgt := 38) dX11_oddsOf_5 (by decide) (fun c_5 => ?_) (fun c_5 => ?_)
    · refine g_loc (ls' := [some (.ref 46), some (.int (nI n)), some (.int (nI c)), none, none, none, none]) (fun i v h => by rcases i with _|_|_|_|_|_|_|_ <;> first | exact h | cases h) ?_
      exact hE q (fun j hj => hq j (by have := lit_lt (n := 30) (by decide) (by omega) c_5; omega))
    · have hlt : k < 31 := by have := lit_nlt (n := 30) (by decide) (by omega) c_5; omega
      refine g_aload_n dX11_oddsOf_8 rfl rfl ?_
      refine g_get dX11_oddsOf_9 fl_X11_99 hp_46 rfl ?_
      refine g_iload_n dX11_oddsOf_12 rfl rfl ?_
      refine g_iload_n dX11_oddsOf_13 rfl rfl ?_
      refine g_aload_n dX11_oddsOf_14 rfl rfl ?_
      refine g_get dX11_oddsOf_15 fl_X11_58 hp_46 rfl ?_
      refine g_bipush (v := 35) dX11_oddsOf_18 (by decide) ?_
      refine g_ra dX11_oddsOf_20 hp_63 (k := 35) rfl (by decide) (by decide) ?_
      try simp only [up_at, up_up]
      refine g_icmp_ne (tgt := 30) dX11_oddsOf_21 (by decide) (fun c_21 => ?_) (fun c_21 => ?_)
      · refine g_lconst (v := 0) dX11_oddsOf_30 rfl ?_
        refine g_wl dX11_oddsOf_31 hp_75 (k := k) rfl (by omega) (by decide) ?_
        rw [hq_75]
        try simp only [up_at, up_up]
        refine g_iinc1 dX11_oddsOf_32 rfl (by decide) ?_
        refine g_goto (tgt := 2) dX11_oddsOf_35 (by decide) ?_
        rw [nI_1]
        refine ih (k + 1) _ (by omega) (fun j hj => ?_) (by omega)
        by_cases c : j = k
        · rw [c, uL_at]
          unfold P0
          rw [if_neg (fun z => c_21 (by rw [hm, z]))]
          rfl
        · rw [uL_ne c]
          exact hq j (by omega)
      · refine g_ldc2 dX11_oddsOf_24 lc_X11_409 ?_
        refine g_goto (tgt := 31) dX11_oddsOf_27 (by decide) ?_
        refine g_wl dX11_oddsOf_31 hp_75 (k := k) rfl (by omega) (by decide) ?_
        rw [hq_75]
        try simp only [up_at, up_up]
        refine g_iinc1 dX11_oddsOf_32 rfl (by decide) ?_
        refine g_goto (tgt := 2) dX11_oddsOf_35 (by decide) ?_
        rw [nI_1]
        refine ih (k + 1) _ (by omega) (fun j hj => ?_) (by omega)
        by_cases c : j = k
        · rw [c, uL_at]
          unfold P0
          rw [if_pos ((nI_eq (by omega) (by omega)).mp (c_21.trans hm))]
          rfl
        · rw [uL_ne c]
          exact hq j (by omega)

set_option maxHeartbeats 800000 in
set_option maxRecDepth 100000 in
theorem e_od2 {A : Nat → Nat → Int32} {L : Nat → Nat → Int64} {I : Nat → Nat → Int32} {X : Nat → Int64} {n c t : Nat} {P : Nat → Nat} {Q : Option Value → m_H → Prop} (hc : c ≤ 100) (hw : WP P) (hE : ∀ q, RLp q (daN c P) → G 1 RX11 cX11_oddsOf 7 (some .int) Q 103 [some (.ref 46), some (.int (nI n)), some (.int (nI c)), some (.int (nI t)), none, none, none] [] (hp A (up L 75 q) I X)) : ∀ f k q, k ≤ 30 → RLp q (itn (stN c) k P) → 30 - k < f → G 1 RX11 cX11_oddsOf 7 (some .int) Q 48 [some (.ref 46), some (.int (nI n)), some (.int (nI c)), some (.int (nI t)), some (.int (nI (k + 1))), none, none] [] (hp A (up L 75 q) I X) := by
  intro f
  induction f with
  | zero => intro k q h1 hq h2; omega
  | succ f ih =>
    intro k q h1 hq h2
    refine g_iload dX11_oddsOf_48 rfl ?_
    refine g_bipush (v := 30) dX11_oddsOf_50 (by decide) ?_
    refine g_icmp_gt (tgt := 103) dX11_oddsOf_52 (by decide) (fun c_52 => ?_) (fun c_52 => ?_)
    · have hkn : k = 30 := by have := lit_lt (n := 30) (by decide) (by omega) c_52; omega
      subst hkn
      refine g_loc (ls' := [some (.ref 46), some (.int (nI n)), some (.int (nI c)), some (.int (nI t)), none, none, none]) (fun i v h => by rcases i with _|_|_|_|_|_|_|_ <;> first | exact h | cases h) ?_
      exact hE q hq
    · have hlt : k < 30 := by have := lit_nlt (n := 30) (by decide) (by omega) c_52; omega
      refine g_aload_n dX11_oddsOf_55 rfl rfl ?_
      refine g_get dX11_oddsOf_56 fl_X11_99 hp_46 rfl ?_
      refine g_iload dX11_oddsOf_59 rfl ?_
      refine g_rl dX11_oddsOf_61 hp_75 (k := k + 1) rfl (by omega) (by decide) ?_
      refine g_iload_n dX11_oddsOf_62 rfl rfl ?_
      refine g_i2l dX11_oddsOf_63 ?_
      refine g_lmul dX11_oddsOf_64 ?_
      refine g_ldc2 dX11_oddsOf_65 lc_X11_411 ?_
      refine g_ldiv dX11_oddsOf_68 (by decide) ?_
      refine g_lstore dX11_oddsOf_69 (by decide) ?_
      refine g_aload_n dX11_oddsOf_71 rfl rfl ?_
      refine g_get dX11_oddsOf_72 fl_X11_99 hp_46 rfl ?_
      refine g_iload dX11_oddsOf_75 rfl ?_
      refine g_ic_1 dX11_oddsOf_77 ?_
      refine g_isub dX11_oddsOf_78 ?_
      refine g_dup2 dX11_oddsOf_79 rfl rfl ?_
      refine g_rl dX11_oddsOf_80 hp_75 (k := (k + 1) - 1) (nk_sub (show nI (k + 1) = nI (k + 1) from rfl) (show (1 : Int32) = nI 1 from rfl) (by omega)) (by omega) (by decide) ?_
      refine g_lload dX11_oddsOf_81 rfl ?_
      refine g_ladd dX11_oddsOf_83 ?_
      refine g_wl dX11_oddsOf_84 hp_75 (k := (k + 1) - 1) (nk_sub (show nI (k + 1) = nI (k + 1) from rfl) (show (1 : Int32) = nI 1 from rfl) (by omega)) (by omega) (by decide) ?_
      rw [hq_75]
      try simp only [up_at, up_up]
      refine g_aload_n dX11_oddsOf_85 rfl rfl ?_
      refine g_get dX11_oddsOf_86 fl_X11_99 hp_46 rfl ?_
      refine g_iload dX11_oddsOf_89 rfl ?_
      refine g_dup2 dX11_oddsOf_91 rfl rfl ?_
      refine g_rl dX11_oddsOf_92 hp_75 (k := k + 1) rfl (by omega) (by decide) ?_
      refine g_lload dX11_oddsOf_93 rfl ?_
      refine g_lsub dX11_oddsOf_95 ?_
      refine g_wl dX11_oddsOf_96 hp_75 (k := k + 1) rfl (by omega) (by decide) ?_
      rw [hq_75]
      try simp only [up_at, up_up]
      refine g_iinc1 dX11_oddsOf_97 rfl (by decide) ?_
      refine g_goto (tgt := 48) dX11_oddsOf_100 (by decide) ?_
      refine g_loc (ls' := [some (.ref 46), some (.int (nI n)), some (.int (nI c)), some (.int (nI t)), some (.int (nI (k + 1) + 1)), none, none]) (fun i v h => by rcases i with _|_|_|_|_|_|_|_ <;> first | exact h | cases h) ?_
      rw [nI_1]
      exact ih (k + 1) _ (by omega) (odC_n hq (WP_it hw hc k (by omega)) hc (by omega)) (by omega)

set_option maxHeartbeats 800000 in
set_option maxRecDepth 100000 in
theorem e_od3 {A : Nat → Nat → Int32} {L : Nat → Nat → Int64} {I : Nat → Nat → Int32} {X : Nat → Int64} {m n c : Nat} {Q : Option Value → m_H → Prop} (hm30 : m ≤ 30) (hn30 : n ≤ 30) (hc : c ≤ 100) (hE : ∀ q, RLp q (dpN m n c) → G 1 RX11 cX11_oddsOf 7 (some .int) Q 109 [some (.ref 46), some (.int (nI n)), some (.int (nI c)), none, none, none, none] [] (hp A (up L 75 q) I X)) : ∀ f t q, t ≤ n → RLp q (itn (fun _ => daN c) t (P0 m)) → n - t < f → G 1 RX11 cX11_oddsOf 7 (some .int) Q 40 [some (.ref 46), some (.int (nI n)), some (.int (nI c)), some (.int (nI t)), none, none, none] [] (hp A (up L 75 q) I X) := by
  intro f
  induction f with
  | zero => intro t q h1 hq h2; omega
  | succ f ih =>
    intro t q h1 hq h2
    refine g_iload_n dX11_oddsOf_40 rfl rfl ?_
    refine g_iload_n dX11_oddsOf_41 rfl rfl ?_
    refine g_icmp_ge (tgt := 109) dX11_oddsOf_42 (by decide) (fun c_42 => ?_) (fun c_42 => ?_)
    · have htn : t = n := by have := (nI_leI (a := n) (b := t) (by omega) (by omega)).mp c_42; omega
      subst htn
      refine g_loc (ls' := [some (.ref 46), some (.int (nI t)), some (.int (nI c)), none, none, none, none]) (fun i v h => by rcases i with _|_|_|_|_|_|_|_ <;> first | exact h | cases h) ?_
      exact hE q hq
    · have hlt : t < n := Nat.not_le.mp (fun z => c_42 ((nI_leI (by omega) (by omega)).mpr z))
      refine g_ic_1 dX11_oddsOf_45 ?_
      refine g_istore dX11_oddsOf_46 (by decide) ?_
      refine g_loc (ls' := [some (.ref 46), some (.int (nI n)), some (.int (nI c)), some (.int (nI t)), some (.int (nI (0 + 1))), none, none]) (fun i v h => by rcases i with _|_|_|_|_|_|_|_ <;> first | exact h | cases h) ?_
      refine e_od2 hc (WP_dp (WP_0 hm30) hc t) (fun q2 hq2 => ?_) 31 0 q (by decide) hq (by decide)
      refine g_iinc1 dX11_oddsOf_103 rfl (by decide) ?_
      refine g_goto (tgt := 40) dX11_oddsOf_106 (by decide) ?_
      refine g_loc (ls' := [some (.ref 46), some (.int (nI n)), some (.int (nI c)), some (.int (nI t + 1)), none, none, none]) (fun i v h => by rcases i with _|_|_|_|_|_|_|_ <;> first | exact h | cases h) ?_
      rw [nI_1]
      exact ih (t + 1) q2 (by omega) hq2 (by omega)

set_option maxHeartbeats 800000 in
set_option maxRecDepth 100000 in
theorem e_od4 {A : Nat → Nat → Int32} {L : Nat → Nat → Int64} {I : Nat → Nat → Int32} {X : Nat → Int64} {n c : Nat} {P : Nat → Nat} {q : Nat → Int64} {Q : Option Value → m_H → Prop} (hq : RLp q P) (hw : SN P 31 = 1000000000) (hQ : Q (some (.int (nI (1000000000 - P 0)))) (hp A (up L 75 q) I X)) : ∀ f k, 1 ≤ k → k ≤ 31 → 31 - k < f → G 1 RX11 cX11_oddsOf 7 (some .int) Q 114 [some (.ref 46), some (.int (nI n)), some (.int (nI c)), some (.long (nL (SN P k - P 0))), none, some (.int (nI k)), none] [] (hp A (up L 75 q) I X) := by
  intro f
  induction f with
  | zero => intro k h0 h1 h2; omega
  | succ f ih =>
    intro k h0 h1 h2
    refine g_iload dX11_oddsOf_114 rfl ?_
    refine g_bipush (v := 30) dX11_oddsOf_116 (by decide) ?_
    refine g_icmp_gt (tgt := 137) dX11_oddsOf_118 (by decide) (fun c_118 => ?_) (fun c_118 => ?_)
    · refine g_lload_n dX11_oddsOf_137 rfl rfl ?_
      refine g_l2i dX11_oddsOf_138 ?_
      exact g_iret dX11_oddsOf_139 (by have hkn : k = 31 := (by have := lit_lt (n := 30) (by decide) (by omega) c_118; omega); subst hkn; rw [hw, nL_32]; exact hQ)
    · have hlt : k < 31 := by have := lit_nlt (n := 30) (by decide) (by omega) c_118; omega
      refine g_lload_n dX11_oddsOf_121 rfl rfl ?_
      refine g_aload_n dX11_oddsOf_122 rfl rfl ?_
      refine g_get dX11_oddsOf_123 fl_X11_99 hp_46 rfl ?_
      refine g_iload dX11_oddsOf_126 rfl ?_
      refine g_rl dX11_oddsOf_128 hp_75 (k := k) rfl (by omega) (by decide) ?_
      refine g_ladd dX11_oddsOf_129 ?_
      refine g_lstore_n dX11_oddsOf_130 rfl (by decide) ?_
      refine g_iinc1 dX11_oddsOf_131 rfl (by decide) ?_
      refine g_goto (tgt := 114) dX11_oddsOf_134 (by decide) ?_
      try simp only [up_at]
      rw [nI_1]
      have h0 := SN_le (P := P) (j := 0) k (by omega)
      have e : nL (SN P k - P 0) + q k = nL (SN P (k + 1) - P 0) := by
        rw [hq k hlt, nL_add]
        congr 1
        show _ = SN P k + P k - P 0
        omega
      rw [e]
      refine g_loc (ls' := [some (.ref 46), some (.int (nI n)), some (.int (nI c)), some (.long (nL (SN P (k + 1) - P 0))), none, some (.int (nI (k + 1))), none]) (fun i v h => by rcases i with _|_|_|_|_|_|_|_ <;> first | exact h | cases h) ?_
      exact ih (k + 1) (by omega) (by omega) (by omega)

set_option maxHeartbeats 800000 in
set_option maxRecDepth 100000 in
theorem e_oddsOf {A : Nat → Nat → Int32} {L : Nat → Nat → Int64} {I : Nat → Nat → Int32} {X : Nat → Int64} {m n c : Nat} {nn cc : Int32} (h1 : nn = nI n) (h2 : cc = nI c) (hm : A 63 35 = nI m) (hm30 : m ≤ 30) (hn30 : n ≤ 30) (hc : c ≤ 100) : Con 1 yX11_oddsOf cX11_oddsOf 7 (some .int) [.ref 46, .int nn, .int cc] (hp A L I X) (QM A I X (nI (1000000000 - dpN m n c 0))) := by
  refine m_con (by decide) (Nat.le_of_ble_eq_true rfl) ?_
  subst h1 h2
  refine g_ic_0 dX11_oddsOf_0 ?_
  refine g_istore_n dX11_oddsOf_1 rfl (by decide) ?_
  refine g_loc (ls' := [some (.ref 46), some (.int (nI n)), some (.int (nI c)), some (.int (nI 0)), none, none, none]) (fun i v h => by rcases i with _|_|_|_|_|_|_|_ <;> first | exact h | cases h) ?_
  rw [← up_self (A := L) (i := 75)]
  refine e_od1 hm hm30 (fun q0 hq0 => ?_) 32 0 _ (by decide) (fun j hj => absurd hj (Nat.not_lt_zero j)) (by decide)
  refine g_ic_0 dX11_oddsOf_38 ?_
  refine g_istore_n dX11_oddsOf_39 rfl (by decide) ?_
  refine g_loc (ls' := [some (.ref 46), some (.int (nI n)), some (.int (nI c)), some (.int (nI 0)), none, none, none]) (fun i v h => by rcases i with _|_|_|_|_|_|_|_ <;> first | exact h | cases h) ?_
  refine e_od3 hm30 hn30 hc (fun q hq => ?_) (n + 1) 0 q0 (Nat.zero_le _) hq0 (Nat.lt_succ_self _)
  refine g_lconst (v := 0) dX11_oddsOf_109 rfl ?_
  refine g_lstore_n dX11_oddsOf_110 rfl (by decide) ?_
  refine g_ic_1 dX11_oddsOf_111 ?_
  refine g_istore dX11_oddsOf_112 (by decide) ?_
  refine g_loc (ls' := [some (.ref 46), some (.int (nI n)), some (.int (nI c)), some (.long (nL (SN (dpN m n c) 1 - dpN m n c 0))), none, some (.int (nI 1)), none]) (fun i v h => by rcases i with _|_|_|_|_|_|_|_ <;> first | exact h | (refine Eq.trans ?_ h; rw [show SN (dpN m n c) 1 - dpN m n c 0 = 0 from by show 0 + dpN m n c 0 - dpN m n c 0 = 0; omega]; rfl) | cases h) ?_
  exact e_od4 hq (WP_dp (WP_0 hm30) hc n) ⟨rfl, _, _, _, smM_rf, rfl⟩ 32 1 (by decide) (by decide) (by decide)

theorem mo_1 {A I : Nat → Nat → Int32} (h : INV A I) (z : I 0 12 = 0) : I 46 25 ≤ 0 := by
  rw [(INV_0 h).mpr z]
  decide
theorem mo_0 {A I : Nat → Nat → Int32} (h : INV A I) (z : I 46 25 ≤ 0) : I 0 12 = 0 := by
  refine Decidable.byContradiction fun c => ?_
  obtain ⟨ms, cs, hP⟩ := INV_P h c
  have h1 := PLN_ms hP
  rw [hP.1.1] at z
  exact absurd ((nI_leI (a := ms) (b := 0) (by omega) (by decide)).mp z) (by omega)
theorem od_hm {ms cs : Nat} {A I : Nat → Nat → Int32} (hP : PLN ms cs A I) : ∃ m, m ≤ 30 ∧ A 63 35 = nI m ∧ gt 143 (A 20) 0 = nI m := by
  obtain ⟨s0, m, m30, hm⟩ := hP.2.1.1.2.1.1
  exact ⟨m, m30, hm, by rw [g143_0, s0, hm]⟩
set_option maxHeartbeats 800000 in
set_option maxRecDepth 100000 in
theorem e_isOdds {A : Nat → Nat → Int32} {L : Nat → Nat → Int64} {I : Nat → Nat → Int32} {X : Nat → Int64} {n ch : Int32} (h : INV A I) : Con 2 yX11_isOdds cX11_isOdds 3 (some .boolean) [.ref 46, .int n, .int ch] (hp A L I X) (fun r_ H_ => ((I 0 12 = 0 ∨ n < 0 ∨ 30 < n ∨ ch < 0 ∨ ¬ ch ≤ 100) ∧ r_ = some (.int 0) ∧ H_ = hp A L I X) ∨ (¬ (I 0 12 = 0 ∨ n < 0 ∨ 30 < n ∨ ch < 0 ∨ ¬ ch ≤ 100) ∧ r_ = some (.int 1) ∧ H_ = hp A L I X)) := by
  refine m_con (by decide) (Nat.le_of_ble_eq_true rfl) ?_
  refine g_aload_n dX11_isOdds_0 rfl rfl ?_
  refine g_get dX11_isOdds_1 fl_X11_261 hp_46 rfl ?_
  refine g_if_le (tgt := 31) dX11_isOdds_4 (by decide) (fun c_4 => ?_) (fun c_4 => ?_)
  · refine g_ic_0 dX11_isOdds_31 ?_
    exact g_zret (by first | exact Or.inl rfl | exact Or.inr rfl) dX11_isOdds_32 (Or.inl ⟨Or.inl (mo_0 h c_4), rfl, rfl⟩)
  · refine g_iload_n dX11_isOdds_7 rfl rfl ?_
    refine g_ic_0 dX11_isOdds_8 ?_
    refine g_bipush (v := 30) dX11_isOdds_9 (by decide) ?_
    refine g_callS dX11_isOdds_11 cs_X11_221 (as := [_, _, _]) e_in (by decide) rfl rfl (Nat.le_of_ble_eq_true rfl) ?_
    rintro _ _ ⟨rfl, rfl⟩
    refine g_if_eq (tgt := 31) dX11_isOdds_14 (by decide) (fun c_14 => ?_) (fun c_14 => ?_)
    · refine g_ic_0 dX11_isOdds_31 ?_
      exact g_zret (by first | exact Or.inl rfl | exact Or.inr rfl) dX11_isOdds_32 (Or.inl ⟨Or.inr ((in_0.mp c_14).imp id Or.inl), rfl, rfl⟩)
    · refine g_iload_n dX11_isOdds_17 rfl rfl ?_
      refine g_ic_0 dX11_isOdds_18 ?_
      refine g_bipush (v := 100) dX11_isOdds_19 (by decide) ?_
      refine g_callS dX11_isOdds_21 cs_X11_221 (as := [_, _, _]) e_in (by decide) rfl rfl (Nat.le_of_ble_eq_true rfl) ?_
      rintro _ _ ⟨rfl, rfl⟩
      refine g_if_eq (tgt := 31) dX11_isOdds_24 (by decide) (fun c_24 => ?_) (fun c_24 => ?_)
      · refine g_ic_0 dX11_isOdds_31 ?_
        exact g_zret (by first | exact Or.inl rfl | exact Or.inr rfl) dX11_isOdds_32 (Or.inl ⟨Or.inr (Or.inr (Or.inr ((in_0.mp c_24).imp id Int32.not_le.mpr))), rfl, rfl⟩)
      · refine g_ic_1 dX11_isOdds_27 ?_
        refine g_goto (tgt := 32) dX11_isOdds_28 (by decide) ?_
        exact g_zret (by first | exact Or.inl rfl | exact Or.inr rfl) dX11_isOdds_32 (Or.inr ⟨fun z => by rcases z with z | z | z | z | z; exact c_4 (mo_1 h z); exact c_14 (in_0.mpr (Or.inl z)); exact c_14 (in_0.mpr (Or.inr z)); exact c_24 (in_0.mpr (Or.inl z)); exact c_24 (in_0.mpr (Or.inr (Int32.not_le.mp z))), rfl, rfl⟩)

set_option maxHeartbeats 800000 in
set_option maxRecDepth 100000 in
theorem n_odds {A : Nat → Nat → Int32} {L : Nat → Nat → Int64} {I : Nat → Nat → Int32} {X : Nat → Int64} {n ch : Int32} (h : INV A I) : Con 3 yX11_odds cX11_odds 3 (some .int) [.ref 46, .int n, .int ch] (hp A L I X) (QM A I X (odS A L I n ch)) := by
  refine m_con (by decide) (Nat.le_of_ble_eq_true rfl) ?_
  refine g_aload_n dX11_odds_0 rfl rfl ?_
  refine g_iload_n dX11_odds_1 rfl rfl ?_
  refine g_iload_n dX11_odds_2 rfl rfl ?_
  refine g_callV dX11_odds_3 cv_X11_413 (as' := [_, _]) hp_46 rfl (e_isOdds h) (by decide) rfl rfl (Nat.le_of_ble_eq_true rfl) ?_
  rintro _ _ (⟨g1, rfl, rfl⟩ | ⟨g1, rfl, rfl⟩)
  · refine g_if_eq (tgt := 18) dX11_odds_6 (by decide) (fun c_6 => ?_) (fun c_6 => ?_)
    · refine g_ic_m1 dX11_odds_18 ?_
      exact g_iret dX11_odds_19 ⟨congrArg (fun z : Int32 => some (Value.int z)) (show _ = odS A L I n ch from (if_pos g1).symm), _, _, _, smM_rf, rfl⟩
    · exact absurd c_6 (by decide)
  · have h30 : ∃ a c, a ≤ 30 ∧ c ≤ 100 ∧ n = nI a ∧ ch = nI c := by
      have h1 : ¬ inZ n 0 (nI 30) = 0 := fun z => g1 (Or.inr ((in_0.mp z).imp id Or.inl))
      have h2 : ¬ inZ ch 0 (nI 100) = 0 := fun z => g1 (Or.inr (Or.inr (Or.inr ((in_0.mp z).imp id Int32.not_le.mpr))))
      obtain ⟨a, a1, a2⟩ := in_1 (by decide) h1
      obtain ⟨c, c1, c2⟩ := in_1 (by decide) h2
      exact ⟨a, c, a1, c1, a2, c2⟩
    obtain ⟨a, c, a30, c100, rfl, rfl⟩ := h30
    obtain ⟨ms, cs, hP⟩ := INV_P h (fun z => g1 (Or.inl z))
    obtain ⟨m, m30, m1, m2⟩ := od_hm hP
    obtain ⟨d1, d2⟩ := dpV_n (L := L) (n := a) (c := c) m2 m30 a30 c100
    have dle := WP_le d2 (j := 0) (by decide)
    refine g_if_eq (tgt := 18) dX11_odds_6 (by decide) (fun c_6 => ?_) (fun c_6 => ?_)
    · exact absurd c_6 (by decide)
    · refine g_aload_n dX11_odds_9 rfl rfl ?_
      refine g_iload_n dX11_odds_10 rfl rfl ?_
      refine g_iload_n dX11_odds_11 rfl rfl ?_
      refine g_callV dX11_odds_12 cv_X11_416 (as' := [_, _]) hp_46 rfl (e_oddsOf rfl rfl m1 m30 a30 c100) (by decide) rfl rfl (Nat.le_of_ble_eq_true rfl) ?_
      rintro _ _ ⟨rfl, A2, L2, I2, q1, rfl⟩
      refine g_goto (tgt := 19) dX11_odds_15 (by decide) ?_
      exact g_iret dX11_odds_19 ⟨congrArg (fun z : Int32 => some (Value.int z)) (show _ = odS A L I (nI a) (nI c) from by rw [show odS A L I (nI a) (nI c) = _ from if_neg g1, d1, show (1000000000 : Int64) = nL 1000000000 from rfl, nL_sub dle, nL_32]), _, _, _, q1, rfl⟩

set_option maxHeartbeats 800000 in
set_option maxRecDepth 100000 in
theorem n_price {A : Nat → Nat → Int32} {L : Nat → Nat → Int64} {I : Nat → Nat → Int32} {X : Nat → Int64} {n ch v : Int32} (h : INV A I) : Con 3 yX11_price cX11_price 4 (some .int) [.ref 46, .int n, .int ch, .int v] (hp A L I X) (QM A I X (prS A L I n ch v)) := by
  refine m_con (by decide) (Nat.le_of_ble_eq_true rfl) ?_
  refine g_aload_n dX11_price_0 rfl rfl ?_
  refine g_iload_n dX11_price_1 rfl rfl ?_
  refine g_iload_n dX11_price_2 rfl rfl ?_
  refine g_callV dX11_price_3 cv_X11_413 (as' := [_, _]) hp_46 rfl (e_isOdds h) (by decide) rfl rfl (Nat.le_of_ble_eq_true rfl) ?_
  rintro _ _ (⟨g1, rfl, rfl⟩ | ⟨g1, rfl, rfl⟩)
  · refine g_if_eq (tgt := 48) dX11_price_6 (by decide) (fun c_6 => ?_) (fun c_6 => ?_)
    · refine g_ic_m1 dX11_price_48 ?_
      exact g_iret dX11_price_49 ⟨congrArg (fun z : Int32 => some (Value.int z)) (show _ = prS A L I n ch v from (if_pos (g1.imp id (fun z => z.imp id (fun z => z.imp id (fun z => z.imp id (fun z => Or.inl (Int32.not_le.mp z))))))).symm), _, _, _, smM_rf, rfl⟩
    · exact absurd c_6 (by decide)
  · have h30 : ∃ a c, a ≤ 30 ∧ c ≤ 100 ∧ n = nI a ∧ ch = nI c := by
      have h1 : ¬ inZ n 0 (nI 30) = 0 := fun z => g1 (Or.inr ((in_0.mp z).imp id Or.inl))
      have h2 : ¬ inZ ch 0 (nI 100) = 0 := fun z => g1 (Or.inr (Or.inr (Or.inr ((in_0.mp z).imp id Int32.not_le.mpr))))
      obtain ⟨a, a1, a2⟩ := in_1 (by decide) h1
      obtain ⟨c, c1, c2⟩ := in_1 (by decide) h2
      exact ⟨a, c, a1, c1, a2, c2⟩
    obtain ⟨a, c, a30, c100, rfl, rfl⟩ := h30
    obtain ⟨ms, cs, hP⟩ := INV_P h (fun z => g1 (Or.inl z))
    obtain ⟨m, m30, m1, m2⟩ := od_hm hP
    obtain ⟨d1, d2⟩ := dpV_n (L := L) (n := a) (c := c) m2 m30 a30 c100
    have dle := WP_le d2 (j := 0) (by decide)
    refine g_if_eq (tgt := 48) dX11_price_6 (by decide) (fun c_6 => ?_) (fun c_6 => ?_)
    · exact absurd c_6 (by decide)
    · refine g_iload_n dX11_price_9 rfl rfl ?_
      refine g_ic_1 dX11_price_10 ?_
      refine g_sipush (v := 999) dX11_price_11 (by decide) ?_
      refine g_callS dX11_price_14 cs_X11_221 (as := [_, _, _]) e_in (by decide) rfl rfl (Nat.le_of_ble_eq_true rfl) ?_
      rintro _ _ ⟨rfl, rfl⟩
      refine g_if_eq (tgt := 48) dX11_price_17 (by decide) (fun c_17 => ?_) (fun c_17 => ?_)
      · refine g_ic_m1 dX11_price_48 ?_
        exact g_iret dX11_price_49 ⟨congrArg (fun z : Int32 => some (Value.int z)) (show _ = prS A L I (nI a) (nI c) v from (if_pos (Or.inr (Or.inr (Or.inr (Or.inr (Or.inr ((in_0.mp c_17).imp id Int32.not_le.mpr))))))).symm), _, _, _, smM_rf, rfl⟩
      · refine g_ldcw dX11_price_20 lc_X11_419 ?_
        refine g_aload_n dX11_price_23 rfl rfl ?_
        refine g_iload_n dX11_price_24 rfl rfl ?_
        refine g_iload_n dX11_price_25 rfl rfl ?_
        refine g_callV dX11_price_26 cv_X11_416 (as' := [_, _]) hp_46 rfl (e_oddsOf rfl rfl m1 m30 a30 c100) (by decide) rfl rfl (Nat.le_of_ble_eq_true rfl) ?_
        rintro _ _ ⟨rfl, A2, L2, I2, q1, rfl⟩
        refine g_isub dX11_price_29 ?_
        refine g_i2l dX11_price_30 ?_
        refine g_iload_n dX11_price_31 rfl rfl ?_
        refine g_i2l dX11_price_32 ?_
        refine g_lmul dX11_price_33 ?_
        refine g_ldc2 dX11_price_34 lc_X11_409 ?_
        refine g_ladd dX11_price_37 ?_
        refine g_lconst (v := 1) dX11_price_38 rfl ?_
        refine g_lsub dX11_price_39 ?_
        refine g_ldc2 dX11_price_40 lc_X11_409 ?_
        refine g_ldiv dX11_price_43 (by decide) ?_
        refine g_l2i dX11_price_44 ?_
        refine g_goto (tgt := 49) dX11_price_45 (by decide) ?_
        exact g_iret dX11_price_49 ⟨congrArg (fun z : Int32 => some (Value.int z)) (show _ = prS A L I (nI a) (nI c) v from by rw [show prS A L I (nI a) (nI c) v = _ from if_neg (fun z => by rcases z with z | z | z | z | z | z | z; exact g1 (Or.inl z); exact g1 (Or.inr (Or.inl z)); exact g1 (Or.inr (Or.inr (Or.inl z))); exact g1 (Or.inr (Or.inr (Or.inr (Or.inl z)))); exact g1 (Or.inr (Or.inr (Or.inr (Or.inr (Int32.not_le.mpr z))))); exact c_17 (in_0.mpr (Or.inl z)); exact c_17 (in_0.mpr (Or.inr (Int32.not_le.mp z)))), d1, show (1000000000 : Int32) = nI 1000000000 from rfl, pk_sub (Nat.sub_le _ _), Nat.sub_sub_self dle, nI_64 (by omega), Int64.mul_comm]), _, _, _, q1, rfl⟩

theorem od_any {A : Nat → Nat → Int32} {L : Nat → Nat → Int64} {I : Nat → Nat → Int32} {X : Nat → Int64} {L2 : Nat → Nat → Int64} {n ch : Int32} (h : INV A I) (g1 : ¬ (I 0 12 = 0 ∨ n < 0 ∨ 30 < n ∨ ch < 0 ∨ ¬ ch ≤ 100)) : dpV A L n ch = dpV A L2 n ch := by
  have h30 : ∃ a c, a ≤ 30 ∧ c ≤ 100 ∧ n = nI a ∧ ch = nI c := by
    have h1 : ¬ inZ n 0 (nI 30) = 0 := fun z => g1 (Or.inr ((in_0.mp z).imp id Or.inl))
    have h2 : ¬ inZ ch 0 (nI 100) = 0 := fun z => g1 (Or.inr (Or.inr (Or.inr ((in_0.mp z).imp id Int32.not_le.mpr))))
    obtain ⟨a, a1, a2⟩ := in_1 (by decide) h1
    obtain ⟨c, c1, c2⟩ := in_1 (by decide) h2
    exact ⟨a, c, a1, c1, a2, c2⟩
  obtain ⟨a, c, a30, c100, rfl, rfl⟩ := h30
  obtain ⟨ms, cs, hP⟩ := INV_P h (fun z => g1 (Or.inl z))
  obtain ⟨m, m30, m1, m2⟩ := od_hm hP
  obtain ⟨d1, d2⟩ := dpV_n (L := L) (n := a) (c := c) m2 m30 a30 c100
  have dle := WP_le d2 (j := 0) (by decide)
  rw [d1, (dpV_n (L := L2) (n := a) (c := c) m2 m30 a30 c100).1]
theorem odS_any {A A1 : Nat → Nat → Int32} {L L1 : Nat → Nat → Int64} {I I1 : Nat → Nat → Int32} {n ch : Int32} (h : INV A I) (q : sm A L I A1 L1 I1) : odS A1 L1 I1 n ch = odS A L I n ch := by
  unfold odS
  rw [q.2.1 0 12 (by decide)]
  by_cases g1 : I 0 12 = 0 ∨ n < 0 ∨ 30 < n ∨ ch < 0 ∨ ¬ ch ≤ 100
  · rw [if_pos g1, if_pos g1]
  · rw [if_neg g1, if_neg g1, od_any (X := fun _ => 0) h g1 (L2 := L1)]
    unfold dpV
    rw [q.1 20 (by decide)]
theorem prS_any {A A1 : Nat → Nat → Int32} {L L1 : Nat → Nat → Int64} {I I1 : Nat → Nat → Int32} {n ch v : Int32} (h : INV A I) (q : sm A L I A1 L1 I1) : prS A1 L1 I1 n ch v = prS A L I n ch v := by
  unfold prS
  rw [q.2.1 0 12 (by decide)]
  by_cases g : I 0 12 = 0 ∨ n < 0 ∨ 30 < n ∨ ch < 0 ∨ 100 < ch ∨ v < 1 ∨ ¬ v ≤ 999
  · rw [if_pos g, if_pos g]
  · have g1 : ¬ (I 0 12 = 0 ∨ n < 0 ∨ 30 < n ∨ ch < 0 ∨ ¬ ch ≤ 100) := fun z => g (z.imp id (fun z => z.imp id (fun z => z.imp id (fun z => z.imp id (fun z => Or.inl (Int32.not_le.mp z))))))
    rw [if_neg g, if_neg g, od_any (X := fun _ => 0) h g1 (L2 := L1)]
    unfold dpV
    rw [q.1 20 (by decide)]
theorem oilS_sm {A A1 : Nat → Nat → Int32} {L L1 : Nat → Nat → Int64} {I I1 : Nat → Nat → Int32} {k n w : Int32} (h : sm A L I A1 L1 I1) : oilS A1 I1 k n w = oilS A I k n w := by
  have e : oiT A1 I1 k n = oiT A I k n := by
    funext row s
    unfold oiT oiV
    rw [fc_sm h, h.1 20 (by decide)]
  unfold oilS oiS
  rw [e, h.1 20 (by decide), h.2.1 0 12 (by decide)]
theorem step_oil {A : Nat → Nat → Int32} {L : Nat → Nat → Int64} {I : Nat → Nat → Int32} {X : Nat → Int64} {k n w : Int32} (h : INV A I) : ST 8 yX10_oil cX10_oil 4 13 yX11_oil cX11_oil 4 (some .int) [.int k, .int n, .int w] (hp A L I X) := by
  refine ST_q h (m_oil (fun z => ?_)) (fun A1 L1 I1 q h1 => by rw [← oilS_sm q]; exact n_oil h1)
  obtain ⟨ms, cs, hP⟩ := INV_P h z
  have h2 := PLN_ms hP
  rw [g143_9, hP.2.1.1.1.2.2.2.2.1, nI_clamp (by omega)]
  omega
theorem step_odds {A : Nat → Nat → Int32} {L : Nat → Nat → Int64} {I : Nat → Nat → Int32} {X : Nat → Int64} {n ch : Int32} (h : INV A I) : ST 8 yX10_odds cX10_odds 3 3 yX11_odds cX11_odds 3 (some .int) [.int n, .int ch] (hp A L I X) :=
  ST_q h m_odds (fun A1 L1 I1 q h1 => by rw [← odS_any h q]; exact n_odds h1)
theorem step_price {A : Nat → Nat → Int32} {L : Nat → Nat → Int64} {I : Nat → Nat → Int32} {X : Nat → Int64} {n ch v : Int32} (h : INV A I) : ST 8 yX10_price cX10_price 4 3 yX11_price cX11_price 4 (some .int) [.int n, .int ch, .int v] (hp A L I X) :=
  ST_q h m_price (fun A1 L1 I1 q h1 => by rw [← prS_any h q]; exact n_price h1)
