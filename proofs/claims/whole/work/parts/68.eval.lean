/-! WHAT A LAW'S WORDS COME TO -/
def sgC (a : Int32) : Int32 := if a = 43 then 2 else if a = 45 then 3 else if a = 42 then 4 else if a = 47 then 5 else if a = 61 then 6 else if a = 60 then 7 else if a = 62 then 8 else if a = 33 then 9 else if a = 38 then 10 else 11
def opc (x : Int32) : Int32 := if x / 10000 = 0 then 0 else if x / 10000 = 1 then 1 else sgC (rm x 10000)
def opv (x : Int32) : Int32 := if x / 10000 = 0 then rm x 10000 else if x / 10000 = 1 then rm x 10000 else 0
def stp (V : ROW) (x : Int32) (S : List Int32) : List Int32 :=
  if x / 10000 = 0 then rm x 10000 :: S else if x / 10000 = 1 then gt 6 V (rm x 10000) :: S
  else if rm x 10000 = 33 then hld (jnd 0 (rm x 10000) (S.headD 0)) :: S.tail else hld (jnd (S.tail.headD 0) (rm x 10000) (S.headD 0)) :: S.tail.tail
def evW (V : ROW) : TL → List Int32 → List Int32
  | [], S => S
  | x :: w, S => evW V w (stp V x S)
/-- what a word does to the kinds that lie on the stack: true a number, false a truth -/
def okS (x : Int32) (T T' : List Bool) : Prop :=
  (∃ v, v < 10000 ∧ x = wd 0 (nI v) ∧ T' = true :: T) ∨ (∃ l, l < 6 ∧ x = wd 1 (nI l) ∧ T' = true :: T) ∨
  (∃ c U, (c = 43 ∨ c = 45 ∨ c = 42 ∨ c = 47) ∧ x = wd 2 c ∧ T = true :: true :: U ∧ T' = true :: U) ∨
  (∃ c U, (c = 61 ∨ c = 60 ∨ c = 62) ∧ x = wd 2 c ∧ T = true :: true :: U ∧ T' = false :: U) ∨
  (∃ U, x = wd 2 33 ∧ T = false :: U ∧ T' = false :: U) ∨
  (∃ c U, (c = 38 ∨ c = 124) ∧ x = wd 2 c ∧ T = false :: false :: U ∧ T' = false :: U)
def okW (m : Nat) : TL → List Bool → List Bool → Prop
  | [], T, T' => T = T'
  | x :: w, T, T' => ∃ T1, okS x T T1 ∧ T1.length ≤ m ∧ okW m w T1 T'
theorem okW_app {m : Nat} {v : TL} {T1 T2 : List Bool} : ∀ {u : TL} {T : List Bool}, okW m u T T1 → okW m v T1 T2 → okW m (u ++ v) T T2
  | [], _, h, k => by
    obtain rfl := h
    exact k
  | x :: u, _, h, k => by
    obtain ⟨T3, h1, h2, h3⟩ := h
    exact ⟨T3, h1, h2, okW_app h3 k⟩
theorem okW_up {m m' : Nat} (hm : m ≤ m') {T' : List Bool} : ∀ {u : TL} {T : List Bool}, okW m u T T' → okW m' u T T'
  | [], _, h => h
  | x :: u, _, h => by
    obtain ⟨T3, h1, h2, h3⟩ := h
    exact ⟨T3, h1, Nat.le_trans h2 hm, okW_up hm h3⟩
theorem evW_app {V : ROW} : ∀ (u v : TL) (S : List Int32), evW V (u ++ v) S = evW V v (evW V u S)
  | [], _, _ => rfl
  | x :: u, v, S => evW_app u v (stp V x S)
def vOk (b : Bool) (x : Int32) : Prop := match b with
  | true => -1000000 ≤ x.toInt ∧ x.toInt ≤ 1000000
  | false => x = 0 ∨ x = 1
def tyV : List Int32 → List Bool → Prop
  | [], [] => True
  | x :: S, b :: T => vOk b x ∧ tyV S T
  | _, _ => False
theorem tyV_len : ∀ {S : List Int32} {T : List Bool}, tyV S T → S.length = T.length
  | [], [], _ => rfl
  | _ :: S, _ :: T, h => congrArg (· + 1) (tyV_len h.2)
  | [], _ :: _, h => h.elim
  | _ :: _, [], h => h.elim
theorem wd_n {k v : Nat} : wd (nI k) (nI v) = nI (k * 10000 + v) := by
  show nI k * nI 10000 + nI v = _
  rw [pk_mul, nI_add]
theorem wd_d {k v : Nat} (hk : k ≤ 4) (hv : v < 10000) : wd (nI k) (nI v) / 10000 = nI k ∧ rm (wd (nI k) (nI v)) 10000 = nI v := by
  rw [wd_n]
  refine ⟨?_, ?_⟩
  · rw [show (10000 : Int32) = nI 10000 from rfl, pk_div (by omega) (by decide) (by decide), show (k * 10000 + v) / 10000 = k by omega]
  · rw [show (10000 : Int32) = nI 10000 from rfl, rm_n (by omega) (by decide) (by decide), show (k * 10000 + v) % 10000 = v by omega]
theorem lc_0 {x y : Int64} : lg_cmp x y = 0 ↔ x = y := by
  unfold lg_cmp
  by_cases h : x > y
  · rw [if_pos h]
    refine ⟨fun z => absurd z (by decide), fun z => ?_⟩
    subst z
    exact absurd h Int64.lt_irrefl
  · rw [if_neg h]
    by_cases h2 : x = y
    · rw [if_pos h2]
      exact ⟨fun _ => h2, fun _ => rfl⟩
    · rw [if_neg h2]
      exact ⟨fun z => absurd z (by decide), fun z => absurd z h2⟩
theorem lc_le {x y : Int64} : lg_cmp x y ≤ 0 ↔ x ≤ y := by
  unfold lg_cmp
  by_cases h : x > y
  · rw [if_pos h]
    exact ⟨fun z => absurd z (by decide), fun z => absurd (Int64.lt_of_lt_of_le h z) Int64.lt_irrefl⟩
  · rw [if_neg h]
    refine ⟨fun _ => Int64.not_lt.mp h, fun _ => ?_⟩
    split <;> decide
theorem lc_gt {x y : Int64} : 0 < lg_cmp x y ↔ y < x := by
  rw [← Int32.not_le, lc_le, Int64.not_le]
theorem lc_lt {x y : Int64} : lg_cmp x y < 0 ↔ x < y := by
  rw [← Int32.not_le, lg_cmp_ge, Int64.not_le]
theorem hld_c (v : Int64) : hld v = if 1000000 < v then 1000000 else if v < (-1000000) then (-1000000) else v.toInt32 := by
  unfold hld
  by_cases h : (1000000 : Int64) < v
  · rw [if_pos (lc_gt.mpr h), if_pos h]
  · rw [if_neg (fun z => h (lc_gt.mp z)), if_neg h]
    by_cases h2 : v < (-1000000)
    · rw [if_pos (lc_lt.mpr h2), if_pos h2]
    · rw [if_neg (fun z => h2 (lc_lt.mp z)), if_neg h2]
theorem bo_hld (v : Int64) : boZ v = hld v := by
  rw [hld_c]
  unfold boZ mxl mnl
  by_cases h : (1000000 : Int64) < v
  · rw [if_neg (Int64.not_lt.mpr (Int64.le_of_lt h)), if_pos h, if_neg (by decide)]
    decide
  · rw [if_neg h]
    by_cases h3 : v < 1000000
    · rw [if_pos h3]
      by_cases h2 : v < (-1000000)
      · rw [if_pos h2, if_pos h2]
        decide
      · rw [if_neg h2, if_neg h2]
    · rw [if_neg h3]
      have e : v = 1000000 := Int64.le_antisymm (Int64.not_lt.mp h) (Int64.not_lt.mp h3)
      subst e
      decide
theorem hld_b (v : Int64) : vOk true (hld v) := by
  show -1000000 ≤ (hld v).toInt ∧ (hld v).toInt ≤ 1000000
  rw [hld_c]
  by_cases h : (1000000 : Int64) < v
  · rw [if_pos h]; decide
  · rw [if_neg h]
    by_cases h2 : v < (-1000000)
    · rw [if_pos h2]; decide
    · rw [if_neg h2]
      rw [Int64.lt_iff_toInt_lt] at h h2
      have e1 : (1000000 : Int64).toInt = 1000000 := by decide
      have e2 : (-1000000 : Int64).toInt = -1000000 := by decide
      rw [e1] at h
      rw [e2] at h2
      rw [Int64.toInt_toInt32, Int.bmod_eq_of_le (by omega) (by omega)]
      omega
theorem vk_n {v : Nat} (h : v < 10000) : vOk true (nI v) := by
  show -1000000 ≤ (nI v).toInt ∧ (nI v).toInt ≤ 1000000
  rw [nI_toInt (by omega)]
  omega
/-- a word on the stack: kinds as told -/
theorem tyV_stp {V : ROW} (hV : ∀ l, l < 6 → vOk true (V l)) {x : Int32} {S : List Int32} {T T' : List Bool} (h : okS x T T') (hS : tyV S T) : tyV (stp V x S) T' := by
  rcases h with ⟨v, hv, rfl, rfl⟩ | ⟨l, hl, rfl, rfl⟩ | ⟨c, U, hc, rfl, rfl, rfl⟩ | ⟨c, U, hc, rfl, rfl, rfl⟩ | ⟨U, rfl, rfl, rfl⟩ | ⟨c, U, hc, rfl, rfl, rfl⟩
  · obtain ⟨d1, d2⟩ := wd_d (k := 0) (by decide) hv
    unfold stp
    rw [show wd 0 (nI v) / 10000 = nI 0 from d1, show rm (wd 0 (nI v)) 10000 = nI v from d2, if_pos nI_0]
    exact ⟨vk_n hv, hS⟩
  · obtain ⟨d1, d2⟩ := wd_d (k := 1) (v := l) (by decide) (by omega)
    unfold stp
    rw [show wd 1 (nI l) / 10000 = nI 1 from d1, show rm (wd 1 (nI l)) 10000 = nI l from d2, if_neg (by decide), if_pos (show nI 1 = 1 from rfl), gt_nI hl (by decide)]
    exact ⟨hV l hl, hS⟩
  · match S, hS with
    | r :: l :: S2, hS =>
      have e : stp V (wd 2 c) (r :: l :: S2) = hld (jnd l c r) :: S2 := by
        rcases hc with rfl | rfl | rfl | rfl <;> rfl
      rw [e]
      exact ⟨hld_b _, hS.2.2⟩
  · match S, hS with
    | r :: l :: S2, hS =>
      have e : stp V (wd 2 c) (r :: l :: S2) = hld (jnd l c r) :: S2 := by
        rcases hc with rfl | rfl | rfl <;> rfl
      rw [e]
      refine ⟨?_, hS.2.2⟩
      show hld (jnd l c r) = 0 ∨ hld (jnd l c r) = 1
      rcases hc with rfl | rfl | rfl
      · show hld (if l = r then 1 else 0) = 0 ∨ hld (if l = r then 1 else 0) = 1
        split
        · exact Or.inr (by decide)
        · exact Or.inl (by decide)
      · show hld (if l < r then 1 else 0) = 0 ∨ hld (if l < r then 1 else 0) = 1
        split
        · exact Or.inr (by decide)
        · exact Or.inl (by decide)
      · show hld (if r < l then 1 else 0) = 0 ∨ hld (if r < l then 1 else 0) = 1
        split
        · exact Or.inr (by decide)
        · exact Or.inl (by decide)
  · match S, hS with
    | r :: S2, hS =>
      have e : stp V (wd 2 33) (r :: S2) = hld (jnd 0 33 r) :: S2 := rfl
      rw [e]
      refine ⟨?_, hS.2⟩
      rcases hS.1 with rfl | rfl
      · exact Or.inr (by decide)
      · exact Or.inl (by decide)
  · match S, hS with
    | r :: l :: S2, hS =>
      have e : stp V (wd 2 c) (r :: l :: S2) = hld (jnd l c r) :: S2 := by
        rcases hc with rfl | rfl <;> rfl
      rw [e]
      refine ⟨?_, hS.2.2⟩
      show hld (jnd l c r) = 0 ∨ hld (jnd l c r) = 1
      rcases hc with rfl | rfl <;> rcases hS.1 with rfl | rfl <;> rcases hS.2.1 with rfl | rfl <;> decide
theorem tyV_ev {V : ROW} (hV : ∀ l, l < 6 → vOk true (V l)) {m : Nat} {T' : List Bool} : ∀ {w : TL} {S : List Int32} {T : List Bool}, okW m w T T' → tyV S T → tyV (evW V w S) T'
  | [], _, _, h, hS => by
    obtain rfl := h
    exact hS
  | x :: w, S, _, h, hS => by
    obtain ⟨T1, h1, h2, h3⟩ := h
    exact tyV_ev (w := w) (S := stp V x S) hV h3 (tyV_stp hV h1 hS)
/-- one word in the class -/
theorem cl_step {C V : ROW} {b n i x : Int32} {fuel : Nat} {S : List Int32} {T T' : List Bool} (hn : ¬ n ≤ i) (hx : gt 960 C (b + i) = x) (h : okS x T T') (hS : tyV S T) (hl : S.length < 64) : wRun C V b n (fuel + 1) i S = wRun C V b n fuel (i + 1) (stp V x S) := by
  subst hx
  rcases h with ⟨v, hv, e, rfl⟩ | ⟨l, hl2, e, rfl⟩ | ⟨c, U, hc, e, rfl, rfl⟩ | ⟨c, U, hc, e, rfl, rfl⟩ | ⟨U, e, rfl, rfl⟩ | ⟨c, U, hc, e, rfl, rfl⟩
  · obtain ⟨d1, d2⟩ := wd_d (k := 0) (by decide) hv
    rw [wr0 hn (by rw [e]; exact d1)]
    unfold stp wPush
    rw [if_pos hl, if_pos (by rw [e]; exact d1)]
  · obtain ⟨d1, d2⟩ := wd_d (k := 1) (v := l) (by decide) (by omega)
    rw [wr1 hn (by rw [e]; exact d1)]
    unfold stp wPush
    rw [if_pos hl, if_neg (by rw [e]; intro z; exact absurd (d1.symm.trans z) (by decide)), if_pos (by rw [e]; exact d1)]
  · match S, hS with
    | r :: l :: S2, hS =>
      have e2 : wd 2 c / 10000 = 2 ∧ ¬ rm (wd 2 c) 10000 = 33 := by rcases hc with rfl | rfl | rfl | rfl <;> decide
      rw [wr2 hn (by rw [e]; exact e2.1), if_neg (by rw [e]; exact e2.2)]
      unfold stp wPush
      rw [if_pos (by simp only [List.tail_cons, List.length_cons] at hl ⊢; omega), if_neg (by rw [e, e2.1]; decide), if_neg (by rw [e, e2.1]; decide), if_neg (by rw [e]; exact e2.2)]
  · match S, hS with
    | r :: l :: S2, hS =>
      have e2 : wd 2 c / 10000 = 2 ∧ ¬ rm (wd 2 c) 10000 = 33 := by rcases hc with rfl | rfl | rfl <;> decide
      rw [wr2 hn (by rw [e]; exact e2.1), if_neg (by rw [e]; exact e2.2)]
      unfold stp wPush
      rw [if_pos (by simp only [List.tail_cons, List.length_cons] at hl ⊢; omega), if_neg (by rw [e, e2.1]; decide), if_neg (by rw [e, e2.1]; decide), if_neg (by rw [e]; exact e2.2)]
  · match S, hS with
    | r :: S2, hS =>
      have e2 : wd 2 33 / 10000 = 2 ∧ rm (wd 2 33) 10000 = 33 := by decide
      rw [wr2 hn (by rw [e]; exact e2.1), if_pos (by rw [e]; exact e2.2)]
      unfold stp wPush
      rw [if_pos (by simp only [List.tail_cons, List.length_cons] at hl ⊢; omega), if_neg (by rw [e, e2.1]; decide), if_neg (by rw [e, e2.1]; decide), if_pos (by rw [e]; exact e2.2)]
  · match S, hS with
    | r :: l :: S2, hS =>
      have e2 : wd 2 c / 10000 = 2 ∧ ¬ rm (wd 2 c) 10000 = 33 := by rcases hc with rfl | rfl <;> decide
      rw [wr2 hn (by rw [e]; exact e2.1), if_neg (by rw [e]; exact e2.2)]
      unfold stp wPush
      rw [if_pos (by simp only [List.tail_cons, List.length_cons] at hl ⊢; omega), if_neg (by rw [e, e2.1]; decide), if_neg (by rw [e, e2.1]; decide), if_neg (by rw [e]; exact e2.2)]
/-- a piece of words in the class -/
theorem cl_run {C V : ROW} (hV : ∀ l, l < 6 → vOk true (V l)) {b : Int32} {n m : Nat} (hm : m < 64) (hn : n < 2 ^ 31) {T' : List Bool} : ∀ {w : TL} {fuel p : Nat} {S : List Int32} {T : List Bool}, okW m w T T' → tyV S T → T.length ≤ m → p + w.length ≤ n → (∀ j x, w[j]? = some x → gt 960 C (b + nI (p + j)) = x) → wRun C V b (nI n) (fuel + w.length) (nI p) S = wRun C V b (nI n) fuel (nI (p + w.length)) (evW V w S)
  | [], _, _, _, _, _, _, _, _, _ => rfl
  | x :: w, fuel, p, S, T, h, hS, hT, hp, hw => by
    obtain ⟨T1, h1, h2, h3⟩ := h
    have hl := tyV_len hS
    simp only [List.length_cons] at hp
    rw [show fuel + (x :: w).length = (fuel + w.length) + 1 from rfl, cl_step (x := x) (nI_ge (by omega) (by omega)) (show gt 960 C (b + nI p) = x from hw 0 x rfl) h1 hS (by omega), nI_1, cl_run hV hm hn (p := p + 1) h3 (tyV_stp hV h1 hS) h2 (by omega) (fun j y hj => by
      have := hw (j + 1) y hj
      rw [show p + 1 + j = p + (j + 1) by omega]
      exact this), show p + 1 + w.length = p + (x :: w).length by simp only [List.length_cons]; omega]
    rfl