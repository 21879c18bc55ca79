/-! WHAT IS READ IS WELL FORMED -/
theorem okW_1 {x : Int32} {T T' : List Bool} (h : okS x T T') (hl : T'.length ≤ 18) : okW 18 [x] T T' := ⟨T', h, hl, rfl⟩
/-- a number's words, a truth's words; h: how high they stack -/
def okN (b : Bool) (h : Nat) (s : PR TL) : Prop := ∀ d v, s = .inr (d, v) → ∀ U : List Bool, U.length + h ≤ 18 → okW 18 v U (b :: U)
theorem okN_up {b : Bool} {h h' : Nat} {s : PR TL} (k : okN b h s) (hh : h ≤ h') : okN b h' s := fun d v e U hU => k d v e U (by omega)
theorem okN_ex {b : Bool} {h : Nat} {T : Nat → Int32} {n : Nat} {c : Int32} {s : PR TL} (k : okN b h s) : okN b h (exS T n c s) := by
  intro d v e U hU
  cases s with
  | inl p => cases e
  | inr x =>
    obtain ⟨a, u⟩ := x
    unfold exS at e
    simp only at e
    split at e
    · cases e
      exact k _ _ rfl U hU
    · cases e
theorem okN_lp {b : Bool} {h : Nat} {T : Nat → Int32} {n : Nat} {item : Nat → PR TL} {op : Int32 → Bool} (hi : ∀ a, okN b h (item a)) (ho : ∀ c, op c = true → ∀ U : List Bool, okS (wd 2 c) (b :: b :: U) (b :: U)) (h1 : 1 ≤ h) : ∀ f (s : PR TL), okN b (h + 1) s → okN b (h + 1) (lpB T n item op f s)
  | 0, s, k => by
    intro d v e U hU
    cases s with
    | inl p => cases e
    | inr x => cases e; exact k _ _ rfl U hU
  | f + 1, s, k => by
    cases s with
    | inl p => intro d v e; cases e
    | inr x =>
      obtain ⟨a, u⟩ := x
      by_cases c : op (bt T n (sk T n a)) = true
      · rw [lpB_step c]
        refine okN_lp hi ho h1 f _ ?_
        intro d v e U hU
        have ku := k a u rfl U hU
        cases hit : item (sk T n a + 1) with
        | inl p => rw [bnd_eq hit] at e; cases e
        | inr y =>
          obtain ⟨d2, v2⟩ := y
          have kv := hi _ d2 v2 hit (b :: U) (by simp only [List.length_cons]; omega)
          rw [bnd_eq hit] at e
          cases e
          exact okW_app (okW_app ku kv) (okW_1 (ho _ c U) (by simp only [List.length_cons]; omega))
      · rw [lpB_stop c]
        intro d v e U hU
        cases e
        exact k _ _ rfl U hU
theorem numP_v {T : Nat → Int32} {n a d : Nat} {v : Int32} (h : numP T n 4 0 9999 a = .inr (d, v)) : ∃ m, m < 10000 ∧ v = nI m := by
  unfold numP at h
  split at h
  · split at h
    · cases h
    · split at h
      · cases h
      · rename_i h1 h2 h3
        obtain ⟨y, y1, y2⟩ := dgL_n (T := T) (n := n) 4 (sk T n a) 0
        cases h
        exact ⟨y, Nat.lt_of_lt_of_eq y2 (by decide), y1⟩
  · cases h
def okT2 (T : Nat → Int32) (n : Nat) : Prop := ∀ a, lfS 4 (bt T n a) < 0 ∨ ∃ l, l < 6 ∧ lfS 4 (bt T n a) = nI l
theorem okT2_of {A0 I0 : Nat → Nat → Int32} {n : Nat} (tp : tpM A0 I0 n) : okT2 (A0 47) n := by
  intro a
  rw [lf_bt tp]
  by_cases c : leZ (bt (A0 47) n a) = (-1)
  · rw [c]; exact Or.inl (by decide)
  · exact Or.inr (le_l c)
theorem okN_atom {T : Nat → Int32} {n h : Nat} {sub : Option (Nat → PR TL)} (ht : okT2 T n) (hs : ∀ g, sub = some g → ∀ a, okN true h (g a)) (h1 : 1 ≤ h) (a : Nat) : okN true h (atomF T n sub a) := by
  intro d v e U hU
  unfold atomF at e
  split at e
  · split at e
    · cases sub with
      | none => cases e
      | some g => exact okN_ex (hs g rfl _) d v e U hU
    · cases hnp : numP T n 4 0 9999 (sk T n a) with
      | inl p => rw [hnp] at e; cases e
      | inr y =>
        obtain ⟨d2, w⟩ := y
        obtain ⟨m, m1, m2⟩ := numP_v hnp
        rw [hnp] at e
        cases e
        exact okW_1 (Or.inl ⟨m, m1, by rw [m2], rfl⟩) (by simp only [List.length_cons]; omega)
  · rename_i hc
    cases e
    rcases ht (sk T n a) with z | ⟨l, l1, l2⟩
    · exact absurd z hc
    · exact okW_1 (Or.inr (Or.inl ⟨l, l1, by rw [l2], rfl⟩)) (by simp only [List.length_cons]; omega)
theorem op_num2 {c : Int32} (h : opM c = true ∨ opA c = true) (U : List Bool) : okS (wd 2 c) (true :: true :: U) (true :: U) := by
  refine Or.inr (Or.inr (Or.inl ⟨c, U, ?_, rfl, rfl, rfl⟩))
  rcases h with h | h
  · unfold opM at h
    simp only [Bool.or_eq_true, decide_eq_true_eq] at h
    rcases h with h | h
    · exact Or.inr (Or.inr (Or.inl h))
    · exact Or.inr (Or.inr (Or.inr h))
  · unfold opA at h
    simp only [Bool.or_eq_true, decide_eq_true_eq] at h
    rcases h with h | h
    · exact Or.inl h
    · exact Or.inr (Or.inl h)
theorem okN_sumF {T : Nat → Int32} {n h : Nat} {sub : Option (Nat → PR TL)} (ht : okT2 T n) (hs : ∀ g, sub = some g → ∀ a, okN true h (g a)) (h1 : 1 ≤ h) (a : Nat) : okN true (h + 2) (sumF T n sub a) := by
  have ka := okN_atom ht hs h1
  have kt : ∀ a, okN true (h + 1) (termF T n sub a) := fun a => okN_lp ka (fun c hc U => op_num2 (Or.inl hc) U) h1 240 _ (okN_up (ka a) (by omega))
  exact okN_lp kt (fun c hc U => op_num2 (Or.inr hc) U) (by omega) 240 _ (okN_up (kt a) (by omega))
theorem okN_sum {T : Nat → Int32} {n : Nat} (ht : okT2 T n) : ∀ r a, okN true (2 * r + 3) (sumP T n r a)
  | 0, a => okN_sumF (h := 1) ht (fun g hg => by cases hg) (by decide) a
  | r + 1, a => by
    have k := okN_sumF (h := 2 * r + 3) (sub := some (sumP T n r)) ht (fun g hg => by cases hg; exact okN_sum ht r) (by omega) a
    exact okN_up k (by omega)
theorem okN_unitF {T : Nat → Int32} {n r : Nat} {sub : Option ((Nat → PR TL) × (Nat → PR TL))} (ht : okT2 T n) (hs : ∀ g, sub = some g → (∀ a, okN false (2 * r + 4) (g.1 a)) ∧ ∀ a, okN false (2 * r + 4) (g.2 a)) (a : Nat) : okN false (2 * r + 4) (unitF T n r sub a) := by
  intro d v e U hU
  unfold unitF at e
  split at e
  · cases sub with
    | none => cases e
    | some g =>
      cases hu : g.1 (sk T n a + 1) with
      | inl p =>
        have e2 : wrS (wd 2 33) (g.1 (sk T n a + 1)) = .inr (d, v) := e
        rw [hu] at e2; cases e2
      | inr y =>
        obtain ⟨d2, w⟩ := y
        have e2 : wrS (wd 2 33) (g.1 (sk T n a + 1)) = .inr (d, v) := e
        have kw := (hs g rfl).1 _ d2 w hu U hU
        rw [hu] at e2
        cases e2
        exact okW_app kw (okW_1 (Or.inr (Or.inr (Or.inr (Or.inr (Or.inl ⟨U, rfl, rfl, rfl⟩))))) (by simp only [List.length_cons]; omega))
  · split at e
    · cases sub with
      | none => cases e
      | some g => exact okN_ex ((hs g rfl).2 _) d v e U hU
    · cases hsp : sumP T n r (sk T n a) with
      | inl p => rw [hsp] at e; cases e
      | inr y =>
        obtain ⟨d2, w⟩ := y
        have kw := okN_sum ht r _ d2 w hsp U (by omega)
        rw [hsp] at e
        unfold cmpQ at e
        by_cases hop : opC (bt T n (sk T n d2)) = true
        · cases hs2 : sumP T n r (sk T n d2 + 1) with
          | inl p =>
            rw [bnd_eq (r := .inl p) ((if_pos hop).trans (by rw [hs2]; rfl))] at e
            cases e
          | inr z =>
            obtain ⟨d3, w2⟩ := z
            have kw2 := okN_sum ht r _ d3 w2 hs2 (true :: U) (by simp only [List.length_cons]; omega)
            rw [bnd_eq (r := .inr (d3, w2 ++ [wd 2 (bt T n (sk T n d2))])) ((if_pos hop).trans (by rw [hs2]; rfl))] at e
            cases e
            refine okW_app kw (okW_app kw2 (okW_1 (Or.inr (Or.inr (Or.inr (Or.inl ⟨_, U, ?_, rfl, rfl, rfl⟩)))) (by simp only [List.length_cons]; omega)))
            unfold opC at hop
            simp only [Bool.or_eq_true, decide_eq_true_eq] at hop
            rcases hop with (h | h) | h
            · exact Or.inl h
            · exact Or.inr (Or.inl h)
            · exact Or.inr (Or.inr h)
        · rw [bnd_eq (r := .inl (sk T n d2)) (if_neg hop)] at e
          cases e
theorem op_log2 {k c : Int32} (hk : k = 38 ∨ k = 124) (h : op1 k c = true) (U : List Bool) : okS (wd 2 c) (false :: false :: U) (false :: U) := by
  have e : c = k := of_decide_eq_true h
  refine Or.inr (Or.inr (Or.inr (Or.inr (Or.inr ⟨c, U, ?_, rfl, rfl, rfl⟩))))
  rw [e]
  exact hk
theorem okN_truth {T : Nat → Int32} {n h : Nat} {u : Nat → PR TL} (hu : ∀ a, okN false h (u a)) (h1 : 1 ≤ h) (s : PR TL) (k : okN false (h + 1) s) : okN false (h + 1) (truthF T n u s) :=
  okN_lp hu (fun c hc U => op_log2 (Or.inl rfl) hc U) h1 240 s k
theorem okN_cond {T : Nat → Int32} {n h : Nat} {u : Nat → PR TL} (hu : ∀ a, okN false h (u a)) (h1 : 1 ≤ h) (s : PR TL) (k : okN false h s) : okN false (h + 2) (condF T n u s) :=
  okN_lp (fun a => okN_truth hu h1 _ (okN_up (hu a) (by omega))) (fun c hc U => op_log2 (Or.inr rfl) hc U) (by omega) 240 _ (okN_up (okN_truth hu h1 s (okN_up k (by omega))) (by omega))
theorem okN_UP {T : Nat → Int32} {n : Nat} (ht : okT2 T n) : ∀ r, (∀ a, okN false (2 * r + 4) ((UP T n r).1 a)) ∧ ∀ a, okN false (2 * r + 6) ((UP T n r).2 a)
  | 0 => by
    have h : ∀ a, okN false 4 (unitF T n 0 none a) := okN_unitF (r := 0) ht (fun g hg => by cases hg)
    exact ⟨h, fun a => okN_cond h (by decide) _ (h a)⟩
  | r + 1 => by
    have i := okN_UP ht r
    have h : ∀ a, okN false (2 * (r + 1) + 4) (unitF T n (r + 1) (some (UP T n r)) a) := okN_unitF ht (fun g hg => by cases hg; exact ⟨fun a => okN_up (i.1 a) (by omega), fun a => okN_up (i.2 a) (by omega)⟩)
    exact ⟨h, fun a => okN_cond h (by omega) _ (h a)⟩
theorem okN_unit {T : Nat → Int32} {n : Nat} (ht : okT2 T n) (r a : Nat) : okN false (2 * r + 4) (unitP T n r a) := by
  rw [← UP_1]
  exact (okN_UP ht r).1 a
theorem okN_cmp {T : Nat → Int32} {n : Nat} (ht : okT2 T n) {a d : Nat} {u v : TL} (h1 : okW 18 u [] [true]) (h : bnd (.inr (a, u)) (cmpQ T n 6) = .inr (d, v)) : okW 18 v [] [false] := by
  unfold cmpQ at h
  by_cases hop : opC (bt T n (sk T n a)) = true
  · cases hs2 : sumP T n 6 (sk T n a + 1) with
    | inl p =>
      rw [bnd_eq (r := .inl p) ((if_pos hop).trans (by rw [hs2]; rfl))] at h
      cases h
    | inr z =>
      obtain ⟨d3, w2⟩ := z
      have kw2 := okN_sum ht 6 _ d3 w2 hs2 [true] (by decide)
      rw [bnd_eq (r := .inr (d3, w2 ++ [wd 2 (bt T n (sk T n a))])) ((if_pos hop).trans (by rw [hs2]; rfl))] at h
      cases h
      refine okW_app h1 (okW_app kw2 (okW_1 (Or.inr (Or.inr (Or.inr (Or.inl ⟨_, [], ?_, rfl, rfl, rfl⟩)))) (by decide)))
      unfold opC at hop
      simp only [Bool.or_eq_true, decide_eq_true_eq] at hop
      rcases hop with (h | h) | h
      · exact Or.inl h
      · exact Or.inr (Or.inl h)
      · exact Or.inr (Or.inr h)
  · rw [bnd_eq (r := .inl (sk T n a)) (if_neg hop)] at h
    cases h
/-- from here on: words that begin on an empty stack -/
def okE (b : Bool) (s : PR TL) : Prop := ∀ d v, s = .inr (d, v) → okW 18 v [] [b]
theorem okE_N {b : Bool} {h : Nat} {s : PR TL} (k : okN b h s) (hh : h ≤ 18) : okE b s := fun d v e => k d v e [] (by simp only [List.length_nil]; omega)
theorem okE_lp {b : Bool} {h : Nat} {T : Nat → Int32} {n : Nat} {item : Nat → PR TL} {op : Int32 → Bool} (hi : ∀ a, okN b h (item a)) (ho : ∀ c, op c = true → ∀ U : List Bool, okS (wd 2 c) (b :: b :: U) (b :: U)) (hh : h ≤ 17) : ∀ f (s : PR TL), okE b s → okE b (lpB T n item op f s)
  | 0, s, k => by
    intro d v e
    cases s with
    | inl p => cases e
    | inr x => cases e; exact k _ _ rfl
  | f + 1, s, k => by
    cases s with
    | inl p => intro d v e; cases e
    | inr x =>
      obtain ⟨a, u⟩ := x
      by_cases c : op (bt T n (sk T n a)) = true
      · rw [lpB_step c]
        refine okE_lp hi ho hh f _ ?_
        intro d v e
        have ku := k a u rfl
        cases hit : item (sk T n a + 1) with
        | inl p => rw [bnd_eq hit] at e; cases e
        | inr y =>
          obtain ⟨d2, v2⟩ := y
          have kv := hi _ d2 v2 hit [b] (by simp only [List.length_cons, List.length_nil]; omega)
          rw [bnd_eq hit] at e
          cases e
          exact okW_app (okW_app ku kv) (okW_1 (ho _ c []) (by show 1 ≤ 18; decide))
      · rw [lpB_stop c]
        intro d v e
        cases e
        exact k _ _ rfl
theorem okE_ex {b : Bool} {T : Nat → Int32} {n : Nat} {c : Int32} {s : PR TL} (k : okE b s) : okE b (exS T n c s) := by
  intro d v e
  cases s with
  | inl p => cases e
  | inr x =>
    obtain ⟨a, u⟩ := x
    unfold exS at e
    simp only at e
    split at e
    · cases e
      exact k _ _ rfl
    · cases e
theorem okC_T {T : Nat → Int32} {n : Nat} (ht : okT2 T n) {s : PR TL} (k : okE false s) : ∀ d c, clT T n s = .inr (d, c) → okC c := by
  intro d c h
  unfold clT at h
  have k2 := okE_ex (T := T) (n := n) (c := 63) k
  cases hx : exS T n 63 s with
  | inl p => rw [hx] at h; cases h
  | inr x =>
    obtain ⟨b, t⟩ := x
    have kt := k2 b t hx
    rw [hx] at h
    cases hsp : sumP T n 6 b with
    | inl p => rw [clT2_l hsp] at h; cases h
    | inr y =>
      obtain ⟨e, u⟩ := y
      have ku := okE_N (okN_sum ht 6 b) (by decide) e u hsp
      rw [clT2_r hsp] at h
      cases h
      refine ⟨?_, kt, ku⟩
      rintro rfl
      exact absurd kt (by intro z; cases z)
theorem okC_clP {T : Nat → Int32} {n a : Nat} (ht : okT2 T n) : ∀ d c, clP T n a = .inr (d, c) → okC c := by
  intro d c h
  unfold clP at h
  cases hx : exS T n 58 (exS T n 121 (.inr (a, []))) with
  | inl p => rw [hx] at h; cases h
  | inr x =>
    obtain ⟨b, u0⟩ := x
    rw [hx] at h
    unfold clB at h
    simp only at h
    split at h
    · exact okC_T ht (okE_N (okN_cond (okN_unit ht 6) (by decide) _ (okN_unit ht 6 _)) (by decide)) d c h
    · cases hsp : sumP T n 6 (sk T n b) with
      | inl p => rw [hsp] at h; cases h
      | inr y =>
        obtain ⟨e, u⟩ := y
        have ku := okE_N (okN_sum ht 6 _) (by decide) e u hsp
        rw [hsp] at h
        unfold clS at h
        simp only at h
        split at h
        · refine okC_T ht (s := bnd (.inr (sk T n e, u)) (condQ T n)) ?_ d c h
          have ek : bnd (.inr (sk T n e, u)) (condQ T n) = lpB T n (fun a => truthF T n (unitP T n 6) (unitP T n 6 a)) (op1 124) 240 (lpB T n (unitP T n 6) (op1 38) 240 (bnd (.inr (sk T n e, u)) (cmpQ T n 6))) := by
            rw [lpB_bnd, lpB_bnd]
            rfl
          rw [ek]
          refine okE_lp (h := 2 * 6 + 5) (fun a => okN_truth (okN_unit ht 6) (by decide) _ (okN_up (okN_unit ht 6 a) (by decide))) (fun c hc U => op_log2 (Or.inr rfl) hc U) (by decide) 240 _ ?_
          refine okE_lp (okN_unit ht 6) (fun c hc U => op_log2 (Or.inl rfl) hc U) (by decide) 240 _ ?_
          exact fun d v e => okN_cmp ht ku e
        · cases h
          exact ku
def okCs (s : PR (List CLA)) : Prop := ∀ d cs, s = .inr (d, cs) → ∀ c ∈ cs, okC c
theorem okCs_nxt {T : Nat → Int32} {n a : Nat} {cs : List CLA} (ht : okT2 T n) (h : ∀ c ∈ cs, okC c) : okCs (nxt cs (clP T n a)) := by
  intro d ds e
  cases hc : clP T n a with
  | inl p => rw [hc] at e; cases e
  | inr y =>
    obtain ⟨b, c⟩ := y
    rw [hc] at e
    cases e
    intro x hx
    rcases List.mem_append.mp hx with hx | hx
    · exact h x hx
    · rw [List.mem_singleton.mp hx]
      exact okC_clP ht _ _ hc
theorem okCs_L {T : Nat → Int32} {n : Nat} (ht : okT2 T n) : ∀ f (s : PR (List CLA)), okCs s → okCs (lawL T n f s)
  | 0, s, h => h
  | f + 1, s, h => by
    cases s with
    | inl p => rw [lawL_l]; exact h
    | inr x =>
      obtain ⟨b, cs⟩ := x
      by_cases c : bt T n (sk T n b) = 59
      · rw [lawL_go c]
        exact okCs_L ht f _ (okCs_nxt ht (h b cs rfl))
      · rw [show lawL T n (f + 1) (.inr (b, cs)) = .inr (sk T n b, cs) from if_neg c]
        intro d ds e
        cases e
        exact h b cs rfl
theorem okCs_law {T : Nat → Int32} {n : Nat} (ht : okT2 T n) : okCs (lawP T n) := by
  have h := okCs_L ht 240 _ (okCs_nxt (a := 0) (cs := []) ht (fun c hc => by cases hc))
  intro d cs e
  unfold lawP lawE at e
  cases hx : lawL T n 240 (nxt [] (clP T n 0)) with
  | inl p => rw [hx] at e; cases e
  | inr x =>
    obtain ⟨b, ds⟩ := x
    rw [hx] at e
    simp only at e
    split at e
    · cases e
      exact h _ _ hx
    · cases e
