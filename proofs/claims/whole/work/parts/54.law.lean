/-! READING A LAW: what is read, and the reader's state -/
abbrev TL : Type := List Int32
abbrev wd (k x : Int32) : Int32 := k * 10000 + x
def bnd (s : PR TL) (f : Nat → PR TL) : PR TL := match s with
  | .inl p => .inl p
  | .inr (b, u) => match f b with
    | .inl p => .inl p
    | .inr (d, v) => .inr (d, u ++ v)
def lkS (T : Nat → Int32) (n : Nat) (s : PR TL) : PR TL := match s with
  | .inl p => .inl p
  | .inr (b, u) => .inr (sk T n b, u)
def stS (s : PR TL) : PR TL := match s with
  | .inl p => .inl p
  | .inr (b, u) => .inr (b + 1, u)
def exS (T : Nat → Int32) (n : Nat) (c : Int32) (s : PR TL) : PR TL := match s with
  | .inl p => .inl p
  | .inr (b, u) => if bt T n (sk T n b) = c then .inr (sk T n b + 1, u) else .inl (sk T n b)
def flS (s : PR TL) : PR TL := match s with
  | .inl p => .inl p
  | .inr (b, _) => .inl b
def wrS (x : Int32) (s : PR TL) : PR TL := match s with
  | .inl p => .inl p
  | .inr (b, u) => .inr (b, u ++ [x])
def loopP (T : Nat → Int32) (n : Nat) (item : Nat → PR TL) (op : Int32 → Bool) : Nat → Nat → TL → PR TL
  | 0, a, acc => .inr (a, acc)
  | f + 1, a, acc => if op (bt T n (sk T n a)) = true then (match item (sk T n a + 1) with
      | .inl p => .inl p
      | .inr (b, u) => loopP T n item op f b (acc ++ u ++ [wd 2 (bt T n (sk T n a))])) else .inr (sk T n a, acc)
def lpB (T : Nat → Int32) (n : Nat) (item : Nat → PR TL) (op : Int32 → Bool) (f : Nat) (s : PR TL) : PR TL := match s with
  | .inl p => .inl p
  | .inr (b, u) => loopP T n item op f b u
theorem loopP_app {T : Nat → Int32} {n : Nat} {item : Nat → PR TL} {op : Int32 → Bool} {u : TL} : ∀ f b v, loopP T n item op f b (u ++ v) = bnd (.inr (b, u)) (fun b => loopP T n item op f b v)
  | 0, b, v => rfl
  | f + 1, b, v => by
    unfold loopP bnd
    by_cases h : op (bt T n (sk T n b)) = true
    · simp only [if_pos h]
      cases item (sk T n b + 1) with
      | inl p => rfl
      | inr q =>
        obtain ⟨b2, u2⟩ := q
        have h2 := loopP_app (T := T) (n := n) (item := item) (op := op) (u := u) f b2 (v ++ u2 ++ [wd 2 (bt T n (sk T n b))])
        simp only [← List.append_assoc] at h2 ⊢
        rw [h2]
        rfl
    · simp only [if_neg h]
theorem lpB_bnd {T : Nat → Int32} {n : Nat} {item : Nat → PR TL} {op : Int32 → Bool} {f : Nat} {s : PR TL} {g : Nat → PR TL} : lpB T n item op f (bnd s g) = bnd s (fun a => lpB T n item op f (g a)) := by
  cases s with
  | inl p => rfl
  | inr q =>
    obtain ⟨b, u⟩ := q
    show lpB T n item op f (match g b with | .inl p => .inl p | .inr (d, v) => .inr (d, u ++ v)) = (match lpB T n item op f (g b) with | .inl p => .inl p | .inr (d, v) => .inr (d, u ++ v))
    cases g b with
    | inl p => rfl
    | inr q2 =>
      obtain ⟨d, v⟩ := q2
      show loopP T n item op f d (u ++ v) = _
      rw [loopP_app]
      rfl
def opM (c : Int32) : Bool := decide (c = 42) || decide (c = 47)
def opA (c : Int32) : Bool := decide (c = 43) || decide (c = 45)
def opC (c : Int32) : Bool := decide (c = 61) || decide (c = 60) || decide (c = 62)
def op1 (k c : Int32) : Bool := decide (c = k)
def numW (s : PR Int32) : PR TL := match s with
  | .inl p => .inl p
  | .inr (b, v) => .inr (b, [wd 0 v])
def atomF (T : Nat → Int32) (n : Nat) (sub : Option (Nat → PR TL)) (a : Nat) : PR TL :=
  if lfS 4 (bt T n (sk T n a)) < 0 then
    if bt T n (sk T n a) = 91 then (match sub with
      | none => .inl (sk T n a)
      | some g => exS T n 93 (g (sk T n a + 1)))
    else numW (numP T n 4 0 9999 (sk T n a))
  else .inr (sk T n a + 1, [wd 1 (lfS 4 (bt T n (sk T n a)))])
def termF (T : Nat → Int32) (n : Nat) (sub : Option (Nat → PR TL)) (a : Nat) : PR TL := lpB T n (atomF T n sub) opM 240 (atomF T n sub a)
def sumF (T : Nat → Int32) (n : Nat) (sub : Option (Nat → PR TL)) (a : Nat) : PR TL := lpB T n (termF T n sub) opA 240 (termF T n sub a)
def sumP (T : Nat → Int32) (n : Nat) : Nat → Nat → PR TL
  | 0 => sumF T n none
  | r + 1 => sumF T n (some (sumP T n r))
def subP (T : Nat → Int32) (n : Nat) : Nat → Option (Nat → PR TL)
  | 0 => none
  | r + 1 => some (sumP T n r)
theorem sumP_sub {T : Nat → Int32} {n r : Nat} : sumP T n r = sumF T n (subP T n r) := by cases r <;> rfl
def cmpQ (T : Nat → Int32) (n r b : Nat) : PR TL := if opC (bt T n (sk T n b)) = true then wrS (wd 2 (bt T n (sk T n b))) (sumP T n r (sk T n b + 1)) else .inl (sk T n b)
def unitF (T : Nat → Int32) (n r : Nat) (sub : Option ((Nat → PR TL) × (Nat → PR TL))) (a : Nat) : PR TL :=
  if bt T n (sk T n a) = 33 then (match sub with
    | none => .inl (sk T n a)
    | some (u, _) => wrS (wd 2 33) (u (sk T n a + 1)))
  else if bt T n (sk T n a) = 40 then (match sub with
    | none => .inl (sk T n a)
    | some (_, c) => exS T n 41 (c (sk T n a + 1)))
  else bnd (sumP T n r (sk T n a)) (cmpQ T n r)
def truthF (T : Nat → Int32) (n : Nat) (u : Nat → PR TL) (s : PR TL) : PR TL := lpB T n u (op1 38) 240 s
def condF (T : Nat → Int32) (n : Nat) (u : Nat → PR TL) (s : PR TL) : PR TL := lpB T n (fun a => truthF T n u (u a)) (op1 124) 240 (truthF T n u s)
def UP (T : Nat → Int32) (n : Nat) : Nat → (Nat → PR TL) × (Nat → PR TL)
  | 0 => (unitF T n 0 none, fun a => condF T n (unitF T n 0 none) (unitF T n 0 none a))
  | r + 1 => (unitF T n (r + 1) (some (UP T n r)), fun a => condF T n (unitF T n (r + 1) (some (UP T n r))) (unitF T n (r + 1) (some (UP T n r)) a))
def subU (T : Nat → Int32) (n : Nat) : Nat → Option ((Nat → PR TL) × (Nat → PR TL))
  | 0 => none
  | r + 1 => some (UP T n r)
abbrev unitP (T : Nat → Int32) (n r : Nat) : Nat → PR TL := unitF T n r (subU T n r)
theorem UP_u {T : Nat → Int32} {n r : Nat} : (UP T n r).1 = unitP T n r := by cases r <;> rfl
theorem UP_c {T : Nat → Int32} {n r : Nat} : (UP T n r).2 = fun a => condF T n (unitP T n r) (unitP T n r a) := by cases r <;> rfl
/-! the reader's state: cursor 9, reader 8, words 10 -/
def tpS (A I : Nat → Nat → Int32) (n : Nat) : Prop := I 1 1 = nI n ∧ n ≤ 240 ∧ ∀ j, j < n → ∃ v, 0 < v ∧ v < 256 ∧ A 2 j = nI v
def smL (A I A' I' : Nat → Nat → Int32) : Prop := (∀ i, i ≠ 10 → A' i = A i) ∧ ∀ i k, ¬ (i = 9 ∧ (k = 1 ∨ k = 2)) → ¬ (i = 8 ∧ k = 2) → I' i k = I i k
theorem smL_rf {A I : Nat → Nat → Int32} : smL A I A I := ⟨fun _ _ => rfl, fun _ _ _ _ => rfl⟩
theorem smL_tr {A I A1 I1 A2 I2 : Nat → Nat → Int32} (h : smL A I A1 I1) (k : smL A1 I1 A2 I2) : smL A I A2 I2 := ⟨fun i z => (k.1 i z).trans (h.1 i z), fun i l z z2 => (k.2 i l z z2).trans (h.2 i l z z2)⟩
theorem tpS_sm {A I A1 I1 : Nat → Nat → Int32} {n : Nat} (t : tpS A I n) (h : smL A I A1 I1) : tpS A1 I1 n := by
  refine ⟨(h.2 1 1 (by omega) (by omega)).trans t.1, t.2.1, fun j hj => ?_⟩
  rw [h.1 2 (by decide)]
  exact t.2.2 j hj
theorem tpS_ok {A I : Nat → Nat → Int32} {n : Nat} (t : tpS A I n) : okT (A 2) (I 1 1) := by
  intro x
  unfold btI
  by_cases h : x < 0 ∨ I 1 1 ≤ x ∨ ¬ x < 240
  · rw [if_pos h]; exact Or.inl rfl
  · rw [if_neg h]
    have h2 : ¬ x < 0 := fun z => h (Or.inl z)
    obtain ⟨j, hj, rfl⟩ := nI_of h2
    have h3 : j < n := by
      apply Nat.lt_of_not_le
      intro z
      exact h (Or.inr (Or.inl (by rw [t.1]; exact nI_le z hj)))
    rw [nI_clamp hj]
    exact Or.inr (t.2.2 j h3)
def St (A I : Nat → Nat → Int32) (n : Nat) (w : TL) (k : Nat) (s : PR TL) : Prop := match s with
  | .inl p => I 9 2 = nI p ∧ p ≤ n
  | .inr (b, u) => I 9 1 = nI b ∧ I 9 2 = (-1) ∧ I 8 2 = nI (w ++ u).length ∧ (∀ i x, (w ++ u)[i]? = some x → A 10 i = x) ∧ b ≤ n ∧ (w ++ u).length + k ≤ b
def SS (A0 I0 : Nat → Nat → Int32) (n : Nat) (w : TL) (k : Nat) (s : PR TL) (A I : Nat → Nat → Int32) : Prop := smL A0 I0 A I ∧ St A I n w k s
theorem nI_m1 {p : Nat} (h : p ≤ 240) : nI p ≠ (-1) := by
  intro z
  have h2 := nI_pos' (n := p) (by omega)
  rw [z] at h2
  exact absurd h2 (by decide)
/-- what a step of the reader leaves -/
def RQ (A0 : Nat → Nat → Int32) (L : Nat → Nat → Int64) (I0 : Nat → Nat → Int32) (X : Nat → Int64) (n : Nat) (w : TL) (k : Nat) (s : PR TL) : Option Value → m_H → Prop := fun r_ H_ => r_ = none ∧ ∃ A1 I1, SS A0 I0 n w k s A1 I1 ∧ H_ = hp A1 L I1 X
section RD
variable {A0 I0 A I : Nat → Nat → Int32} {L : Nat → Nat → Int64} {X : Nat → Int64} {n : Nat} {w : TL} {k : Nat} {s : PR TL}
theorem isC_9 : isC 9 := Or.inr rfl
def fdV (s : PR TL) : Int32 := match s with
  | .inl _ => 1
  | .inr _ => 0
theorem smL_9 {l : Nat} {v : Int32} (hl : l = 1 ∨ l = 2) : smL A I A (up2 I 9 l v) := ⟨fun _ _ => rfl, fun i k z _ => up2_ne (by omega)⟩
theorem r_failed (tp : tpS A0 I0 n) (h : SS A0 I0 n w k s A I) : Con 1 yX1_failed cX1_failed 1 (some .boolean) [.ref 9] (hp A L I X) (fun r_ H_ => r_ = some (.int (fdV s)) ∧ H_ = hp A L I X) := by
  refine Con.mono (fun r H' z => ⟨z.1.trans ?_, z.2⟩) (u_failed isC_9)
  have h2 := h.2
  cases s with
  | inl p =>
    rw [if_neg (by rw [h2.1]; exact nI_m1 (Nat.le_trans h2.2 tp.2.1))]
    rfl
  | inr q => rw [if_pos h2.2.1]; rfl
theorem r_step (tp : tpS A0 I0 n) (hb : ∀ b u, s = .inr (b, u) → b < n) (h : SS A0 I0 n w k s A I) : Con 1 yX1_step cX1_step 1 none [.ref 9] (hp A L I X) (RQ A0 L I0 X n w (k + 1) (stS s)) := by
  refine Con.mono (fun r H' z => ⟨z.1, A, _, ⟨smL_tr h.1 (smL_9 (Or.inl rfl)), ?_⟩, z.2⟩) (u_step isC_9)
  have h2 := h.2
  cases s with
  | inl p => exact ⟨by rw [up2_ne (by omega)]; exact h2.1, h2.2⟩
  | inr q =>
    obtain ⟨b, u⟩ := q
    have hb := hb b u rfl
    obtain ⟨e1, e2, e3, e4, e5, e6⟩ := h2
    exact ⟨by rw [up2_at, e1, nI_1], by rw [up2_ne (by omega)]; exact e2, by rw [up2_ne (by omega)]; exact e3, e4, hb, by omega⟩
theorem r_fail (tp : tpS A0 I0 n) (h : SS A0 I0 n w k s A I) : Con 1 yX1_fail cX1_fail 1 none [.ref 9] (hp A L I X) (RQ A0 L I0 X n w k (flS s)) := by
  refine Con.mono (fun r H' z => ⟨z.1, A, flI I 9, ⟨smL_tr h.1 ?_, ?_⟩, z.2⟩) (u_fail isC_9)
  · unfold flI
    split
    · exact smL_9 (Or.inr rfl)
    · exact smL_rf
  · have h2 := h.2
    cases s with
    | inl p =>
      unfold flI
      split
      · rename_i h3
        exact absurd (h2.1.symm.trans h3) (nI_m1 (Nat.le_trans h2.2 tp.2.1))
      · exact h2
    | inr q =>
      obtain ⟨b, u⟩ := q
      obtain ⟨e1, e2, e3, e4, e5, e6⟩ := h2
      rw [flI, if_pos e2]
      exact ⟨by rw [up2_at, e1], e5⟩
theorem r_look (tp : tpS A0 I0 n) (h : SS A0 I0 n w k s A I) : Con 2 yX1_look cX1_look 2 (some .int) [.ref 9] (hp A L I X) (fun r_ H_ => ∃ v, r_ = some (.int v) ∧ ∃ A1 I1, SS A0 I0 n w k (lkS (A0 2) n s) A1 I1 ∧ (∀ b u, s = .inr (b, u) → v = bt (A0 2) n (sk (A0 2) n b)) ∧ H_ = hp A1 L I1 X) := by
  have tp1 := tpS_sm tp h.1
  refine Con.mono (fun r H' z => ⟨_, z.1, A, _, ⟨smL_tr h.1 (smL_9 (Or.inl rfl)), ?_⟩, ?_, z.2⟩) (u_look isC_9)
  · have h2 := h.2
    cases s with
    | inl p => exact ⟨by rw [up2_ne (by omega)]; exact h2.1, h2.2⟩
    | inr q =>
      obtain ⟨b, u⟩ := q
      obtain ⟨e1, e2, e3, e4, e5, e6⟩ := h2
      have hs := sk_ge (T := A0 2) (n := n) (a := b)
      exact ⟨by rw [up2_at, e1, tp1.1, sk_Y tp1.2.1 e5, h.1.1 2 (by decide)], by rw [up2_ne (by omega)]; exact e2, by rw [up2_ne (by omega)]; exact e3, e4, sk_le e5, by omega⟩
  · rintro b u rfl
    obtain ⟨e1, e2, e3, e4, e5, e6⟩ := h.2
    have hl := sk_le (T := A0 2) e5
    rw [e1, tp1.1, sk_Y tp1.2.1 e5, h.1.1 2 (by decide), bt_I tp.2.1 (by have := tp.2.1; omega)]
theorem r_expect {c : Int32} (tp : tpS A0 I0 n) (hc : c ≠ (-1)) (h : SS A0 I0 n w k s A I) : Con 3 yX1_expect cX1_expect 2 none [.ref 9, .int c] (hp A L I X) (RQ A0 L I0 X n w (k + 1) (exS (A0 2) n c s)) := by
  have tp1 := tpS_sm tp h.1
  refine Con.mono (fun r H' z => ⟨z.1, A, exI (A 2) I 9 c, ⟨smL_tr h.1 ?_, ?_⟩, z.2⟩) (u_expect isC_9)
  · unfold exI flI
    split
    · exact smL_9 (Or.inl rfl)
    · split
      · exact smL_tr (smL_9 (Or.inl rfl)) (smL_9 (Or.inr rfl))
      · exact smL_9 (Or.inl rfl)
  · have h2 := h.2
    cases s with
    | inl p =>
      have hp : nI p ≠ (-1) := nI_m1 (Nat.le_trans h2.2 tp.2.1)
      unfold exI
      split
      · exact ⟨by rw [up2_ne (by omega)]; exact h2.1, h2.2⟩
      · unfold flI
        rw [if_neg (by rw [up2_ne (by omega), h2.1]; exact hp)]
        exact ⟨by rw [up2_ne (by omega)]; exact h2.1, h2.2⟩
    | inr q =>
      obtain ⟨b, u⟩ := q
      obtain ⟨e1, e2, e3, e4, e5, e6⟩ := h2
      have hs := sk_ge (T := A0 2) (n := n) (a := b)
      have hl := sk_le (T := A0 2) e5
      unfold exI
      rw [e1, tp1.1, sk_Y tp1.2.1 e5, h.1.1 2 (by decide), bt_I tp.2.1 (by have := tp.2.1; omega)]
      show St A (if bt (A0 2) n (sk (A0 2) n b) = c then up2 I 9 1 (nI (sk (A0 2) n b) + 1) else flI (up2 I 9 1 (nI (sk (A0 2) n b))) 9) n w (k + 1) (if bt (A0 2) n (sk (A0 2) n b) = c then .inr (sk (A0 2) n b + 1, u) else .inl (sk (A0 2) n b))
      by_cases hc2 : bt (A0 2) n (sk (A0 2) n b) = c
      · rw [if_pos hc2, if_pos hc2]
        have hlt := bt_lt (T := A0 2) (n := n) (a := sk (A0 2) n b) (by rw [hc2]; exact hc)
        exact ⟨by rw [up2_at, nI_1], by rw [up2_ne (by omega)]; exact e2, by rw [up2_ne (by omega)]; exact e3, e4, hlt, by omega⟩
      · rw [if_neg hc2, if_neg hc2, flI_1 e2]
        exact ⟨by rw [up2_at], hl⟩
end RD
set_option maxHeartbeats 4000000 in
set_option maxRecDepth 100000 in
theorem r_write0 {A : Nat → Nat → Int32} {L : Nat → Nat → Int64} {I : Nat → Nat → Int32} {X : Nat → Int64} {k x : Int32}  : Con 2 yX4_write cX4_write 3 none [.ref 8, .int k, .int x] (hp A L I X) (fun r_ H_ => r_ = none ∧ H_ = hp (up A 10 (pt 240 (A 10) (I 8 2) (wd k x))) L (up2 I 8 2 (I 8 2 + 1)) X) := by
  refine m_con (by decide) (Nat.le_of_ble_eq_true rfl) ?_
  refine g_aload_n dX4_write_0 rfl rfl ?_
  refine g_get dX4_write_1 fl_X4_9 hp_8 rfl ?_
  refine g_aload_n dX4_write_4 rfl rfl ?_
  refine g_get dX4_write_5 fl_X4_27 hp_8 rfl ?_
  refine g_iload_n dX4_write_8 rfl rfl ?_
  refine g_sipush (v := 10000) dX4_write_9 (by decide) ?_
  refine g_imul dX4_write_12 ?_
  refine g_iload_n dX4_write_13 rfl rfl ?_
  refine g_iadd dX4_write_14 ?_
  refine g_callS dX4_write_15 cs_X4_55 (as := [_, _, _]) (k_setCell hp_10 (by decide)) (by decide) rfl rfl (Nat.le_of_ble_eq_true rfl) ?_
  rintro _ _ ⟨rfl, rfl⟩
  rw [hq_10]
  refine g_aload_n dX4_write_18 rfl rfl ?_
  refine g_dup dX4_write_19 rfl ?_
  refine g_get dX4_write_20 fl_X4_27 hp_8 rfl ?_
  refine g_ic_1 dX4_write_23 ?_
  refine g_iadd dX4_write_24 ?_
  refine g_puti dX4_write_25 fw_X4_27 hp_8 (Nat.le_of_ble_eq_true rfl) ?_
  rw [hq_8_2]
  exact g_vret dX4_write_28 ⟨rfl, rfl⟩

section RD
variable {A0 I0 A I : Nat → Nat → Int32} {L : Nat → Nat → Int64} {X : Nat → Int64} {n : Nat} {w : TL} {k : Nat} {s : PR TL}
theorem r_write {c x : Int32} (tp : tpS A0 I0 n) (h : SS A0 I0 n w (k + 1) s A I) : Con 2 yX4_write cX4_write 3 none [.ref 8, .int c, .int x] (hp A L I X) (RQ A0 L I0 X n w k (wrS (wd c x) s)) := by
  refine Con.mono (fun r H' z => ⟨z.1, up A 10 (pt 240 (A 10) (I 8 2) (wd c x)), up2 I 8 2 (I 8 2 + 1), ⟨smL_tr h.1 ⟨fun i z => up_ne z, fun i k z z2 => up2_ne z2⟩, ?_⟩, z.2⟩) r_write0
  have h2 := h.2
  cases s with
  | inl p => exact ⟨by rw [up2_ne (by omega)]; exact h2.1, h2.2⟩
  | inr q =>
    obtain ⟨b, u⟩ := q
    obtain ⟨e1, e2, e3, e4, e5, e6⟩ := h2
    have h240 := tp.2.1
    have hlen : (w ++ (u ++ [wd c x])).length = (w ++ u).length + 1 := by simp [List.length_append]; omega
    refine ⟨by rw [up2_ne (by omega)]; exact e1, by rw [up2_ne (by omega)]; exact e2, by rw [up2_at, e3, nI_1, hlen], fun i y hi => ?_, e5, by rw [hlen]; omega⟩
    rw [up_at, e3, pt_in (vp_in_nI (by omega) (by omega)), nI_clamp (by omega)]
    rw [← List.append_assoc] at hi
    by_cases hi2 : i < (w ++ u).length
    · rw [List.getElem?_append_left hi2] at hi
      rw [pk_un (by omega)]
      exact e4 i y hi
    · rw [List.getElem?_append_right (by omega)] at hi
      have h0 : i - (w ++ u).length = 0 := by
        rcases Nat.eq_zero_or_pos (i - (w ++ u).length) with z | z
        · exact z
        · rw [List.getElem?_eq_none (by show 1 ≤ i - (w ++ u).length; omega)] at hi; cases hi
      have h1 : i = (w ++ u).length := by omega
      rw [h0] at hi
      cases hi
      rw [h1, pk_us]
theorem SS_base {a : Nat} {u : TL} : SS A0 I0 n w k (.inr (a, u)) A I ↔ SS A0 I0 n (w ++ u) k (.inr (a, [])) A I := by
  unfold SS St
  simp only [List.append_nil]
theorem SS_less {k' : Nat} (hk : k' ≤ k) (h : SS A0 I0 n w k s A I) : SS A0 I0 n w k' s A I := by
  refine ⟨h.1, ?_⟩
  have h2 := h.2
  cases s with
  | inl p => exact h2
  | inr q =>
    obtain ⟨b, u⟩ := q
    obtain ⟨e1, e2, e3, e4, e5, e6⟩ := h2
    exact ⟨e1, e2, e3, e4, e5, by omega⟩
theorem SS_lt {b : Nat} {u : TL} (h : SS A0 I0 n w k (.inr (b, u)) A I) : b ≤ n := h.2.2.2.2.2.1
end RD
set_option maxHeartbeats 4000000 in
set_option maxRecDepth 100000 in
theorem r_isC  {Hp : m_H} {x : Int32}  : Con 1 yX4_isComparison cX4_isComparison 1 (some .boolean) [.int x] Hp (fun r_ H_ => r_ = some (.int (if opC x = true then 1 else 0)) ∧ H_ = Hp) := by
  refine m_con (by decide) (Nat.le_of_ble_eq_true rfl) ?_
  refine g_iload_n dX4_isComparison_0 rfl rfl ?_
  refine g_bipush (v := 61) dX4_isComparison_1 (by decide) ?_
  refine g_icmp_eq (tgt := 18) dX4_isComparison_3 (by decide) (fun c_3 => ?_) (fun c_3 => ?_)
  · refine g_ic_1 dX4_isComparison_18 ?_
    refine g_goto (tgt := 23) dX4_isComparison_19 (by decide) ?_
    exact g_zret (by first | exact Or.inl rfl | exact Or.inr rfl) dX4_isComparison_23 ⟨by simp [opC, c_3], rfl⟩
  · refine g_iload_n dX4_isComparison_6 rfl rfl ?_
    refine g_bipush (v := 60) dX4_isComparison_7 (by decide) ?_
    refine g_icmp_eq (tgt := 18) dX4_isComparison_9 (by decide) (fun c_9 => ?_) (fun c_9 => ?_)
    · refine g_ic_1 dX4_isComparison_18 ?_
      refine g_goto (tgt := 23) dX4_isComparison_19 (by decide) ?_
      exact g_zret (by first | exact Or.inl rfl | exact Or.inr rfl) dX4_isComparison_23 ⟨by simp [opC, c_9], rfl⟩
    · refine g_iload_n dX4_isComparison_12 rfl rfl ?_
      refine g_bipush (v := 62) dX4_isComparison_13 (by decide) ?_
      refine g_icmp_ne (tgt := 22) dX4_isComparison_15 (by decide) (fun c_15 => ?_) (fun c_15 => ?_)
      · refine g_ic_0 dX4_isComparison_22 ?_
        exact g_zret (by first | exact Or.inl rfl | exact Or.inr rfl) dX4_isComparison_23 ⟨by simp [opC, c_3, c_9, c_15], rfl⟩
      · refine g_ic_1 dX4_isComparison_18 ?_
        refine g_goto (tgt := 23) dX4_isComparison_19 (by decide) ?_
        exact g_zret (by first | exact Or.inl rfl | exact Or.inr rfl) dX4_isComparison_23 ⟨by simp [opC, c_3, c_9, c_15], rfl⟩
