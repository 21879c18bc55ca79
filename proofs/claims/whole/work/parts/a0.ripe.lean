/-! OIL: what is ripe stays ripe; grease in any order -/
theorem PLN_ms {ms cs : Nat} {A I : Nat → Nat → Int32} (hP : PLN ms cs A I) : 2 ≤ ms ∧ ms ≤ 8 ∧ 1 ≤ cs ∧ cs ≤ 5 := ⟨hP.2.1.1.1.1, hP.2.1.1.1.2.1, hP.2.1.1.1.2.2.1, hP.2.1.1.1.2.2.2.1⟩
/-- crops that were ripe are ripe, what they need and are worth is the same -/
def MU (f f' : ROW) : Prop := f' 10 = f 10 ∧ ∀ c, c < 5 → f' (53 + c * 6 + 2) = f (53 + c * 6 + 2) ∧ (f' (53 + c * 6 + 5) = f (53 + c * 6 + 5) ∨ f' (53 + c * 6 + 5) = 1)
theorem MU_rf {f : ROW} : MU f f := ⟨rfl, fun _ _ => ⟨rfl, Or.inl rfl⟩⟩
theorem MU_tr {f g k : ROW} (h : MU f g) (h2 : MU g k) : MU f k := by
  refine ⟨h2.1.trans h.1, fun c hc => ⟨(h2.2 c hc).1.trans (h.2 c hc).1, ?_⟩⟩
  rcases (h2.2 c hc).2 with z | z
  · rcases (h.2 c hc).2 with y | y
    · exact Or.inl (z.trans y)
    · exact Or.inr (z.trans y)
  · exact Or.inr z
theorem MU_of {f f' : ROW} (h10 : f' 10 = f 10) (h : ∀ j, 53 ≤ j → j < 83 → f' j = f j) : MU f f' :=
  ⟨h10, fun c hc => ⟨h _ (by omega) (by omega), Or.inl (h _ (by omega) (by omega))⟩⟩
theorem MU_gr {a b : Int32} {k : Nat} {s : ROW × Int32} (hk : k < 5) : MU s.1 (grC a b k s).1 := by
  have eT : MU s.1 (grT a b k s.1) := by
    unfold grT
    rw [pC_4 hk, pC_3 hk]
    refine ⟨?_, fun c hc => ⟨?_, Or.inl ?_⟩⟩
    · rw [ud_ne (show ¬ 10 = 53 + k * 6 + 4 by omega), ud_ne (show ¬ 10 = 53 + k * 6 + 3 by omega)]
    · rw [ud_ne (show ¬ 53 + c * 6 + 2 = 53 + k * 6 + 4 by omega), ud_ne (show ¬ 53 + c * 6 + 2 = 53 + k * 6 + 3 by omega)]
    · rw [ud_ne (show ¬ 53 + c * 6 + 5 = 53 + k * 6 + 4 by omega), ud_ne (show ¬ 53 + c * 6 + 5 = 53 + k * 6 + 3 by omega)]
  by_cases h : oC s.1 (nI k) 5 = 0
  · by_cases h1 : mn 999 (oC s.1 (nI k) 3 + a) < oC (grT a b k s.1) (nI k) 0
    · rw [grC_1 h h1]
      exact eT
    · by_cases h2 : mn 999 (oC s.1 (nI k) 4 + b) < oC (grT a b k s.1) (nI k) 1
      · rw [grC_2 h h1 h2]
        exact eT
      · rw [grC_3 h h1 h2]
        show MU s.1 (grU a b k s.1)
        refine MU_tr eT ?_
        unfold grU
        rw [p143_3, pC_5 hk]
        refine ⟨?_, fun c hc => ⟨?_, ?_⟩⟩
        · rw [ud_ne (show ¬ 10 = 3 by omega), ud_ne (show ¬ 10 = 53 + k * 6 + 5 by omega)]
        · rw [ud_ne (show ¬ 53 + c * 6 + 2 = 3 by omega), ud_ne (show ¬ 53 + c * 6 + 2 = 53 + k * 6 + 5 by omega)]
        · rw [ud_ne (show ¬ 53 + c * 6 + 5 = 3 by omega)]
          by_cases hck : c = k
          · subst hck
            exact Or.inr ud_at
          · exact Or.inl (ud_ne (by omega))
  · rw [grC_0 h]
    exact MU_rf
theorem MU_grs {a b : Int32} : ∀ n (s : ROW × Int32), n ≤ 5 → MU s.1 (itn (grC a b) n s).1 := by
  intro n
  induction n with
  | zero => intro s _; exact MU_rf
  | succ n ih => intro s h; exact MU_tr (ih s (by omega)) (MU_gr (by omega))
theorem MU_td {f : ROW} : MU f (tdF f) := MU_of (tdF_o (by decide) (by decide) (by decide)) (fun j h1 h2 => tdF_o (by omega) (by omega) (by omega))
theorem MU_dy {s : ROW × ROW × Int32} {cs : Nat} (h10 : s.1 10 = nI cs) (hcs : cs ≤ 5) : MU s.1 (dyS s).1 := by
  show MU s.1 (grS (tdF s.1) (gt 143 (tdF s.1) 5)).1
  unfold grS
  rw [g143_10, tdF_o (j := 10) (by decide) (by decide) (by decide), h10, nI_clamp (by omega)]
  exact MU_tr MU_td (MU_grs cs (tdF s.1, 0) hcs)
theorem MU_dys {cs : Nat} {s : ROW × ROW × Int32} (h10 : s.1 10 = nI cs) (hcs : cs ≤ 5) : ∀ n, MU s.1 (itn (fun _ => dyS) n s).1 := by
  intro n
  induction n with
  | zero => exact MU_rf
  | succ n ih => exact MU_tr ih (MU_dy (ih.1.trans h10) hcs)
theorem MU_tn {cs : Nat} {Cc Z f g : ROW} {hold : Int32} (h10 : f 10 = nI cs) (hcs : cs ≤ 5) (h12 : bd 59 (f 12)) : MU f (tnS Cc Z hold (f, g)).1 ∧ bd 59 ((tnS Cc Z hold (f, g)).1 12) := by
  rw [tn_e]
  generalize plS Cc Z hold f = p
  have k1 : MU f (dysS p f g).1 := MU_dys (s := (f, g, 0)) h10 hcs p.toNatClampNeg
  have k2 : (dysS p f g).1 12 = f 12 := dysS_o h10 hcs 12 (by decide) (by decide) (by decide) (by decide) (by decide)
  generalize dysS p f g = w at k1 k2
  obtain ⟨x, hx, h12⟩ := h12
  have k3 : MU w.1 (ehF w.1) := MU_of (eh_o (by decide) (by decide)) (fun j h1 h2 => eh_o (by omega) (by omega))
  have k4 : MU (ehF w.1) (pt 143 (ehF w.1) 8 (gt 143 (ehF w.1) 8 + 1)) := by
    rw [p143_8]
    exact MU_of (ud_ne (by decide)) (fun j h1 h2 => ud_ne (by omega))
  have k5 : (pt 143 (ehF w.1) 8 (gt 143 (ehF w.1) 8 + 1)) 12 = nI x := by
    rw [p143_8, ud_ne (by decide), eh_o (by decide) (by decide), k2, h12]
  rw [wl_F hx k5]
  refine ⟨MU_tr k1 (MU_tr k3 (MU_tr k4 (MU_of ?_ (fun j h1 h2 => ?_)))), ?_⟩
  · rw [ud_ne (show ¬ 10 = 11 by decide), ud_ne (show ¬ 10 = 12 by decide), ud_ne (show ¬ 10 = 83 + x by omega)]
  · rw [ud_ne (show ¬ j = 11 by omega), ud_ne (show ¬ j = 12 by omega), ud_ne (show ¬ j = 83 + x by omega)]
  · rw [ud_ne (show ¬ 12 = 11 by decide), ud_at]
    exact bd_k (by omega)
theorem MU_tns {cs : Nat} {Cc Z : ROW} {hold : Int32} {s : ROW × ROW} (h10 : s.1 10 = nI cs) (hcs : cs ≤ 5) (h12 : bd 59 (s.1 12)) : ∀ n, MU s.1 (tnsS Cc Z hold n s).1 ∧ bd 59 ((tnsS Cc Z hold n s).1 12) := by
  intro n
  induction n with
  | zero => exact ⟨MU_rf, h12⟩
  | succ n ih =>
    have q := MU_tn (Cc := Cc) (Z := Z) (hold := hold) (g := (tnsS Cc Z hold n s).2) (ih.1.1.trans h10) hcs ih.2
    exact ⟨MU_tr ih.1 q.1, q.2⟩
theorem un_1 {f : ROW} {n : Nat} : itn (fun k s => s + (if oC f (nI k) 5 = 0 then oC f (nI k) 2 else 0)) (n + 1) (0 : Int32) = itn (fun k s => s + (if oC f (nI k) 5 = 0 then oC f (nI k) 2 else 0)) n 0 + (if oC f (nI n) 5 = 0 then oC f (nI n) 2 else 0) := rfl
theorem unr_le {f f' : ROW} {cs : Nat} (h : MU f f') (h10 : f 10 = nI cs) (hcs : cs ≤ 5) (hb : ∀ c, c < cs → bd 99 (f (53 + c * 6 + 2))) : ∃ a b, unrS f = nI a ∧ unrS f' = nI b ∧ b ≤ a ∧ a ≤ 99 * cs := by
  have key : ∀ n, n ≤ cs → ∃ a b, itn (fun k s => s + (if oC f (nI k) 5 = 0 then oC f (nI k) 2 else 0)) n 0 = nI a ∧ itn (fun k s => s + (if oC f' (nI k) 5 = 0 then oC f' (nI k) 2 else 0)) n 0 = nI b ∧ b ≤ a ∧ a ≤ 99 * n := by
    intro n
    induction n with
    | zero => intro _; exact ⟨0, 0, rfl, rfl, Nat.le_refl _, Nat.zero_le _⟩
    | succ n ih =>
      intro hn
      obtain ⟨a, b, e1, e2, h1, h2⟩ := ih (by omega)
      obtain ⟨w, w1, w2⟩ := hb n (by omega)
      have m := h.2 n (by omega)
      rw [un_1, un_1, e1, e2, oC_5 (by omega), oC_2 (by omega), oC_5 (by omega), oC_2 (by omega), m.1, w2]
      by_cases z : f (53 + n * 6 + 5) = 0
      · rw [if_pos z]
        by_cases z2 : f' (53 + n * 6 + 5) = 0
        · rw [if_pos z2, nI_add, nI_add]
          exact ⟨a + w, b + w, rfl, rfl, by omega, by omega⟩
        · rw [if_neg z2, nI_add, show nI b + 0 = nI b from Int32.add_zero _]
          exact ⟨a + w, b, rfl, rfl, by omega, by omega⟩
      · have z2 : ¬ f' (53 + n * 6 + 5) = 0 := by
          rcases m.2 with y | y
          · rw [y]; exact z
          · rw [y]; decide
        rw [if_neg z, if_neg z2, show nI b + 0 = nI b from Int32.add_zero _, show nI a + 0 = nI a from Int32.add_zero _]
        exact ⟨a, b, rfl, rfl, h1, by omega⟩
  unfold unrS
  rw [g143_10, g143_10, h.1, h10, nI_clamp (by omega)]
  exact key cs (Nat.le_refl _)
theorem unr_eq {f f' : ROW} {cs : Nat} (h10 : f 10 = nI cs) (hcs : cs ≤ 5) (h : ∀ j, j = 10 ∨ 53 ≤ j → f' j = f j) : unrS f' = unrS f := by
  have key : ∀ n, n ≤ cs → itn (fun k s => s + (if oC f' (nI k) 5 = 0 then oC f' (nI k) 2 else 0)) n 0 = itn (fun k s => s + (if oC f (nI k) 5 = 0 then oC f (nI k) 2 else 0)) n 0 := by
    intro n
    induction n with
    | zero => intro _; exact Eq.refl (0 : Int32)
    | succ n ih =>
      intro hn
      rw [un_1, un_1, ih (by omega), oC_5 (by omega), oC_2 (by omega), oC_5 (by omega), oC_2 (by omega), h _ (by omega), h _ (by omega)]
  unfold unrS
  rw [g143_10, g143_10, h 10 (Or.inl rfl), h10, nI_clamp (by omega)]
  exact key cs (Nat.le_refl _)
/-- grease on a month, and on many -/
def gr1 (N : ROW) (m : Nat) : ROW := upd N m (mn 9 (N m + 1))
def gN (o : Nat → Nat) (N : ROW) : Nat → ROW
  | 0 => N
  | j + 1 => gr1 (gN o N j) (o j)
theorem gr1_c {N : ROW} {a b : Nat} : gr1 (gr1 N a) b = gr1 (gr1 N b) a := by
  by_cases h : a = b
  · rw [h]
  · have h2 : ¬ b = a := fun z => h z.symm
    unfold gr1
    rw [ud_ne h, ud_ne h2]
    funext j
    by_cases ja : j = a
    · subst ja
      rw [ud_ne h, ud_at, ud_at]
    · by_cases jb : j = b
      · subst jb
        rw [ud_at, ud_ne h2, ud_at]
      · rw [ud_ne jb, ud_ne ja, ud_ne ja, ud_ne jb]
theorem gN_c {o : Nat → Nat} {N : ROW} {m : Nat} : ∀ k, gN o (gr1 N m) k = gr1 (gN o N k) m
  | 0 => rfl
  | k + 1 => by
    show gr1 (gN o (gr1 N m) k) (o k) = gr1 (gr1 (gN o N k) (o k)) m
    rw [gN_c k, gr1_c]
theorem gN_o {o : Nat → Nat} {N : ROW} {j : Nat} (hj : 8 ≤ j) : ∀ k, (∀ i, i < k → o i < 8) → gN o N k j = N j
  | 0, _ => rfl
  | k + 1, h => by
    show gr1 (gN o N k) (o k) j = N j
    unfold gr1
    have := h k (Nat.lt_succ_self k)
    rw [ud_ne (by omega)]
    exact gN_o hj k (fun i hi => h i (by omega))
theorem R_gs {ms cs : Nat} {R M C f N : ROW} (h : RJ ms cs R M C f N) {m : Nat} (hm : m < ms) : RJ ms cs R M C (gsM f (nI m) 1) (gr1 N m) ∧ ∀ j, j = 10 ∨ j = 12 ∨ 53 ≤ j → (gsM f (nI m) 1) j = f j := by
  have h8 : ms ≤ 8 := h.1.2.1
  have hm8 : m < 8 := by omega
  obtain ⟨-, ⟨-, -, -, ⟨s3, b3'⟩, -⟩, -, hM, -⟩ := id h
  obtain ⟨q0, ⟨q1, g, g1, g2⟩, ⟨q2, b2⟩, ⟨q3, b3⟩, q4⟩ := hM m hm
  have e1 : gsM f (nI m) 1 = upd f (13 + m * 5 + 1) (nI (min 9 (g + 1))) := by
    unfold gsM
    rw [pM_1 hm8, oM_1 hm8, q1, g2, nI_1, show (9 : Int32) = nI 9 from rfl, mn_n (by decide) (by omega)]
  have e2 : gr1 N m = upd N m (nI (min 9 (g + 1))) := by
    unfold gr1
    rw [g2, nI_1, show (9 : Int32) = nI 9 from rfl, mn_n (by decide) (by omega)]
  rw [e1, e2]
  refine ⟨?_, fun j hj => ud_ne (by omega)⟩
  refine R_mon h hm (y3 := N 37) (a := nI (min 9 (g + 1))) (b := N (8 + m)) (c := N (16 + m)) ?_ ?_ b3' ?_ ?_ (bd_k (by omega)) ?_ ?_ b2 ?_ ?_ b3 (fun j j0 j1 j2 j3 => ?_) (fun j j0 j1 j2 j3 => ?_)
  all_goals simp (disch := omega) only [ud_at, ud_ne]
  all_goals assumption
/-- the digits of a row of months -/
def dg (o : Nat → Nat) : Nat → Nat
  | 0 => 0
  | k + 1 => 10 * dg o k + o k
theorem dg_eq {o o' : Nat → Nat} : ∀ k, (∀ i, i < k → o' i = o i) → dg o' k = dg o k
  | 0, _ => rfl
  | k + 1, h => by
    show 10 * dg o' k + o' k = 10 * dg o k + o k
    rw [dg_eq k (fun i hi => h i (by omega)), h k (Nat.lt_succ_self k)]
theorem dg_lt {o : Nat → Nat} : ∀ k, (∀ i, i < k → o i < 8) → dg o k < 10 ^ k
  | 0, _ => by show 0 < 10 ^ 0; decide
  | k + 1, h => by
    have h1 := dg_lt k (fun i hi => h i (by omega))
    have h2 := h k (Nat.lt_succ_self k)
    show 10 * dg o k + o k < 10 ^ (k + 1)
    rw [Nat.pow_succ]
    omega
theorem itn_c {σ : Type} {F : σ → σ} : ∀ n (s : σ), itn (fun _ => F) (n + 1) s = itn (fun _ => F) n (F s)
  | 0, _ => rfl
  | n + 1, s => by
    show F (itn (fun _ => F) (n + 1) s) = F (itn (fun _ => F) n (F s))
    rw [itn_c n s]
theorem gr_R {ms cs : Nat} {R M C : ROW} {o : Nat → Nat} : ∀ k (f N : ROW), k ≤ 3 → (∀ i, i < k → o i < ms) → RJ ms cs R M C f N → RJ ms cs R M C (grO (nI (dg o k)) f k).1 (gN o N k) ∧ ∀ j, j = 10 ∨ j = 12 ∨ 53 ≤ j → (grO (nI (dg o k)) f k).1 j = f j
  | 0, f, N, _, _, h => ⟨h, fun _ _ => rfl⟩
  | k + 1, f, N, hk, ho, h => by
    have h8 : ms ≤ 8 := h.1.2.1
    have hm := ho k (Nat.lt_succ_self k)
    obtain ⟨g1, g2⟩ := R_gs h hm
    have hlt := dg_lt (o := o) k (fun i hi => Nat.lt_of_lt_of_le (ho i (by omega)) h8)
    have hlt2 : dg o k < 1000 := Nat.lt_of_lt_of_le hlt (Nat.pow_le_pow_right (by decide) (show k ≤ 3 by omega))
    have e : grO (nI (dg o (k + 1))) f (k + 1) = grO (nI (dg o k)) (gsM f (nI (o k)) 1) k := by
      unfold grO
      rw [itn_c]
      show itn _ k (gsM f (rm (nI (10 * dg o k + o k)) 10) 1, nI (10 * dg o k + o k) / 10) = _
      rw [show (10 : Int32) = nI 10 from rfl, rm_n (by omega) (by decide) (by decide), pk_div (by omega) (by decide) (by decide), show (10 * dg o k + o k) % 10 = o k by omega, show (10 * dg o k + o k) / 10 = dg o k by omega]
    rw [e]
    obtain ⟨r1, r2⟩ := gr_R k (gsM f (nI (o k)) 1) (gr1 N (o k)) (by omega) (fun i hi => ho i (by omega)) g1
    rw [gN_c] at r1
    exact ⟨r1, fun j hj => (r2 j hj).trans (g2 j hj)⟩
/-- the rows tried, as loops in loops -/
def oiL (F : Nat → Int32 × Int32 → Int32 × Int32) : Nat → Nat → Int32 × Int32 → Int32 × Int32
  | 0, _, s => s
  | n + 1, c, s => oiL F n (c + 1) (F c s)
def oiP (T : Int32 → Int32 × Int32 → Int32 × Int32) (M : Nat) : Nat → Nat → Nat → Int32 × Int32 → Int32 × Int32
  | 0, _, r, s => T (nI r) s
  | j + 1, c, r, s => oiL (fun m s => oiP T M j m (10 * r + m) s) (M - c) c s
theorem oi3_P {T : Int32 → Int32 × Int32 → Int32 × Int32} {a b M : Nat} (ha : a < 8) (hb : b < 8) (hM : M ≤ 8) : ∀ n c s, n + c = M → oi3 T a b M n c s = oiL (fun m s => T (nI (10 * (10 * a + b) + m)) s) n c s
  | 0, c, s, _ => rfl
  | n + 1, c, s, h => by
    show (if c < M then oi3 T a b M n (c + 1) (T (nI a * 100 + nI b * 10 + nI c) s) else s) = oiL _ n (c + 1) (T (nI (10 * (10 * a + b) + c)) s)
    rw [if_pos (by omega), oi3_P ha hb hM n (c + 1) _ (by omega), show (100 : Int32) = nI 100 from rfl, show (10 : Int32) = nI 10 from rfl, pk_mul, pk_mul, nI_add, nI_add, show a * 100 + b * 10 + c = 10 * (10 * a + b) + c by omega]
theorem oi2_P {T : Int32 → Int32 × Int32 → Int32 × Int32} {a M : Nat} (ha : a < 8) (hM : M ≤ 8) : ∀ n b s, n + b = M → oi2 T a M M n b s = oiL (fun b s => oiP T M 1 b (10 * a + b) s) n b s
  | 0, c, s, _ => rfl
  | n + 1, b, s, h => by
    show (if b < M then oi2 T a M M n (b + 1) (oi3 T a b M (M - b) b s) else s) = oiL _ n (b + 1) (oiP T M 1 b (10 * a + b) s)
    rw [if_pos (by omega), oi2_P ha hM n (b + 1) _ (by omega), oi3_P ha (by omega) hM (M - b) b s (by omega)]
    rfl
theorem oi1_P {T : Int32 → Int32 × Int32 → Int32 × Int32} {M : Nat} (hM : M ≤ 8) : ∀ n a s, n + a = M → oi1 T M M M n a s = oiL (fun a s => oiP T M 2 a (10 * 0 + a) s) n a s
  | 0, c, s, _ => rfl
  | n + 1, a, s, h => by
    show (if a < M then oi1 T M M M n (a + 1) (oi2 T a M M (M - a) a s) else s) = oiL _ n (a + 1) (oiP T M 2 a (10 * 0 + a) s)
    rw [if_pos (by omega), oi1_P hM n (a + 1) _ (by omega), oi2_P (by omega) hM (M - a) a s (by omega), show 10 * 0 + a = a by omega]
    rfl
theorem oiS_P {A I : Nat → Nat → Int32} {K ms : Nat} {n : Int32} (hK : 1 ≤ K) (hK3 : K ≤ 3) (hM : ms ≤ 8) (hM1 : 1 ≤ ms) (h9 : gt 143 (A 20) 9 = nI ms) : oiS A I (nI K) n = oiP (oiT A I (nI K) n) ms K 0 0 ((-1), (-1)) := by
  unfold oiS oiB
  rw [h9]
  rcases (show K = 1 ∨ K = 2 ∨ K = 3 by omega) with rfl | rfl | rfl
  · show oi1 _ (nI ms).toNatClampNeg 1 1 1 0 _ = _
    rw [nI_clamp (by omega)]
    show oi2 _ 0 ms 1 1 0 _ = _
    show oi3 _ 0 0 ms (ms - 0) 0 _ = _
    rw [oi3_P (by decide) (by decide) hM (ms - 0) 0 _ (by omega)]
    rfl
  · show oi1 _ (nI ms).toNatClampNeg (nI ms).toNatClampNeg 1 1 0 _ = _
    rw [nI_clamp (by omega)]
    show oi2 _ 0 ms ms (ms - 0) 0 _ = _
    rw [oi2_P (by decide) hM (ms - 0) 0 _ (by omega)]
    rfl
  · show oi1 _ (nI ms).toNatClampNeg (nI ms).toNatClampNeg (nI ms).toNatClampNeg (nI ms).toNatClampNeg 0 _ = _
    rw [nI_clamp (by omega), oi1_P hM ms 0 _ (by omega)]
    rfl
