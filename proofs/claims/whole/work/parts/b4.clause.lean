/-! THE REFERENCE READS: clauses -/
/-- all but one text's own rows, its clauses too -/
def mC (q : Nat) (A0 I0 A I : Nat → Nat → Int32) : Prop := (∀ i, i ≠ 48 → i ≠ 49 → i ≠ 50 → i ≠ 51 → i ≠ 52 → i ≠ 53 → i ≠ 54 → A i = A0 i) ∧ (∀ j, (j < 520 * q ∨ 520 * q + 520 ≤ j) → A 48 j = A0 48 j ∧ A 49 j = A0 49 j) ∧ (∀ j, j ≠ q → A 50 j = A0 50 j ∧ A 51 j = A0 51 j) ∧ (∀ j, (j < 140 * q ∨ 140 * q + 140 ≤ j) → A 52 j = A0 52 j ∧ A 53 j = A0 53 j ∧ A 54 j = A0 54 j) ∧ ∀ i k, ¬ (i = 46 ∧ (k = 3 ∨ k = 4 ∨ k = 5)) → I i k = I0 i k
theorem mC_rf {q : Nat} {A I : Nat → Nat → Int32} : mC q A I A I := ⟨fun _ _ _ _ _ _ _ _ => rfl, fun _ _ => ⟨rfl, rfl⟩, fun _ _ => ⟨rfl, rfl⟩, fun _ _ => ⟨rfl, rfl, rfl⟩, fun _ _ _ => rfl⟩
theorem mC_tr {q : Nat} {A0 I0 A I A1 I1 : Nat → Nat → Int32} (h : mC q A0 I0 A I) (k : mC q A I A1 I1) : mC q A0 I0 A1 I1 :=
  ⟨fun i a b c d e f g => (k.1 i a b c d e f g).trans (h.1 i a b c d e f g), fun j hj => ⟨(k.2.1 j hj).1.trans (h.2.1 j hj).1, (k.2.1 j hj).2.trans (h.2.1 j hj).2⟩, fun j hj => ⟨(k.2.2.1 j hj).1.trans (h.2.2.1 j hj).1, (k.2.2.1 j hj).2.trans (h.2.2.1 j hj).2⟩, fun j hj => ⟨(k.2.2.2.1 j hj).1.trans (h.2.2.2.1 j hj).1, (k.2.2.2.1 j hj).2.1.trans (h.2.2.2.1 j hj).2.1, (k.2.2.2.1 j hj).2.2.trans (h.2.2.2.1 j hj).2.2⟩, fun i l z => (k.2.2.2.2 i l z).trans (h.2.2.2.2 i l z)⟩
theorem mC_R {q : Nat} {A0 I0 A I : Nat → Nat → Int32} (h : mR q A0 I0 A I) : mC q A0 I0 A I :=
  ⟨fun i a b c _ _ _ _ => h.1 i a b c, h.2.1, fun j hj => ⟨h.2.2.1 j hj, congrFun (h.1 51 (by decide) (by decide) (by decide)) j⟩, fun j _ => ⟨congrFun (h.1 52 (by decide) (by decide) (by decide)) j, congrFun (h.1 53 (by decide) (by decide) (by decide)) j, congrFun (h.1 54 (by decide) (by decide) (by decide)) j⟩, h.2.2.2⟩
theorem mC_w {q i j : Nat} {A0 I0 A I : Nat → Nat → Int32} {v : Int32} (h : mC q A0 I0 A I) (hi : i = 52 ∨ i = 53 ∨ i = 54) (hj : j < 140) : mC q A0 I0 (up A i (upd (A i) (140 * q + j) v)) I := by
  refine mC_tr h ⟨fun l a b c d e f g => up_ne (by omega), fun l hl => ⟨congrFun (up_ne (by omega)) l, congrFun (up_ne (by omega)) l⟩, fun l hl => ⟨congrFun (up_ne (by omega)) l, congrFun (up_ne (by omega)) l⟩, fun l hl => ?_, fun _ _ _ => rfl⟩
  have key : ∀ c, (up A i (upd (A i) (140 * q + j) v)) c l = A c l := fun c => by
    by_cases hc : c = i
    · subst hc
      rw [up_at, ud_ne (by omega)]
    · rw [up_ne hc]
  exact ⟨key 52, key 53, key 54⟩
theorem mC_w1 {q : Nat} {A0 I0 A I : Nat → Nat → Int32} {v : Int32} (h : mC q A0 I0 A I) : mC q A0 I0 (up A 51 (upd (A 51) q v)) I := by
  refine mC_tr h ⟨fun l a b c d e f g => up_ne d, fun l hl => ⟨congrFun (up_ne (by decide)) l, congrFun (up_ne (by decide)) l⟩, fun l hl => ⟨congrFun (up_ne (by decide)) l, ?_⟩, fun l hl => ⟨congrFun (up_ne (by decide)) l, congrFun (up_ne (by decide)) l, congrFun (up_ne (by decide)) l⟩, fun _ _ _ => rfl⟩
  rw [up_at, ud_ne hl]
theorem mC_I {q k : Nat} {A0 I0 A I : Nat → Nat → Int32} {v : Int32} (h : mC q A0 I0 A I) (hk : k = 3 ∨ k = 4 ∨ k = 5) : mC q A0 I0 A (up2 I 46 k v) :=
  ⟨h.1, h.2.1, h.2.2.1, h.2.2.2.1, fun i l z => (up2_ne (fun w => z ⟨w.1, by rw [w.2]; exact hk⟩)).trans (h.2.2.2.2 i l z)⟩
theorem mC_ctx {q n : Nat} {A0 I0 A I : Nat → Nat → Int32} (tp : tpM A0 I0 n) (hq : I0 46 14 = nI q) (h : mC q A0 I0 A I) : tpM A I n ∧ I 46 14 = nI q ∧ A 47 = A0 47 := by
  have e : A 47 = A0 47 := h.1 47 (by decide) (by decide) (by decide) (by decide) (by decide) (by decide) (by decide)
  refine ⟨⟨(h.2.2.2.2 46 2 (by decide)).trans tp.1, tp.2.1, fun j hj => ?_⟩, (h.2.2.2.2 46 14 (by decide)).trans hq, e⟩
  rw [e]
  exact tp.2.2 j hj
theorem MSt_A {q n d : Nat} {W : TL} {k e : Nat} {s : PR TL} {A I A' : Nat → Nat → Int32} (h : MSt q n d W k e s A I) (e48 : A' 48 = A 48) (e49 : A' 49 = A 49) (e50 : A' 50 = A 50) : MSt q n d W k e s A' I := by
  cases s with
  | inl p =>
    obtain ⟨h1, h2, c, h3, h4⟩ := h
    exact ⟨h1, h2, c, by rw [e50]; exact h3, h4⟩
  | inr x =>
    obtain ⟨h1, h2, h3, h4, h5, h6⟩ := h
    exact ⟨h1, h2, h3, by rw [e50]; exact h4, rwd_A e48 e49 h5, h6⟩
/-- where the clauses lie -/
def lyT (A : Nat → Nat → Int32) (q : Nat) : Nat → Nat → List CLA → Prop
  | _, _, [] => True
  | j, p, c :: cs => A 52 (140 * q + j) = nI p ∧ A 53 (140 * q + j) = nI (p + (c1 c).length) ∧ A 54 (140 * q + j) = nI (p + (c1 c).length + c.2.length) ∧ lyT A q (j + 1) (p + (c1 c).length + c.2.length) cs
theorem rwd_l {A : Nat → Nat → Int32} {p : Nat} {w v : TL} (h : rwd A p (w ++ v)) : rwd A p w := fun j x hj => h j x (by
  have hl := (List.getElem?_eq_some_iff.mp hj).1
  rw [List.getElem?_append_left hl]; exact hj)
theorem rwd_r {A : Nat → Nat → Int32} {p : Nat} {w v : TL} (h : rwd A p (w ++ v)) : rwd A (p + w.length) v := fun j x hj => by
  have q := h (w.length + j) x (by rw [List.getElem?_append_right (by omega), show w.length + j - w.length = j by omega]; exact hj)
  rw [show p + (w.length + j) = p + w.length + j by omega] at q
  exact q
theorem ly_of {A : Nat → Nat → Int32} {q : Nat} : ∀ (cs : List CLA) (j p : Nat), lyT A q j p cs → rwd A (520 * q + p) (flR cs) → lyR A q j p cs
  | [], _, _, _, _ => trivial
  | c :: cs, j, p, h, hr => by
    obtain ⟨h1, h2, h3, h4⟩ := h
    have hr' : rwd A (520 * q + p) (c1 c ++ c.2 ++ flR cs) := hr
    have r1 := rwd_l hr'
    have r2 := rwd_r hr'
    refine ⟨h1, h2, h3, rwd_l r1, rwd_r r1, ly_of cs _ _ h4 ?_⟩
    rw [List.length_append, show 520 * q + p + ((c1 c).length + c.2.length) = 520 * q + (p + (c1 c).length + c.2.length) by omega] at r2
    exact r2
theorem lyT_ext {A A' : Nat → Nat → Int32} {q : Nat} : ∀ (cs : List CLA) (j p : Nat), (∀ i, i < j + cs.length → A' 52 (140 * q + i) = A 52 (140 * q + i) ∧ A' 53 (140 * q + i) = A 53 (140 * q + i) ∧ A' 54 (140 * q + i) = A 54 (140 * q + i)) → lyT A q j p cs → lyT A' q j p cs
  | [], _, _, _, _ => trivial
  | c :: cs, j, p, e, h => by
    obtain ⟨h1, h2, h3, h4⟩ := h
    obtain ⟨e1, e2, e3⟩ := e j (by simp only [List.length_cons]; omega)
    exact ⟨e1.trans h1, e2.trans h2, e3.trans h3, lyT_ext cs _ _ (fun i hi => e i (by simp only [List.length_cons]; omega)) h4⟩
theorem flR_app : ∀ (cs ds : List CLA), flR (cs ++ ds) = flR cs ++ flR ds
  | [], _ => rfl
  | c :: cs, ds => by
    show c1 c ++ c.2 ++ flR (cs ++ ds) = c1 c ++ c.2 ++ flR cs ++ flR ds
    rw [flR_app cs ds, List.append_assoc (c1 c ++ c.2)]
theorem lyT_snoc {A : Nat → Nat → Int32} {q : Nat} {c : CLA} : ∀ (cs : List CLA) (j p : Nat), lyT A q j p cs → A 52 (140 * q + (j + cs.length)) = nI (p + (flR cs).length) → A 53 (140 * q + (j + cs.length)) = nI (p + (flR cs).length + (c1 c).length) → A 54 (140 * q + (j + cs.length)) = nI (p + (flR cs).length + (c1 c).length + c.2.length) → lyT A q j p (cs ++ [c])
  | [], j, p, _, h1, h2, h3 => ⟨h1, h2, h3, trivial⟩
  | d :: cs, j, p, h, h1, h2, h3 => by
    obtain ⟨a1, a2, a3, a4⟩ := h
    have el : (flR (d :: cs)).length = (c1 d).length + d.2.length + (flR cs).length := by
      show (c1 d ++ d.2 ++ flR cs).length = _
      rw [List.length_append, List.length_append]
    have ec : (d :: cs).length = cs.length + 1 := rfl
    rw [el, ec] at h1 h2 h3
    refine ⟨a1, a2, a3, lyT_snoc cs (j + 1) _ a4 ?_ ?_ ?_⟩
    · rw [show j + 1 + cs.length = j + (cs.length + 1) by omega, show p + (c1 d).length + d.2.length + (flR cs).length = p + ((c1 d).length + d.2.length + (flR cs).length) by omega]
      exact h1
    · rw [show j + 1 + cs.length = j + (cs.length + 1) by omega, show p + (c1 d).length + d.2.length + (flR cs).length = p + ((c1 d).length + d.2.length + (flR cs).length) by omega]
      exact h2
    · rw [show j + 1 + cs.length = j + (cs.length + 1) by omega, show p + (c1 d).length + d.2.length + (flR cs).length = p + ((c1 d).length + d.2.length + (flR cs).length) by omega]
      exact h3
/-- a state of reading clauses -/
def CLs (q n : Nat) (s : PR (List CLA)) (A I : Nat → Nat → Int32) : Prop := match s with
  | .inl p => I 46 4 = nI p ∧ p ≤ n
  | .inr (b, cs) => I 46 3 = nI b ∧ I 46 4 = (-1) ∧ I 46 5 = 0 ∧ A 50 q = nI (flR cs).length ∧ A 51 q = nI cs.length ∧ lyT A q 0 0 cs ∧ rwd A (520 * q) (flR cs) ∧ b ≤ n ∧ (flR cs).length ≤ b ∧ 2 * cs.length ≤ b
/-- at the end of a clause -/
def fin (A : Nat → Nat → Int32) (q j : Nat) : Nat → Nat → Int32 := up (up A 54 (upd (A 54) (140 * q + j) (A 50 q))) 51 (upd (A 51) q (nI (j + 1)))
theorem mC_fin {q j : Nat} {A0 I0 A I : Nat → Nat → Int32} (h : mC q A0 I0 A I) (hj : j < 140) : mC q A0 I0 (fin A q j) I := by
  have h1 := mC_w (v := A 50 q) h (Or.inr (Or.inr rfl)) hj
  have h2 := mC_w1 (v := nI (j + 1)) h1
  rw [up_ne (show 51 ≠ 54 by decide)] at h2
  exact h2
theorem CL_end {q n k e d : Nat} {cs : List CLA} {A I : Nat → Nat → Int32} {c : CLA} (h : MSt q n (6 - 6) (flR cs) k e (.inr (d, c1 c ++ c.2)) A I) (hl : lyT A q 0 0 cs) (h52 : A 52 (140 * q + cs.length) = nI (flR cs).length) (h53 : A 53 (140 * q + cs.length) = nI ((flR cs).length + (c1 c).length)) (hd : 2 * (cs.length + 1) ≤ d) : CLs q n (.inr (d, cs ++ [c])) (fin A q cs.length) I := by
  obtain ⟨h1, h2, h3, h4, h5, h6, h7⟩ := h
  have ef : flR (cs ++ [c]) = flR cs ++ (c1 c ++ c.2) := by
    rw [flR_app]
    show flR cs ++ (c1 c ++ c.2 ++ []) = _
    rw [List.append_nil]
  have ei : ∀ i, i ≠ 54 → i ≠ 51 → (fin A q cs.length) i = A i := fun i a b => (up_ne b).trans (up_ne a)
  have e54 : ∀ l, (fin A q cs.length) 54 l = if l = 140 * q + cs.length then A 50 q else A 54 l := fun l => by
    unfold fin
    rw [up_ne (by decide), up_at]
    rfl
  refine ⟨h1, h2, h3, ?_, ?_, ?_, ?_, h6, by rw [ef]; omega, ?_⟩
  · rw [ei 50 (by decide) (by decide), ef]
    exact h4
  · rw [show (cs ++ [c]).length = cs.length + 1 by simp]
    unfold fin
    rw [up_at, ud_at]
  · refine lyT_snoc cs 0 0 (lyT_ext cs 0 0 (fun i hi => ?_) hl) ?_ ?_ ?_
    · rw [ei 52 (by decide) (by decide), ei 53 (by decide) (by decide), e54, if_neg (by omega)]
      exact ⟨rfl, rfl, rfl⟩
    · rw [ei 52 (by decide) (by decide), Nat.zero_add, Nat.zero_add]
      exact h52
    · rw [ei 53 (by decide) (by decide), Nat.zero_add, Nat.zero_add]
      exact h53
    · rw [e54, Nat.zero_add, if_pos rfl, h4, Nat.zero_add]
      congr 1
      simp only [List.length_append]
      omega
  · rw [ef]
    exact rwd_A (ei 48 (by decide) (by decide)) (ei 49 (by decide) (by decide)) h5
  · rw [show (cs ++ [c]).length = cs.length + 1 by simp]
    exact hd
set_option maxHeartbeats 800000 in
set_option maxRecDepth 100000 in
theorem z_cl251 {A I : Nat → Nat → Int32} {L : Nat → Nat → Int64} {X : Nat → Int64} {q j : Nat} {Q : Option Value → m_H → Prop} {v : Option Value} (hq : I 46 14 = nI q) (q4 : q ≤ 4) (hj : A 51 q = nI j) (hj1 : j < 140) (hQ : Q none (hp (fin A q j) L I X)) : G 36 RX11 cX11_clause 3 none Q 251 [some (.ref 46), some (.int (nI (140 * q + j))), v] [] (hp A L I X) := by
  refine g_aload_n dX11_clause_251 rfl rfl ?_
  refine g_get dX11_clause_252 fl_X11_31 hp_46 rfl ?_
  refine g_iload_n dX11_clause_255 rfl rfl ?_
  refine g_aload_n dX11_clause_256 rfl rfl ?_
  refine g_get dX11_clause_257 fl_X11_19 hp_46 rfl ?_
  refine g_aload_n dX11_clause_260 rfl rfl ?_
  refine g_get dX11_clause_261 fl_X11_126 hp_46 rfl ?_
  try simp (disch := omega) only [up_at, up_up, up_ne]
  refine g_ra dX11_clause_264 hp_50 (k := q) hq (by omega) (by decide) ?_
  try simp (disch := omega) only [up_at, up_up, up_ne]
  refine g_wa dX11_clause_265 hp_54 (k := 140 * q + j) rfl (by omega) (by decide) ?_
  rw [hq_54]
  try simp (disch := omega) only [up_at, up_up, up_ne]
  refine g_aload_n dX11_clause_266 rfl rfl ?_
  refine g_get dX11_clause_267 fl_X11_22 hp_46 rfl ?_
  refine g_aload_n dX11_clause_270 rfl rfl ?_
  refine g_get dX11_clause_271 fl_X11_126 hp_46 rfl ?_
  try simp (disch := omega) only [up_at, up_up, up_ne]
  refine g_dup2 dX11_clause_274 rfl rfl ?_
  refine g_ra dX11_clause_275 hp_51 (k := q) hq (by omega) (by decide) ?_
  try simp (disch := omega) only [up_at, up_up, up_ne]
  refine g_ic_1 dX11_clause_276 ?_
  refine g_iadd dX11_clause_277 ?_
  refine g_wa dX11_clause_278 hp_51 (k := q) hq (by omega) (by decide) ?_
  rw [hq_51]
  try simp (disch := omega) only [up_at, up_up, up_ne]
  rw [hj, nI_1]
  exact g_vret dX11_clause_279 hQ

set_option maxHeartbeats 800000 in
set_option maxRecDepth 100000 in
theorem z_cl184_0 {A I : Nat → Nat → Int32} {L : Nat → Nat → Int64} {X : Nat → Int64} {q j : Nat} {Q : Option Value → m_H → Prop} (hq : I 46 14 = nI q) (q4 : q ≤ 4) (hj : A 51 q = nI j) (hj1 : j < 140) (hQ : Q none (hp (fin (up A 53 (upd (A 53) (140 * q + j) (A 52 (140 * q + j)))) q j) L I X)) : G 36 RX11 cX11_clause 3 none Q 184 [some (.ref 46), some (.int (nI (140 * q + j))), some (.int (0))] [] (hp A L I X) := by
  refine g_aload_n dX11_clause_184 rfl rfl ?_
  refine g_get dX11_clause_185 fl_X11_28 hp_46 rfl ?_
  refine g_iload_n dX11_clause_188 rfl rfl ?_
  refine g_aload_n dX11_clause_189 rfl rfl ?_
  refine g_get dX11_clause_190 fl_X11_25 hp_46 rfl ?_
  refine g_iload_n dX11_clause_193 rfl rfl ?_
  refine g_ra dX11_clause_194 hp_52 (k := 140 * q + j) rfl (by omega) (by decide) ?_
  try simp (disch := omega) only [up_at, up_up, up_ne]
  refine g_wa dX11_clause_195 hp_53 (k := 140 * q + j) rfl (by omega) (by decide) ?_
  rw [hq_53]
  try simp (disch := omega) only [up_at, up_up, up_ne]
  refine g_iload_n dX11_clause_196 rfl rfl ?_
  refine g_if_eq (tgt := 251) dX11_clause_197 (by decide) (fun c_197 => ?_) (fun c_197 => ?_)
  · exact z_cl251 (A := (up A 53 (upd (A 53) (140 * q + j) (A 52 (140 * q + j))))) hq q4 ((congrFun (up_ne (by decide)) q).trans hj) hj1 hQ
  · exact absurd rfl c_197
