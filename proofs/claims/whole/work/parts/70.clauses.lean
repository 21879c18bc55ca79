/-! CLAUSES: what a law comes to -/
def c1 (c : CLA) : TL := c.1.getD []
def okC (c : CLA) : Prop := match c with
  | (none, u) => okW 18 u [] [true]
  | (some t, u) => t ≠ [] ∧ okW 18 t [] [false] ∧ okW 18 u [] [true]
def evV (V : ROW) (w : TL) : Int32 := (evW V w []).headD 0
def evC (V : ROW) : List CLA → Int32
  | [] => 0
  | (none, u) :: _ => evV V u
  | (some t, u) :: cs => if evV V t = 0 then evC V cs else evV V u
def flR : List CLA → TL
  | [] => []
  | c :: cs => c1 c ++ c.2 ++ flR cs
def flF : Nat → List CLA → TL
  | _, [] => []
  | m, c :: cs => clW m c ++ flF (m + (clW m c).length) cs
theorem flF_fold : ∀ (cs : List CLA) (acc : TL), cs.foldl (fun acc c => acc ++ clW acc.length c) acc = acc ++ flF acc.length cs
  | [], acc => (List.append_nil acc).symm
  | c :: cs, acc => by
    show cs.foldl (fun acc c => acc ++ clW acc.length c) (acc ++ clW acc.length c) = acc ++ (clW acc.length c ++ flF (acc.length + (clW acc.length c).length) cs)
    rw [flF_fold cs, List.length_append, List.append_assoc]
theorem flW_F (cs : List CLA) : flW cs = flF 0 cs := flF_fold cs []
/-- the clauses of law q in the reference's rows, from clause j and word p on -/
def lyR (A : Nat → Nat → Int32) (q : Nat) : Nat → Nat → List CLA → Prop
  | _, _, [] => True
  | j, p, c :: cs => A 52 (140 * q + j) = nI p ∧ A 53 (140 * q + j) = nI (p + (c1 c).length) ∧ A 54 (140 * q + j) = nI (p + (c1 c).length + c.2.length) ∧ rwd A (520 * q + p) (c1 c) ∧ rwd A (520 * q + p + (c1 c).length) c.2 ∧ lyR A q (j + 1) (p + (c1 c).length + c.2.length) cs
def LRel (A : Nat → Nat → Int32) (q : Nat) : Prop := ∃ cs : List CLA, (∀ c ∈ cs, okC c) ∧ A 51 q = nI cs.length ∧ cs.length ≤ 140 ∧ lyR A q 0 0 cs ∧ (flR cs).length ≤ 520 ∧ A 13 q = nI (flW cs).length ∧ (flW cs).length ≤ 240 ∧ ∀ i x, (flW cs)[i]? = some x → A 12 (240 * q + i) = x
theorem ev_one {V : ROW} (hV : ∀ l, l < 6 → vOk true (V l)) {w : TL} {b : Bool} (h : okW 18 w [] [b]) : evW V w [] = [evV V w] ∧ vOk b (evV V w) := by
  have h2 := tyV_ev (S := []) (T := []) hV h trivial
  unfold evV
  match evW V w [], h2 with
  | [v], h2 => exact ⟨rfl, h2.1⟩
theorem cl_give {C V : ROW} {b : Int32} {n fuel p : Nat} {S : List Int32} (hp : p < n) (hn : n ≤ 240) (hx : gt 960 C (b + nI p) = wd 4 0) : wRun C V b (nI n) (fuel + 1) (nI p) S = S.headD 0 := by
  have e : ∀ k : Int32, ¬ wd 4 0 / 10000 = k → ¬ gt 960 C (b + nI p) / 10000 = k := fun k z => by rw [hx]; exact z
  exact wr4 (nI_ge hp (by omega)) (e 0 (by decide)) (e 1 (by decide)) (e 2 (by decide)) (e 3 (by decide))
theorem gix {u v : TL} {j : Nat} {x : Int32} (h : v[j]? = some x) : (u ++ v)[u.length + j]? = some x := by
  rw [List.getElem?_append_right (by omega), Nat.add_sub_cancel_left]
  exact h
theorem gil {u v : TL} {j : Nat} {x : Int32} (h : u[j]? = some x) : (u ++ v)[j]? = some x := by
  have hl := (List.getElem?_eq_some_iff.mp h).1
  rw [List.getElem?_append_left hl]
  exact h
theorem cl_sum {C V : ROW} (hV : ∀ l, l < 6 → vOk true (V l)) {b : Int32} {n fuel p : Nat} {u : TL} (hn : n ≤ 240) (hu : okW 18 u [] [true]) (hp : p + u.length + 1 ≤ n) (hw : ∀ i x, (u ++ [wd 4 0])[i]? = some x → gt 960 C (b + nI (p + i)) = x) (hf : u.length + 1 ≤ fuel) : wRun C V b (nI n) fuel (nI p) [] = evV V u := by
  rw [show fuel = (fuel - u.length - 1 + 1) + u.length by omega, cl_run hV (m := 18) (by decide) (by omega) (S := []) (T := []) hu trivial (by decide) (by omega) (fun j x hj => hw j x (gil hj)), cl_give (by omega) hn (hw u.length _ (by
    have h := gix (u := u) (v := [wd 4 0]) (j := 0) (x := wd 4 0) rfl
    exact h))]
  rfl
theorem cl_clauses {C V : ROW} (hV : ∀ l, l < 6 → vOk true (V l)) {b : Int32} {n : Nat} (hn : n ≤ 240) : ∀ (cs : List CLA) (m fuel : Nat), (∀ c ∈ cs, okC c) → (∀ i x, (flF m cs)[i]? = some x → gt 960 C (b + nI (m + i)) = x) → m + (flF m cs).length = n → (flF m cs).length + 1 ≤ fuel → wRun C V b (nI n) fuel (nI m) [] = evC V cs
  | [], m, fuel, _, _, hm, hf => by
    have hm : m = n := hm
    rw [show fuel = fuel - 1 + 1 by have : 1 ≤ fuel := hf; omega, wr_e (by rw [hm]; exact Int32.le_refl _)]
    rfl
  | (none, u) :: cs, m, fuel, hc, hw, hm, hf => by
    have h1 := hc _ List.mem_cons_self
    have hl : (flF m ((none, u) :: cs)).length = u.length + 1 + (flF (m + (clW m (none, u)).length) cs).length := by
      show (u ++ [wd 4 0] ++ _).length = _
      simp only [List.length_append, List.length_cons, List.length_nil]
    exact cl_sum hV hn h1 (by omega) (fun i x hi => hw i x (gil hi)) (by omega)
  | (some t, u) :: cs, m, fuel, hc, hw, hm, hf => by
    obtain ⟨h0, h1, h2⟩ := hc _ List.mem_cons_self
    have hcl : (clW m (some t, u)).length = t.length + 1 + u.length + 1 := by
      show (t ++ [wd 3 (nI (m + (t.length + 1 + u.length + 1)))] ++ u ++ [wd 4 0]).length = _
      simp only [List.length_append, List.length_cons, List.length_nil]
    have hl : (flF m ((some t, u) :: cs)).length = t.length + 1 + u.length + 1 + (flF (m + (clW m (some t, u)).length) cs).length := by
      show (clW m (some t, u) ++ _).length = _
      rw [List.length_append, hcl]
    have hw1 : ∀ i x, (clW m (some t, u))[i]? = some x → gt 960 C (b + nI (m + i)) = x := fun i x hi => hw i x (gil hi)
    have e0 : clW m (some t, u) = t ++ ([wd 3 (nI (m + (t.length + 1 + u.length + 1)))] ++ (u ++ [wd 4 0])) := by
      show t ++ [wd 3 (nI (m + (t.length + 1 + u.length + 1)))] ++ u ++ [wd 4 0] = _
      simp only [List.append_assoc]
    obtain ⟨v1, v2⟩ := ev_one hV h1
    have hk : gt 960 C (b + nI (m + t.length)) = wd 3 (nI (m + (t.length + 1 + u.length + 1))) := hw1 _ _ (by
      rw [e0]
      exact gix (j := 0) rfl)
    obtain ⟨d1, d2⟩ := wd_d (k := 3) (v := m + (t.length + 1 + u.length + 1)) (by decide) (by omega)
    rw [show fuel = (fuel - t.length - 1 + 1) + t.length by omega, cl_run hV (m := 18) (by decide) (by omega) (S := []) (T := []) h1 trivial (by decide) (by omega) (fun j x hj => hw1 j x (by rw [e0]; exact gil hj)), v1, wr3 (nI_ge (by omega) (by omega)) (by rw [hk]; exact d1)]
    by_cases hz : evV V t = 0
    · rw [if_pos (show [evV V t].headD 0 = 0 from hz), hk, show rm (wd 3 (nI (m + (t.length + 1 + u.length + 1)))) 10000 = nI (m + (t.length + 1 + u.length + 1)) from d2, show (1 : Int32) = nI 1 from rfl, pk_sub (by omega), mx_n (by omega) (by omega), nI_add, Nat.max_eq_right (by omega), show m + (t.length + 1 + u.length + 1) - 1 + 1 = m + (clW m (some t, u)).length by omega]
      show wRun C V b (nI n) (fuel - t.length - 1) _ [] = if evV V t = 0 then evC V cs else evV V u
      rw [if_pos hz]
      refine cl_clauses hV hn cs _ _ (fun c hc2 => hc c (List.mem_cons_of_mem _ hc2)) (fun i x hi => ?_) (by omega) (by omega)
      have := hw _ x (gix (u := clW m (some t, u)) hi)
      rw [Nat.add_assoc]
      exact this
    · rw [if_neg (show ¬ [evV V t].headD 0 = 0 from hz)]
      show wRun C V b (nI n) (fuel - t.length - 1) _ [] = if evV V t = 0 then evC V cs else evV V u
      rw [if_neg hz, nI_1]
      refine cl_sum hV hn h2 (by omega) (fun i x hi => ?_) (by omega)
      have := hw1 (t.length + (1 + i)) x (by
        rw [e0]
        exact gix (gix (u := [wd 3 (nI (m + (t.length + 1 + u.length + 1)))]) hi))
      rw [show m + t.length + 1 + i = m + (t.length + (1 + i)) by omega]
      exact this
/-- the class: what law q comes to -/
theorem cl_wrt {A : Nat → Nat → Int32} {V : ROW} (hV : ∀ l, l < 6 → vOk true (V l)) {q : Nat} (hq : q < 4) {cs : List CLA} (hc : ∀ c ∈ cs, okC c) (hz : A 13 q = nI (flW cs).length) (hl : (flW cs).length ≤ 240) (hw : ∀ i x, (flW cs)[i]? = some x → A 12 (240 * q + i) = x) : wrt (A 12) (A 13) V (nI q) = evC V cs := by
  unfold wrt
  rw [show nI q * 240 = nI (q * 240) from pk_mul q 240, gt_nI hq (by decide), hz, show (240 : Int32) = nI 240 from rfl, mn_n (by decide) (by omega), Nat.min_eq_right hl]
  refine cl_clauses hV hl cs 0 241 hc (fun i x hi => ?_) (by rw [Nat.zero_add, flW_F]) (by rw [← flW_F]; omega)
  rw [← flW_F] at hi
  have hi2 := (List.getElem?_eq_some_iff.mp hi).1
  rw [nI_add, gt_nI (by omega) (by decide), show q * 240 + (0 + i) = 240 * q + i by omega]
  exact hw i x hi
theorem stp_V {V W : ROW} (h : ∀ l, l < 6 → V l = W l) : stp V = stp W := by
  have e : gt 6 V = gt 6 W := by
    funext i
    unfold gt
    by_cases hi : i < 0 ∨ 6 ≤ i.toNatClampNeg
    · rw [if_pos hi, if_pos hi]
    · rw [if_neg hi, if_neg hi, h _ (by omega)]
  funext x S
  unfold stp
  rw [e]
theorem evW_V {V W : ROW} (h : ∀ l, l < 6 → V l = W l) : ∀ (w : TL) (S : List Int32), evW V w S = evW W w S
  | [], _ => rfl
  | x :: w, S => by
    show evW V w (stp V x S) = evW W w (stp W x S)
    rw [stp_V h, evW_V h w]
theorem evC_V {V W : ROW} (h : ∀ l, l < 6 → V l = W l) : ∀ cs : List CLA, evC V cs = evC W cs
  | [] => rfl
  | (none, u) :: _ => by
    show (evW V u []).headD 0 = (evW W u []).headD 0
    rw [evW_V h]
  | (some t, u) :: cs => by
    show (if (evW V t []).headD 0 = 0 then evC V cs else (evW V u []).headD 0) = (if (evW W t []).headD 0 = 0 then evC W cs else (evW W u []).headD 0)
    rw [evW_V h, evW_V h, evC_V h cs]
set_option maxHeartbeats 800000 in
set_option maxRecDepth 100000 in
theorem e_workOut {A : Nat → Nat → Int32} {L : Nat → Nat → Int64} {I : Nat → Nat → Int32} {X : Nat → Int64} {x y z : Int32} {q a e : Nat} {w : TL} {b : Bool} (hx : x = nI q) (hy : y = nI a) (hz : z = nI e) (hq : q ≤ 4) (he : e ≤ 520) (hV : ∀ l, l < 6 → vOk true (A 55 l)) (hw : okW 18 w [] [b]) (hl : e = a + w.length) (hr : rwd A (520 * q + a) w) : Con 4 yX11_workOut cX11_workOut 6 (some .int) [.ref 46, .int x, .int y, .int z] (hp A L I X) (fun r_ H_ => r_ = some (.int (evV (A 55) w)) ∧ ∃ K, H_ = hp (up A 56 K) L I X) := by
  refine m_con (by decide) (Nat.le_of_ble_eq_true rfl) ?_
  subst hx hy hz
  obtain ⟨v1, v2⟩ := ev_one hV hw
  refine g_ic_0 dX11_workOut_0 ?_
  refine g_istore dX11_workOut_1 (by decide) ?_
  refine g_sipush (v := 520) dX11_workOut_3 (by decide) ?_
  refine g_iload_n dX11_workOut_6 rfl rfl ?_
  refine g_imul dX11_workOut_7 ?_
  refine g_iload_n dX11_workOut_8 rfl rfl ?_
  refine g_iadd dX11_workOut_9 ?_
  refine g_istore dX11_workOut_10 (by decide) ?_
  rw [show (520 : Int32) * nI q + nI a = nI (520 * q + a) from nk_add (nk_mul rfl rfl) rfl]
  refine g_eq (Hp2 := hp (up A 56 (A 56)) L I X) (by rw [up_self]) ?_
  refine e_work_loop hq he hV w (520 * q + a) [] [] (A 56) hw trivial (by decide) (fun j hj => absurd hj (Nat.not_lt_zero j)) (by omega) hr (fun K hK => ⟨?_, K, rfl⟩)
  rw [v1] at hK
  exact congrArg (fun z => some (Value.int z)) (stK_top hK)

set_option maxHeartbeats 800000 in
set_option maxRecDepth 100000 in
theorem e_worth_loop {A : Nat → Nat → Int32} {L : Nat → Nat → Int64} {I : Nat → Nat → Int32} {X : Nat → Int64} {q N : Nat} {Q : Option Value → m_H → Prop} (hq : q ≤ 4) (hN : A 51 q = nI N) (hN1 : N ≤ 140) (hV : ∀ l, l < 6 → vOk true (A 55 l)) : ∀ (cs : List CLA) (j p : Nat) (K0 : ROW), j + cs.length = N → p + (flR cs).length ≤ 520 → (∀ c ∈ cs, okC c) → lyR A q j p cs → (∀ K, Q (some (.int (evC (A 55) cs))) (hp (up A 56 K) L I X)) → G 5 RX11 cX11_worthOf 3 (some .int) Q 6 [some (.ref 46), some (.int (nI q)), some (.int (nI (140 * q + j)))] [] (hp (up A 56 K0) L I X) := by
  have h21 : (140 : Int32) * nI q + A 51 q = nI (140 * q + N) := nk_add (nk_mul rfl rfl) hN
  intro cs
  induction cs with
  | nil =>
    intro j p K0 hj hb hc hy hQ
    have hge : (140 : Int32) * nI q + A 51 q ≤ nI (140 * q + j) := by
      rw [h21]
      simp only [List.length_nil] at hj
      exact nI_le (by omega) (by omega)
    refine g_iload_n dX11_worthOf_6 rfl rfl ?_
    refine g_sipush (v := 140) dX11_worthOf_7 (by decide) ?_
    refine g_iload_n dX11_worthOf_10 rfl rfl ?_
    refine g_imul dX11_worthOf_11 ?_
    refine g_aload_n dX11_worthOf_12 rfl rfl ?_
    refine g_get dX11_worthOf_13 fl_X11_22 hp_46 rfl ?_
    refine g_iload_n dX11_worthOf_16 rfl rfl ?_
    refine g_ra dX11_worthOf_17 hp_51 (k := q) rfl (by omega) (by decide) ?_
    try simp (disch := omega) only [up_at, up_up, up_ne]
    refine g_iadd dX11_worthOf_18 ?_
    refine g_icmp_ge (tgt := 81) dX11_worthOf_19 (by decide) (fun c_19 => ?_) (fun c_19 => ?_)
    · refine g_ic_0 dX11_worthOf_81 ?_
      exact g_iret dX11_worthOf_82 (hQ K0)
    · exact absurd hge c_19
  | cons c cs ih =>
    intro j p K0 hj hb hc hy hQ
    simp only [List.length_cons] at hj
    have hlt : ¬ (140 : Int32) * nI q + A 51 q ≤ nI (140 * q + j) := by
      rw [h21]
      exact nI_ge (by omega) (by omega)
    have hcc := hc c List.mem_cons_self
    obtain ⟨t1, t2, t3, t4, t5, t6⟩ := hy
    rcases c with ⟨_ | t, u⟩
    · have h2 : okW 18 u [] [true] := hcc
      have hb : p + (([] : TL) ++ u ++ flR cs).length ≤ 520 := hb
      simp only [List.length_append, List.length_nil] at hb
      have hQ : ∀ K, Q (some (.int (evV (A 55) u))) (hp (up A 56 K) L I X) := hQ
      refine g_iload_n dX11_worthOf_6 rfl rfl ?_
      refine g_sipush (v := 140) dX11_worthOf_7 (by decide) ?_
      refine g_iload_n dX11_worthOf_10 rfl rfl ?_
      refine g_imul dX11_worthOf_11 ?_
      refine g_aload_n dX11_worthOf_12 rfl rfl ?_
      refine g_get dX11_worthOf_13 fl_X11_22 hp_46 rfl ?_
      refine g_iload_n dX11_worthOf_16 rfl rfl ?_
      refine g_ra dX11_worthOf_17 hp_51 (k := q) rfl (by omega) (by decide) ?_
      try simp (disch := omega) only [up_at, up_up, up_ne]
      refine g_iadd dX11_worthOf_18 ?_
      refine g_icmp_ge (tgt := 81) dX11_worthOf_19 (by decide) (fun c_19 => ?_) (fun c_19 => ?_)
      · exact absurd c_19 hlt
      · refine g_aload_n dX11_worthOf_22 rfl rfl ?_
        refine g_get dX11_worthOf_23 fl_X11_25 hp_46 rfl ?_
        refine g_iload_n dX11_worthOf_26 rfl rfl ?_
        refine g_ra dX11_worthOf_27 hp_52 (k := (140 * q + j)) rfl (by omega) (by decide) ?_
        try simp (disch := omega) only [up_at, up_up, up_ne]
        refine g_aload_n dX11_worthOf_28 rfl rfl ?_
        refine g_get dX11_worthOf_29 fl_X11_28 hp_46 rfl ?_
        refine g_iload_n dX11_worthOf_32 rfl rfl ?_
        refine g_ra dX11_worthOf_33 hp_53 (k := (140 * q + j)) rfl (by omega) (by decide) ?_
        try simp (disch := omega) only [up_at, up_up, up_ne]
        refine g_icmp_eq (tgt := 57) dX11_worthOf_34 (by decide) (fun c_34 => ?_) (fun c_34 => ?_)
        · refine g_aload_n dX11_worthOf_57 rfl rfl ?_
          refine g_iload_n dX11_worthOf_58 rfl rfl ?_
          refine g_aload_n dX11_worthOf_59 rfl rfl ?_
          refine g_get dX11_worthOf_60 fl_X11_28 hp_46 rfl ?_
          refine g_iload_n dX11_worthOf_63 rfl rfl ?_
          refine g_ra dX11_worthOf_64 hp_53 (k := (140 * q + j)) rfl (by omega) (by decide) ?_
          try simp (disch := omega) only [up_at, up_up, up_ne]
          refine g_aload_n dX11_worthOf_65 rfl rfl ?_
          refine g_get dX11_worthOf_66 fl_X11_31 hp_46 rfl ?_
          refine g_iload_n dX11_worthOf_69 rfl rfl ?_
          refine g_ra dX11_worthOf_70 hp_54 (k := (140 * q + j)) rfl (by omega) (by decide) ?_
          try simp (disch := omega) only [up_at, up_up, up_ne]
          refine g_callV dX11_worthOf_71 cv_X11_217 (as' := [_, _, _]) hp_46 rfl (e_workOut (q := q) (a := p) (e := p + u.length) (w := u) (b := true) rfl t2 t3 (by omega) (by omega) hV h2 rfl t5) (by decide) rfl rfl (Nat.le_of_ble_eq_true rfl) ?_
          rintro _ _ ⟨rfl, K2, rfl⟩
          try simp (disch := omega) only [up_at, up_up, up_ne]
          exact g_iret dX11_worthOf_74 (hQ K2)
        · exact absurd (t1.trans t2.symm) c_34
    · obtain ⟨h0, h1, h2⟩ := hcc
      have hb : p + (t ++ u ++ flR cs).length ≤ 520 := hb
      simp only [List.length_append] at hb
      have t5 : rwd A (520 * q + (p + t.length)) u := by rw [← Nat.add_assoc]; exact t5
      have ht0 : 0 < t.length := List.length_pos_iff.mpr h0
      have hne : ¬ nI p = nI (p + t.length) := fun z => absurd ((nI_eq (by omega) (by omega)).mp z) (by omega)
      refine g_iload_n dX11_worthOf_6 rfl rfl ?_
      refine g_sipush (v := 140) dX11_worthOf_7 (by decide) ?_
      refine g_iload_n dX11_worthOf_10 rfl rfl ?_
      refine g_imul dX11_worthOf_11 ?_
      refine g_aload_n dX11_worthOf_12 rfl rfl ?_
      refine g_get dX11_worthOf_13 fl_X11_22 hp_46 rfl ?_
      refine g_iload_n dX11_worthOf_16 rfl rfl ?_
      refine g_ra dX11_worthOf_17 hp_51 (k := q) rfl (by omega) (by decide) ?_
      try simp (disch := omega) only [up_at, up_up, up_ne]
      refine g_iadd dX11_worthOf_18 ?_
      refine g_icmp_ge (tgt := 81) dX11_worthOf_19 (by decide) (fun c_19 => ?_) (fun c_19 => ?_)
      · exact absurd c_19 hlt
      · refine g_aload_n dX11_worthOf_22 rfl rfl ?_
        refine g_get dX11_worthOf_23 fl_X11_25 hp_46 rfl ?_
        refine g_iload_n dX11_worthOf_26 rfl rfl ?_
        refine g_ra dX11_worthOf_27 hp_52 (k := (140 * q + j)) rfl (by omega) (by decide) ?_
        try simp (disch := omega) only [up_at, up_up, up_ne]
        refine g_aload_n dX11_worthOf_28 rfl rfl ?_
        refine g_get dX11_worthOf_29 fl_X11_28 hp_46 rfl ?_
        refine g_iload_n dX11_worthOf_32 rfl rfl ?_
        refine g_ra dX11_worthOf_33 hp_53 (k := (140 * q + j)) rfl (by omega) (by decide) ?_
        try simp (disch := omega) only [up_at, up_up, up_ne]
        refine g_icmp_eq (tgt := 57) dX11_worthOf_34 (by decide) (fun c_34 => ?_) (fun c_34 => ?_)
        · exact absurd (t1.symm.trans (c_34.trans t2)) hne
        · refine g_aload_n dX11_worthOf_37 rfl rfl ?_
          refine g_iload_n dX11_worthOf_38 rfl rfl ?_
          refine g_aload_n dX11_worthOf_39 rfl rfl ?_
          refine g_get dX11_worthOf_40 fl_X11_25 hp_46 rfl ?_
          refine g_iload_n dX11_worthOf_43 rfl rfl ?_
          refine g_ra dX11_worthOf_44 hp_52 (k := (140 * q + j)) rfl (by omega) (by decide) ?_
          try simp (disch := omega) only [up_at, up_up, up_ne]
          refine g_aload_n dX11_worthOf_45 rfl rfl ?_
          refine g_get dX11_worthOf_46 fl_X11_28 hp_46 rfl ?_
          refine g_iload_n dX11_worthOf_49 rfl rfl ?_
          refine g_ra dX11_worthOf_50 hp_53 (k := (140 * q + j)) rfl (by omega) (by decide) ?_
          try simp (disch := omega) only [up_at, up_up, up_ne]
          refine g_callV dX11_worthOf_51 cv_X11_217 (as' := [_, _, _]) hp_46 rfl (e_workOut (q := q) (a := p) (e := p + t.length) (w := t) (b := false) rfl t1 t2 (by omega) (by omega) hV h1 rfl t4) (by decide) rfl rfl (Nat.le_of_ble_eq_true rfl) ?_
          rintro _ _ ⟨rfl, K, rfl⟩
          try simp (disch := omega) only [up_at, up_up, up_ne]
          refine g_if_eq (tgt := 75) dX11_worthOf_54 (by decide) (fun c_54 => ?_) (fun c_54 => ?_)
          · refine g_iinc1 dX11_worthOf_75 rfl (by decide) ?_
            refine g_goto (tgt := 6) dX11_worthOf_78 (by decide) ?_
            rw [nI_1]
            refine g_loc (ls' := [some (.ref 46), some (.int (nI q)), some (.int (nI (140 * q + (j + 1))))]) (fun i v h => by rcases i with _|_|_|_ <;> first | exact h | cases h) ?_
            exact ih (j + 1) (p + t.length + u.length) K (by omega) (by omega) (fun c3 h3 => hc c3 (List.mem_cons_of_mem _ h3)) t6 (fun K3 => by rw [← show evC (A 55) ((some t, u) :: cs) = evC (A 55) cs from if_pos c_54]; exact hQ K3)
          · refine g_aload_n dX11_worthOf_57 rfl rfl ?_
            refine g_iload_n dX11_worthOf_58 rfl rfl ?_
            refine g_aload_n dX11_worthOf_59 rfl rfl ?_
            refine g_get dX11_worthOf_60 fl_X11_28 hp_46 rfl ?_
            refine g_iload_n dX11_worthOf_63 rfl rfl ?_
            refine g_ra dX11_worthOf_64 hp_53 (k := (140 * q + j)) rfl (by omega) (by decide) ?_
            try simp (disch := omega) only [up_at, up_up, up_ne]
            refine g_aload_n dX11_worthOf_65 rfl rfl ?_
            refine g_get dX11_worthOf_66 fl_X11_31 hp_46 rfl ?_
            refine g_iload_n dX11_worthOf_69 rfl rfl ?_
            refine g_ra dX11_worthOf_70 hp_54 (k := (140 * q + j)) rfl (by omega) (by decide) ?_
            try simp (disch := omega) only [up_at, up_up, up_ne]
            refine g_callV dX11_worthOf_71 cv_X11_217 (as' := [_, _, _]) hp_46 rfl (e_workOut (q := q) (a := (p + t.length)) (e := (p + t.length) + u.length) (w := u) (b := true) rfl t2 t3 (by omega) (by omega) hV h2 rfl t5) (by decide) rfl rfl (Nat.le_of_ble_eq_true rfl) ?_
            rintro _ _ ⟨rfl, K2, rfl⟩
            try simp (disch := omega) only [up_at, up_up, up_ne]
            exact g_iret dX11_worthOf_74 (by rw [← show evC (A 55) ((some t, u) :: cs) = evV (A 55) u from if_neg c_54]; exact hQ K2)

set_option maxHeartbeats 800000 in
set_option maxRecDepth 100000 in
theorem e_worthOf {A : Nat → Nat → Int32} {L : Nat → Nat → Int64} {I : Nat → Nat → Int32} {X : Nat → Int64} {x : Int32} {q : Nat} {cs : List CLA} (hx : x = nI q) (hq : q ≤ 4) (hV : ∀ l, l < 6 → vOk true (A 55 l)) (hN : A 51 q = nI cs.length) (hN1 : cs.length ≤ 140) (hb : (flR cs).length ≤ 520) (hc : ∀ c ∈ cs, okC c) (hy : lyR A q 0 0 cs) : Con 5 yX11_worthOf cX11_worthOf 3 (some .int) [.ref 46, .int x] (hp A L I X) (fun r_ H_ => r_ = some (.int (evC (A 55) cs)) ∧ ∃ K, H_ = hp (up A 56 K) L I X) := by
  refine m_con (by decide) (Nat.le_of_ble_eq_true rfl) ?_
  subst hx
  refine g_sipush (v := 140) dX11_worthOf_0 (by decide) ?_
  refine g_iload_n dX11_worthOf_3 rfl rfl ?_
  refine g_imul dX11_worthOf_4 ?_
  refine g_istore_n dX11_worthOf_5 rfl (by decide) ?_
  rw [show (140 : Int32) * nI q = nI (140 * q + 0) from nk_mul rfl rfl]
  refine g_eq (Hp2 := hp (up A 56 (A 56)) L I X) (by rw [up_self]) ?_
  exact e_worth_loop hq hN hN1 hV cs 0 0 (A 56) (by omega) (by omega) hc hy (fun K => ⟨rfl, K, rfl⟩)
