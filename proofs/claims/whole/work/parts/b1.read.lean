/-! THE REFERENCE READS: the state, what keeps it -/
/-- all but one text's own rows -/
def mR (q : Nat) (A0 I0 A I : Nat → Nat → Int32) : Prop := (∀ i, i ≠ 48 → i ≠ 49 → i ≠ 50 → A i = A0 i) ∧ (∀ j, (j < 520 * q ∨ 520 * q + 520 ≤ j) → A 48 j = A0 48 j ∧ A 49 j = A0 49 j) ∧ (∀ j, j ≠ q → A 50 j = A0 50 j) ∧ ∀ i k, ¬ (i = 46 ∧ (k = 3 ∨ k = 4 ∨ k = 5)) → I i k = I0 i k
theorem mR_rf {q : Nat} {A I : Nat → Nat → Int32} : mR q A I A I := ⟨fun _ _ _ _ => rfl, fun _ _ => ⟨rfl, rfl⟩, fun _ _ => rfl, fun _ _ _ => rfl⟩
theorem mR_I {q k : Nat} {A0 I0 A I : Nat → Nat → Int32} {v : Int32} (h : mR q A0 I0 A I) (hk : k = 3 ∨ k = 4 ∨ k = 5) : mR q A0 I0 A (up2 I 46 k v) :=
  ⟨h.1, h.2.1, h.2.2.1, fun i l z => (up2_ne (fun w => z ⟨w.1, by rw [w.2]; exact hk⟩)).trans (h.2.2.2 i l z)⟩
/-- a state of reading: failed at p, or at b with the words W and u written -/
def MSt (q n d : Nat) (W : TL) (k e : Nat) (s : PR TL) (A I : Nat → Nat → Int32) : Prop := match s with
  | .inl p => I 46 4 = nI p ∧ p ≤ n ∧ ∃ c, A 50 q = nI c ∧ c ≤ 240 + e
  | .inr (b, u) => I 46 3 = nI b ∧ I 46 4 = (-1) ∧ I 46 5 = nI d ∧ A 50 q = nI (W ++ u).length ∧ rwd A (520 * q) (W ++ u) ∧ b ≤ n ∧ (W ++ u).length + k ≤ b
def MS (A0 I0 : Nat → Nat → Int32) (q n d : Nat) (W : TL) (k e : Nat) (s : PR TL) (A I : Nat → Nat → Int32) : Prop := mR q A0 I0 A I ∧ MSt q n d W k e s A I
def RM (A0 : Nat → Nat → Int32) (L : Nat → Nat → Int64) (I0 : Nat → Nat → Int32) (X : Nat → Int64) (q n d : Nat) (W : TL) (k e : Nat) (s : PR TL) : Option Value → m_H → Prop := fun r_ H_ => r_ = none ∧ ∃ A1 I1, MS A0 I0 q n d W k e s A1 I1 ∧ H_ = hp A1 L I1 X
theorem MS_e {A0 I0 A I : Nat → Nat → Int32} {q n d : Nat} {W : TL} {k e e' : Nat} {s : PR TL} (h : MS A0 I0 q n d W k e s A I) (he : ∀ p, s = .inl p → e ≤ e') : MS A0 I0 q n d W k e' s A I := by
  refine ⟨h.1, ?_⟩
  have h2 := h.2
  cases s with
  | inl p =>
    obtain ⟨a, b, c, h3, h4⟩ := h2
    have := he p rfl
    exact ⟨a, b, c, h3, by omega⟩
  | inr x => exact h2
theorem MS_ne {A0 I0 A I : Nat → Nat → Int32} {q n d : Nat} {W : TL} {k e : Nat} {s : PR TL} (h : MS A0 I0 q n d W k e s A I) (hn : ¬ I 46 4 = (-1)) : ∃ p, s = .inl p := by
  have h2 := h.2
  cases s with
  | inl p => exact ⟨p, rfl⟩
  | inr x => exact absurd h2.2.1 hn
theorem MS_eq {A0 I0 A I : Nat → Nat → Int32} {q n d : Nat} {W : TL} {k e : Nat} {s : PR TL} (hn : n ≤ 240) (h : MS A0 I0 q n d W k e s A I) (hw : I 46 4 = (-1)) : ∃ b u, s = .inr (b, u) := by
  have h2 := h.2
  cases s with
  | inl p =>
    have e1 : nI p = (-1) := h2.1.symm.trans hw
    have hp2 : p ≤ n := h2.2.1
    exact absurd (Int32.le_trans (nI_pos' (n := p) (by omega)) (Int32.le_of_eq e1)) (by decide)
  | inr x => exact ⟨x.1, x.2, rfl⟩
theorem MS_lt {A0 I0 A I : Nat → Nat → Int32} {q n d : Nat} {W : TL} {k e b : Nat} {u : TL} (h : MS A0 I0 q n d W k e (.inr (b, u)) A I) : b ≤ n := h.2.2.2.2.2.2.1
theorem MS_at {A0 I0 A I : Nat → Nat → Int32} {q n d : Nat} {W : TL} {k e b : Nat} {u : TL} (h : MS A0 I0 q n d W k e (.inr (b, u)) A I) (hb : b < n) : MS A0 I0 q n d W (k + 1) e (.inr (b + 1, u)) A (up2 I 46 3 (I 46 3 + 1)) := by
  obtain ⟨h0, h1, h2, h3, h4, h5, h6, h7⟩ := h
  refine ⟨mR_I h0 (Or.inl rfl), ?_, (up2_ne (by decide)).trans h2, (up2_ne (by decide)).trans h3, h4, h5, hb, by omega⟩
  rw [up2_at, h1, nI_1]
theorem MS_ctx {A0 I0 A I : Nat → Nat → Int32} {q n d : Nat} {W : TL} {k e : Nat} {s : PR TL} (h : MS A0 I0 q n d W k e s A I) (tp : tpM A0 I0 n) : I 46 2 = nI n ∧ n ≤ 240 ∧ A 47 = A0 47 ∧ I 46 14 = I0 46 14 :=
  ⟨(h.1.2.2.2 46 2 (by decide)).trans tp.1, tp.2.1, h.1.1 47 (by decide) (by decide) (by decide), h.1.2.2.2 46 14 (by decide)⟩
theorem z_look {A0 I0 A I : Nat → Nat → Int32} {L : Nat → Nat → Int64} {X : Nat → Int64} {q n d : Nat} {W : TL} {k e : Nat} {b : Nat} {u : TL} (tp : tpM A0 I0 n) (hq : I0 46 14 = nI q) (q4 : q ≤ 4) (h : MS A0 I0 q n d W k e (.inr (b, u)) A I) : Con 2 yX11_look cX11_look 1 (some .int) [.ref 46] (hp A L I X) (fun r_ H_ => r_ = some (.int (bt (A0 47) n (sk (A0 47) n b))) ∧ ∃ A1 I1, MS A0 I0 q n d W k e (.inr (sk (A0 47) n b, u)) A1 I1 ∧ H_ = hp A1 L I1 X) := by
  obtain ⟨c2, cn, c47, c14⟩ := MS_ctx h tp
  refine Con.mono ?_ (e_look c2 cn h.2.1 (MS_lt h))
  rintro r_ H_ ⟨rfl, rfl⟩
  rw [c47]
  refine ⟨rfl, A, _, ⟨mR_I h.1 (Or.inl rfl), ?_⟩, rfl⟩
  obtain ⟨h0, h1, h2, h3, h4, h5, h6, h7⟩ := h
  have := sk_ge (T := A0 47) (n := n) (a := b)
  exact ⟨up2_at, (up2_ne (by decide)).trans h2, (up2_ne (by decide)).trans h3, h4, h5, sk_le h6, by omega⟩
theorem z_bad {A0 I0 A I : Nat → Nat → Int32} {L : Nat → Nat → Int64} {X : Nat → Int64} {q n d : Nat} {W : TL} {k e : Nat} {e2 : Nat} {s : PR TL} (tp : tpM A0 I0 n) (h : MS A0 I0 q n d W k e s A I) (he : e ≤ e2) : Con 1 yX11_bad cX11_bad 1 none [.ref 46] (hp A L I X) (RM A0 L I0 X q n d W k e2 (flS s)) := by
  have hn := tp.2.1
  refine Con.mono ?_ e_bad
  rintro r_ H_ ⟨rfl, rfl⟩
  cases s with
  | inl p =>
    obtain ⟨h0, h1, h2, c, h3, h4⟩ := h
    rw [if_neg (fun z => absurd (Int32.le_trans (nI_pos' (n := p) (by omega)) (Int32.le_of_eq (h1.symm.trans z))) (by decide))]
    exact ⟨rfl, A, I, ⟨h0, h1, h2, c, h3, by omega⟩, rfl⟩
  | inr x =>
    obtain ⟨b, u⟩ := x
    obtain ⟨h0, h1, h2, h3, h4, h5, h6, h7⟩ := h
    rw [if_pos h2, h1]
    exact ⟨rfl, A, _, ⟨mR_I h0 (Or.inr (Or.inl rfl)), up2_at, h6, _, h4, by omega⟩, rfl⟩
theorem rwd_app {A : Nat → Nat → Int32} {p : Nat} {w v : TL} (h1 : rwd A p w) (h2 : rwd A (p + w.length) v) : rwd A p (w ++ v) := by
  intro j x hj
  by_cases c : j < w.length
  · rw [List.getElem?_append_left c] at hj
    exact h1 j x hj
  · rw [List.getElem?_append_right (by omega)] at hj
    have q := h2 (j - w.length) x hj
    rw [show p + w.length + (j - w.length) = p + j by omega] at q
    exact q
theorem rwd_one {A : Nat → Nat → Int32} {p : Nat} {x : Int32} (h1 : A 48 p = opc x) (h2 : A 49 p = opv x) : rwd A p [x] := by
  intro j y hj
  cases j with
  | zero => cases hj; exact ⟨h1, h2⟩
  | succ j => cases hj
theorem z_put {A0 I0 A I : Nat → Nat → Int32} {L : Nat → Nat → Int64} {X : Nat → Int64} {q n d : Nat} {W : TL} {k e : Nat} {s : PR TL} {x c v : Int32} (tp : tpM A0 I0 n) (hq : I0 46 14 = nI q) (q4 : q ≤ 4) (h : MS A0 I0 q n d W (k + 1) e s A I) (he : e ≤ 200) (hc : c = opc x) (hv : v = opv x) : Con 1 yX11_put cX11_put 3 none [.ref 46, .int c, .int v] (hp A L I X) (RM A0 L I0 X q n d W k (e + 1) (wrS x s)) := by
  obtain ⟨c2, cn, c47, c14⟩ := MS_ctx h tp
  have keep : ∀ {m : Nat} {y z : Int32}, m < 520 → mR q A0 I0 (up (up (up A 48 (upd (A 48) (520 * q + m) y)) 49 (upd (A 49) (520 * q + m) z)) 50 (upd (A 50) q (nI (m + 1)))) I := by
    intro m y z hm
    obtain ⟨h1, h2, h3, h4⟩ := h.1
    refine ⟨fun i i1 i2 i3 => ?_, fun j hj => ?_, fun j hj => ?_, h4⟩
    · rw [up_ne i3, up_ne i2, up_ne i1]
      exact h1 i i1 i2 i3
    · rw [up_ne (by decide), up_ne (by decide), up_at, up_ne (by decide), up_at, ud_ne (by omega), ud_ne (by omega)]
      exact h2 j hj
    · rw [up_at, ud_ne hj]
      exact h3 j hj
  cases s with
  | inl p =>
    obtain ⟨h0, h1, h2, m, h3, h4⟩ := h
    refine Con.mono ?_ (e_put (q := q) (c := m) (c14.trans hq) q4 h3 (by omega))
    rintro r_ H_ ⟨rfl, rfl⟩
    refine ⟨rfl, _, I, ⟨keep (by omega), h1, h2, m + 1, ?_, by omega⟩, rfl⟩
    rw [up_at, ud_at]
  | inr y =>
    obtain ⟨b, u⟩ := y
    obtain ⟨h0, h1, h2, h3, h4, h5, h6, h7⟩ := h
    refine Con.mono ?_ (e_put (q := q) (c := (W ++ u).length) (c14.trans hq) q4 h4 (by omega))
    rintro r_ H_ ⟨rfl, rfl⟩
    have el : (W ++ (u ++ [x])).length = (W ++ u).length + 1 := by simp; omega
    refine ⟨rfl, _, I, ⟨keep (by omega), h1, h2, h3, ?_, ?_, h6, by omega⟩, rfl⟩
    · rw [up_at, ud_at, el]
    · rw [← List.append_assoc]
      refine rwd_app (fun j y hj => ?_) (rwd_one ?_ ?_)
      · have hjl := (List.getElem?_eq_some_iff.mp hj).1
        rw [up_ne (by decide), up_ne (by decide), up_at, up_ne (by decide), up_at, ud_ne (by omega), ud_ne (by omega)]
        exact h5 j y hj
      · rw [up_ne (by decide), up_ne (by decide), up_at, ud_at, hc]
      · rw [up_ne (by decide), up_at, ud_at, hv]
set_option maxHeartbeats 800000 in
set_option maxRecDepth 100000 in
theorem e_opens {A : Nat → Nat → Int32} {L : Nat → Nat → Int64} {I : Nat → Nat → Int32} {X : Nat → Int64}   : Con 2 yX11_opens cX11_opens 1 none [.ref 46] (hp A L I X) (fun r_ H_ => r_ = none ∧ H_ = hp A L (up2 (up2 (if I 46 5 = 6 then (if I 46 4 = (-1) then up2 I 46 4 (I 46 3) else I) else I) 46 5 (I 46 5 + 1)) 46 3 (I 46 3 + 1)) X) := by
  refine m_con (by decide) (Nat.le_of_ble_eq_true rfl) ?_
  refine g_aload_n dX11_opens_0 rfl rfl ?_
  refine g_get dX11_opens_1 fl_X11_129 hp_46 rfl ?_
  refine g_bipush (v := 6) dX11_opens_4 (by decide) ?_
  refine g_icmp_ne (tgt := 13) dX11_opens_6 (by decide) (fun c_6 => ?_) (fun c_6 => ?_)
  · refine g_aload_n dX11_opens_13 rfl rfl ?_
    refine g_dup dX11_opens_14 rfl ?_
    refine g_get dX11_opens_15 fl_X11_129 hp_46 rfl ?_
    refine g_ic_1 dX11_opens_18 ?_
    refine g_iadd dX11_opens_19 ?_
    refine g_puti dX11_opens_20 fw_X11_129 hp_46 (Nat.le_of_ble_eq_true rfl) ?_
    rw [hq_46_5]
    refine g_aload_n dX11_opens_23 rfl rfl ?_
    refine g_dup dX11_opens_24 rfl ?_
    refine g_get dX11_opens_25 fl_X11_116 hp_46 rfl ?_
    refine g_ic_1 dX11_opens_28 ?_
    refine g_iadd dX11_opens_29 ?_
    refine g_puti dX11_opens_30 fw_X11_116 hp_46 (Nat.le_of_ble_eq_true rfl) ?_
    rw [hq_46_3]
    exact g_vret dX11_opens_33 ⟨rfl, by rw [if_neg c_6, up2_ne (by decide)]⟩
  · refine g_aload_n dX11_opens_9 rfl rfl ?_
    refine g_callV dX11_opens_10 cv_X11_132 (as' := []) hp_46 rfl e_bad (by decide) rfl rfl (Nat.le_of_ble_eq_true rfl) ?_
    rintro _ _ ⟨rfl, rfl⟩
    have k5 : (if I 46 4 = (-1) then up2 I 46 4 (I 46 3) else I) 46 5 = I 46 5 := by split; exact up2_ne (by decide); rfl
    have k3 : (if I 46 4 = (-1) then up2 I 46 4 (I 46 3) else I) 46 3 = I 46 3 := by split; exact up2_ne (by decide); rfl
    refine g_aload_n dX11_opens_13 rfl rfl ?_
    refine g_dup dX11_opens_14 rfl ?_
    refine g_get dX11_opens_15 fl_X11_129 hp_46 rfl ?_
    refine g_ic_1 dX11_opens_18 ?_
    refine g_iadd dX11_opens_19 ?_
    refine g_puti dX11_opens_20 fw_X11_129 hp_46 (Nat.le_of_ble_eq_true rfl) ?_
    rw [hq_46_5]
    refine g_aload_n dX11_opens_23 rfl rfl ?_
    refine g_dup dX11_opens_24 rfl ?_
    refine g_get dX11_opens_25 fl_X11_116 hp_46 rfl ?_
    refine g_ic_1 dX11_opens_28 ?_
    refine g_iadd dX11_opens_29 ?_
    refine g_puti dX11_opens_30 fw_X11_116 hp_46 (Nat.le_of_ble_eq_true rfl) ?_
    rw [hq_46_3]
    exact g_vret dX11_opens_33 ⟨rfl, by rw [if_pos c_6, up2_ne (by decide), k5, k3]⟩

theorem z_opens6 {A0 I0 A I : Nat → Nat → Int32} {L : Nat → Nat → Int64} {X : Nat → Int64} {q n d : Nat} {W : TL} {k e : Nat} {b : Nat} {u : TL} (tp : tpM A0 I0 n) (hq : I0 46 14 = nI q) (q4 : q ≤ 4) (h : MS A0 I0 q n d W k e (.inr (b, u)) A I) (hd : d = 6) : Con 2 yX11_opens cX11_opens 1 none [.ref 46] (hp A L I X) (RM A0 L I0 X q n d W k e (.inl b)) := by
  have hn := tp.2.1
  refine Con.mono ?_ e_opens
  rintro r_ H_ ⟨rfl, rfl⟩
  obtain ⟨h0, h1, h2, h3, h4, h5, h6, h7⟩ := h
  rw [if_pos (h3.trans (by rw [hd]; rfl)), if_pos h2]
  refine ⟨rfl, A, _, ⟨mR_I (mR_I (mR_I h0 (Or.inr (Or.inl rfl))) (Or.inr (Or.inr rfl))) (Or.inl rfl), ?_, h6, _, h4, by omega⟩, rfl⟩
  rw [up2_ne (by decide), up2_ne (by decide), up2_at, h1]
theorem z_opens {A0 I0 A I : Nat → Nat → Int32} {L : Nat → Nat → Int64} {X : Nat → Int64} {q n d : Nat} {W : TL} {k e : Nat} {b : Nat} {u : TL} (tp : tpM A0 I0 n) (hq : I0 46 14 = nI q) (q4 : q ≤ 4) (h : MS A0 I0 q n d W k e (.inr (b, u)) A I) (hd : d < 6) (hb : b < n) : Con 2 yX11_opens cX11_opens 1 none [.ref 46] (hp A L I X) (RM A0 L I0 X q n (d + 1) W (k + 1) e (.inr (b + 1, u))) := by
  have hn := tp.2.1
  refine Con.mono ?_ e_opens
  rintro r_ H_ ⟨rfl, rfl⟩
  obtain ⟨h0, h1, h2, h3, h4, h5, h6, h7⟩ := h
  rw [if_neg (fun z => by have := (nI_eq (a := d) (b := 6) (by omega) (by decide)).mp (h3.symm.trans z); omega)]
  refine ⟨rfl, A, _, ⟨mR_I (mR_I h0 (Or.inr (Or.inr rfl))) (Or.inl rfl), ?_, ?_, ?_, h4, h5, hb, by omega⟩, rfl⟩
  · rw [up2_at, h1, nI_1]
  · rw [up2_ne (by decide), up2_ne (by decide)]
    exact h2
  · rw [up2_ne (by decide), up2_at, h3, nI_1]
set_option maxHeartbeats 800000 in
set_option maxRecDepth 100000 in
theorem z_closes_l {A0 I0 A I : Nat → Nat → Int32} {L : Nat → Nat → Int64} {X : Nat → Int64} {q n d : Nat} {W : TL} {k e : Nat} {p d2 : Nat} {c : Int32} (tp : tpM A0 I0 n) (h : MS A0 I0 q n d2 W k e (.inl p) A I) : Con 3 yX11_closes cX11_closes 2 none [.ref 46, .int c] (hp A L I X) (RM A0 L I0 X q n d W k e (.inl p)) := by
  refine m_con (by decide) (Nat.le_of_ble_eq_true rfl) ?_
  refine g_aload_n dX11_closes_0 rfl rfl ?_
  refine g_get dX11_closes_1 fl_X11_123 hp_46 rfl ?_
  refine g_ic_m1 dX11_closes_4 ?_
  refine g_icmp_ne (tgt := 20) dX11_closes_5 (by decide) (fun c_5 => ?_) (fun c_5 => ?_)
  · refine g_aload_n dX11_closes_20 rfl rfl ?_
    refine g_dup dX11_closes_21 rfl ?_
    refine g_get dX11_closes_22 fl_X11_116 hp_46 rfl ?_
    refine g_ic_1 dX11_closes_25 ?_
    refine g_iadd dX11_closes_26 ?_
    refine g_puti dX11_closes_27 fw_X11_116 hp_46 (Nat.le_of_ble_eq_true rfl) ?_
    rw [hq_46_3]
    refine g_aload_n dX11_closes_30 rfl rfl ?_
    refine g_dup dX11_closes_31 rfl ?_
    refine g_get dX11_closes_32 fl_X11_129 hp_46 rfl ?_
    refine g_ic_1 dX11_closes_35 ?_
    refine g_isub dX11_closes_36 ?_
    refine g_puti dX11_closes_37 fw_X11_129 hp_46 (Nat.le_of_ble_eq_true rfl) ?_
    rw [hq_46_5]
    exact g_vret dX11_closes_40 ⟨rfl, A, _, ⟨mR_I (mR_I h.1 (Or.inl rfl)) (Or.inr (Or.inr rfl)), by rw [up2_ne (by decide), up2_ne (by decide)]; exact h.2.1, h.2.2⟩, rfl⟩
  · exact absurd c_5 (fun z => absurd (Int32.le_trans (nI_pos' (n := p) (by have := h.2.2.1; have := tp.2.1; omega)) (Int32.le_of_eq (h.2.1.symm.trans z))) (by decide))

set_option maxHeartbeats 800000 in
set_option maxRecDepth 100000 in
theorem z_closes_r {A0 I0 A I : Nat → Nat → Int32} {L : Nat → Nat → Int64} {X : Nat → Int64} {q n d : Nat} {W : TL} {k e : Nat} {b : Nat} {u : TL} {c : Int32} (tp : tpM A0 I0 n) (hq : I0 46 14 = nI q) (q4 : q ≤ 4) (hc : ¬ c = (-1)) (hd : d < 6) (h : MS A0 I0 q n (d + 1) W k e (.inr (b, u)) A I) : Con 3 yX11_closes cX11_closes 2 none [.ref 46, .int c] (hp A L I X) (RM A0 L I0 X q n d W (k + 1) e (exS (A0 47) n c (.inr (b, u)))) := by
  refine m_con (by decide) (Nat.le_of_ble_eq_true rfl) ?_
  refine g_aload_n dX11_closes_0 rfl rfl ?_
  refine g_get dX11_closes_1 fl_X11_123 hp_46 rfl ?_
  refine g_ic_m1 dX11_closes_4 ?_
  refine g_icmp_ne (tgt := 20) dX11_closes_5 (by decide) (fun c_5 => ?_) (fun c_5 => ?_)
  · exact absurd h.2.2.1 c_5
  · refine g_aload_n dX11_closes_8 rfl rfl ?_
    refine g_callV dX11_closes_9 cv_X11_135 (as' := []) hp_46 rfl (z_look tp hq q4 h) (by decide) rfl rfl (Nat.le_of_ble_eq_true rfl) ?_
    rintro _ _ ⟨rfl, A1, I1, h1, rfl⟩
    refine g_iload_n dX11_closes_12 rfl rfl ?_
    refine g_icmp_eq (tgt := 20) dX11_closes_13 (by decide) (fun c_13 => ?_) (fun c_13 => ?_)
    · refine g_aload_n dX11_closes_20 rfl rfl ?_
      refine g_dup dX11_closes_21 rfl ?_
      refine g_get dX11_closes_22 fl_X11_116 hp_46 rfl ?_
      refine g_ic_1 dX11_closes_25 ?_
      refine g_iadd dX11_closes_26 ?_
      refine g_puti dX11_closes_27 fw_X11_116 hp_46 (Nat.le_of_ble_eq_true rfl) ?_
      rw [hq_46_3]
      refine g_aload_n dX11_closes_30 rfl rfl ?_
      refine g_dup dX11_closes_31 rfl ?_
      refine g_get dX11_closes_32 fl_X11_129 hp_46 rfl ?_
      refine g_ic_1 dX11_closes_35 ?_
      refine g_isub dX11_closes_36 ?_
      refine g_puti dX11_closes_37 fw_X11_129 hp_46 (Nat.le_of_ble_eq_true rfl) ?_
      rw [hq_46_5]
      exact g_vret dX11_closes_40 ⟨rfl, A1, _, by rw [show exS (A0 47) n c (.inr (b, u)) = .inr (sk (A0 47) n b + 1, u) from if_pos c_13]; have h3 := MS_at h1 (bt_lt (by rw [c_13]; exact hc)); obtain ⟨a0, a1, a2, a3, a4⟩ := h3; refine ⟨mR_I a0 (Or.inr (Or.inr rfl)), (up2_ne (by decide)).trans a1, (up2_ne (by decide)).trans a2, ?_, a4⟩; rw [up2_at, a3, show (1 : Int32) = nI 1 from rfl, pk_sub (by omega)]; rfl, rfl⟩
    · refine g_aload_n dX11_closes_16 rfl rfl ?_
      refine g_callV dX11_closes_17 cv_X11_132 (as' := []) hp_46 rfl (z_bad tp h1 (Nat.le_refl _)) (by decide) rfl rfl (Nat.le_of_ble_eq_true rfl) ?_
      rintro _ _ ⟨rfl, A2, I2, h2, rfl⟩
      refine g_aload_n dX11_closes_20 rfl rfl ?_
      refine g_dup dX11_closes_21 rfl ?_
      refine g_get dX11_closes_22 fl_X11_116 hp_46 rfl ?_
      refine g_ic_1 dX11_closes_25 ?_
      refine g_iadd dX11_closes_26 ?_
      refine g_puti dX11_closes_27 fw_X11_116 hp_46 (Nat.le_of_ble_eq_true rfl) ?_
      rw [hq_46_3]
      refine g_aload_n dX11_closes_30 rfl rfl ?_
      refine g_dup dX11_closes_31 rfl ?_
      refine g_get dX11_closes_32 fl_X11_129 hp_46 rfl ?_
      refine g_ic_1 dX11_closes_35 ?_
      refine g_isub dX11_closes_36 ?_
      refine g_puti dX11_closes_37 fw_X11_129 hp_46 (Nat.le_of_ble_eq_true rfl) ?_
      rw [hq_46_5]
      exact g_vret dX11_closes_40 ⟨rfl, A2, _, by rw [show exS (A0 47) n c (.inr (b, u)) = .inl (sk (A0 47) n b) from if_neg c_13]; exact ⟨mR_I (mR_I h2.1 (Or.inl rfl)) (Or.inr (Or.inr rfl)), by rw [up2_ne (by decide), up2_ne (by decide)]; exact h2.2.1, h2.2.2⟩, rfl⟩

theorem z_closes {A0 I0 A I : Nat → Nat → Int32} {L : Nat → Nat → Int64} {X : Nat → Int64} {q n d : Nat} {W : TL} {k e : Nat} {s : PR TL} {c : Int32} (tp : tpM A0 I0 n) (hq : I0 46 14 = nI q) (q4 : q ≤ 4) (hc : ¬ c = (-1)) (hd : d < 6) (h : MS A0 I0 q n (d + 1) W k e s A I) : Con 3 yX11_closes cX11_closes 2 none [.ref 46, .int c] (hp A L I X) (RM A0 L I0 X q n d W (k + 1) e (exS (A0 47) n c s)) := by
  cases s with
  | inl p => exact z_closes_l (d2 := d + 1) tp h
  | inr x =>
    obtain ⟨b, u⟩ := x
    exact z_closes_r tp hq q4 hc hd h