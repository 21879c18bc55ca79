/-! READING A LAW: atoms, terms, sums -/
theorem exS_bnd {T : Nat → Int32} {n : Nat} {c : Int32} {s : PR TL} {g : Nat → PR TL} : exS T n c (bnd s g) = bnd s (fun a => exS T n c (g a)) := by
  cases s with
  | inl p => rfl
  | inr q =>
    obtain ⟨b, u⟩ := q
    show exS T n c (match g b with | .inl p => .inl p | .inr (d, v) => .inr (d, u ++ v)) = (match exS T n c (g b) with | .inl p => .inl p | .inr (d, v) => .inr (d, u ++ v))
    cases g b with
    | inl p => rfl
    | inr q2 =>
      obtain ⟨d, v⟩ := q2
      show (if bt T n (sk T n d) = c then .inr (sk T n d + 1, u ++ v) else .inl (sk T n d) : PR TL) = (match (if bt T n (sk T n d) = c then .inr (sk T n d + 1, v) else .inl (sk T n d) : PR TL) with | .inl p => .inl p | .inr (d, v) => .inr (d, u ++ v))
      by_cases h : bt T n (sk T n d) = c
      · rw [if_pos h, if_pos h]
      · rw [if_neg h, if_neg h]
theorem wrS_bnd {x : Int32} {s : PR TL} {g : Nat → PR TL} : wrS x (bnd s g) = bnd s (fun a => wrS x (g a)) := by
  cases s with
  | inl p => rfl
  | inr q =>
    obtain ⟨b, u⟩ := q
    show wrS x (match g b with | .inl p => .inl p | .inr (d, v) => .inr (d, u ++ v)) = (match wrS x (g b) with | .inl p => .inl p | .inr (d, v) => .inr (d, u ++ v))
    cases g b with
    | inl p => rfl
    | inr q2 =>
      obtain ⟨d, v⟩ := q2
      show (.inr (d, (u ++ v) ++ [x]) : PR TL) = .inr (d, u ++ (v ++ [x]))
      rw [List.append_assoc]
theorem bnd_bnd {s : PR TL} {f g : Nat → PR TL} : bnd (bnd s f) g = bnd s (fun a => bnd (f a) g) := by
  cases s with
  | inl p => rfl
  | inr q =>
    obtain ⟨b, u⟩ := q
    show bnd (match f b with | .inl p => .inl p | .inr (d, v) => .inr (d, u ++ v)) g = (match bnd (f b) g with | .inl p => .inl p | .inr (d, v) => .inr (d, u ++ v))
    cases f b with
    | inl p => rfl
    | inr q2 =>
      obtain ⟨d, v⟩ := q2
      show (match g d with | .inl p => .inl p | .inr (e, x) => .inr (e, (u ++ v) ++ x) : PR TL) = (match (match g d with | .inl p => .inl p | .inr (e, x) => .inr (e, v ++ x) : PR TL) with | .inl p => .inl p | .inr (d, v) => .inr (d, u ++ v))
      cases g d with
      | inl p => rfl
      | inr q3 =>
        obtain ⟨e, x⟩ := q3
        show (.inr (e, (u ++ v) ++ x) : PR TL) = .inr (e, u ++ (v ++ x))
        rw [List.append_assoc]
def bn1 (u : TL) (r : PR TL) : PR TL := match r with
  | .inl p => .inl p
  | .inr (d, v) => .inr (d, u ++ v)
theorem bnd_eq {a : Nat} {u : TL} {f : Nat → PR TL} {r : PR TL} (e : f a = r) : bnd (.inr (a, u)) f = bn1 u r := by
  rw [← e]
  rfl
theorem bnd_sk {T : Nat → Int32} {n a : Nat} {u : TL} {f : Nat → PR TL} (e : f (sk T n a) = f a) : bnd (.inr (sk T n a, u)) f = bnd (.inr (a, u)) f := by
  show bn1 u (f (sk T n a)) = bn1 u (f a)
  rw [e]
theorem lpB_step {T : Nat → Int32} {n : Nat} {item : Nat → PR TL} {op : Int32 → Bool} {f b : Nat} {u : TL} (h : op (bt T n (sk T n b)) = true) : lpB T n item op (f + 1) (.inr (b, u)) = lpB T n item op f (wrS (wd 2 (bt T n (sk T n b))) (bnd (.inr (sk T n b + 1, u)) item)) := by
  show loopP T n item op (f + 1) b u = lpB T n item op f (wrS _ (bn1 u (item (sk T n b + 1))))
  rw [loopP, if_pos h]
  cases item (sk T n b + 1) with
  | inl p => rfl
  | inr q =>
    obtain ⟨c, v⟩ := q
    rfl
theorem lpB_stop {T : Nat → Int32} {n : Nat} {item : Nat → PR TL} {op : Int32 → Bool} {f b : Nat} {u : TL} (h : ¬ op (bt T n (sk T n b)) = true) : lpB T n item op (f + 1) (.inr (b, u)) = .inr (sk T n b, u) := by
  show loopP T n item op (f + 1) b u = _
  rw [loopP, if_neg h]
section RD
variable {A0 I0 A I : Nat → Nat → Int32} {L : Nat → Nat → Int64} {X : Nat → Int64} {n : Nat} {w : TL} {k : Nat}
theorem r_lookFor {b : Nat} {u : TL} (tp : tpS A0 I0 n) (h : SS A0 I0 n w k (.inr (b, u)) A I) : Con 6 yX1_lookFor cX1_lookFor 3 (some .int) [.ref 9, .ref (2000 + 4)] (hp A L I X) (fun r_ H_ => r_ = some (.int (lfS 4 (bt (A0 2) n (sk (A0 2) n b)))) ∧ ∃ A1 I1, SS A0 I0 n w k (.inr (sk (A0 2) n b, u)) A1 I1 ∧ H_ = hp A1 L I1 X) := by
  have tp1 := tpS_sm tp h.1
  have h2 := h.2
  obtain ⟨e1, e2, e3, e4, e5, e6⟩ := h2
  have hs := sk_ge (T := A0 2) (n := n) (a := b)
  have hl := sk_le (T := A0 2) e5
  refine Con.mono (fun r H' z => ⟨?_, A, _, ⟨smL_tr h.1 (smL_9 (Or.inl rfl)), ?_⟩, z.2⟩) (u_lookFor isC_9 (by decide) (tpS_ok tp1))
  · rw [z.1, e1, tp1.1, sk_Y tp1.2.1 e5, h.1.1 2 (by decide), bt_I tp.2.1 (by have := tp.2.1; omega)]
  · exact ⟨by rw [up2_at, e1, tp1.1, sk_Y tp1.2.1 e5, h.1.1 2 (by decide)], by rw [up2_ne (by omega)]; exact e2, by rw [up2_ne (by omega)]; exact e3, e4, hl, by omega⟩
theorem r_number {b : Nat} {u : TL} (tp : tpS A0 I0 n) (h : SS A0 I0 n w k (.inr (b, u)) A I) : Con 3 yX1_number cX1_number 6 (some .int) [.ref 9, .int 4, .int 0, .int 9999] (hp A L I X) (fun r_ H_ => ∃ v s1, r_ = some (.int v) ∧ ∃ A1 I1, SS A0 I0 n w (k + 1) s1 A1 I1 ∧ wrS (wd 0 v) s1 = bnd (.inr (b, u)) (fun b => numW (numP (A0 2) n 4 0 9999 b)) ∧ H_ = hp A1 L I1 X) := by
  have tp1 := tpS_sm tp h.1
  have h2 := h.2
  obtain ⟨e1, e2, e3, e4, e5, e6⟩ := h2
  refine Con.mono (fun r H' z => ?_) (u_number isC_9 (k := 4) (lo := 0) (hi := 9999) e2 tp1.1 tp1.2.1 e1 e5 (by decide) (by decide))
  obtain ⟨v, y, z9, hr, hH, hm⟩ := z
  rw [h.1.1 2 (by decide)] at hm
  have hsm : smL A0 I0 A (up2 (up2 I 9 1 y) 9 2 z9) := smL_tr h.1 (smL_tr (smL_9 (Or.inl rfl)) (smL_9 (Or.inr rfl)))
  have hs := sk_ge (T := A0 2) (n := n) (a := b)
  have hl := sk_le (T := A0 2) e5
  cases hp : numP (A0 2) n 4 0 9999 b with
  | inl p =>
    rw [hp] at hm
    have hp2 : p ≤ n := by
      unfold numP at hp
      have hd := dgL_le (T := A0 2) 4 (sk (A0 2) n b) 0 hl
      split at hp
      · split at hp
        · cases hp; exact hd
        · split at hp
          · cases hp; omega
          · cases hp
      · cases hp; exact hl
    exact ⟨v, .inl p, hr, A, _, ⟨hsm, by rw [up2_at]; exact hm, hp2⟩, by rw [bnd_eq (f := fun b => numW (numP (A0 2) n 4 0 9999 b)) (r := .inl p) (by show numW (numP (A0 2) n 4 0 9999 b) = _; rw [hp]; rfl)]; rfl, hH⟩
  | inr q =>
    obtain ⟨d, x⟩ := q
    rw [hp] at hm
    obtain ⟨rfl, hy, hz⟩ := hm
    have hd2 : b < d ∧ d ≤ n := by
      unfold numP at hp
      split at hp
      · rename_i hg
        have hd := dgL_le (T := A0 2) 4 (sk (A0 2) n b) 0 hl
        have hd1 := dgL_gt (k := 4) (v := 0) hg (by decide)
        split at hp
        · cases hp
        · split at hp
          · cases hp
          · cases hp; omega
      · cases hp
    exact ⟨v, .inr (d, u), hr, A, _, ⟨hsm, by rw [up2_c12]; exact hy, by rw [up2_at]; exact hz, by rw [up2_ne (by omega), up2_ne (by omega)]; exact e3, e4, hd2.2, by omega⟩, by rw [bnd_eq (f := fun b => numW (numP (A0 2) n 4 0 9999 b)) (r := .inr (d, [wd 0 v])) (by show numW (numP (A0 2) n 4 0 9999 b) = _; rw [hp]; rfl)]; rfl, hH⟩
end RD
def CAtom (r : Nat) : Prop := ∀ {A0 I0 A I : Nat → Nat → Int32} {L : Nat → Nat → Int64} {X : Nat → Int64} {n : Nat} {w : TL} {k : Nat} {s : PR TL}, tpS A0 I0 n → SS A0 I0 n w k s A I → Con (7 + 3 * r) yX4_readAtom cX4_readAtom 4 none [.ref 8, .int (nI (6 - r))] (hp A L I X) (RQ A0 L I0 X n w k (bnd s (atomF (A0 2) n (subP (A0 2) n r))))
def CTerm (r : Nat) : Prop := ∀ {A0 I0 A I : Nat → Nat → Int32} {L : Nat → Nat → Int64} {X : Nat → Int64} {n : Nat} {w : TL} {k : Nat} {s : PR TL}, tpS A0 I0 n → SS A0 I0 n w k s A I → Con (8 + 3 * r) yX4_readTerm cX4_readTerm 4 none [.ref 8, .int (nI (6 - r))] (hp A L I X) (RQ A0 L I0 X n w k (bnd s (termF (A0 2) n (subP (A0 2) n r))))
def CSum (r : Nat) : Prop := ∀ {A0 I0 A I : Nat → Nat → Int32} {L : Nat → Nat → Int64} {X : Nat → Int64} {n : Nat} {w : TL} {k : Nat} {s : PR TL}, tpS A0 I0 n → SS A0 I0 n w k s A I → Con (9 + 3 * r) yX4_readSum cX4_readSum 4 none [.ref 8, .int (nI (6 - r))] (hp A L I X) (RQ A0 L I0 X n w k (bnd s (sumP (A0 2) n r)))
set_option maxHeartbeats 4000000 in
set_option maxRecDepth 100000 in
theorem r_atom0 : CAtom 0 := by
  intro A0 I0 A I L X n w k s tp h
  refine m_con (by decide) (Nat.le_of_ble_eq_true rfl) ?_
  rcases s with p | ⟨a, u⟩
  · skip
    refine g_aload_n dX4_readAtom_0 rfl rfl ?_
    refine g_get dX4_readAtom_1 fl_X4_20 hp_8 rfl ?_
    refine g_callV dX4_readAtom_4 cv_X4_34 (as' := []) hp_9 rfl (r_failed tp h) (by omega) rfl rfl (Nat.le_of_ble_eq_true rfl) ?_
    rintro _ _ ⟨rfl, rfl⟩
    refine g_if_eq (tgt := 11) dX4_readAtom_7 (by decide) (fun c_7 => ?_) (fun c_7 => ?_)
    · exact absurd (show (1 : Int32) = 0 from c_7) (by decide)
    · exact g_vret dX4_readAtom_10 ⟨rfl, A, I, h, rfl⟩
  · skip
    refine g_aload_n dX4_readAtom_0 rfl rfl ?_
    refine g_get dX4_readAtom_1 fl_X4_20 hp_8 rfl ?_
    refine g_callV dX4_readAtom_4 cv_X4_34 (as' := []) hp_9 rfl (r_failed tp h) (by omega) rfl rfl (Nat.le_of_ble_eq_true rfl) ?_
    rintro _ _ ⟨rfl, rfl⟩
    refine g_if_eq (tgt := 11) dX4_readAtom_7 (by decide) (fun c_7 => ?_) (fun c_7 => ?_)
    · refine g_aload_n dX4_readAtom_11 rfl rfl ?_
      refine g_get dX4_readAtom_12 fl_X4_20 hp_8 rfl ?_
      refine g_callV dX4_readAtom_15 cv_X4_38 (as' := []) hp_9 rfl (r_look tp h) (by omega) rfl rfl (Nat.le_of_ble_eq_true rfl) ?_
      rintro _ _ ⟨v15, rfl, A1, I1, h, hv, rfl⟩
      obtain rfl := hv _ _ rfl
      refine g_istore_n dX4_readAtom_18 rfl (by decide) ?_
      refine g_aload_n dX4_readAtom_19 rfl rfl ?_
      refine g_get dX4_readAtom_20 fl_X4_20 hp_8 rfl ?_
      refine g_ldcS (i := 4) dX4_readAtom_23 (by decide) rfl ?_
      refine g_callV dX4_readAtom_25 cv_X4_95 (as' := [_]) hp_9 rfl (r_lookFor tp h) (by omega) rfl rfl (Nat.le_of_ble_eq_true rfl) ?_
      rintro _ _ ⟨rfl, A1, I1, h, rfl⟩
      simp only [sk_sk] at h ⊢
      refine g_istore_n dX4_readAtom_28 rfl (by decide) ?_
      refine g_iload_n dX4_readAtom_29 rfl rfl ?_
      refine g_if_lt (tgt := 49) dX4_readAtom_30 (by decide) (fun c_30 => ?_) (fun c_30 => ?_)
      · refine g_iload_n dX4_readAtom_49 rfl rfl ?_
        refine g_bipush (v := 91) dX4_readAtom_50 (by decide) ?_
        refine g_icmp_eq (tgt := 75) dX4_readAtom_52 (by decide) (fun c_52 => ?_) (fun c_52 => ?_)
        · refine g_iload_n dX4_readAtom_75 rfl rfl ?_
          refine g_bipush (v := 6) dX4_readAtom_76 (by decide) ?_
          refine g_icmp_lt (tgt := 91) dX4_readAtom_78 (by decide) (fun c_78 => ?_) (fun c_78 => ?_)
          · exact absurd c_78 (by decide)
          · refine g_aload_n dX4_readAtom_81 rfl rfl ?_
            refine g_get dX4_readAtom_82 fl_X4_20 hp_8 rfl ?_
            refine g_callV dX4_readAtom_85 cv_X4_47 (as' := []) hp_9 rfl (r_fail tp h) (by omega) rfl rfl (Nat.le_of_ble_eq_true rfl) ?_
            rintro _ _ ⟨rfl, A1, I1, h, rfl⟩
            refine g_goto (tgt := 114) dX4_readAtom_88 (by decide) ?_
            exact g_vret dX4_readAtom_114 ⟨rfl, A1, I1, by rw [bnd_eq (f := atomF (A0 2) n (subP (A0 2) n 0)) ((if_pos c_30).trans (if_pos c_52))]; exact h, rfl⟩
        · refine g_aload_n dX4_readAtom_55 rfl rfl ?_
          refine g_ic_0 dX4_readAtom_56 ?_
          refine g_aload_n dX4_readAtom_57 rfl rfl ?_
          refine g_get dX4_readAtom_58 fl_X4_20 hp_8 rfl ?_
          refine g_ic_4 dX4_readAtom_61 ?_
          refine g_ic_0 dX4_readAtom_62 ?_
          refine g_sipush (v := 9999) dX4_readAtom_63 (by decide) ?_
          refine g_callV dX4_readAtom_66 cv_X4_99 (as' := [_, _, _]) hp_9 rfl (r_number tp h) (by omega) rfl rfl (Nat.le_of_ble_eq_true rfl) ?_
          rintro _ _ ⟨v, s1, rfl, A1, I1, h, hs1, rfl⟩
          refine g_callV dX4_readAtom_69 cv_X4_74 (as' := [_, _]) hp_8 rfl (r_write tp h) (by omega) rfl rfl (Nat.le_of_ble_eq_true rfl) ?_
          rintro _ _ ⟨rfl, A1, I1, h, rfl⟩
          refine g_goto (tgt := 114) dX4_readAtom_72 (by decide) ?_
          exact g_vret dX4_readAtom_114 ⟨rfl, A1, I1, by rw [bnd_eq (f := atomF (A0 2) n (subP (A0 2) n 0)) ((if_pos c_30).trans (if_neg c_52)), ← bnd_eq (a := sk (A0 2) n a) (u := u) (f := fun b => numW (numP (A0 2) n 4 0 9999 b)) rfl, ← hs1]; exact h, rfl⟩
      · refine g_aload_n dX4_readAtom_33 rfl rfl ?_
        refine g_get dX4_readAtom_34 fl_X4_20 hp_8 rfl ?_
        refine g_callV dX4_readAtom_37 cv_X4_42 (as' := []) hp_9 rfl (r_step tp (fun b u z => by cases z; exact bt_lt (fun z => c_30 (by rw [z]; decide))) h) (by omega) rfl rfl (Nat.le_of_ble_eq_true rfl) ?_
        rintro _ _ ⟨rfl, A1, I1, h, rfl⟩
        refine g_aload_n dX4_readAtom_40 rfl rfl ?_
        refine g_ic_1 dX4_readAtom_41 ?_
        refine g_iload_n dX4_readAtom_42 rfl rfl ?_
        refine g_callV dX4_readAtom_43 cv_X4_74 (as' := [_, _]) hp_8 rfl (r_write tp h) (by omega) rfl rfl (Nat.le_of_ble_eq_true rfl) ?_
        rintro _ _ ⟨rfl, A1, I1, h, rfl⟩
        refine g_goto (tgt := 114) dX4_readAtom_46 (by decide) ?_
        exact g_vret dX4_readAtom_114 ⟨rfl, A1, I1, by rw [bnd_eq (f := atomF (A0 2) n (subP (A0 2) n 0)) (if_neg c_30)]; exact h, rfl⟩
    · exact absurd rfl c_7

set_option maxHeartbeats 4000000 in
set_option maxRecDepth 100000 in
theorem r_atomS {r : Nat} (hr : r + 1 ≤ 6) (hS : CSum r) : CAtom (r + 1) := by
  intro A0 I0 A I L X n w k s tp h
  refine m_con (by decide) (Nat.le_of_ble_eq_true rfl) ?_
  rcases s with p | ⟨a, u⟩
  · skip
    refine g_aload_n dX4_readAtom_0 rfl rfl ?_
    refine g_get dX4_readAtom_1 fl_X4_20 hp_8 rfl ?_
    refine g_callV dX4_readAtom_4 cv_X4_34 (as' := []) hp_9 rfl (r_failed tp h) (by omega) rfl rfl (Nat.le_of_ble_eq_true rfl) ?_
    rintro _ _ ⟨rfl, rfl⟩
    refine g_if_eq (tgt := 11) dX4_readAtom_7 (by decide) (fun c_7 => ?_) (fun c_7 => ?_)
    · exact absurd (show (1 : Int32) = 0 from c_7) (by decide)
    · exact g_vret dX4_readAtom_10 ⟨rfl, A, I, h, rfl⟩
  · skip
    refine g_aload_n dX4_readAtom_0 rfl rfl ?_
    refine g_get dX4_readAtom_1 fl_X4_20 hp_8 rfl ?_
    refine g_callV dX4_readAtom_4 cv_X4_34 (as' := []) hp_9 rfl (r_failed tp h) (by omega) rfl rfl (Nat.le_of_ble_eq_true rfl) ?_
    rintro _ _ ⟨rfl, rfl⟩
    refine g_if_eq (tgt := 11) dX4_readAtom_7 (by decide) (fun c_7 => ?_) (fun c_7 => ?_)
    · refine g_aload_n dX4_readAtom_11 rfl rfl ?_
      refine g_get dX4_readAtom_12 fl_X4_20 hp_8 rfl ?_
      refine g_callV dX4_readAtom_15 cv_X4_38 (as' := []) hp_9 rfl (r_look tp h) (by omega) rfl rfl (Nat.le_of_ble_eq_true rfl) ?_
      rintro _ _ ⟨v15, rfl, A1, I1, h, hv, rfl⟩
      obtain rfl := hv _ _ rfl
      refine g_istore_n dX4_readAtom_18 rfl (by decide) ?_
      refine g_aload_n dX4_readAtom_19 rfl rfl ?_
      refine g_get dX4_readAtom_20 fl_X4_20 hp_8 rfl ?_
      refine g_ldcS (i := 4) dX4_readAtom_23 (by decide) rfl ?_
      refine g_callV dX4_readAtom_25 cv_X4_95 (as' := [_]) hp_9 rfl (r_lookFor tp h) (by omega) rfl rfl (Nat.le_of_ble_eq_true rfl) ?_
      rintro _ _ ⟨rfl, A1, I1, h, rfl⟩
      simp only [sk_sk] at h ⊢
      refine g_istore_n dX4_readAtom_28 rfl (by decide) ?_
      refine g_iload_n dX4_readAtom_29 rfl rfl ?_
      refine g_if_lt (tgt := 49) dX4_readAtom_30 (by decide) (fun c_30 => ?_) (fun c_30 => ?_)
      · refine g_iload_n dX4_readAtom_49 rfl rfl ?_
        refine g_bipush (v := 91) dX4_readAtom_50 (by decide) ?_
        refine g_icmp_eq (tgt := 75) dX4_readAtom_52 (by decide) (fun c_52 => ?_) (fun c_52 => ?_)
        · refine g_iload_n dX4_readAtom_75 rfl rfl ?_
          refine g_bipush (v := 6) dX4_readAtom_76 (by decide) ?_
          refine g_icmp_lt (tgt := 91) dX4_readAtom_78 (by decide) (fun c_78 => ?_) (fun c_78 => ?_)
          · refine g_aload_n dX4_readAtom_91 rfl rfl ?_
            refine g_get dX4_readAtom_92 fl_X4_20 hp_8 rfl ?_
            refine g_callV dX4_readAtom_95 cv_X4_42 (as' := []) hp_9 rfl (r_step tp (fun b u z => by cases z; exact bt_lt (by rw [c_52]; decide)) h) (by omega) rfl rfl (Nat.le_of_ble_eq_true rfl) ?_
            rintro _ _ ⟨rfl, A1, I1, h, rfl⟩
            refine g_aload_n dX4_readAtom_98 rfl rfl ?_
            refine g_iload_n dX4_readAtom_99 rfl rfl ?_
            refine g_ic_1 dX4_readAtom_100 ?_
            refine g_iadd dX4_readAtom_101 ?_
            rw [show nI (6 - (r + 1)) + 1 = nI (6 - r) by rw [nI_1]; congr 1; omega]
            refine g_callV dX4_readAtom_102 cv_X4_63 (as' := [_]) hp_8 rfl (hS tp h) (by omega) rfl rfl (Nat.le_of_ble_eq_true rfl) ?_
            rintro _ _ ⟨rfl, A1, I1, h, rfl⟩
            refine g_aload_n dX4_readAtom_105 rfl rfl ?_
            refine g_get dX4_readAtom_106 fl_X4_20 hp_8 rfl ?_
            refine g_bipush (v := 93) dX4_readAtom_109 (by decide) ?_
            refine g_callV dX4_readAtom_111 cv_X4_59 (as' := [_]) hp_9 rfl (r_expect tp (by decide) h) (by omega) rfl rfl (Nat.le_of_ble_eq_true rfl) ?_
            rintro _ _ ⟨rfl, A1, I1, h, rfl⟩
            exact g_vret dX4_readAtom_114 ⟨rfl, A1, I1, by rw [bnd_eq (f := atomF (A0 2) n (subP (A0 2) n (r + 1))) (r := exS (A0 2) n 93 (sumP (A0 2) n r (sk (A0 2) n a + 1))) ((if_pos c_30).trans (if_pos c_52)), ← bnd_eq (a := sk (A0 2) n a + 1) (u := u) (f := fun b => exS (A0 2) n 93 (sumP (A0 2) n r b)) rfl, ← exS_bnd]; exact SS_less (by omega) h, rfl⟩
          · exact absurd ((nI_ltI (b := 6) (by omega) (by omega)).mpr (by omega)) c_78
        · refine g_aload_n dX4_readAtom_55 rfl rfl ?_
          refine g_ic_0 dX4_readAtom_56 ?_
          refine g_aload_n dX4_readAtom_57 rfl rfl ?_
          refine g_get dX4_readAtom_58 fl_X4_20 hp_8 rfl ?_
          refine g_ic_4 dX4_readAtom_61 ?_
          refine g_ic_0 dX4_readAtom_62 ?_
          refine g_sipush (v := 9999) dX4_readAtom_63 (by decide) ?_
          refine g_callV dX4_readAtom_66 cv_X4_99 (as' := [_, _, _]) hp_9 rfl (r_number tp h) (by omega) rfl rfl (Nat.le_of_ble_eq_true rfl) ?_
          rintro _ _ ⟨v, s1, rfl, A1, I1, h, hs1, rfl⟩
          refine g_callV dX4_readAtom_69 cv_X4_74 (as' := [_, _]) hp_8 rfl (r_write tp h) (by omega) rfl rfl (Nat.le_of_ble_eq_true rfl) ?_
          rintro _ _ ⟨rfl, A1, I1, h, rfl⟩
          refine g_goto (tgt := 114) dX4_readAtom_72 (by decide) ?_
          exact g_vret dX4_readAtom_114 ⟨rfl, A1, I1, by rw [bnd_eq (f := atomF (A0 2) n (subP (A0 2) n (r + 1))) ((if_pos c_30).trans (if_neg c_52)), ← bnd_eq (a := sk (A0 2) n a) (u := u) (f := fun b => numW (numP (A0 2) n 4 0 9999 b)) rfl, ← hs1]; exact h, rfl⟩
      · refine g_aload_n dX4_readAtom_33 rfl rfl ?_
        refine g_get dX4_readAtom_34 fl_X4_20 hp_8 rfl ?_
        refine g_callV dX4_readAtom_37 cv_X4_42 (as' := []) hp_9 rfl (r_step tp (fun b u z => by cases z; exact bt_lt (fun z => c_30 (by rw [z]; decide))) h) (by omega) rfl rfl (Nat.le_of_ble_eq_true rfl) ?_
        rintro _ _ ⟨rfl, A1, I1, h, rfl⟩
        refine g_aload_n dX4_readAtom_40 rfl rfl ?_
        refine g_ic_1 dX4_readAtom_41 ?_
        refine g_iload_n dX4_readAtom_42 rfl rfl ?_
        refine g_callV dX4_readAtom_43 cv_X4_74 (as' := [_, _]) hp_8 rfl (r_write tp h) (by omega) rfl rfl (Nat.le_of_ble_eq_true rfl) ?_
        rintro _ _ ⟨rfl, A1, I1, h, rfl⟩
        refine g_goto (tgt := 114) dX4_readAtom_46 (by decide) ?_
        exact g_vret dX4_readAtom_114 ⟨rfl, A1, I1, by rw [bnd_eq (f := atomF (A0 2) n (subP (A0 2) n (r + 1))) (if_neg c_30)]; exact h, rfl⟩
    · exact absurd rfl c_7

set_option maxHeartbeats 4000000 in
set_option maxRecDepth 100000 in
theorem r_term_loop {A0 I0 : Nat → Nat → Int32} {L : Nat → Nat → Int64} {X : Nat → Int64} {n : Nat} {w : TL} {k r : Nat} {Q : Option Value → m_H → Prop} (tp : tpS A0 I0 n) (hA : CAtom r) : ∀ f i (s : PR TL) A I, f + i = 240 → SS A0 I0 n w k s A I → (∀ A1 I1, SS A0 I0 n w k (lpB (A0 2) n (atomF (A0 2) n (subP (A0 2) n r)) opM f s) A1 I1 → Q none (hp A1 L I1 X)) → G (8 + 3 * r) RX4 cX4_readTerm 4 none Q 7 [some (.ref 8), some (.int (nI (6 - r))), some (.int (nI i)), none] [] (hp A L I X) := by
  intro f
  induction f with
  | zero =>
    intro i s A I hf h hQ
    refine g_iload_n dX4_readTerm_7 rfl rfl ?_
    refine g_sipush (v := 240) dX4_readTerm_8 (by decide) ?_
    refine g_icmp_ge (tgt := 69) dX4_readTerm_11 (by decide) (fun c_11 => ?_) (fun c_11 => ?_)
    · exact g_vret dX4_readTerm_69 (hQ _ _ (by cases s <;> exact h))
    · exact absurd (nI_le (a := 240) (b := i) (by omega) (by omega)) c_11
  | succ f ih =>
    intro i s A I hf h hQ
    rcases s with p | ⟨b, u⟩
    · skip
      refine g_iload_n dX4_readTerm_7 rfl rfl ?_
      refine g_sipush (v := 240) dX4_readTerm_8 (by decide) ?_
      refine g_icmp_ge (tgt := 69) dX4_readTerm_11 (by decide) (fun c_11 => ?_) (fun c_11 => ?_)
      · exact g_vret dX4_readTerm_69 (hQ _ _ h)
      · refine g_aload_n dX4_readTerm_14 rfl rfl ?_
        refine g_get dX4_readTerm_15 fl_X4_20 hp_8 rfl ?_
        refine g_callV dX4_readTerm_18 cv_X4_34 (as' := []) hp_9 rfl (r_failed tp h) (by omega) rfl rfl (Nat.le_of_ble_eq_true rfl) ?_
        rintro _ _ ⟨rfl, rfl⟩
        refine g_if_ne (tgt := 69) dX4_readTerm_21 (by decide) (fun c_21 => ?_) (fun c_21 => ?_)
        · exact g_vret dX4_readTerm_69 (hQ _ _ h)
        · exact absurd (show (1 : Int32) = 0 from c_21) (by decide)
    · skip
      refine g_iload_n dX4_readTerm_7 rfl rfl ?_
      refine g_sipush (v := 240) dX4_readTerm_8 (by decide) ?_
      refine g_icmp_ge (tgt := 69) dX4_readTerm_11 (by decide) (fun c_11 => ?_) (fun c_11 => ?_)
      · exact absurd ((nI_leI (a := 240) (b := i) (by omega) (by omega)).mp c_11) (by omega)
      · refine g_aload_n dX4_readTerm_14 rfl rfl ?_
        refine g_get dX4_readTerm_15 fl_X4_20 hp_8 rfl ?_
        refine g_callV dX4_readTerm_18 cv_X4_34 (as' := []) hp_9 rfl (r_failed tp h) (by omega) rfl rfl (Nat.le_of_ble_eq_true rfl) ?_
        rintro _ _ ⟨rfl, rfl⟩
        refine g_if_ne (tgt := 69) dX4_readTerm_21 (by decide) (fun c_21 => ?_) (fun c_21 => ?_)
        · exact absurd rfl c_21
        · refine g_aload_n dX4_readTerm_24 rfl rfl ?_
          refine g_get dX4_readTerm_25 fl_X4_20 hp_8 rfl ?_
          refine g_callV dX4_readTerm_28 cv_X4_38 (as' := []) hp_9 rfl (r_look tp h) (by omega) rfl rfl (Nat.le_of_ble_eq_true rfl) ?_
          rintro _ _ ⟨v28, rfl, A1, I1, h, hv, rfl⟩
          obtain rfl := hv _ _ rfl
          refine g_istore_n dX4_readTerm_31 rfl (by decide) ?_
          refine g_iload_n dX4_readTerm_32 rfl rfl ?_
          refine g_bipush (v := 42) dX4_readTerm_33 (by decide) ?_
          refine g_icmp_eq (tgt := 45) dX4_readTerm_35 (by decide) (fun c_35 => ?_) (fun c_35 => ?_)
          · refine g_aload_n dX4_readTerm_45 rfl rfl ?_
            refine g_get dX4_readTerm_46 fl_X4_20 hp_8 rfl ?_
            refine g_callV dX4_readTerm_49 cv_X4_42 (as' := []) hp_9 rfl (r_step tp (fun b u z => by cases z; exact bt_lt (by first | (rw [c_35]; decide) | (rw [c_41]; decide))) h) (by omega) rfl rfl (Nat.le_of_ble_eq_true rfl) ?_
            rintro _ _ ⟨rfl, A1, I1, h, rfl⟩
            refine g_aload_n dX4_readTerm_52 rfl rfl ?_
            refine g_iload_n dX4_readTerm_53 rfl rfl ?_
            refine g_callV dX4_readTerm_54 cv_X4_90 (as' := [_]) hp_8 rfl (hA tp h) (by omega) rfl rfl (Nat.le_of_ble_eq_true rfl) ?_
            rintro _ _ ⟨rfl, A1, I1, h, rfl⟩
            refine g_aload_n dX4_readTerm_57 rfl rfl ?_
            refine g_ic_2 dX4_readTerm_58 ?_
            refine g_iload_n dX4_readTerm_59 rfl rfl ?_
            refine g_callV dX4_readTerm_60 cv_X4_74 (as' := [_, _]) hp_8 rfl (r_write tp h) (by omega) rfl rfl (Nat.le_of_ble_eq_true rfl) ?_
            rintro _ _ ⟨rfl, A1, I1, h, rfl⟩
            refine g_iinc1 dX4_readTerm_63 rfl (by decide) ?_
            refine g_goto (tgt := 7) dX4_readTerm_66 (by decide) ?_
            rw [nI_1]
            refine g_loc (ls' := [some (.ref 8), some (.int (nI (6 - r))), some (.int (nI (i + 1))), none]) (fun i v h => by rcases i with _|_|_|_|_ <;> first | exact h | cases h) ?_
            refine ih (i + 1) _ _ _ (by omega) h (fun A8 I8 h8 => hQ A8 I8 ?_)
            rw [lpB_step (by simp [opM, c_35])]
            exact h8
          · refine g_iload_n dX4_readTerm_38 rfl rfl ?_
            refine g_bipush (v := 47) dX4_readTerm_39 (by decide) ?_
            refine g_icmp_eq (tgt := 45) dX4_readTerm_41 (by decide) (fun c_41 => ?_) (fun c_41 => ?_)
            · refine g_aload_n dX4_readTerm_45 rfl rfl ?_
              refine g_get dX4_readTerm_46 fl_X4_20 hp_8 rfl ?_
              refine g_callV dX4_readTerm_49 cv_X4_42 (as' := []) hp_9 rfl (r_step tp (fun b u z => by cases z; exact bt_lt (by first | (rw [c_35]; decide) | (rw [c_41]; decide))) h) (by omega) rfl rfl (Nat.le_of_ble_eq_true rfl) ?_
              rintro _ _ ⟨rfl, A1, I1, h, rfl⟩
              refine g_aload_n dX4_readTerm_52 rfl rfl ?_
              refine g_iload_n dX4_readTerm_53 rfl rfl ?_
              refine g_callV dX4_readTerm_54 cv_X4_90 (as' := [_]) hp_8 rfl (hA tp h) (by omega) rfl rfl (Nat.le_of_ble_eq_true rfl) ?_
              rintro _ _ ⟨rfl, A1, I1, h, rfl⟩
              refine g_aload_n dX4_readTerm_57 rfl rfl ?_
              refine g_ic_2 dX4_readTerm_58 ?_
              refine g_iload_n dX4_readTerm_59 rfl rfl ?_
              refine g_callV dX4_readTerm_60 cv_X4_74 (as' := [_, _]) hp_8 rfl (r_write tp h) (by omega) rfl rfl (Nat.le_of_ble_eq_true rfl) ?_
              rintro _ _ ⟨rfl, A1, I1, h, rfl⟩
              refine g_iinc1 dX4_readTerm_63 rfl (by decide) ?_
              refine g_goto (tgt := 7) dX4_readTerm_66 (by decide) ?_
              rw [nI_1]
              refine g_loc (ls' := [some (.ref 8), some (.int (nI (6 - r))), some (.int (nI (i + 1))), none]) (fun i v h => by rcases i with _|_|_|_|_ <;> first | exact h | cases h) ?_
              refine ih (i + 1) _ _ _ (by omega) h (fun A8 I8 h8 => hQ A8 I8 ?_)
              rw [lpB_step (by simp [opM, c_41])]
              exact h8
            · exact g_vret dX4_readTerm_44 (hQ _ _ (by rw [lpB_stop (by simp [opM, c_35, c_41])]; exact h))

set_option maxHeartbeats 4000000 in
set_option maxRecDepth 100000 in
theorem r_term {r : Nat} (hA : CAtom r) : CTerm r := by
  intro A0 I0 A I L X n w k s tp h
  refine m_con (by decide) (Nat.le_of_ble_eq_true rfl) ?_
  refine g_aload_n dX4_readTerm_0 rfl rfl ?_
  refine g_iload_n dX4_readTerm_1 rfl rfl ?_
  refine g_callV dX4_readTerm_2 cv_X4_90 (as' := [_]) hp_8 rfl (hA tp h) (by omega) rfl rfl (Nat.le_of_ble_eq_true rfl) ?_
  rintro _ _ ⟨rfl, A1, I1, h, rfl⟩
  refine g_ic_0 dX4_readTerm_5 ?_
  refine g_istore_n dX4_readTerm_6 rfl (by decide) ?_
  refine r_term_loop tp hA 240 0 _ _ _ rfl h (fun A8 I8 h8 => ⟨rfl, A8, I8, ?_, rfl⟩)
  rw [lpB_bnd] at h8
  exact h8

set_option maxHeartbeats 4000000 in
set_option maxRecDepth 100000 in
theorem r_sum_loop {A0 I0 : Nat → Nat → Int32} {L : Nat → Nat → Int64} {X : Nat → Int64} {n : Nat} {w : TL} {k r : Nat} {Q : Option Value → m_H → Prop} (tp : tpS A0 I0 n) (hA : CTerm r) : ∀ f i (s : PR TL) A I, f + i = 240 → SS A0 I0 n w k s A I → (∀ A1 I1, SS A0 I0 n w k (lpB (A0 2) n (termF (A0 2) n (subP (A0 2) n r)) opA f s) A1 I1 → Q none (hp A1 L I1 X)) → G (9 + 3 * r) RX4 cX4_readSum 4 none Q 7 [some (.ref 8), some (.int (nI (6 - r))), some (.int (nI i)), none] [] (hp A L I X) := by
  intro f
  induction f with
  | zero =>
    intro i s A I hf h hQ
    refine g_iload_n dX4_readSum_7 rfl rfl ?_
    refine g_sipush (v := 240) dX4_readSum_8 (by decide) ?_
    refine g_icmp_ge (tgt := 69) dX4_readSum_11 (by decide) (fun c_11 => ?_) (fun c_11 => ?_)
    · exact g_vret dX4_readSum_69 (hQ _ _ (by cases s <;> exact h))
    · exact absurd (nI_le (a := 240) (b := i) (by omega) (by omega)) c_11
  | succ f ih =>
    intro i s A I hf h hQ
    rcases s with p | ⟨b, u⟩
    · skip
      refine g_iload_n dX4_readSum_7 rfl rfl ?_
      refine g_sipush (v := 240) dX4_readSum_8 (by decide) ?_
      refine g_icmp_ge (tgt := 69) dX4_readSum_11 (by decide) (fun c_11 => ?_) (fun c_11 => ?_)
      · exact g_vret dX4_readSum_69 (hQ _ _ h)
      · refine g_aload_n dX4_readSum_14 rfl rfl ?_
        refine g_get dX4_readSum_15 fl_X4_20 hp_8 rfl ?_
        refine g_callV dX4_readSum_18 cv_X4_34 (as' := []) hp_9 rfl (r_failed tp h) (by omega) rfl rfl (Nat.le_of_ble_eq_true rfl) ?_
        rintro _ _ ⟨rfl, rfl⟩
        refine g_if_ne (tgt := 69) dX4_readSum_21 (by decide) (fun c_21 => ?_) (fun c_21 => ?_)
        · exact g_vret dX4_readSum_69 (hQ _ _ h)
        · exact absurd (show (1 : Int32) = 0 from c_21) (by decide)
    · skip
      refine g_iload_n dX4_readSum_7 rfl rfl ?_
      refine g_sipush (v := 240) dX4_readSum_8 (by decide) ?_
      refine g_icmp_ge (tgt := 69) dX4_readSum_11 (by decide) (fun c_11 => ?_) (fun c_11 => ?_)
      · exact absurd ((nI_leI (a := 240) (b := i) (by omega) (by omega)).mp c_11) (by omega)
      · refine g_aload_n dX4_readSum_14 rfl rfl ?_
        refine g_get dX4_readSum_15 fl_X4_20 hp_8 rfl ?_
        refine g_callV dX4_readSum_18 cv_X4_34 (as' := []) hp_9 rfl (r_failed tp h) (by omega) rfl rfl (Nat.le_of_ble_eq_true rfl) ?_
        rintro _ _ ⟨rfl, rfl⟩
        refine g_if_ne (tgt := 69) dX4_readSum_21 (by decide) (fun c_21 => ?_) (fun c_21 => ?_)
        · exact absurd rfl c_21
        · refine g_aload_n dX4_readSum_24 rfl rfl ?_
          refine g_get dX4_readSum_25 fl_X4_20 hp_8 rfl ?_
          refine g_callV dX4_readSum_28 cv_X4_38 (as' := []) hp_9 rfl (r_look tp h) (by omega) rfl rfl (Nat.le_of_ble_eq_true rfl) ?_
          rintro _ _ ⟨v28, rfl, A1, I1, h, hv, rfl⟩
          obtain rfl := hv _ _ rfl
          refine g_istore_n dX4_readSum_31 rfl (by decide) ?_
          refine g_iload_n dX4_readSum_32 rfl rfl ?_
          refine g_bipush (v := 43) dX4_readSum_33 (by decide) ?_
          refine g_icmp_eq (tgt := 45) dX4_readSum_35 (by decide) (fun c_35 => ?_) (fun c_35 => ?_)
          · refine g_aload_n dX4_readSum_45 rfl rfl ?_
            refine g_get dX4_readSum_46 fl_X4_20 hp_8 rfl ?_
            refine g_callV dX4_readSum_49 cv_X4_42 (as' := []) hp_9 rfl (r_step tp (fun b u z => by cases z; exact bt_lt (by first | (rw [c_35]; decide) | (rw [c_41]; decide))) h) (by omega) rfl rfl (Nat.le_of_ble_eq_true rfl) ?_
            rintro _ _ ⟨rfl, A1, I1, h, rfl⟩
            refine g_aload_n dX4_readSum_52 rfl rfl ?_
            refine g_iload_n dX4_readSum_53 rfl rfl ?_
            refine g_callV dX4_readSum_54 cv_X4_87 (as' := [_]) hp_8 rfl (hA tp h) (by omega) rfl rfl (Nat.le_of_ble_eq_true rfl) ?_
            rintro _ _ ⟨rfl, A1, I1, h, rfl⟩
            refine g_aload_n dX4_readSum_57 rfl rfl ?_
            refine g_ic_2 dX4_readSum_58 ?_
            refine g_iload_n dX4_readSum_59 rfl rfl ?_
            refine g_callV dX4_readSum_60 cv_X4_74 (as' := [_, _]) hp_8 rfl (r_write tp h) (by omega) rfl rfl (Nat.le_of_ble_eq_true rfl) ?_
            rintro _ _ ⟨rfl, A1, I1, h, rfl⟩
            refine g_iinc1 dX4_readSum_63 rfl (by decide) ?_
            refine g_goto (tgt := 7) dX4_readSum_66 (by decide) ?_
            rw [nI_1]
            refine g_loc (ls' := [some (.ref 8), some (.int (nI (6 - r))), some (.int (nI (i + 1))), none]) (fun i v h => by rcases i with _|_|_|_|_ <;> first | exact h | cases h) ?_
            refine ih (i + 1) _ _ _ (by omega) h (fun A8 I8 h8 => hQ A8 I8 ?_)
            rw [lpB_step (by simp [opA, c_35])]
            exact h8
          · refine g_iload_n dX4_readSum_38 rfl rfl ?_
            refine g_bipush (v := 45) dX4_readSum_39 (by decide) ?_
            refine g_icmp_eq (tgt := 45) dX4_readSum_41 (by decide) (fun c_41 => ?_) (fun c_41 => ?_)
            · refine g_aload_n dX4_readSum_45 rfl rfl ?_
              refine g_get dX4_readSum_46 fl_X4_20 hp_8 rfl ?_
              refine g_callV dX4_readSum_49 cv_X4_42 (as' := []) hp_9 rfl (r_step tp (fun b u z => by cases z; exact bt_lt (by first | (rw [c_35]; decide) | (rw [c_41]; decide))) h) (by omega) rfl rfl (Nat.le_of_ble_eq_true rfl) ?_
              rintro _ _ ⟨rfl, A1, I1, h, rfl⟩
              refine g_aload_n dX4_readSum_52 rfl rfl ?_
              refine g_iload_n dX4_readSum_53 rfl rfl ?_
              refine g_callV dX4_readSum_54 cv_X4_87 (as' := [_]) hp_8 rfl (hA tp h) (by omega) rfl rfl (Nat.le_of_ble_eq_true rfl) ?_
              rintro _ _ ⟨rfl, A1, I1, h, rfl⟩
              refine g_aload_n dX4_readSum_57 rfl rfl ?_
              refine g_ic_2 dX4_readSum_58 ?_
              refine g_iload_n dX4_readSum_59 rfl rfl ?_
              refine g_callV dX4_readSum_60 cv_X4_74 (as' := [_, _]) hp_8 rfl (r_write tp h) (by omega) rfl rfl (Nat.le_of_ble_eq_true rfl) ?_
              rintro _ _ ⟨rfl, A1, I1, h, rfl⟩
              refine g_iinc1 dX4_readSum_63 rfl (by decide) ?_
              refine g_goto (tgt := 7) dX4_readSum_66 (by decide) ?_
              rw [nI_1]
              refine g_loc (ls' := [some (.ref 8), some (.int (nI (6 - r))), some (.int (nI (i + 1))), none]) (fun i v h => by rcases i with _|_|_|_|_ <;> first | exact h | cases h) ?_
              refine ih (i + 1) _ _ _ (by omega) h (fun A8 I8 h8 => hQ A8 I8 ?_)
              rw [lpB_step (by simp [opA, c_41])]
              exact h8
            · exact g_vret dX4_readSum_44 (hQ _ _ (by rw [lpB_stop (by simp [opA, c_35, c_41])]; exact h))

set_option maxHeartbeats 4000000 in
set_option maxRecDepth 100000 in
theorem r_sum {r : Nat} (hA : CTerm r) : CSum r := by
  intro A0 I0 A I L X n w k s tp h
  refine m_con (by decide) (Nat.le_of_ble_eq_true rfl) ?_
  refine g_aload_n dX4_readSum_0 rfl rfl ?_
  refine g_iload_n dX4_readSum_1 rfl rfl ?_
  refine g_callV dX4_readSum_2 cv_X4_87 (as' := [_]) hp_8 rfl (hA tp h) (by omega) rfl rfl (Nat.le_of_ble_eq_true rfl) ?_
  rintro _ _ ⟨rfl, A1, I1, h, rfl⟩
  refine g_ic_0 dX4_readSum_5 ?_
  refine g_istore_n dX4_readSum_6 rfl (by decide) ?_
  refine r_sum_loop tp hA 240 0 _ _ _ rfl h (fun A8 I8 h8 => ⟨rfl, A8, I8, ?_, rfl⟩)
  rw [lpB_bnd] at h8
  rw [show sumP (A0 2) n r = fun a => sumF (A0 2) n (subP (A0 2) n r) a from sumP_sub]
  exact h8

theorem r_all : ∀ r, r ≤ 6 → CAtom r ∧ CTerm r ∧ CSum r := by
  intro r
  induction r with
  | zero => intro _; exact ⟨r_atom0, r_term r_atom0, r_sum (r_term r_atom0)⟩
  | succ r ih =>
    intro hr
    have hS : CSum r := (ih (by omega)).2.2
    have hA : CAtom (r + 1) := r_atomS hr hS
    exact ⟨hA, r_term hA, r_sum (r_term hA)⟩