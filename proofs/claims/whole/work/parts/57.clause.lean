/-! READING A LAW: clauses, the law -/
abbrev CLA : Type := Option TL × TL
def clW (m : Nat) (c : CLA) : TL := match c with
  | (none, u) => u ++ [wd 4 0]
  | (some t, u) => t ++ [wd 3 (nI (m + (t.length + 1 + u.length + 1)))] ++ u ++ [wd 4 0]
def toW (m : Nat) (s : PR CLA) : PR TL := match s with
  | .inl p => .inl p
  | .inr (e, c) => .inr (e, clW m c)
def clT2 (T : Nat → Int32) (n : Nat) (s : PR TL) : PR CLA := match s with
  | .inl p => .inl p
  | .inr (d, t) => match sumP T n 6 d with
    | .inl p => .inl p
    | .inr (e, u) => .inr (e, (some t, u))
def clT (T : Nat → Int32) (n : Nat) (s : PR TL) : PR CLA := clT2 T n (exS T n 63 s)
def condP (T : Nat → Int32) (n : Nat) : Nat → PR TL := fun a => condF T n (unitP T n 6) (unitP T n 6 a)
def condQ (T : Nat → Int32) (n : Nat) : Nat → PR TL := fun a => condF T n (unitP T n 6) (cmpQ T n 6 a)
def clS (T : Nat → Int32) (n : Nat) (s : PR TL) : PR CLA := match s with
  | .inl p => .inl p
  | .inr (c, u) => if opC (bt T n (sk T n c)) = true then clT T n (bnd (.inr (sk T n c, u)) (condQ T n)) else .inr (sk T n c, (none, u))
def clB (T : Nat → Int32) (n : Nat) (s : PR TL) : PR CLA := match s with
  | .inl p => .inl p
  | .inr (b, _) => if bt T n (sk T n b) = 33 ∨ bt T n (sk T n b) = 40 then clT T n (condP T n (sk T n b)) else clS T n (sumP T n 6 (sk T n b))
def clP (T : Nat → Int32) (n : Nat) (a : Nat) : PR CLA := clB T n (exS T n 58 (exS T n 121 (.inr (a, []))))
theorem bnd_nil {a : Nat} {f : Nat → PR TL} : bnd (.inr (a, [])) f = f a := by
  rw [bnd_eq (f := f) rfl]
  cases f a with
  | inl p => rfl
  | inr q =>
    obtain ⟨d, v⟩ := q
    rfl
section RD
variable {A0 I0 A I : Nat → Nat → Int32} {L : Nat → Nat → Int64} {X : Nat → Int64} {n : Nat} {w : TL} {k : Nat}
theorem SS_bad10 {p : Nat} {f : Nat → Int32} (h : SS A0 I0 n w k (.inl p) A I) : SS A0 I0 n w k (.inl p) (up A 10 f) I := ⟨⟨fun i z => (up_ne z).trans (h.1.1 i z), h.1.2⟩, h.2⟩
theorem SS_size {b : Nat} {u : TL} (h : SS A0 I0 n w k (.inr (b, u)) A I) : I 8 2 = nI (w ++ u).length := h.2.2.2.1
theorem SS_set {e : Nat} {t v : TL} {x y : Int32} (tp : tpS A0 I0 n) (h : SS A0 I0 n w k (.inr (e, t ++ [x] ++ v)) A I) : SS A0 I0 n w k (.inr (e, t ++ [y] ++ v)) (up A 10 (pt 240 (A 10) (nI (w ++ t).length) y)) I := by
  obtain ⟨hm, e1, e2, e3, e4, e5, e6⟩ := h
  have h240 := tp.2.1
  have hl1 : (w ++ (t ++ [x] ++ v)).length = (w ++ t).length + 1 + v.length := by simp only [List.length_append, List.length_cons, List.length_nil]; omega
  have hl2 : (w ++ (t ++ [y] ++ v)).length = (w ++ t).length + 1 + v.length := by simp only [List.length_append, List.length_cons, List.length_nil]; omega
  refine ⟨⟨fun i z => (up_ne z).trans (hm.1 i z), hm.2⟩, e1, e2, by rw [e3, hl1, hl2], fun i z hi => ?_, e5, by omega⟩
  rw [up_at, pt_in (vp_in_nI (by omega) (by omega)), nI_clamp (by omega)]
  have ha : ∀ q : Int32, w ++ (t ++ [q] ++ v) = (w ++ t) ++ ([q] ++ v) := fun q => by simp only [List.append_assoc]
  rw [ha] at hi
  by_cases hi1 : i < (w ++ t).length
  · rw [List.getElem?_append_left hi1] at hi
    rw [pk_un (by omega)]
    exact e4 i z (by rw [ha, List.getElem?_append_left hi1]; exact hi)
  · rw [List.getElem?_append_right (by omega)] at hi
    by_cases hi2 : i = (w ++ t).length
    · rw [hi2, Nat.sub_self] at hi
      cases hi
      rw [hi2, pk_us]
    · obtain ⟨j, hj⟩ : ∃ j, i - (w ++ t).length = j + 1 := ⟨i - (w ++ t).length - 1, by omega⟩
      rw [pk_un hi2]
      refine e4 i z ?_
      rw [ha, List.getElem?_append_right (by omega), hj]
      rw [hj] at hi
      exact hi
end RD
theorem r_sum0 {A0 I0 A I : Nat → Nat → Int32} {L : Nat → Nat → Int64} {X : Nat → Int64} {n : Nat} {w : TL} {k : Nat} {s : PR TL} (tp : tpS A0 I0 n) (h : SS A0 I0 n w k s A I) : Con 27 yX4_readSum cX4_readSum 4 none [.ref 8, .int 0] (hp A L I X) (RQ A0 L I0 X n w k (bnd s (sumP (A0 2) n 6))) := r_sum6 tp h
theorem r_cnd0 {A0 I0 A I : Nat → Nat → Int32} {L : Nat → Nat → Int64} {X : Nat → Int64} {n : Nat} {w : TL} {k : Nat} {s : PR TL} (tp : tpS A0 I0 n) (h : SS A0 I0 n w k s A I) : Con 36 yX4_readCondition cX4_readCondition 4 none [.ref 8, .int 0, .int 0] (hp A L I X) (RQ A0 L I0 X n w k (bnd s (condP (A0 2) n))) := r_cond6 tp h
theorem r_cnd1 {A0 I0 A I : Nat → Nat → Int32} {L : Nat → Nat → Int64} {X : Nat → Int64} {n : Nat} {w : TL} {k : Nat} {s : PR TL} (tp : tpS A0 I0 n) (h : SS A0 I0 n w k s A I) : Con 36 yX4_readCondition cX4_readCondition 4 none [.ref 8, .int 0, .int 1] (hp A L I X) (RQ A0 L I0 X n w k (bnd s (condQ (A0 2) n))) := r_cond61 tp h
set_option maxHeartbeats 4000000 in
set_option maxRecDepth 100000 in
theorem r_cl112 {A0 I0 A I : Nat → Nat → Int32} {L : Nat → Nat → Int64} {X : Nat → Int64} {n : Nat} {w : TL} {k : Nat} {s : PR TL} {Q : Option Value → m_H → Prop} {t : TL} {d : Nat} {v1 v2 : Int32} (tp : tpS A0 I0 n) (h : SS A0 I0 n w (k + 1) (bnd (.inr (d, t ++ [wd 3 0])) (sumP (A0 2) n 6)) A I) (hQ : ∀ A1 I1, SS A0 I0 n w k (toW w.length (clT2 (A0 2) n (.inr (d, t)))) A1 I1 → Q none (hp A1 L I1 X)) : G 37 RX4 cX4_readClause 4 none Q 112 [some (.ref 8), some (.int v1), some (.int v2), some (.int (nI (w ++ t).length))] [] (hp A L I X) := by
  have e : bnd (.inr (d, t ++ [wd 3 0])) (sumP (A0 2) n 6) = bn1 (t ++ [wd 3 0]) (sumP (A0 2) n 6 d) := rfl
  rw [e] at h
  unfold clT2 at hQ
  simp only at hQ
  cases hs : sumP (A0 2) n 6 d with
  | inl p =>
    rw [hs] at h hQ
    have h : SS A0 I0 n w (k + 1) (.inl p) A I := h
    have hQ : ∀ A1 I1, SS A0 I0 n w k (.inl p) A1 I1 → Q none (hp A1 L I1 X) := hQ
    refine g_aload_n dX4_readClause_112 rfl rfl ?_
    refine g_ic_4 dX4_readClause_113 ?_
    refine g_ic_0 dX4_readClause_114 ?_
    refine g_callV dX4_readClause_115 cv_X4_74 (as' := [_, _]) hp_8 rfl (r_write tp h) (by omega) rfl rfl (Nat.le_of_ble_eq_true rfl) ?_
    rintro _ _ ⟨rfl, A1, I1, h, rfl⟩
    refine g_aload_n dX4_readClause_118 rfl rfl ?_
    refine g_get dX4_readClause_119 fl_X4_9 hp_8 rfl ?_
    refine g_iload_n dX4_readClause_122 rfl rfl ?_
    refine g_sipush (v := 30000) dX4_readClause_123 (by decide) ?_
    refine g_aload_n dX4_readClause_126 rfl rfl ?_
    refine g_get dX4_readClause_127 fl_X4_27 hp_8 rfl ?_
    refine g_iadd dX4_readClause_130 ?_
    refine g_callS dX4_readClause_131 cs_X4_55 (as := [_, _, _]) (k_setCell hp_10 (by decide)) (by omega) rfl rfl (Nat.le_of_ble_eq_true rfl) ?_
    rintro _ _ ⟨rfl, rfl⟩
    rw [hq_10]
    refine g_goto (tgt := 143) dX4_readClause_134 (by decide) ?_
    exact g_vret dX4_readClause_143 (hQ _ _ (SS_bad10 h))
  | inr q =>
    obtain ⟨e9, u⟩ := q
    rw [hs] at h hQ
    have h : SS A0 I0 n w (k + 1) (.inr (e9, t ++ [wd 3 0] ++ u)) A I := h
    have hQ : ∀ A1 I1, SS A0 I0 n w k (.inr (e9, t ++ [wd 3 (nI (w.length + (t.length + 1 + u.length + 1)))] ++ u ++ [wd 4 0])) A1 I1 → Q none (hp A1 L I1 X) := hQ
    refine g_aload_n dX4_readClause_112 rfl rfl ?_
    refine g_ic_4 dX4_readClause_113 ?_
    refine g_ic_0 dX4_readClause_114 ?_
    refine g_callV dX4_readClause_115 cv_X4_74 (as' := [_, _]) hp_8 rfl (r_write tp h) (by omega) rfl rfl (Nat.le_of_ble_eq_true rfl) ?_
    rintro _ _ ⟨rfl, A1, I1, h, rfl⟩
    have h : SS A0 I0 n w k (.inr (e9, t ++ [wd 3 0] ++ u ++ [wd 4 0])) A1 I1 := h
    have hz : (30000 : Int32) + I1 8 2 = wd 3 (nI (w.length + (t.length + 1 + u.length + 1))) := by
      rw [SS_size h, show (wd 3 (nI (w.length + (t.length + 1 + u.length + 1))) : Int32) = 3 * 10000 + nI (w.length + (t.length + 1 + u.length + 1)) from rfl, show (3 : Int32) * 10000 = 30000 by decide]
      congr 2
      simp only [List.length_append, List.length_cons, List.length_nil]
      try omega
    refine g_aload_n dX4_readClause_118 rfl rfl ?_
    refine g_get dX4_readClause_119 fl_X4_9 hp_8 rfl ?_
    refine g_iload_n dX4_readClause_122 rfl rfl ?_
    refine g_sipush (v := 30000) dX4_readClause_123 (by decide) ?_
    refine g_aload_n dX4_readClause_126 rfl rfl ?_
    refine g_get dX4_readClause_127 fl_X4_27 hp_8 rfl ?_
    refine g_iadd dX4_readClause_130 ?_
    rw [hz]
    refine g_callS dX4_readClause_131 cs_X4_55 (as := [_, _, _]) (k_setCell hp_10 (by decide)) (by omega) rfl rfl (Nat.le_of_ble_eq_true rfl) ?_
    rintro _ _ ⟨rfl, rfl⟩
    rw [hq_10]
    refine g_goto (tgt := 143) dX4_readClause_134 (by decide) ?_
    exact g_vret dX4_readClause_143 (hQ _ _ (by have h9 := SS_set (t := t) (x := wd 3 0) (y := wd 3 (nI (w.length + (t.length + 1 + u.length + 1)))) (v := u ++ [wd 4 0]) tp (by simpa only [List.append_assoc] using h); simpa only [List.append_assoc] using h9))

set_option maxHeartbeats 4000000 in
set_option maxRecDepth 100000 in
theorem r_cl87 {A0 I0 A I : Nat → Nat → Int32} {L : Nat → Nat → Int64} {X : Nat → Int64} {n : Nat} {w : TL} {k : Nat} {s : PR TL} {Q : Option Value → m_H → Prop} {v1 v2 : Int32} (tp : tpS A0 I0 n) (h : SS A0 I0 n w (k + 1) s A I) (hQ : ∀ A1 I1, SS A0 I0 n w k (toW w.length (clT (A0 2) n s)) A1 I1 → Q none (hp A1 L I1 X)) : G 37 RX4 cX4_readClause 4 none Q 87 [some (.ref 8), some (.int v1), some (.int v2), none] [] (hp A L I X) := by
  refine g_aload_n dX4_readClause_87 rfl rfl ?_
  refine g_get dX4_readClause_88 fl_X4_20 hp_8 rfl ?_
  refine g_bipush (v := 63) dX4_readClause_91 (by decide) ?_
  refine g_callV dX4_readClause_93 cv_X4_59 (as' := [_]) hp_9 rfl (r_expect tp (by decide) h) (by omega) rfl rfl (Nat.le_of_ble_eq_true rfl) ?_
  rintro _ _ ⟨rfl, A1, I1, h, rfl⟩
  unfold clT at hQ
  generalize exS (A0 2) n 63 s = s2 at h hQ
  rcases s2 with p | ⟨d, t⟩
  · skip
    refine g_aload_n dX4_readClause_96 rfl rfl ?_
    refine g_get dX4_readClause_97 fl_X4_27 hp_8 rfl ?_
    refine g_istore_n dX4_readClause_100 rfl (by decide) ?_
    refine g_aload_n dX4_readClause_101 rfl rfl ?_
    refine g_ic_3 dX4_readClause_102 ?_
    refine g_ic_0 dX4_readClause_103 ?_
    refine g_callV dX4_readClause_104 cv_X4_74 (as' := [_, _]) hp_8 rfl (r_write tp h) (by omega) rfl rfl (Nat.le_of_ble_eq_true rfl) ?_
    rintro _ _ ⟨rfl, A1, I1, h, rfl⟩
    refine g_aload_n dX4_readClause_107 rfl rfl ?_
    refine g_ic_0 dX4_readClause_108 ?_
    refine g_callV dX4_readClause_109 cv_X4_63 (as' := [_]) hp_8 rfl (r_sum0 tp h) (by omega) rfl rfl (Nat.le_of_ble_eq_true rfl) ?_
    rintro _ _ ⟨rfl, A1, I1, h, rfl⟩
    refine g_aload_n dX4_readClause_112 rfl rfl ?_
    refine g_ic_4 dX4_readClause_113 ?_
    refine g_ic_0 dX4_readClause_114 ?_
    refine g_callV dX4_readClause_115 cv_X4_74 (as' := [_, _]) hp_8 rfl (r_write tp h) (by omega) rfl rfl (Nat.le_of_ble_eq_true rfl) ?_
    rintro _ _ ⟨rfl, A1, I1, h, rfl⟩
    refine g_aload_n dX4_readClause_118 rfl rfl ?_
    refine g_get dX4_readClause_119 fl_X4_9 hp_8 rfl ?_
    refine g_iload_n dX4_readClause_122 rfl rfl ?_
    refine g_sipush (v := 30000) dX4_readClause_123 (by decide) ?_
    refine g_aload_n dX4_readClause_126 rfl rfl ?_
    refine g_get dX4_readClause_127 fl_X4_27 hp_8 rfl ?_
    refine g_iadd dX4_readClause_130 ?_
    refine g_callS dX4_readClause_131 cs_X4_55 (as := [_, _, _]) (k_setCell hp_10 (by decide)) (by omega) rfl rfl (Nat.le_of_ble_eq_true rfl) ?_
    rintro _ _ ⟨rfl, rfl⟩
    rw [hq_10]
    refine g_goto (tgt := 143) dX4_readClause_134 (by decide) ?_
    exact g_vret dX4_readClause_143 (hQ _ _ (SS_bad10 h))
  · skip
    refine g_aload_n dX4_readClause_96 rfl rfl ?_
    refine g_get dX4_readClause_97 fl_X4_27 hp_8 rfl ?_
    rw [SS_size h]
    refine g_istore_n dX4_readClause_100 rfl (by decide) ?_
    refine g_aload_n dX4_readClause_101 rfl rfl ?_
    refine g_ic_3 dX4_readClause_102 ?_
    refine g_ic_0 dX4_readClause_103 ?_
    refine g_callV dX4_readClause_104 cv_X4_74 (as' := [_, _]) hp_8 rfl (r_write tp h) (by omega) rfl rfl (Nat.le_of_ble_eq_true rfl) ?_
    rintro _ _ ⟨rfl, A1, I1, h, rfl⟩
    refine g_aload_n dX4_readClause_107 rfl rfl ?_
    refine g_ic_0 dX4_readClause_108 ?_
    refine g_callV dX4_readClause_109 cv_X4_63 (as' := [_]) hp_8 rfl (r_sum0 tp h) (by omega) rfl rfl (Nat.le_of_ble_eq_true rfl) ?_
    rintro _ _ ⟨rfl, A1, I1, h, rfl⟩
    exact r_cl112 (s := s) tp h hQ

set_option maxHeartbeats 4000000 in
set_option maxRecDepth 100000 in
theorem r_cl53 {A0 I0 A I : Nat → Nat → Int32} {L : Nat → Nat → Int64} {X : Nat → Int64} {n : Nat} {w : TL} {k : Nat} {s : PR TL} {Q : Option Value → m_H → Prop} {v1 v2 : Int32} (tp : tpS A0 I0 n) (h : SS A0 I0 n w (k + 1) s A I) (hQ : ∀ A1 I1, SS A0 I0 n w k (toW w.length (clS (A0 2) n s)) A1 I1 → Q none (hp A1 L I1 X)) : G 37 RX4 cX4_readClause 4 none Q 53 [some (.ref 8), some (.int v1), some (.int v2), none] [] (hp A L I X) := by
  rcases s with p | ⟨c, u⟩
  · skip
    have hQ : ∀ A1 I1, SS A0 I0 n w k (.inl p) A1 I1 → Q none (hp A1 L I1 X) := hQ
    refine g_aload_n dX4_readClause_53 rfl rfl ?_
    refine g_get dX4_readClause_54 fl_X4_20 hp_8 rfl ?_
    refine g_callV dX4_readClause_57 cv_X4_38 (as' := []) hp_9 rfl (r_look tp h) (by omega) rfl rfl (Nat.le_of_ble_eq_true rfl) ?_
    rintro _ _ ⟨v57, rfl, A1, I1, h, hv, rfl⟩
    refine g_callS dX4_readClause_60 cs_X4_66 (as := [_]) r_isC (by omega) rfl rfl (Nat.le_of_ble_eq_true rfl) ?_
    rintro _ _ ⟨rfl, rfl⟩
    refine g_istore_n dX4_readClause_63 rfl (by decide) ?_
    refine g_iload_n dX4_readClause_64 rfl rfl ?_
    refine g_if_eq (tgt := 83) dX4_readClause_65 (by decide) (fun c_65 => ?_) (fun c_65 => ?_)
    · refine g_iload_n dX4_readClause_83 rfl rfl ?_
      refine g_if_eq (tgt := 137) dX4_readClause_84 (by decide) (fun c_84 => ?_) (fun c_84 => ?_)
      · refine g_aload_n dX4_readClause_137 rfl rfl ?_
        refine g_ic_4 dX4_readClause_138 ?_
        refine g_ic_0 dX4_readClause_139 ?_
        refine g_callV dX4_readClause_140 cv_X4_74 (as' := [_, _]) hp_8 rfl (r_write tp h) (by omega) rfl rfl (Nat.le_of_ble_eq_true rfl) ?_
        rintro _ _ ⟨rfl, A1, I1, h, rfl⟩
        exact g_vret dX4_readClause_143 (hQ _ _ h)
      · refine g_aload_n dX4_readClause_87 rfl rfl ?_
        refine g_get dX4_readClause_88 fl_X4_20 hp_8 rfl ?_
        refine g_bipush (v := 63) dX4_readClause_91 (by decide) ?_
        refine g_callV dX4_readClause_93 cv_X4_59 (as' := [_]) hp_9 rfl (r_expect tp (by decide) h) (by omega) rfl rfl (Nat.le_of_ble_eq_true rfl) ?_
        rintro _ _ ⟨rfl, A1, I1, h, rfl⟩
        refine g_aload_n dX4_readClause_96 rfl rfl ?_
        refine g_get dX4_readClause_97 fl_X4_27 hp_8 rfl ?_
        refine g_istore_n dX4_readClause_100 rfl (by decide) ?_
        refine g_aload_n dX4_readClause_101 rfl rfl ?_
        refine g_ic_3 dX4_readClause_102 ?_
        refine g_ic_0 dX4_readClause_103 ?_
        refine g_callV dX4_readClause_104 cv_X4_74 (as' := [_, _]) hp_8 rfl (r_write tp h) (by omega) rfl rfl (Nat.le_of_ble_eq_true rfl) ?_
        rintro _ _ ⟨rfl, A1, I1, h, rfl⟩
        refine g_aload_n dX4_readClause_107 rfl rfl ?_
        refine g_ic_0 dX4_readClause_108 ?_
        refine g_callV dX4_readClause_109 cv_X4_63 (as' := [_]) hp_8 rfl (r_sum0 tp h) (by omega) rfl rfl (Nat.le_of_ble_eq_true rfl) ?_
        rintro _ _ ⟨rfl, A1, I1, h, rfl⟩
        refine g_aload_n dX4_readClause_112 rfl rfl ?_
        refine g_ic_4 dX4_readClause_113 ?_
        refine g_ic_0 dX4_readClause_114 ?_
        refine g_callV dX4_readClause_115 cv_X4_74 (as' := [_, _]) hp_8 rfl (r_write tp h) (by omega) rfl rfl (Nat.le_of_ble_eq_true rfl) ?_
        rintro _ _ ⟨rfl, A1, I1, h, rfl⟩
        refine g_aload_n dX4_readClause_118 rfl rfl ?_
        refine g_get dX4_readClause_119 fl_X4_9 hp_8 rfl ?_
        refine g_iload_n dX4_readClause_122 rfl rfl ?_
        refine g_sipush (v := 30000) dX4_readClause_123 (by decide) ?_
        refine g_aload_n dX4_readClause_126 rfl rfl ?_
        refine g_get dX4_readClause_127 fl_X4_27 hp_8 rfl ?_
        refine g_iadd dX4_readClause_130 ?_
        refine g_callS dX4_readClause_131 cs_X4_55 (as := [_, _, _]) (k_setCell hp_10 (by decide)) (by omega) rfl rfl (Nat.le_of_ble_eq_true rfl) ?_
        rintro _ _ ⟨rfl, rfl⟩
        rw [hq_10]
        refine g_goto (tgt := 143) dX4_readClause_134 (by decide) ?_
        exact g_vret dX4_readClause_143 (hQ _ _ (SS_bad10 h))
    · refine g_aload_n dX4_readClause_68 rfl rfl ?_
      refine g_ic_0 dX4_readClause_69 ?_
      refine g_ic_1 dX4_readClause_70 ?_
      refine g_callV dX4_readClause_71 cv_X4_70 (as' := [_, _]) hp_8 rfl (r_cnd1 tp h) (by omega) rfl rfl (Nat.le_of_ble_eq_true rfl) ?_
      rintro _ _ ⟨rfl, A1, I1, h, rfl⟩
      refine g_goto (tgt := 83) dX4_readClause_74 (by decide) ?_
      refine g_iload_n dX4_readClause_83 rfl rfl ?_
      refine g_if_eq (tgt := 137) dX4_readClause_84 (by decide) (fun c_84 => ?_) (fun c_84 => ?_)
      · refine g_aload_n dX4_readClause_137 rfl rfl ?_
        refine g_ic_4 dX4_readClause_138 ?_
        refine g_ic_0 dX4_readClause_139 ?_
        refine g_callV dX4_readClause_140 cv_X4_74 (as' := [_, _]) hp_8 rfl (r_write tp h) (by omega) rfl rfl (Nat.le_of_ble_eq_true rfl) ?_
        rintro _ _ ⟨rfl, A1, I1, h, rfl⟩
        exact g_vret dX4_readClause_143 (hQ _ _ h)
      · refine g_aload_n dX4_readClause_87 rfl rfl ?_
        refine g_get dX4_readClause_88 fl_X4_20 hp_8 rfl ?_
        refine g_bipush (v := 63) dX4_readClause_91 (by decide) ?_
        refine g_callV dX4_readClause_93 cv_X4_59 (as' := [_]) hp_9 rfl (r_expect tp (by decide) h) (by omega) rfl rfl (Nat.le_of_ble_eq_true rfl) ?_
        rintro _ _ ⟨rfl, A1, I1, h, rfl⟩
        refine g_aload_n dX4_readClause_96 rfl rfl ?_
        refine g_get dX4_readClause_97 fl_X4_27 hp_8 rfl ?_
        refine g_istore_n dX4_readClause_100 rfl (by decide) ?_
        refine g_aload_n dX4_readClause_101 rfl rfl ?_
        refine g_ic_3 dX4_readClause_102 ?_
        refine g_ic_0 dX4_readClause_103 ?_
        refine g_callV dX4_readClause_104 cv_X4_74 (as' := [_, _]) hp_8 rfl (r_write tp h) (by omega) rfl rfl (Nat.le_of_ble_eq_true rfl) ?_
        rintro _ _ ⟨rfl, A1, I1, h, rfl⟩
        refine g_aload_n dX4_readClause_107 rfl rfl ?_
        refine g_ic_0 dX4_readClause_108 ?_
        refine g_callV dX4_readClause_109 cv_X4_63 (as' := [_]) hp_8 rfl (r_sum0 tp h) (by omega) rfl rfl (Nat.le_of_ble_eq_true rfl) ?_
        rintro _ _ ⟨rfl, A1, I1, h, rfl⟩
        refine g_aload_n dX4_readClause_112 rfl rfl ?_
        refine g_ic_4 dX4_readClause_113 ?_
        refine g_ic_0 dX4_readClause_114 ?_
        refine g_callV dX4_readClause_115 cv_X4_74 (as' := [_, _]) hp_8 rfl (r_write tp h) (by omega) rfl rfl (Nat.le_of_ble_eq_true rfl) ?_
        rintro _ _ ⟨rfl, A1, I1, h, rfl⟩
        refine g_aload_n dX4_readClause_118 rfl rfl ?_
        refine g_get dX4_readClause_119 fl_X4_9 hp_8 rfl ?_
        refine g_iload_n dX4_readClause_122 rfl rfl ?_
        refine g_sipush (v := 30000) dX4_readClause_123 (by decide) ?_
        refine g_aload_n dX4_readClause_126 rfl rfl ?_
        refine g_get dX4_readClause_127 fl_X4_27 hp_8 rfl ?_
        refine g_iadd dX4_readClause_130 ?_
        refine g_callS dX4_readClause_131 cs_X4_55 (as := [_, _, _]) (k_setCell hp_10 (by decide)) (by omega) rfl rfl (Nat.le_of_ble_eq_true rfl) ?_
        rintro _ _ ⟨rfl, rfl⟩
        rw [hq_10]
        refine g_goto (tgt := 143) dX4_readClause_134 (by decide) ?_
        exact g_vret dX4_readClause_143 (hQ _ _ (SS_bad10 h))
  · skip
    refine g_aload_n dX4_readClause_53 rfl rfl ?_
    refine g_get dX4_readClause_54 fl_X4_20 hp_8 rfl ?_
    refine g_callV dX4_readClause_57 cv_X4_38 (as' := []) hp_9 rfl (r_look tp h) (by omega) rfl rfl (Nat.le_of_ble_eq_true rfl) ?_
    rintro _ _ ⟨v57, rfl, A1, I1, h, hv, rfl⟩
    obtain rfl := hv _ _ rfl
    refine g_callS dX4_readClause_60 cs_X4_66 (as := [_]) r_isC (by omega) rfl rfl (Nat.le_of_ble_eq_true rfl) ?_
    rintro _ _ ⟨rfl, rfl⟩
    refine g_istore_n dX4_readClause_63 rfl (by decide) ?_
    refine g_iload_n dX4_readClause_64 rfl rfl ?_
    refine g_if_eq (tgt := 83) dX4_readClause_65 (by decide) (fun c_65 => ?_) (fun c_65 => ?_)
    · refine g_iload_n dX4_readClause_83 rfl rfl ?_
      refine g_if_eq (tgt := 137) dX4_readClause_84 (by decide) (fun c_84 => ?_) (fun c_84 => ?_)
      · refine g_aload_n dX4_readClause_137 rfl rfl ?_
        refine g_ic_4 dX4_readClause_138 ?_
        refine g_ic_0 dX4_readClause_139 ?_
        refine g_callV dX4_readClause_140 cv_X4_74 (as' := [_, _]) hp_8 rfl (r_write tp h) (by omega) rfl rfl (Nat.le_of_ble_eq_true rfl) ?_
        rintro _ _ ⟨rfl, A1, I1, h, rfl⟩
        exact g_vret dX4_readClause_143 (hQ _ _ (by rw [show clS (A0 2) n (.inr (c, u)) = .inr (sk (A0 2) n c, (none, u)) from if_neg (fun z => by rw [if_pos z] at c_65; exact absurd c_65 (by decide))]; exact h))
      · exact absurd c_65 c_84
    · have hop : opC (bt (A0 2) n (sk (A0 2) n c)) = true := by by_cases z : opC (bt (A0 2) n (sk (A0 2) n c)) = true; exact z; exact absurd (if_neg z) c_65
      refine g_aload_n dX4_readClause_68 rfl rfl ?_
      refine g_ic_0 dX4_readClause_69 ?_
      refine g_ic_1 dX4_readClause_70 ?_
      refine g_callV dX4_readClause_71 cv_X4_70 (as' := [_, _]) hp_8 rfl (r_cnd1 tp h) (by omega) rfl rfl (Nat.le_of_ble_eq_true rfl) ?_
      rintro _ _ ⟨rfl, A1, I1, h, rfl⟩
      refine g_goto (tgt := 83) dX4_readClause_74 (by decide) ?_
      refine g_iload_n dX4_readClause_83 rfl rfl ?_
      refine g_if_eq (tgt := 137) dX4_readClause_84 (by decide) (fun c_84 => ?_) (fun c_84 => ?_)
      · exact absurd c_84 c_65
      · refine r_cl87 tp h (fun A8 I8 h8 => hQ A8 I8 ?_)
        rw [show clS (A0 2) n (.inr (c, u)) = clT (A0 2) n (bnd (.inr (sk (A0 2) n c, u)) (condQ (A0 2) n)) from if_pos hop]
        exact h8

set_option maxHeartbeats 4000000 in
set_option maxRecDepth 100000 in
theorem r_cl18 {A0 I0 A I : Nat → Nat → Int32} {L : Nat → Nat → Int64} {X : Nat → Int64} {n : Nat} {w : TL} {k : Nat} {s : PR TL} {Q : Option Value → m_H → Prop} (tp : tpS A0 I0 n) (hs : ∀ b u, s = .inr (b, u) → u = []) (h : SS A0 I0 n w (k + 1) s A I) (hQ : ∀ A1 I1, SS A0 I0 n w k (toW w.length (clB (A0 2) n s)) A1 I1 → Q none (hp A1 L I1 X)) : G 37 RX4 cX4_readClause 4 none Q 18 [some (.ref 8), none, none, none] [] (hp A L I X) := by
  rcases s with p | ⟨b, u⟩
  · skip
    have hQ : ∀ A1 I1, SS A0 I0 n w k (.inl p) A1 I1 → Q none (hp A1 L I1 X) := hQ
    refine g_aload_n dX4_readClause_18 rfl rfl ?_
    refine g_get dX4_readClause_19 fl_X4_20 hp_8 rfl ?_
    refine g_callV dX4_readClause_22 cv_X4_38 (as' := []) hp_9 rfl (r_look tp h) (by omega) rfl rfl (Nat.le_of_ble_eq_true rfl) ?_
    rintro _ _ ⟨v22, rfl, A1, I1, h, hv, rfl⟩
    refine g_istore_n dX4_readClause_25 rfl (by decide) ?_
    refine g_iload_n dX4_readClause_26 rfl rfl ?_
    refine g_bipush (v := 33) dX4_readClause_27 (by decide) ?_
    refine g_icmp_eq (tgt := 38) dX4_readClause_29 (by decide) (fun c_29 => ?_) (fun c_29 => ?_)
    · refine g_ic_1 dX4_readClause_38 ?_
      refine g_goto (tgt := 43) dX4_readClause_39 (by decide) ?_
      refine g_istore_n dX4_readClause_43 rfl (by decide) ?_
      refine g_iload_n dX4_readClause_44 rfl rfl ?_
      refine g_if_ne (tgt := 77) dX4_readClause_45 (by decide) (fun c_45 => ?_) (fun c_45 => ?_)
      · refine g_aload_n dX4_readClause_77 rfl rfl ?_
        refine g_ic_0 dX4_readClause_78 ?_
        refine g_ic_0 dX4_readClause_79 ?_
        refine g_callV dX4_readClause_80 cv_X4_70 (as' := [_, _]) hp_8 rfl (r_cnd0 tp h) (by omega) rfl rfl (Nat.le_of_ble_eq_true rfl) ?_
        rintro _ _ ⟨rfl, A1, I1, h, rfl⟩
        refine g_iload_n dX4_readClause_83 rfl rfl ?_
        refine g_if_eq (tgt := 137) dX4_readClause_84 (by decide) (fun c_84 => ?_) (fun c_84 => ?_)
        · refine g_aload_n dX4_readClause_137 rfl rfl ?_
          refine g_ic_4 dX4_readClause_138 ?_
          refine g_ic_0 dX4_readClause_139 ?_
          refine g_callV dX4_readClause_140 cv_X4_74 (as' := [_, _]) hp_8 rfl (r_write tp h) (by omega) rfl rfl (Nat.le_of_ble_eq_true rfl) ?_
          rintro _ _ ⟨rfl, A1, I1, h, rfl⟩
          exact g_vret dX4_readClause_143 (hQ _ _ h)
        · refine g_aload_n dX4_readClause_87 rfl rfl ?_
          refine g_get dX4_readClause_88 fl_X4_20 hp_8 rfl ?_
          refine g_bipush (v := 63) dX4_readClause_91 (by decide) ?_
          refine g_callV dX4_readClause_93 cv_X4_59 (as' := [_]) hp_9 rfl (r_expect tp (by decide) h) (by omega) rfl rfl (Nat.le_of_ble_eq_true rfl) ?_
          rintro _ _ ⟨rfl, A1, I1, h, rfl⟩
          refine g_aload_n dX4_readClause_96 rfl rfl ?_
          refine g_get dX4_readClause_97 fl_X4_27 hp_8 rfl ?_
          refine g_istore_n dX4_readClause_100 rfl (by decide) ?_
          refine g_aload_n dX4_readClause_101 rfl rfl ?_
          refine g_ic_3 dX4_readClause_102 ?_
          refine g_ic_0 dX4_readClause_103 ?_
          refine g_callV dX4_readClause_104 cv_X4_74 (as' := [_, _]) hp_8 rfl (r_write tp h) (by omega) rfl rfl (Nat.le_of_ble_eq_true rfl) ?_
          rintro _ _ ⟨rfl, A1, I1, h, rfl⟩
          refine g_aload_n dX4_readClause_107 rfl rfl ?_
          refine g_ic_0 dX4_readClause_108 ?_
          refine g_callV dX4_readClause_109 cv_X4_63 (as' := [_]) hp_8 rfl (r_sum0 tp h) (by omega) rfl rfl (Nat.le_of_ble_eq_true rfl) ?_
          rintro _ _ ⟨rfl, A1, I1, h, rfl⟩
          refine g_aload_n dX4_readClause_112 rfl rfl ?_
          refine g_ic_4 dX4_readClause_113 ?_
          refine g_ic_0 dX4_readClause_114 ?_
          refine g_callV dX4_readClause_115 cv_X4_74 (as' := [_, _]) hp_8 rfl (r_write tp h) (by omega) rfl rfl (Nat.le_of_ble_eq_true rfl) ?_
          rintro _ _ ⟨rfl, A1, I1, h, rfl⟩
          refine g_aload_n dX4_readClause_118 rfl rfl ?_
          refine g_get dX4_readClause_119 fl_X4_9 hp_8 rfl ?_
          refine g_iload_n dX4_readClause_122 rfl rfl ?_
          refine g_sipush (v := 30000) dX4_readClause_123 (by decide) ?_
          refine g_aload_n dX4_readClause_126 rfl rfl ?_
          refine g_get dX4_readClause_127 fl_X4_27 hp_8 rfl ?_
          refine g_iadd dX4_readClause_130 ?_
          refine g_callS dX4_readClause_131 cs_X4_55 (as := [_, _, _]) (k_setCell hp_10 (by decide)) (by omega) rfl rfl (Nat.le_of_ble_eq_true rfl) ?_
          rintro _ _ ⟨rfl, rfl⟩
          rw [hq_10]
          refine g_goto (tgt := 143) dX4_readClause_134 (by decide) ?_
          exact g_vret dX4_readClause_143 (hQ _ _ (SS_bad10 h))
      · refine g_aload_n dX4_readClause_48 rfl rfl ?_
        refine g_ic_0 dX4_readClause_49 ?_
        refine g_callV dX4_readClause_50 cv_X4_63 (as' := [_]) hp_8 rfl (r_sum0 tp h) (by omega) rfl rfl (Nat.le_of_ble_eq_true rfl) ?_
        rintro _ _ ⟨rfl, A1, I1, h, rfl⟩
        refine g_aload_n dX4_readClause_53 rfl rfl ?_
        refine g_get dX4_readClause_54 fl_X4_20 hp_8 rfl ?_
        refine g_callV dX4_readClause_57 cv_X4_38 (as' := []) hp_9 rfl (r_look tp h) (by omega) rfl rfl (Nat.le_of_ble_eq_true rfl) ?_
        rintro _ _ ⟨v57, rfl, A1, I1, h, hv, rfl⟩
        refine g_callS dX4_readClause_60 cs_X4_66 (as := [_]) r_isC (by omega) rfl rfl (Nat.le_of_ble_eq_true rfl) ?_
        rintro _ _ ⟨rfl, rfl⟩
        refine g_istore_n dX4_readClause_63 rfl (by decide) ?_
        refine g_iload_n dX4_readClause_64 rfl rfl ?_
        refine g_if_eq (tgt := 83) dX4_readClause_65 (by decide) (fun c_65 => ?_) (fun c_65 => ?_)
        · refine g_iload_n dX4_readClause_83 rfl rfl ?_
          refine g_if_eq (tgt := 137) dX4_readClause_84 (by decide) (fun c_84 => ?_) (fun c_84 => ?_)
          · refine g_aload_n dX4_readClause_137 rfl rfl ?_
            refine g_ic_4 dX4_readClause_138 ?_
            refine g_ic_0 dX4_readClause_139 ?_
            refine g_callV dX4_readClause_140 cv_X4_74 (as' := [_, _]) hp_8 rfl (r_write tp h) (by omega) rfl rfl (Nat.le_of_ble_eq_true rfl) ?_
            rintro _ _ ⟨rfl, A1, I1, h, rfl⟩
            exact g_vret dX4_readClause_143 (hQ _ _ h)
          · refine g_aload_n dX4_readClause_87 rfl rfl ?_
            refine g_get dX4_readClause_88 fl_X4_20 hp_8 rfl ?_
            refine g_bipush (v := 63) dX4_readClause_91 (by decide) ?_
            refine g_callV dX4_readClause_93 cv_X4_59 (as' := [_]) hp_9 rfl (r_expect tp (by decide) h) (by omega) rfl rfl (Nat.le_of_ble_eq_true rfl) ?_
            rintro _ _ ⟨rfl, A1, I1, h, rfl⟩
            refine g_aload_n dX4_readClause_96 rfl rfl ?_
            refine g_get dX4_readClause_97 fl_X4_27 hp_8 rfl ?_
            refine g_istore_n dX4_readClause_100 rfl (by decide) ?_
            refine g_aload_n dX4_readClause_101 rfl rfl ?_
            refine g_ic_3 dX4_readClause_102 ?_
            refine g_ic_0 dX4_readClause_103 ?_
            refine g_callV dX4_readClause_104 cv_X4_74 (as' := [_, _]) hp_8 rfl (r_write tp h) (by omega) rfl rfl (Nat.le_of_ble_eq_true rfl) ?_
            rintro _ _ ⟨rfl, A1, I1, h, rfl⟩
            refine g_aload_n dX4_readClause_107 rfl rfl ?_
            refine g_ic_0 dX4_readClause_108 ?_
            refine g_callV dX4_readClause_109 cv_X4_63 (as' := [_]) hp_8 rfl (r_sum0 tp h) (by omega) rfl rfl (Nat.le_of_ble_eq_true rfl) ?_
            rintro _ _ ⟨rfl, A1, I1, h, rfl⟩
            refine g_aload_n dX4_readClause_112 rfl rfl ?_
            refine g_ic_4 dX4_readClause_113 ?_
            refine g_ic_0 dX4_readClause_114 ?_
            refine g_callV dX4_readClause_115 cv_X4_74 (as' := [_, _]) hp_8 rfl (r_write tp h) (by omega) rfl rfl (Nat.le_of_ble_eq_true rfl) ?_
            rintro _ _ ⟨rfl, A1, I1, h, rfl⟩
            refine g_aload_n dX4_readClause_118 rfl rfl ?_
            refine g_get dX4_readClause_119 fl_X4_9 hp_8 rfl ?_
            refine g_iload_n dX4_readClause_122 rfl rfl ?_
            refine g_sipush (v := 30000) dX4_readClause_123 (by decide) ?_
            refine g_aload_n dX4_readClause_126 rfl rfl ?_
            refine g_get dX4_readClause_127 fl_X4_27 hp_8 rfl ?_
            refine g_iadd dX4_readClause_130 ?_
            refine g_callS dX4_readClause_131 cs_X4_55 (as := [_, _, _]) (k_setCell hp_10 (by decide)) (by omega) rfl rfl (Nat.le_of_ble_eq_true rfl) ?_
            rintro _ _ ⟨rfl, rfl⟩
            rw [hq_10]
            refine g_goto (tgt := 143) dX4_readClause_134 (by decide) ?_
            exact g_vret dX4_readClause_143 (hQ _ _ (SS_bad10 h))
        · refine g_aload_n dX4_readClause_68 rfl rfl ?_
          refine g_ic_0 dX4_readClause_69 ?_
          refine g_ic_1 dX4_readClause_70 ?_
          refine g_callV dX4_readClause_71 cv_X4_70 (as' := [_, _]) hp_8 rfl (r_cnd1 tp h) (by omega) rfl rfl (Nat.le_of_ble_eq_true rfl) ?_
          rintro _ _ ⟨rfl, A1, I1, h, rfl⟩
          refine g_goto (tgt := 83) dX4_readClause_74 (by decide) ?_
          refine g_iload_n dX4_readClause_83 rfl rfl ?_
          refine g_if_eq (tgt := 137) dX4_readClause_84 (by decide) (fun c_84 => ?_) (fun c_84 => ?_)
          · refine g_aload_n dX4_readClause_137 rfl rfl ?_
            refine g_ic_4 dX4_readClause_138 ?_
            refine g_ic_0 dX4_readClause_139 ?_
            refine g_callV dX4_readClause_140 cv_X4_74 (as' := [_, _]) hp_8 rfl (r_write tp h) (by omega) rfl rfl (Nat.le_of_ble_eq_true rfl) ?_
            rintro _ _ ⟨rfl, A1, I1, h, rfl⟩
            exact g_vret dX4_readClause_143 (hQ _ _ h)
          · refine g_aload_n dX4_readClause_87 rfl rfl ?_
            refine g_get dX4_readClause_88 fl_X4_20 hp_8 rfl ?_
            refine g_bipush (v := 63) dX4_readClause_91 (by decide) ?_
            refine g_callV dX4_readClause_93 cv_X4_59 (as' := [_]) hp_9 rfl (r_expect tp (by decide) h) (by omega) rfl rfl (Nat.le_of_ble_eq_true rfl) ?_
            rintro _ _ ⟨rfl, A1, I1, h, rfl⟩
            refine g_aload_n dX4_readClause_96 rfl rfl ?_
            refine g_get dX4_readClause_97 fl_X4_27 hp_8 rfl ?_
            refine g_istore_n dX4_readClause_100 rfl (by decide) ?_
            refine g_aload_n dX4_readClause_101 rfl rfl ?_
            refine g_ic_3 dX4_readClause_102 ?_
            refine g_ic_0 dX4_readClause_103 ?_
            refine g_callV dX4_readClause_104 cv_X4_74 (as' := [_, _]) hp_8 rfl (r_write tp h) (by omega) rfl rfl (Nat.le_of_ble_eq_true rfl) ?_
            rintro _ _ ⟨rfl, A1, I1, h, rfl⟩
            refine g_aload_n dX4_readClause_107 rfl rfl ?_
            refine g_ic_0 dX4_readClause_108 ?_
            refine g_callV dX4_readClause_109 cv_X4_63 (as' := [_]) hp_8 rfl (r_sum0 tp h) (by omega) rfl rfl (Nat.le_of_ble_eq_true rfl) ?_
            rintro _ _ ⟨rfl, A1, I1, h, rfl⟩
            refine g_aload_n dX4_readClause_112 rfl rfl ?_
            refine g_ic_4 dX4_readClause_113 ?_
            refine g_ic_0 dX4_readClause_114 ?_
            refine g_callV dX4_readClause_115 cv_X4_74 (as' := [_, _]) hp_8 rfl (r_write tp h) (by omega) rfl rfl (Nat.le_of_ble_eq_true rfl) ?_
            rintro _ _ ⟨rfl, A1, I1, h, rfl⟩
            refine g_aload_n dX4_readClause_118 rfl rfl ?_
            refine g_get dX4_readClause_119 fl_X4_9 hp_8 rfl ?_
            refine g_iload_n dX4_readClause_122 rfl rfl ?_
            refine g_sipush (v := 30000) dX4_readClause_123 (by decide) ?_
            refine g_aload_n dX4_readClause_126 rfl rfl ?_
            refine g_get dX4_readClause_127 fl_X4_27 hp_8 rfl ?_
            refine g_iadd dX4_readClause_130 ?_
            refine g_callS dX4_readClause_131 cs_X4_55 (as := [_, _, _]) (k_setCell hp_10 (by decide)) (by omega) rfl rfl (Nat.le_of_ble_eq_true rfl) ?_
            rintro _ _ ⟨rfl, rfl⟩
            rw [hq_10]
            refine g_goto (tgt := 143) dX4_readClause_134 (by decide) ?_
            exact g_vret dX4_readClause_143 (hQ _ _ (SS_bad10 h))
    · refine g_iload_n dX4_readClause_32 rfl rfl ?_
      refine g_bipush (v := 40) dX4_readClause_33 (by decide) ?_
      refine g_icmp_ne (tgt := 42) dX4_readClause_35 (by decide) (fun c_35 => ?_) (fun c_35 => ?_)
      · refine g_ic_0 dX4_readClause_42 ?_
        refine g_istore_n dX4_readClause_43 rfl (by decide) ?_
        refine g_iload_n dX4_readClause_44 rfl rfl ?_
        refine g_if_ne (tgt := 77) dX4_readClause_45 (by decide) (fun c_45 => ?_) (fun c_45 => ?_)
        · refine g_aload_n dX4_readClause_77 rfl rfl ?_
          refine g_ic_0 dX4_readClause_78 ?_
          refine g_ic_0 dX4_readClause_79 ?_
          refine g_callV dX4_readClause_80 cv_X4_70 (as' := [_, _]) hp_8 rfl (r_cnd0 tp h) (by omega) rfl rfl (Nat.le_of_ble_eq_true rfl) ?_
          rintro _ _ ⟨rfl, A1, I1, h, rfl⟩
          refine g_iload_n dX4_readClause_83 rfl rfl ?_
          refine g_if_eq (tgt := 137) dX4_readClause_84 (by decide) (fun c_84 => ?_) (fun c_84 => ?_)
          · refine g_aload_n dX4_readClause_137 rfl rfl ?_
            refine g_ic_4 dX4_readClause_138 ?_
            refine g_ic_0 dX4_readClause_139 ?_
            refine g_callV dX4_readClause_140 cv_X4_74 (as' := [_, _]) hp_8 rfl (r_write tp h) (by omega) rfl rfl (Nat.le_of_ble_eq_true rfl) ?_
            rintro _ _ ⟨rfl, A1, I1, h, rfl⟩
            exact g_vret dX4_readClause_143 (hQ _ _ h)
          · refine g_aload_n dX4_readClause_87 rfl rfl ?_
            refine g_get dX4_readClause_88 fl_X4_20 hp_8 rfl ?_
            refine g_bipush (v := 63) dX4_readClause_91 (by decide) ?_
            refine g_callV dX4_readClause_93 cv_X4_59 (as' := [_]) hp_9 rfl (r_expect tp (by decide) h) (by omega) rfl rfl (Nat.le_of_ble_eq_true rfl) ?_
            rintro _ _ ⟨rfl, A1, I1, h, rfl⟩
            refine g_aload_n dX4_readClause_96 rfl rfl ?_
            refine g_get dX4_readClause_97 fl_X4_27 hp_8 rfl ?_
            refine g_istore_n dX4_readClause_100 rfl (by decide) ?_
            refine g_aload_n dX4_readClause_101 rfl rfl ?_
            refine g_ic_3 dX4_readClause_102 ?_
            refine g_ic_0 dX4_readClause_103 ?_
            refine g_callV dX4_readClause_104 cv_X4_74 (as' := [_, _]) hp_8 rfl (r_write tp h) (by omega) rfl rfl (Nat.le_of_ble_eq_true rfl) ?_
            rintro _ _ ⟨rfl, A1, I1, h, rfl⟩
            refine g_aload_n dX4_readClause_107 rfl rfl ?_
            refine g_ic_0 dX4_readClause_108 ?_
            refine g_callV dX4_readClause_109 cv_X4_63 (as' := [_]) hp_8 rfl (r_sum0 tp h) (by omega) rfl rfl (Nat.le_of_ble_eq_true rfl) ?_
            rintro _ _ ⟨rfl, A1, I1, h, rfl⟩
            refine g_aload_n dX4_readClause_112 rfl rfl ?_
            refine g_ic_4 dX4_readClause_113 ?_
            refine g_ic_0 dX4_readClause_114 ?_
            refine g_callV dX4_readClause_115 cv_X4_74 (as' := [_, _]) hp_8 rfl (r_write tp h) (by omega) rfl rfl (Nat.le_of_ble_eq_true rfl) ?_
            rintro _ _ ⟨rfl, A1, I1, h, rfl⟩
            refine g_aload_n dX4_readClause_118 rfl rfl ?_
            refine g_get dX4_readClause_119 fl_X4_9 hp_8 rfl ?_
            refine g_iload_n dX4_readClause_122 rfl rfl ?_
            refine g_sipush (v := 30000) dX4_readClause_123 (by decide) ?_
            refine g_aload_n dX4_readClause_126 rfl rfl ?_
            refine g_get dX4_readClause_127 fl_X4_27 hp_8 rfl ?_
            refine g_iadd dX4_readClause_130 ?_
            refine g_callS dX4_readClause_131 cs_X4_55 (as := [_, _, _]) (k_setCell hp_10 (by decide)) (by omega) rfl rfl (Nat.le_of_ble_eq_true rfl) ?_
            rintro _ _ ⟨rfl, rfl⟩
            rw [hq_10]
            refine g_goto (tgt := 143) dX4_readClause_134 (by decide) ?_
            exact g_vret dX4_readClause_143 (hQ _ _ (SS_bad10 h))
        · refine g_aload_n dX4_readClause_48 rfl rfl ?_
          refine g_ic_0 dX4_readClause_49 ?_
          refine g_callV dX4_readClause_50 cv_X4_63 (as' := [_]) hp_8 rfl (r_sum0 tp h) (by omega) rfl rfl (Nat.le_of_ble_eq_true rfl) ?_
          rintro _ _ ⟨rfl, A1, I1, h, rfl⟩
          refine g_aload_n dX4_readClause_53 rfl rfl ?_
          refine g_get dX4_readClause_54 fl_X4_20 hp_8 rfl ?_
          refine g_callV dX4_readClause_57 cv_X4_38 (as' := []) hp_9 rfl (r_look tp h) (by omega) rfl rfl (Nat.le_of_ble_eq_true rfl) ?_
          rintro _ _ ⟨v57, rfl, A1, I1, h, hv, rfl⟩
          refine g_callS dX4_readClause_60 cs_X4_66 (as := [_]) r_isC (by omega) rfl rfl (Nat.le_of_ble_eq_true rfl) ?_
          rintro _ _ ⟨rfl, rfl⟩
          refine g_istore_n dX4_readClause_63 rfl (by decide) ?_
          refine g_iload_n dX4_readClause_64 rfl rfl ?_
          refine g_if_eq (tgt := 83) dX4_readClause_65 (by decide) (fun c_65 => ?_) (fun c_65 => ?_)
          · refine g_iload_n dX4_readClause_83 rfl rfl ?_
            refine g_if_eq (tgt := 137) dX4_readClause_84 (by decide) (fun c_84 => ?_) (fun c_84 => ?_)
            · refine g_aload_n dX4_readClause_137 rfl rfl ?_
              refine g_ic_4 dX4_readClause_138 ?_
              refine g_ic_0 dX4_readClause_139 ?_
              refine g_callV dX4_readClause_140 cv_X4_74 (as' := [_, _]) hp_8 rfl (r_write tp h) (by omega) rfl rfl (Nat.le_of_ble_eq_true rfl) ?_
              rintro _ _ ⟨rfl, A1, I1, h, rfl⟩
              exact g_vret dX4_readClause_143 (hQ _ _ h)
            · refine g_aload_n dX4_readClause_87 rfl rfl ?_
              refine g_get dX4_readClause_88 fl_X4_20 hp_8 rfl ?_
              refine g_bipush (v := 63) dX4_readClause_91 (by decide) ?_
              refine g_callV dX4_readClause_93 cv_X4_59 (as' := [_]) hp_9 rfl (r_expect tp (by decide) h) (by omega) rfl rfl (Nat.le_of_ble_eq_true rfl) ?_
              rintro _ _ ⟨rfl, A1, I1, h, rfl⟩
              refine g_aload_n dX4_readClause_96 rfl rfl ?_
              refine g_get dX4_readClause_97 fl_X4_27 hp_8 rfl ?_
              refine g_istore_n dX4_readClause_100 rfl (by decide) ?_
              refine g_aload_n dX4_readClause_101 rfl rfl ?_
              refine g_ic_3 dX4_readClause_102 ?_
              refine g_ic_0 dX4_readClause_103 ?_
              refine g_callV dX4_readClause_104 cv_X4_74 (as' := [_, _]) hp_8 rfl (r_write tp h) (by omega) rfl rfl (Nat.le_of_ble_eq_true rfl) ?_
              rintro _ _ ⟨rfl, A1, I1, h, rfl⟩
              refine g_aload_n dX4_readClause_107 rfl rfl ?_
              refine g_ic_0 dX4_readClause_108 ?_
              refine g_callV dX4_readClause_109 cv_X4_63 (as' := [_]) hp_8 rfl (r_sum0 tp h) (by omega) rfl rfl (Nat.le_of_ble_eq_true rfl) ?_
              rintro _ _ ⟨rfl, A1, I1, h, rfl⟩
              refine g_aload_n dX4_readClause_112 rfl rfl ?_
              refine g_ic_4 dX4_readClause_113 ?_
              refine g_ic_0 dX4_readClause_114 ?_
              refine g_callV dX4_readClause_115 cv_X4_74 (as' := [_, _]) hp_8 rfl (r_write tp h) (by omega) rfl rfl (Nat.le_of_ble_eq_true rfl) ?_
              rintro _ _ ⟨rfl, A1, I1, h, rfl⟩
              refine g_aload_n dX4_readClause_118 rfl rfl ?_
              refine g_get dX4_readClause_119 fl_X4_9 hp_8 rfl ?_
              refine g_iload_n dX4_readClause_122 rfl rfl ?_
              refine g_sipush (v := 30000) dX4_readClause_123 (by decide) ?_
              refine g_aload_n dX4_readClause_126 rfl rfl ?_
              refine g_get dX4_readClause_127 fl_X4_27 hp_8 rfl ?_
              refine g_iadd dX4_readClause_130 ?_
              refine g_callS dX4_readClause_131 cs_X4_55 (as := [_, _, _]) (k_setCell hp_10 (by decide)) (by omega) rfl rfl (Nat.le_of_ble_eq_true rfl) ?_
              rintro _ _ ⟨rfl, rfl⟩
              rw [hq_10]
              refine g_goto (tgt := 143) dX4_readClause_134 (by decide) ?_
              exact g_vret dX4_readClause_143 (hQ _ _ (SS_bad10 h))
          · refine g_aload_n dX4_readClause_68 rfl rfl ?_
            refine g_ic_0 dX4_readClause_69 ?_
            refine g_ic_1 dX4_readClause_70 ?_
            refine g_callV dX4_readClause_71 cv_X4_70 (as' := [_, _]) hp_8 rfl (r_cnd1 tp h) (by omega) rfl rfl (Nat.le_of_ble_eq_true rfl) ?_
            rintro _ _ ⟨rfl, A1, I1, h, rfl⟩
            refine g_goto (tgt := 83) dX4_readClause_74 (by decide) ?_
            refine g_iload_n dX4_readClause_83 rfl rfl ?_
            refine g_if_eq (tgt := 137) dX4_readClause_84 (by decide) (fun c_84 => ?_) (fun c_84 => ?_)
            · refine g_aload_n dX4_readClause_137 rfl rfl ?_
              refine g_ic_4 dX4_readClause_138 ?_
              refine g_ic_0 dX4_readClause_139 ?_
              refine g_callV dX4_readClause_140 cv_X4_74 (as' := [_, _]) hp_8 rfl (r_write tp h) (by omega) rfl rfl (Nat.le_of_ble_eq_true rfl) ?_
              rintro _ _ ⟨rfl, A1, I1, h, rfl⟩
              exact g_vret dX4_readClause_143 (hQ _ _ h)
            · refine g_aload_n dX4_readClause_87 rfl rfl ?_
              refine g_get dX4_readClause_88 fl_X4_20 hp_8 rfl ?_
              refine g_bipush (v := 63) dX4_readClause_91 (by decide) ?_
              refine g_callV dX4_readClause_93 cv_X4_59 (as' := [_]) hp_9 rfl (r_expect tp (by decide) h) (by omega) rfl rfl (Nat.le_of_ble_eq_true rfl) ?_
              rintro _ _ ⟨rfl, A1, I1, h, rfl⟩
              refine g_aload_n dX4_readClause_96 rfl rfl ?_
              refine g_get dX4_readClause_97 fl_X4_27 hp_8 rfl ?_
              refine g_istore_n dX4_readClause_100 rfl (by decide) ?_
              refine g_aload_n dX4_readClause_101 rfl rfl ?_
              refine g_ic_3 dX4_readClause_102 ?_
              refine g_ic_0 dX4_readClause_103 ?_
              refine g_callV dX4_readClause_104 cv_X4_74 (as' := [_, _]) hp_8 rfl (r_write tp h) (by omega) rfl rfl (Nat.le_of_ble_eq_true rfl) ?_
              rintro _ _ ⟨rfl, A1, I1, h, rfl⟩
              refine g_aload_n dX4_readClause_107 rfl rfl ?_
              refine g_ic_0 dX4_readClause_108 ?_
              refine g_callV dX4_readClause_109 cv_X4_63 (as' := [_]) hp_8 rfl (r_sum0 tp h) (by omega) rfl rfl (Nat.le_of_ble_eq_true rfl) ?_
              rintro _ _ ⟨rfl, A1, I1, h, rfl⟩
              refine g_aload_n dX4_readClause_112 rfl rfl ?_
              refine g_ic_4 dX4_readClause_113 ?_
              refine g_ic_0 dX4_readClause_114 ?_
              refine g_callV dX4_readClause_115 cv_X4_74 (as' := [_, _]) hp_8 rfl (r_write tp h) (by omega) rfl rfl (Nat.le_of_ble_eq_true rfl) ?_
              rintro _ _ ⟨rfl, A1, I1, h, rfl⟩
              refine g_aload_n dX4_readClause_118 rfl rfl ?_
              refine g_get dX4_readClause_119 fl_X4_9 hp_8 rfl ?_
              refine g_iload_n dX4_readClause_122 rfl rfl ?_
              refine g_sipush (v := 30000) dX4_readClause_123 (by decide) ?_
              refine g_aload_n dX4_readClause_126 rfl rfl ?_
              refine g_get dX4_readClause_127 fl_X4_27 hp_8 rfl ?_
              refine g_iadd dX4_readClause_130 ?_
              refine g_callS dX4_readClause_131 cs_X4_55 (as := [_, _, _]) (k_setCell hp_10 (by decide)) (by omega) rfl rfl (Nat.le_of_ble_eq_true rfl) ?_
              rintro _ _ ⟨rfl, rfl⟩
              rw [hq_10]
              refine g_goto (tgt := 143) dX4_readClause_134 (by decide) ?_
              exact g_vret dX4_readClause_143 (hQ _ _ (SS_bad10 h))
      · refine g_ic_1 dX4_readClause_38 ?_
        refine g_goto (tgt := 43) dX4_readClause_39 (by decide) ?_
        refine g_istore_n dX4_readClause_43 rfl (by decide) ?_
        refine g_iload_n dX4_readClause_44 rfl rfl ?_
        refine g_if_ne (tgt := 77) dX4_readClause_45 (by decide) (fun c_45 => ?_) (fun c_45 => ?_)
        · refine g_aload_n dX4_readClause_77 rfl rfl ?_
          refine g_ic_0 dX4_readClause_78 ?_
          refine g_ic_0 dX4_readClause_79 ?_
          refine g_callV dX4_readClause_80 cv_X4_70 (as' := [_, _]) hp_8 rfl (r_cnd0 tp h) (by omega) rfl rfl (Nat.le_of_ble_eq_true rfl) ?_
          rintro _ _ ⟨rfl, A1, I1, h, rfl⟩
          refine g_iload_n dX4_readClause_83 rfl rfl ?_
          refine g_if_eq (tgt := 137) dX4_readClause_84 (by decide) (fun c_84 => ?_) (fun c_84 => ?_)
          · refine g_aload_n dX4_readClause_137 rfl rfl ?_
            refine g_ic_4 dX4_readClause_138 ?_
            refine g_ic_0 dX4_readClause_139 ?_
            refine g_callV dX4_readClause_140 cv_X4_74 (as' := [_, _]) hp_8 rfl (r_write tp h) (by omega) rfl rfl (Nat.le_of_ble_eq_true rfl) ?_
            rintro _ _ ⟨rfl, A1, I1, h, rfl⟩
            exact g_vret dX4_readClause_143 (hQ _ _ h)
          · refine g_aload_n dX4_readClause_87 rfl rfl ?_
            refine g_get dX4_readClause_88 fl_X4_20 hp_8 rfl ?_
            refine g_bipush (v := 63) dX4_readClause_91 (by decide) ?_
            refine g_callV dX4_readClause_93 cv_X4_59 (as' := [_]) hp_9 rfl (r_expect tp (by decide) h) (by omega) rfl rfl (Nat.le_of_ble_eq_true rfl) ?_
            rintro _ _ ⟨rfl, A1, I1, h, rfl⟩
            refine g_aload_n dX4_readClause_96 rfl rfl ?_
            refine g_get dX4_readClause_97 fl_X4_27 hp_8 rfl ?_
            refine g_istore_n dX4_readClause_100 rfl (by decide) ?_
            refine g_aload_n dX4_readClause_101 rfl rfl ?_
            refine g_ic_3 dX4_readClause_102 ?_
            refine g_ic_0 dX4_readClause_103 ?_
            refine g_callV dX4_readClause_104 cv_X4_74 (as' := [_, _]) hp_8 rfl (r_write tp h) (by omega) rfl rfl (Nat.le_of_ble_eq_true rfl) ?_
            rintro _ _ ⟨rfl, A1, I1, h, rfl⟩
            refine g_aload_n dX4_readClause_107 rfl rfl ?_
            refine g_ic_0 dX4_readClause_108 ?_
            refine g_callV dX4_readClause_109 cv_X4_63 (as' := [_]) hp_8 rfl (r_sum0 tp h) (by omega) rfl rfl (Nat.le_of_ble_eq_true rfl) ?_
            rintro _ _ ⟨rfl, A1, I1, h, rfl⟩
            refine g_aload_n dX4_readClause_112 rfl rfl ?_
            refine g_ic_4 dX4_readClause_113 ?_
            refine g_ic_0 dX4_readClause_114 ?_
            refine g_callV dX4_readClause_115 cv_X4_74 (as' := [_, _]) hp_8 rfl (r_write tp h) (by omega) rfl rfl (Nat.le_of_ble_eq_true rfl) ?_
            rintro _ _ ⟨rfl, A1, I1, h, rfl⟩
            refine g_aload_n dX4_readClause_118 rfl rfl ?_
            refine g_get dX4_readClause_119 fl_X4_9 hp_8 rfl ?_
            refine g_iload_n dX4_readClause_122 rfl rfl ?_
            refine g_sipush (v := 30000) dX4_readClause_123 (by decide) ?_
            refine g_aload_n dX4_readClause_126 rfl rfl ?_
            refine g_get dX4_readClause_127 fl_X4_27 hp_8 rfl ?_
            refine g_iadd dX4_readClause_130 ?_
            refine g_callS dX4_readClause_131 cs_X4_55 (as := [_, _, _]) (k_setCell hp_10 (by decide)) (by omega) rfl rfl (Nat.le_of_ble_eq_true rfl) ?_
            rintro _ _ ⟨rfl, rfl⟩
            rw [hq_10]
            refine g_goto (tgt := 143) dX4_readClause_134 (by decide) ?_
            exact g_vret dX4_readClause_143 (hQ _ _ (SS_bad10 h))
        · refine g_aload_n dX4_readClause_48 rfl rfl ?_
          refine g_ic_0 dX4_readClause_49 ?_
          refine g_callV dX4_readClause_50 cv_X4_63 (as' := [_]) hp_8 rfl (r_sum0 tp h) (by omega) rfl rfl (Nat.le_of_ble_eq_true rfl) ?_
          rintro _ _ ⟨rfl, A1, I1, h, rfl⟩
          refine g_aload_n dX4_readClause_53 rfl rfl ?_
          refine g_get dX4_readClause_54 fl_X4_20 hp_8 rfl ?_
          refine g_callV dX4_readClause_57 cv_X4_38 (as' := []) hp_9 rfl (r_look tp h) (by omega) rfl rfl (Nat.le_of_ble_eq_true rfl) ?_
          rintro _ _ ⟨v57, rfl, A1, I1, h, hv, rfl⟩
          refine g_callS dX4_readClause_60 cs_X4_66 (as := [_]) r_isC (by omega) rfl rfl (Nat.le_of_ble_eq_true rfl) ?_
          rintro _ _ ⟨rfl, rfl⟩
          refine g_istore_n dX4_readClause_63 rfl (by decide) ?_
          refine g_iload_n dX4_readClause_64 rfl rfl ?_
          refine g_if_eq (tgt := 83) dX4_readClause_65 (by decide) (fun c_65 => ?_) (fun c_65 => ?_)
          · refine g_iload_n dX4_readClause_83 rfl rfl ?_
            refine g_if_eq (tgt := 137) dX4_readClause_84 (by decide) (fun c_84 => ?_) (fun c_84 => ?_)
            · refine g_aload_n dX4_readClause_137 rfl rfl ?_
              refine g_ic_4 dX4_readClause_138 ?_
              refine g_ic_0 dX4_readClause_139 ?_
              refine g_callV dX4_readClause_140 cv_X4_74 (as' := [_, _]) hp_8 rfl (r_write tp h) (by omega) rfl rfl (Nat.le_of_ble_eq_true rfl) ?_
              rintro _ _ ⟨rfl, A1, I1, h, rfl⟩
              exact g_vret dX4_readClause_143 (hQ _ _ h)
            · refine g_aload_n dX4_readClause_87 rfl rfl ?_
              refine g_get dX4_readClause_88 fl_X4_20 hp_8 rfl ?_
              refine g_bipush (v := 63) dX4_readClause_91 (by decide) ?_
              refine g_callV dX4_readClause_93 cv_X4_59 (as' := [_]) hp_9 rfl (r_expect tp (by decide) h) (by omega) rfl rfl (Nat.le_of_ble_eq_true rfl) ?_
              rintro _ _ ⟨rfl, A1, I1, h, rfl⟩
              refine g_aload_n dX4_readClause_96 rfl rfl ?_
              refine g_get dX4_readClause_97 fl_X4_27 hp_8 rfl ?_
              refine g_istore_n dX4_readClause_100 rfl (by decide) ?_
              refine g_aload_n dX4_readClause_101 rfl rfl ?_
              refine g_ic_3 dX4_readClause_102 ?_
              refine g_ic_0 dX4_readClause_103 ?_
              refine g_callV dX4_readClause_104 cv_X4_74 (as' := [_, _]) hp_8 rfl (r_write tp h) (by omega) rfl rfl (Nat.le_of_ble_eq_true rfl) ?_
              rintro _ _ ⟨rfl, A1, I1, h, rfl⟩
              refine g_aload_n dX4_readClause_107 rfl rfl ?_
              refine g_ic_0 dX4_readClause_108 ?_
              refine g_callV dX4_readClause_109 cv_X4_63 (as' := [_]) hp_8 rfl (r_sum0 tp h) (by omega) rfl rfl (Nat.le_of_ble_eq_true rfl) ?_
              rintro _ _ ⟨rfl, A1, I1, h, rfl⟩
              refine g_aload_n dX4_readClause_112 rfl rfl ?_
              refine g_ic_4 dX4_readClause_113 ?_
              refine g_ic_0 dX4_readClause_114 ?_
              refine g_callV dX4_readClause_115 cv_X4_74 (as' := [_, _]) hp_8 rfl (r_write tp h) (by omega) rfl rfl (Nat.le_of_ble_eq_true rfl) ?_
              rintro _ _ ⟨rfl, A1, I1, h, rfl⟩
              refine g_aload_n dX4_readClause_118 rfl rfl ?_
              refine g_get dX4_readClause_119 fl_X4_9 hp_8 rfl ?_
              refine g_iload_n dX4_readClause_122 rfl rfl ?_
              refine g_sipush (v := 30000) dX4_readClause_123 (by decide) ?_
              refine g_aload_n dX4_readClause_126 rfl rfl ?_
              refine g_get dX4_readClause_127 fl_X4_27 hp_8 rfl ?_
              refine g_iadd dX4_readClause_130 ?_
              refine g_callS dX4_readClause_131 cs_X4_55 (as := [_, _, _]) (k_setCell hp_10 (by decide)) (by omega) rfl rfl (Nat.le_of_ble_eq_true rfl) ?_
              rintro _ _ ⟨rfl, rfl⟩
              rw [hq_10]
              refine g_goto (tgt := 143) dX4_readClause_134 (by decide) ?_
              exact g_vret dX4_readClause_143 (hQ _ _ (SS_bad10 h))
          · refine g_aload_n dX4_readClause_68 rfl rfl ?_
            refine g_ic_0 dX4_readClause_69 ?_
            refine g_ic_1 dX4_readClause_70 ?_
            refine g_callV dX4_readClause_71 cv_X4_70 (as' := [_, _]) hp_8 rfl (r_cnd1 tp h) (by omega) rfl rfl (Nat.le_of_ble_eq_true rfl) ?_
            rintro _ _ ⟨rfl, A1, I1, h, rfl⟩
            refine g_goto (tgt := 83) dX4_readClause_74 (by decide) ?_
            refine g_iload_n dX4_readClause_83 rfl rfl ?_
            refine g_if_eq (tgt := 137) dX4_readClause_84 (by decide) (fun c_84 => ?_) (fun c_84 => ?_)
            · refine g_aload_n dX4_readClause_137 rfl rfl ?_
              refine g_ic_4 dX4_readClause_138 ?_
              refine g_ic_0 dX4_readClause_139 ?_
              refine g_callV dX4_readClause_140 cv_X4_74 (as' := [_, _]) hp_8 rfl (r_write tp h) (by omega) rfl rfl (Nat.le_of_ble_eq_true rfl) ?_
              rintro _ _ ⟨rfl, A1, I1, h, rfl⟩
              exact g_vret dX4_readClause_143 (hQ _ _ h)
            · refine g_aload_n dX4_readClause_87 rfl rfl ?_
              refine g_get dX4_readClause_88 fl_X4_20 hp_8 rfl ?_
              refine g_bipush (v := 63) dX4_readClause_91 (by decide) ?_
              refine g_callV dX4_readClause_93 cv_X4_59 (as' := [_]) hp_9 rfl (r_expect tp (by decide) h) (by omega) rfl rfl (Nat.le_of_ble_eq_true rfl) ?_
              rintro _ _ ⟨rfl, A1, I1, h, rfl⟩
              refine g_aload_n dX4_readClause_96 rfl rfl ?_
              refine g_get dX4_readClause_97 fl_X4_27 hp_8 rfl ?_
              refine g_istore_n dX4_readClause_100 rfl (by decide) ?_
              refine g_aload_n dX4_readClause_101 rfl rfl ?_
              refine g_ic_3 dX4_readClause_102 ?_
              refine g_ic_0 dX4_readClause_103 ?_
              refine g_callV dX4_readClause_104 cv_X4_74 (as' := [_, _]) hp_8 rfl (r_write tp h) (by omega) rfl rfl (Nat.le_of_ble_eq_true rfl) ?_
              rintro _ _ ⟨rfl, A1, I1, h, rfl⟩
              refine g_aload_n dX4_readClause_107 rfl rfl ?_
              refine g_ic_0 dX4_readClause_108 ?_
              refine g_callV dX4_readClause_109 cv_X4_63 (as' := [_]) hp_8 rfl (r_sum0 tp h) (by omega) rfl rfl (Nat.le_of_ble_eq_true rfl) ?_
              rintro _ _ ⟨rfl, A1, I1, h, rfl⟩
              refine g_aload_n dX4_readClause_112 rfl rfl ?_
              refine g_ic_4 dX4_readClause_113 ?_
              refine g_ic_0 dX4_readClause_114 ?_
              refine g_callV dX4_readClause_115 cv_X4_74 (as' := [_, _]) hp_8 rfl (r_write tp h) (by omega) rfl rfl (Nat.le_of_ble_eq_true rfl) ?_
              rintro _ _ ⟨rfl, A1, I1, h, rfl⟩
              refine g_aload_n dX4_readClause_118 rfl rfl ?_
              refine g_get dX4_readClause_119 fl_X4_9 hp_8 rfl ?_
              refine g_iload_n dX4_readClause_122 rfl rfl ?_
              refine g_sipush (v := 30000) dX4_readClause_123 (by decide) ?_
              refine g_aload_n dX4_readClause_126 rfl rfl ?_
              refine g_get dX4_readClause_127 fl_X4_27 hp_8 rfl ?_
              refine g_iadd dX4_readClause_130 ?_
              refine g_callS dX4_readClause_131 cs_X4_55 (as := [_, _, _]) (k_setCell hp_10 (by decide)) (by omega) rfl rfl (Nat.le_of_ble_eq_true rfl) ?_
              rintro _ _ ⟨rfl, rfl⟩
              rw [hq_10]
              refine g_goto (tgt := 143) dX4_readClause_134 (by decide) ?_
              exact g_vret dX4_readClause_143 (hQ _ _ (SS_bad10 h))
  · skip
    obtain rfl := hs b u rfl
    refine g_aload_n dX4_readClause_18 rfl rfl ?_
    refine g_get dX4_readClause_19 fl_X4_20 hp_8 rfl ?_
    refine g_callV dX4_readClause_22 cv_X4_38 (as' := []) hp_9 rfl (r_look tp h) (by omega) rfl rfl (Nat.le_of_ble_eq_true rfl) ?_
    rintro _ _ ⟨v22, rfl, A1, I1, h, hv, rfl⟩
    obtain rfl := hv _ _ rfl
    refine g_istore_n dX4_readClause_25 rfl (by decide) ?_
    refine g_iload_n dX4_readClause_26 rfl rfl ?_
    refine g_bipush (v := 33) dX4_readClause_27 (by decide) ?_
    refine g_icmp_eq (tgt := 38) dX4_readClause_29 (by decide) (fun c_29 => ?_) (fun c_29 => ?_)
    · refine g_ic_1 dX4_readClause_38 ?_
      refine g_goto (tgt := 43) dX4_readClause_39 (by decide) ?_
      refine g_istore_n dX4_readClause_43 rfl (by decide) ?_
      refine g_iload_n dX4_readClause_44 rfl rfl ?_
      refine g_if_ne (tgt := 77) dX4_readClause_45 (by decide) (fun c_45 => ?_) (fun c_45 => ?_)
      · refine g_aload_n dX4_readClause_77 rfl rfl ?_
        refine g_ic_0 dX4_readClause_78 ?_
        refine g_ic_0 dX4_readClause_79 ?_
        refine g_callV dX4_readClause_80 cv_X4_70 (as' := [_, _]) hp_8 rfl (r_cnd0 tp h) (by omega) rfl rfl (Nat.le_of_ble_eq_true rfl) ?_
        rintro _ _ ⟨rfl, A1, I1, h, rfl⟩
        refine g_iload_n dX4_readClause_83 rfl rfl ?_
        refine g_if_eq (tgt := 137) dX4_readClause_84 (by decide) (fun c_84 => ?_) (fun c_84 => ?_)
        · exact absurd c_84 (by decide)
        · refine r_cl87 tp h (fun A8 I8 h8 => hQ A8 I8 ?_)
          rw [show clB (A0 2) n (.inr (b, [])) = clT (A0 2) n (condP (A0 2) n (sk (A0 2) n b)) from if_pos (Or.inl c_29), ← bnd_nil (a := sk (A0 2) n b) (f := condP (A0 2) n)]
          exact h8
      · exact absurd c_45 (by decide)
    · refine g_iload_n dX4_readClause_32 rfl rfl ?_
      refine g_bipush (v := 40) dX4_readClause_33 (by decide) ?_
      refine g_icmp_ne (tgt := 42) dX4_readClause_35 (by decide) (fun c_35 => ?_) (fun c_35 => ?_)
      · refine g_ic_0 dX4_readClause_42 ?_
        refine g_istore_n dX4_readClause_43 rfl (by decide) ?_
        refine g_iload_n dX4_readClause_44 rfl rfl ?_
        refine g_if_ne (tgt := 77) dX4_readClause_45 (by decide) (fun c_45 => ?_) (fun c_45 => ?_)
        · exact absurd rfl c_45
        · refine g_aload_n dX4_readClause_48 rfl rfl ?_
          refine g_ic_0 dX4_readClause_49 ?_
          refine g_callV dX4_readClause_50 cv_X4_63 (as' := [_]) hp_8 rfl (r_sum0 tp h) (by omega) rfl rfl (Nat.le_of_ble_eq_true rfl) ?_
          rintro _ _ ⟨rfl, A1, I1, h, rfl⟩
          refine r_cl53 tp (s := sumP (A0 2) n 6 (sk (A0 2) n b)) (by rw [← bnd_nil (a := sk (A0 2) n b) (f := sumP (A0 2) n 6)]; exact h) (fun A8 I8 h8 => hQ A8 I8 ?_)
          rw [show clB (A0 2) n (.inr (b, [])) = clS (A0 2) n (sumP (A0 2) n 6 (sk (A0 2) n b)) from if_neg (fun z => z.elim c_29 c_35)]
          exact h8
      · refine g_ic_1 dX4_readClause_38 ?_
        refine g_goto (tgt := 43) dX4_readClause_39 (by decide) ?_
        refine g_istore_n dX4_readClause_43 rfl (by decide) ?_
        refine g_iload_n dX4_readClause_44 rfl rfl ?_
        refine g_if_ne (tgt := 77) dX4_readClause_45 (by decide) (fun c_45 => ?_) (fun c_45 => ?_)
        · refine g_aload_n dX4_readClause_77 rfl rfl ?_
          refine g_ic_0 dX4_readClause_78 ?_
          refine g_ic_0 dX4_readClause_79 ?_
          refine g_callV dX4_readClause_80 cv_X4_70 (as' := [_, _]) hp_8 rfl (r_cnd0 tp h) (by omega) rfl rfl (Nat.le_of_ble_eq_true rfl) ?_
          rintro _ _ ⟨rfl, A1, I1, h, rfl⟩
          refine g_iload_n dX4_readClause_83 rfl rfl ?_
          refine g_if_eq (tgt := 137) dX4_readClause_84 (by decide) (fun c_84 => ?_) (fun c_84 => ?_)
          · exact absurd c_84 (by decide)
          · refine r_cl87 tp h (fun A8 I8 h8 => hQ A8 I8 ?_)
            rw [show clB (A0 2) n (.inr (b, [])) = clT (A0 2) n (condP (A0 2) n (sk (A0 2) n b)) from if_pos (Or.inr c_35), ← bnd_nil (a := sk (A0 2) n b) (f := condP (A0 2) n)]
            exact h8
        · exact absurd c_45 (by decide)

theorem exS_nil {T : Nat → Int32} {n : Nat} {c : Int32} {s : PR TL} (h : ∀ b u, s = .inr (b, u) → u = []) : ∀ b u, exS T n c s = .inr (b, u) → u = [] := by
  intro b u e
  cases s with
  | inl p => cases e
  | inr q =>
    obtain ⟨b0, u0⟩ := q
    have h0 := h b0 u0 rfl
    subst h0
    have e : (if bt T n (sk T n b0) = c then .inr (sk T n b0 + 1, []) else .inl (sk T n b0) : PR TL) = .inr (b, u) := e
    by_cases hc : bt T n (sk T n b0) = c
    · rw [if_pos hc] at e; cases e; rfl
    · rw [if_neg hc] at e; cases e
set_option maxHeartbeats 4000000 in
set_option maxRecDepth 100000 in
theorem r_clause {A0 I0 A I : Nat → Nat → Int32} {L : Nat → Nat → Int64} {X : Nat → Int64} {n a : Nat} {w : TL} {k : Nat} (tp : tpS A0 I0 n) (h : SS A0 I0 n w k (.inr (a, [])) A I) : Con 37 yX4_readClause cX4_readClause 4 none [.ref 8] (hp A L I X) (RQ A0 L I0 X n w k (toW w.length (clP (A0 2) n a))) := by
  refine m_con (by decide) (Nat.le_of_ble_eq_true rfl) ?_
  refine g_aload_n dX4_readClause_0 rfl rfl ?_
  refine g_get dX4_readClause_1 fl_X4_20 hp_8 rfl ?_
  refine g_bipush (v := 121) dX4_readClause_4 (by decide) ?_
  refine g_callV dX4_readClause_6 cv_X4_59 (as' := [_]) hp_9 rfl (r_expect tp (by decide) h) (by omega) rfl rfl (Nat.le_of_ble_eq_true rfl) ?_
  rintro _ _ ⟨rfl, A1, I1, h, rfl⟩
  refine g_aload_n dX4_readClause_9 rfl rfl ?_
  refine g_get dX4_readClause_10 fl_X4_20 hp_8 rfl ?_
  refine g_bipush (v := 58) dX4_readClause_13 (by decide) ?_
  refine g_callV dX4_readClause_15 cv_X4_59 (as' := [_]) hp_9 rfl (r_expect tp (by decide) h) (by omega) rfl rfl (Nat.le_of_ble_eq_true rfl) ?_
  rintro _ _ ⟨rfl, A1, I1, h, rfl⟩
  exact r_cl18 tp (exS_nil (exS_nil (by intro b u e; cases e; rfl))) (SS_less (by omega) h) (fun A8 I8 h8 => ⟨rfl, A8, I8, h8, rfl⟩)
theorem r_clauseB {A0 I0 A I : Nat → Nat → Int32} {L : Nat → Nat → Int64} {X : Nat → Int64} {n p : Nat} {w : TL} {k : Nat} (tp : tpS A0 I0 n) (h : SS A0 I0 n w k (.inl p) A I) : Con 37 yX4_readClause cX4_readClause 4 none [.ref 8] (hp A L I X) (RQ A0 L I0 X n w k (.inl p)) := by
  refine m_con (by decide) (Nat.le_of_ble_eq_true rfl) ?_
  refine g_aload_n dX4_readClause_0 rfl rfl ?_
  refine g_get dX4_readClause_1 fl_X4_20 hp_8 rfl ?_
  refine g_bipush (v := 121) dX4_readClause_4 (by decide) ?_
  refine g_callV dX4_readClause_6 cv_X4_59 (as' := [_]) hp_9 rfl (r_expect tp (by decide) h) (by omega) rfl rfl (Nat.le_of_ble_eq_true rfl) ?_
  rintro _ _ ⟨rfl, A1, I1, h, rfl⟩
  refine g_aload_n dX4_readClause_9 rfl rfl ?_
  refine g_get dX4_readClause_10 fl_X4_20 hp_8 rfl ?_
  refine g_bipush (v := 58) dX4_readClause_13 (by decide) ?_
  refine g_callV dX4_readClause_15 cv_X4_59 (as' := [_]) hp_9 rfl (r_expect tp (by decide) h) (by omega) rfl rfl (Nat.le_of_ble_eq_true rfl) ?_
  rintro _ _ ⟨rfl, A1, I1, h, rfl⟩
  refine g_aload_n dX4_readClause_18 rfl rfl ?_
  refine g_get dX4_readClause_19 fl_X4_20 hp_8 rfl ?_
  refine g_callV dX4_readClause_22 cv_X4_38 (as' := []) hp_9 rfl (r_look tp h) (by omega) rfl rfl (Nat.le_of_ble_eq_true rfl) ?_
  rintro _ _ ⟨v22, rfl, A1, I1, h, hv, rfl⟩
  refine g_istore_n dX4_readClause_25 rfl (by decide) ?_
  refine g_iload_n dX4_readClause_26 rfl rfl ?_
  refine g_bipush (v := 33) dX4_readClause_27 (by decide) ?_
  refine g_icmp_eq (tgt := 38) dX4_readClause_29 (by decide) (fun c_29 => ?_) (fun c_29 => ?_)
  · refine g_ic_1 dX4_readClause_38 ?_
    refine g_goto (tgt := 43) dX4_readClause_39 (by decide) ?_
    refine g_istore_n dX4_readClause_43 rfl (by decide) ?_
    refine g_iload_n dX4_readClause_44 rfl rfl ?_
    refine g_if_ne (tgt := 77) dX4_readClause_45 (by decide) (fun c_45 => ?_) (fun c_45 => ?_)
    · refine g_aload_n dX4_readClause_77 rfl rfl ?_
      refine g_ic_0 dX4_readClause_78 ?_
      refine g_ic_0 dX4_readClause_79 ?_
      refine g_callV dX4_readClause_80 cv_X4_70 (as' := [_, _]) hp_8 rfl (r_cnd0 tp h) (by omega) rfl rfl (Nat.le_of_ble_eq_true rfl) ?_
      rintro _ _ ⟨rfl, A1, I1, h, rfl⟩
      refine g_iload_n dX4_readClause_83 rfl rfl ?_
      refine g_if_eq (tgt := 137) dX4_readClause_84 (by decide) (fun c_84 => ?_) (fun c_84 => ?_)
      · refine g_aload_n dX4_readClause_137 rfl rfl ?_
        refine g_ic_4 dX4_readClause_138 ?_
        refine g_ic_0 dX4_readClause_139 ?_
        refine g_callV dX4_readClause_140 cv_X4_74 (as' := [_, _]) hp_8 rfl (r_write tp h) (by omega) rfl rfl (Nat.le_of_ble_eq_true rfl) ?_
        rintro _ _ ⟨rfl, A1, I1, h, rfl⟩
        exact g_vret dX4_readClause_143 ⟨rfl, _, _, h, rfl⟩
      · refine g_aload_n dX4_readClause_87 rfl rfl ?_
        refine g_get dX4_readClause_88 fl_X4_20 hp_8 rfl ?_
        refine g_bipush (v := 63) dX4_readClause_91 (by decide) ?_
        refine g_callV dX4_readClause_93 cv_X4_59 (as' := [_]) hp_9 rfl (r_expect tp (by decide) h) (by omega) rfl rfl (Nat.le_of_ble_eq_true rfl) ?_
        rintro _ _ ⟨rfl, A1, I1, h, rfl⟩
        refine g_aload_n dX4_readClause_96 rfl rfl ?_
        refine g_get dX4_readClause_97 fl_X4_27 hp_8 rfl ?_
        refine g_istore_n dX4_readClause_100 rfl (by decide) ?_
        refine g_aload_n dX4_readClause_101 rfl rfl ?_
        refine g_ic_3 dX4_readClause_102 ?_
        refine g_ic_0 dX4_readClause_103 ?_
        refine g_callV dX4_readClause_104 cv_X4_74 (as' := [_, _]) hp_8 rfl (r_write tp h) (by omega) rfl rfl (Nat.le_of_ble_eq_true rfl) ?_
        rintro _ _ ⟨rfl, A1, I1, h, rfl⟩
        refine g_aload_n dX4_readClause_107 rfl rfl ?_
        refine g_ic_0 dX4_readClause_108 ?_
        refine g_callV dX4_readClause_109 cv_X4_63 (as' := [_]) hp_8 rfl (r_sum0 tp h) (by omega) rfl rfl (Nat.le_of_ble_eq_true rfl) ?_
        rintro _ _ ⟨rfl, A1, I1, h, rfl⟩
        refine g_aload_n dX4_readClause_112 rfl rfl ?_
        refine g_ic_4 dX4_readClause_113 ?_
        refine g_ic_0 dX4_readClause_114 ?_
        refine g_callV dX4_readClause_115 cv_X4_74 (as' := [_, _]) hp_8 rfl (r_write tp h) (by omega) rfl rfl (Nat.le_of_ble_eq_true rfl) ?_
        rintro _ _ ⟨rfl, A1, I1, h, rfl⟩
        refine g_aload_n dX4_readClause_118 rfl rfl ?_
        refine g_get dX4_readClause_119 fl_X4_9 hp_8 rfl ?_
        refine g_iload_n dX4_readClause_122 rfl rfl ?_
        refine g_sipush (v := 30000) dX4_readClause_123 (by decide) ?_
        refine g_aload_n dX4_readClause_126 rfl rfl ?_
        refine g_get dX4_readClause_127 fl_X4_27 hp_8 rfl ?_
        refine g_iadd dX4_readClause_130 ?_
        refine g_callS dX4_readClause_131 cs_X4_55 (as := [_, _, _]) (k_setCell hp_10 (by decide)) (by omega) rfl rfl (Nat.le_of_ble_eq_true rfl) ?_
        rintro _ _ ⟨rfl, rfl⟩
        rw [hq_10]
        refine g_goto (tgt := 143) dX4_readClause_134 (by decide) ?_
        exact g_vret dX4_readClause_143 ⟨rfl, _, _, SS_bad10 h, rfl⟩
    · refine g_aload_n dX4_readClause_48 rfl rfl ?_
      refine g_ic_0 dX4_readClause_49 ?_
      refine g_callV dX4_readClause_50 cv_X4_63 (as' := [_]) hp_8 rfl (r_sum0 tp h) (by omega) rfl rfl (Nat.le_of_ble_eq_true rfl) ?_
      rintro _ _ ⟨rfl, A1, I1, h, rfl⟩
      refine g_aload_n dX4_readClause_53 rfl rfl ?_
      refine g_get dX4_readClause_54 fl_X4_20 hp_8 rfl ?_
      refine g_callV dX4_readClause_57 cv_X4_38 (as' := []) hp_9 rfl (r_look tp h) (by omega) rfl rfl (Nat.le_of_ble_eq_true rfl) ?_
      rintro _ _ ⟨v57, rfl, A1, I1, h, hv, rfl⟩
      refine g_callS dX4_readClause_60 cs_X4_66 (as := [_]) r_isC (by omega) rfl rfl (Nat.le_of_ble_eq_true rfl) ?_
      rintro _ _ ⟨rfl, rfl⟩
      refine g_istore_n dX4_readClause_63 rfl (by decide) ?_
      refine g_iload_n dX4_readClause_64 rfl rfl ?_
      refine g_if_eq (tgt := 83) dX4_readClause_65 (by decide) (fun c_65 => ?_) (fun c_65 => ?_)
      · refine g_iload_n dX4_readClause_83 rfl rfl ?_
        refine g_if_eq (tgt := 137) dX4_readClause_84 (by decide) (fun c_84 => ?_) (fun c_84 => ?_)
        · refine g_aload_n dX4_readClause_137 rfl rfl ?_
          refine g_ic_4 dX4_readClause_138 ?_
          refine g_ic_0 dX4_readClause_139 ?_
          refine g_callV dX4_readClause_140 cv_X4_74 (as' := [_, _]) hp_8 rfl (r_write tp h) (by omega) rfl rfl (Nat.le_of_ble_eq_true rfl) ?_
          rintro _ _ ⟨rfl, A1, I1, h, rfl⟩
          exact g_vret dX4_readClause_143 ⟨rfl, _, _, h, rfl⟩
        · refine g_aload_n dX4_readClause_87 rfl rfl ?_
          refine g_get dX4_readClause_88 fl_X4_20 hp_8 rfl ?_
          refine g_bipush (v := 63) dX4_readClause_91 (by decide) ?_
          refine g_callV dX4_readClause_93 cv_X4_59 (as' := [_]) hp_9 rfl (r_expect tp (by decide) h) (by omega) rfl rfl (Nat.le_of_ble_eq_true rfl) ?_
          rintro _ _ ⟨rfl, A1, I1, h, rfl⟩
          refine g_aload_n dX4_readClause_96 rfl rfl ?_
          refine g_get dX4_readClause_97 fl_X4_27 hp_8 rfl ?_
          refine g_istore_n dX4_readClause_100 rfl (by decide) ?_
          refine g_aload_n dX4_readClause_101 rfl rfl ?_
          refine g_ic_3 dX4_readClause_102 ?_
          refine g_ic_0 dX4_readClause_103 ?_
          refine g_callV dX4_readClause_104 cv_X4_74 (as' := [_, _]) hp_8 rfl (r_write tp h) (by omega) rfl rfl (Nat.le_of_ble_eq_true rfl) ?_
          rintro _ _ ⟨rfl, A1, I1, h, rfl⟩
          refine g_aload_n dX4_readClause_107 rfl rfl ?_
          refine g_ic_0 dX4_readClause_108 ?_
          refine g_callV dX4_readClause_109 cv_X4_63 (as' := [_]) hp_8 rfl (r_sum0 tp h) (by omega) rfl rfl (Nat.le_of_ble_eq_true rfl) ?_
          rintro _ _ ⟨rfl, A1, I1, h, rfl⟩
          refine g_aload_n dX4_readClause_112 rfl rfl ?_
          refine g_ic_4 dX4_readClause_113 ?_
          refine g_ic_0 dX4_readClause_114 ?_
          refine g_callV dX4_readClause_115 cv_X4_74 (as' := [_, _]) hp_8 rfl (r_write tp h) (by omega) rfl rfl (Nat.le_of_ble_eq_true rfl) ?_
          rintro _ _ ⟨rfl, A1, I1, h, rfl⟩
          refine g_aload_n dX4_readClause_118 rfl rfl ?_
          refine g_get dX4_readClause_119 fl_X4_9 hp_8 rfl ?_
          refine g_iload_n dX4_readClause_122 rfl rfl ?_
          refine g_sipush (v := 30000) dX4_readClause_123 (by decide) ?_
          refine g_aload_n dX4_readClause_126 rfl rfl ?_
          refine g_get dX4_readClause_127 fl_X4_27 hp_8 rfl ?_
          refine g_iadd dX4_readClause_130 ?_
          refine g_callS dX4_readClause_131 cs_X4_55 (as := [_, _, _]) (k_setCell hp_10 (by decide)) (by omega) rfl rfl (Nat.le_of_ble_eq_true rfl) ?_
          rintro _ _ ⟨rfl, rfl⟩
          rw [hq_10]
          refine g_goto (tgt := 143) dX4_readClause_134 (by decide) ?_
          exact g_vret dX4_readClause_143 ⟨rfl, _, _, SS_bad10 h, rfl⟩
      · refine g_aload_n dX4_readClause_68 rfl rfl ?_
        refine g_ic_0 dX4_readClause_69 ?_
        refine g_ic_1 dX4_readClause_70 ?_
        refine g_callV dX4_readClause_71 cv_X4_70 (as' := [_, _]) hp_8 rfl (r_cnd1 tp h) (by omega) rfl rfl (Nat.le_of_ble_eq_true rfl) ?_
        rintro _ _ ⟨rfl, A1, I1, h, rfl⟩
        refine g_goto (tgt := 83) dX4_readClause_74 (by decide) ?_
        refine g_iload_n dX4_readClause_83 rfl rfl ?_
        refine g_if_eq (tgt := 137) dX4_readClause_84 (by decide) (fun c_84 => ?_) (fun c_84 => ?_)
        · refine g_aload_n dX4_readClause_137 rfl rfl ?_
          refine g_ic_4 dX4_readClause_138 ?_
          refine g_ic_0 dX4_readClause_139 ?_
          refine g_callV dX4_readClause_140 cv_X4_74 (as' := [_, _]) hp_8 rfl (r_write tp h) (by omega) rfl rfl (Nat.le_of_ble_eq_true rfl) ?_
          rintro _ _ ⟨rfl, A1, I1, h, rfl⟩
          exact g_vret dX4_readClause_143 ⟨rfl, _, _, h, rfl⟩
        · refine g_aload_n dX4_readClause_87 rfl rfl ?_
          refine g_get dX4_readClause_88 fl_X4_20 hp_8 rfl ?_
          refine g_bipush (v := 63) dX4_readClause_91 (by decide) ?_
          refine g_callV dX4_readClause_93 cv_X4_59 (as' := [_]) hp_9 rfl (r_expect tp (by decide) h) (by omega) rfl rfl (Nat.le_of_ble_eq_true rfl) ?_
          rintro _ _ ⟨rfl, A1, I1, h, rfl⟩
          refine g_aload_n dX4_readClause_96 rfl rfl ?_
          refine g_get dX4_readClause_97 fl_X4_27 hp_8 rfl ?_
          refine g_istore_n dX4_readClause_100 rfl (by decide) ?_
          refine g_aload_n dX4_readClause_101 rfl rfl ?_
          refine g_ic_3 dX4_readClause_102 ?_
          refine g_ic_0 dX4_readClause_103 ?_
          refine g_callV dX4_readClause_104 cv_X4_74 (as' := [_, _]) hp_8 rfl (r_write tp h) (by omega) rfl rfl (Nat.le_of_ble_eq_true rfl) ?_
          rintro _ _ ⟨rfl, A1, I1, h, rfl⟩
          refine g_aload_n dX4_readClause_107 rfl rfl ?_
          refine g_ic_0 dX4_readClause_108 ?_
          refine g_callV dX4_readClause_109 cv_X4_63 (as' := [_]) hp_8 rfl (r_sum0 tp h) (by omega) rfl rfl (Nat.le_of_ble_eq_true rfl) ?_
          rintro _ _ ⟨rfl, A1, I1, h, rfl⟩
          refine g_aload_n dX4_readClause_112 rfl rfl ?_
          refine g_ic_4 dX4_readClause_113 ?_
          refine g_ic_0 dX4_readClause_114 ?_
          refine g_callV dX4_readClause_115 cv_X4_74 (as' := [_, _]) hp_8 rfl (r_write tp h) (by omega) rfl rfl (Nat.le_of_ble_eq_true rfl) ?_
          rintro _ _ ⟨rfl, A1, I1, h, rfl⟩
          refine g_aload_n dX4_readClause_118 rfl rfl ?_
          refine g_get dX4_readClause_119 fl_X4_9 hp_8 rfl ?_
          refine g_iload_n dX4_readClause_122 rfl rfl ?_
          refine g_sipush (v := 30000) dX4_readClause_123 (by decide) ?_
          refine g_aload_n dX4_readClause_126 rfl rfl ?_
          refine g_get dX4_readClause_127 fl_X4_27 hp_8 rfl ?_
          refine g_iadd dX4_readClause_130 ?_
          refine g_callS dX4_readClause_131 cs_X4_55 (as := [_, _, _]) (k_setCell hp_10 (by decide)) (by omega) rfl rfl (Nat.le_of_ble_eq_true rfl) ?_
          rintro _ _ ⟨rfl, rfl⟩
          rw [hq_10]
          refine g_goto (tgt := 143) dX4_readClause_134 (by decide) ?_
          exact g_vret dX4_readClause_143 ⟨rfl, _, _, SS_bad10 h, rfl⟩
  · refine g_iload_n dX4_readClause_32 rfl rfl ?_
    refine g_bipush (v := 40) dX4_readClause_33 (by decide) ?_
    refine g_icmp_ne (tgt := 42) dX4_readClause_35 (by decide) (fun c_35 => ?_) (fun c_35 => ?_)
    · refine g_ic_0 dX4_readClause_42 ?_
      refine g_istore_n dX4_readClause_43 rfl (by decide) ?_
      refine g_iload_n dX4_readClause_44 rfl rfl ?_
      refine g_if_ne (tgt := 77) dX4_readClause_45 (by decide) (fun c_45 => ?_) (fun c_45 => ?_)
      · refine g_aload_n dX4_readClause_77 rfl rfl ?_
        refine g_ic_0 dX4_readClause_78 ?_
        refine g_ic_0 dX4_readClause_79 ?_
        refine g_callV dX4_readClause_80 cv_X4_70 (as' := [_, _]) hp_8 rfl (r_cnd0 tp h) (by omega) rfl rfl (Nat.le_of_ble_eq_true rfl) ?_
        rintro _ _ ⟨rfl, A1, I1, h, rfl⟩
        refine g_iload_n dX4_readClause_83 rfl rfl ?_
        refine g_if_eq (tgt := 137) dX4_readClause_84 (by decide) (fun c_84 => ?_) (fun c_84 => ?_)
        · refine g_aload_n dX4_readClause_137 rfl rfl ?_
          refine g_ic_4 dX4_readClause_138 ?_
          refine g_ic_0 dX4_readClause_139 ?_
          refine g_callV dX4_readClause_140 cv_X4_74 (as' := [_, _]) hp_8 rfl (r_write tp h) (by omega) rfl rfl (Nat.le_of_ble_eq_true rfl) ?_
          rintro _ _ ⟨rfl, A1, I1, h, rfl⟩
          exact g_vret dX4_readClause_143 ⟨rfl, _, _, h, rfl⟩
        · refine g_aload_n dX4_readClause_87 rfl rfl ?_
          refine g_get dX4_readClause_88 fl_X4_20 hp_8 rfl ?_
          refine g_bipush (v := 63) dX4_readClause_91 (by decide) ?_
          refine g_callV dX4_readClause_93 cv_X4_59 (as' := [_]) hp_9 rfl (r_expect tp (by decide) h) (by omega) rfl rfl (Nat.le_of_ble_eq_true rfl) ?_
          rintro _ _ ⟨rfl, A1, I1, h, rfl⟩
          refine g_aload_n dX4_readClause_96 rfl rfl ?_
          refine g_get dX4_readClause_97 fl_X4_27 hp_8 rfl ?_
          refine g_istore_n dX4_readClause_100 rfl (by decide) ?_
          refine g_aload_n dX4_readClause_101 rfl rfl ?_
          refine g_ic_3 dX4_readClause_102 ?_
          refine g_ic_0 dX4_readClause_103 ?_
          refine g_callV dX4_readClause_104 cv_X4_74 (as' := [_, _]) hp_8 rfl (r_write tp h) (by omega) rfl rfl (Nat.le_of_ble_eq_true rfl) ?_
          rintro _ _ ⟨rfl, A1, I1, h, rfl⟩
          refine g_aload_n dX4_readClause_107 rfl rfl ?_
          refine g_ic_0 dX4_readClause_108 ?_
          refine g_callV dX4_readClause_109 cv_X4_63 (as' := [_]) hp_8 rfl (r_sum0 tp h) (by omega) rfl rfl (Nat.le_of_ble_eq_true rfl) ?_
          rintro _ _ ⟨rfl, A1, I1, h, rfl⟩
          refine g_aload_n dX4_readClause_112 rfl rfl ?_
          refine g_ic_4 dX4_readClause_113 ?_
          refine g_ic_0 dX4_readClause_114 ?_
          refine g_callV dX4_readClause_115 cv_X4_74 (as' := [_, _]) hp_8 rfl (r_write tp h) (by omega) rfl rfl (Nat.le_of_ble_eq_true rfl) ?_
          rintro _ _ ⟨rfl, A1, I1, h, rfl⟩
          refine g_aload_n dX4_readClause_118 rfl rfl ?_
          refine g_get dX4_readClause_119 fl_X4_9 hp_8 rfl ?_
          refine g_iload_n dX4_readClause_122 rfl rfl ?_
          refine g_sipush (v := 30000) dX4_readClause_123 (by decide) ?_
          refine g_aload_n dX4_readClause_126 rfl rfl ?_
          refine g_get dX4_readClause_127 fl_X4_27 hp_8 rfl ?_
          refine g_iadd dX4_readClause_130 ?_
          refine g_callS dX4_readClause_131 cs_X4_55 (as := [_, _, _]) (k_setCell hp_10 (by decide)) (by omega) rfl rfl (Nat.le_of_ble_eq_true rfl) ?_
          rintro _ _ ⟨rfl, rfl⟩
          rw [hq_10]
          refine g_goto (tgt := 143) dX4_readClause_134 (by decide) ?_
          exact g_vret dX4_readClause_143 ⟨rfl, _, _, SS_bad10 h, rfl⟩
      · refine g_aload_n dX4_readClause_48 rfl rfl ?_
        refine g_ic_0 dX4_readClause_49 ?_
        refine g_callV dX4_readClause_50 cv_X4_63 (as' := [_]) hp_8 rfl (r_sum0 tp h) (by omega) rfl rfl (Nat.le_of_ble_eq_true rfl) ?_
        rintro _ _ ⟨rfl, A1, I1, h, rfl⟩
        refine g_aload_n dX4_readClause_53 rfl rfl ?_
        refine g_get dX4_readClause_54 fl_X4_20 hp_8 rfl ?_
        refine g_callV dX4_readClause_57 cv_X4_38 (as' := []) hp_9 rfl (r_look tp h) (by omega) rfl rfl (Nat.le_of_ble_eq_true rfl) ?_
        rintro _ _ ⟨v57, rfl, A1, I1, h, hv, rfl⟩
        refine g_callS dX4_readClause_60 cs_X4_66 (as := [_]) r_isC (by omega) rfl rfl (Nat.le_of_ble_eq_true rfl) ?_
        rintro _ _ ⟨rfl, rfl⟩
        refine g_istore_n dX4_readClause_63 rfl (by decide) ?_
        refine g_iload_n dX4_readClause_64 rfl rfl ?_
        refine g_if_eq (tgt := 83) dX4_readClause_65 (by decide) (fun c_65 => ?_) (fun c_65 => ?_)
        · refine g_iload_n dX4_readClause_83 rfl rfl ?_
          refine g_if_eq (tgt := 137) dX4_readClause_84 (by decide) (fun c_84 => ?_) (fun c_84 => ?_)
          · refine g_aload_n dX4_readClause_137 rfl rfl ?_
            refine g_ic_4 dX4_readClause_138 ?_
            refine g_ic_0 dX4_readClause_139 ?_
            refine g_callV dX4_readClause_140 cv_X4_74 (as' := [_, _]) hp_8 rfl (r_write tp h) (by omega) rfl rfl (Nat.le_of_ble_eq_true rfl) ?_
            rintro _ _ ⟨rfl, A1, I1, h, rfl⟩
            exact g_vret dX4_readClause_143 ⟨rfl, _, _, h, rfl⟩
          · refine g_aload_n dX4_readClause_87 rfl rfl ?_
            refine g_get dX4_readClause_88 fl_X4_20 hp_8 rfl ?_
            refine g_bipush (v := 63) dX4_readClause_91 (by decide) ?_
            refine g_callV dX4_readClause_93 cv_X4_59 (as' := [_]) hp_9 rfl (r_expect tp (by decide) h) (by omega) rfl rfl (Nat.le_of_ble_eq_true rfl) ?_
            rintro _ _ ⟨rfl, A1, I1, h, rfl⟩
            refine g_aload_n dX4_readClause_96 rfl rfl ?_
            refine g_get dX4_readClause_97 fl_X4_27 hp_8 rfl ?_
            refine g_istore_n dX4_readClause_100 rfl (by decide) ?_
            refine g_aload_n dX4_readClause_101 rfl rfl ?_
            refine g_ic_3 dX4_readClause_102 ?_
            refine g_ic_0 dX4_readClause_103 ?_
            refine g_callV dX4_readClause_104 cv_X4_74 (as' := [_, _]) hp_8 rfl (r_write tp h) (by omega) rfl rfl (Nat.le_of_ble_eq_true rfl) ?_
            rintro _ _ ⟨rfl, A1, I1, h, rfl⟩
            refine g_aload_n dX4_readClause_107 rfl rfl ?_
            refine g_ic_0 dX4_readClause_108 ?_
            refine g_callV dX4_readClause_109 cv_X4_63 (as' := [_]) hp_8 rfl (r_sum0 tp h) (by omega) rfl rfl (Nat.le_of_ble_eq_true rfl) ?_
            rintro _ _ ⟨rfl, A1, I1, h, rfl⟩
            refine g_aload_n dX4_readClause_112 rfl rfl ?_
            refine g_ic_4 dX4_readClause_113 ?_
            refine g_ic_0 dX4_readClause_114 ?_
            refine g_callV dX4_readClause_115 cv_X4_74 (as' := [_, _]) hp_8 rfl (r_write tp h) (by omega) rfl rfl (Nat.le_of_ble_eq_true rfl) ?_
            rintro _ _ ⟨rfl, A1, I1, h, rfl⟩
            refine g_aload_n dX4_readClause_118 rfl rfl ?_
            refine g_get dX4_readClause_119 fl_X4_9 hp_8 rfl ?_
            refine g_iload_n dX4_readClause_122 rfl rfl ?_
            refine g_sipush (v := 30000) dX4_readClause_123 (by decide) ?_
            refine g_aload_n dX4_readClause_126 rfl rfl ?_
            refine g_get dX4_readClause_127 fl_X4_27 hp_8 rfl ?_
            refine g_iadd dX4_readClause_130 ?_
            refine g_callS dX4_readClause_131 cs_X4_55 (as := [_, _, _]) (k_setCell hp_10 (by decide)) (by omega) rfl rfl (Nat.le_of_ble_eq_true rfl) ?_
            rintro _ _ ⟨rfl, rfl⟩
            rw [hq_10]
            refine g_goto (tgt := 143) dX4_readClause_134 (by decide) ?_
            exact g_vret dX4_readClause_143 ⟨rfl, _, _, SS_bad10 h, rfl⟩
        · refine g_aload_n dX4_readClause_68 rfl rfl ?_
          refine g_ic_0 dX4_readClause_69 ?_
          refine g_ic_1 dX4_readClause_70 ?_
          refine g_callV dX4_readClause_71 cv_X4_70 (as' := [_, _]) hp_8 rfl (r_cnd1 tp h) (by omega) rfl rfl (Nat.le_of_ble_eq_true rfl) ?_
          rintro _ _ ⟨rfl, A1, I1, h, rfl⟩
          refine g_goto (tgt := 83) dX4_readClause_74 (by decide) ?_
          refine g_iload_n dX4_readClause_83 rfl rfl ?_
          refine g_if_eq (tgt := 137) dX4_readClause_84 (by decide) (fun c_84 => ?_) (fun c_84 => ?_)
          · refine g_aload_n dX4_readClause_137 rfl rfl ?_
            refine g_ic_4 dX4_readClause_138 ?_
            refine g_ic_0 dX4_readClause_139 ?_
            refine g_callV dX4_readClause_140 cv_X4_74 (as' := [_, _]) hp_8 rfl (r_write tp h) (by omega) rfl rfl (Nat.le_of_ble_eq_true rfl) ?_
            rintro _ _ ⟨rfl, A1, I1, h, rfl⟩
            exact g_vret dX4_readClause_143 ⟨rfl, _, _, h, rfl⟩
          · refine g_aload_n dX4_readClause_87 rfl rfl ?_
            refine g_get dX4_readClause_88 fl_X4_20 hp_8 rfl ?_
            refine g_bipush (v := 63) dX4_readClause_91 (by decide) ?_
            refine g_callV dX4_readClause_93 cv_X4_59 (as' := [_]) hp_9 rfl (r_expect tp (by decide) h) (by omega) rfl rfl (Nat.le_of_ble_eq_true rfl) ?_
            rintro _ _ ⟨rfl, A1, I1, h, rfl⟩
            refine g_aload_n dX4_readClause_96 rfl rfl ?_
            refine g_get dX4_readClause_97 fl_X4_27 hp_8 rfl ?_
            refine g_istore_n dX4_readClause_100 rfl (by decide) ?_
            refine g_aload_n dX4_readClause_101 rfl rfl ?_
            refine g_ic_3 dX4_readClause_102 ?_
            refine g_ic_0 dX4_readClause_103 ?_
            refine g_callV dX4_readClause_104 cv_X4_74 (as' := [_, _]) hp_8 rfl (r_write tp h) (by omega) rfl rfl (Nat.le_of_ble_eq_true rfl) ?_
            rintro _ _ ⟨rfl, A1, I1, h, rfl⟩
            refine g_aload_n dX4_readClause_107 rfl rfl ?_
            refine g_ic_0 dX4_readClause_108 ?_
            refine g_callV dX4_readClause_109 cv_X4_63 (as' := [_]) hp_8 rfl (r_sum0 tp h) (by omega) rfl rfl (Nat.le_of_ble_eq_true rfl) ?_
            rintro _ _ ⟨rfl, A1, I1, h, rfl⟩
            refine g_aload_n dX4_readClause_112 rfl rfl ?_
            refine g_ic_4 dX4_readClause_113 ?_
            refine g_ic_0 dX4_readClause_114 ?_
            refine g_callV dX4_readClause_115 cv_X4_74 (as' := [_, _]) hp_8 rfl (r_write tp h) (by omega) rfl rfl (Nat.le_of_ble_eq_true rfl) ?_
            rintro _ _ ⟨rfl, A1, I1, h, rfl⟩
            refine g_aload_n dX4_readClause_118 rfl rfl ?_
            refine g_get dX4_readClause_119 fl_X4_9 hp_8 rfl ?_
            refine g_iload_n dX4_readClause_122 rfl rfl ?_
            refine g_sipush (v := 30000) dX4_readClause_123 (by decide) ?_
            refine g_aload_n dX4_readClause_126 rfl rfl ?_
            refine g_get dX4_readClause_127 fl_X4_27 hp_8 rfl ?_
            refine g_iadd dX4_readClause_130 ?_
            refine g_callS dX4_readClause_131 cs_X4_55 (as := [_, _, _]) (k_setCell hp_10 (by decide)) (by omega) rfl rfl (Nat.le_of_ble_eq_true rfl) ?_
            rintro _ _ ⟨rfl, rfl⟩
            rw [hq_10]
            refine g_goto (tgt := 143) dX4_readClause_134 (by decide) ?_
            exact g_vret dX4_readClause_143 ⟨rfl, _, _, SS_bad10 h, rfl⟩
    · refine g_ic_1 dX4_readClause_38 ?_
      refine g_goto (tgt := 43) dX4_readClause_39 (by decide) ?_
      refine g_istore_n dX4_readClause_43 rfl (by decide) ?_
      refine g_iload_n dX4_readClause_44 rfl rfl ?_
      refine g_if_ne (tgt := 77) dX4_readClause_45 (by decide) (fun c_45 => ?_) (fun c_45 => ?_)
      · refine g_aload_n dX4_readClause_77 rfl rfl ?_
        refine g_ic_0 dX4_readClause_78 ?_
        refine g_ic_0 dX4_readClause_79 ?_
        refine g_callV dX4_readClause_80 cv_X4_70 (as' := [_, _]) hp_8 rfl (r_cnd0 tp h) (by omega) rfl rfl (Nat.le_of_ble_eq_true rfl) ?_
        rintro _ _ ⟨rfl, A1, I1, h, rfl⟩
        refine g_iload_n dX4_readClause_83 rfl rfl ?_
        refine g_if_eq (tgt := 137) dX4_readClause_84 (by decide) (fun c_84 => ?_) (fun c_84 => ?_)
        · refine g_aload_n dX4_readClause_137 rfl rfl ?_
          refine g_ic_4 dX4_readClause_138 ?_
          refine g_ic_0 dX4_readClause_139 ?_
          refine g_callV dX4_readClause_140 cv_X4_74 (as' := [_, _]) hp_8 rfl (r_write tp h) (by omega) rfl rfl (Nat.le_of_ble_eq_true rfl) ?_
          rintro _ _ ⟨rfl, A1, I1, h, rfl⟩
          exact g_vret dX4_readClause_143 ⟨rfl, _, _, h, rfl⟩
        · refine g_aload_n dX4_readClause_87 rfl rfl ?_
          refine g_get dX4_readClause_88 fl_X4_20 hp_8 rfl ?_
          refine g_bipush (v := 63) dX4_readClause_91 (by decide) ?_
          refine g_callV dX4_readClause_93 cv_X4_59 (as' := [_]) hp_9 rfl (r_expect tp (by decide) h) (by omega) rfl rfl (Nat.le_of_ble_eq_true rfl) ?_
          rintro _ _ ⟨rfl, A1, I1, h, rfl⟩
          refine g_aload_n dX4_readClause_96 rfl rfl ?_
          refine g_get dX4_readClause_97 fl_X4_27 hp_8 rfl ?_
          refine g_istore_n dX4_readClause_100 rfl (by decide) ?_
          refine g_aload_n dX4_readClause_101 rfl rfl ?_
          refine g_ic_3 dX4_readClause_102 ?_
          refine g_ic_0 dX4_readClause_103 ?_
          refine g_callV dX4_readClause_104 cv_X4_74 (as' := [_, _]) hp_8 rfl (r_write tp h) (by omega) rfl rfl (Nat.le_of_ble_eq_true rfl) ?_
          rintro _ _ ⟨rfl, A1, I1, h, rfl⟩
          refine g_aload_n dX4_readClause_107 rfl rfl ?_
          refine g_ic_0 dX4_readClause_108 ?_
          refine g_callV dX4_readClause_109 cv_X4_63 (as' := [_]) hp_8 rfl (r_sum0 tp h) (by omega) rfl rfl (Nat.le_of_ble_eq_true rfl) ?_
          rintro _ _ ⟨rfl, A1, I1, h, rfl⟩
          refine g_aload_n dX4_readClause_112 rfl rfl ?_
          refine g_ic_4 dX4_readClause_113 ?_
          refine g_ic_0 dX4_readClause_114 ?_
          refine g_callV dX4_readClause_115 cv_X4_74 (as' := [_, _]) hp_8 rfl (r_write tp h) (by omega) rfl rfl (Nat.le_of_ble_eq_true rfl) ?_
          rintro _ _ ⟨rfl, A1, I1, h, rfl⟩
          refine g_aload_n dX4_readClause_118 rfl rfl ?_
          refine g_get dX4_readClause_119 fl_X4_9 hp_8 rfl ?_
          refine g_iload_n dX4_readClause_122 rfl rfl ?_
          refine g_sipush (v := 30000) dX4_readClause_123 (by decide) ?_
          refine g_aload_n dX4_readClause_126 rfl rfl ?_
          refine g_get dX4_readClause_127 fl_X4_27 hp_8 rfl ?_
          refine g_iadd dX4_readClause_130 ?_
          refine g_callS dX4_readClause_131 cs_X4_55 (as := [_, _, _]) (k_setCell hp_10 (by decide)) (by omega) rfl rfl (Nat.le_of_ble_eq_true rfl) ?_
          rintro _ _ ⟨rfl, rfl⟩
          rw [hq_10]
          refine g_goto (tgt := 143) dX4_readClause_134 (by decide) ?_
          exact g_vret dX4_readClause_143 ⟨rfl, _, _, SS_bad10 h, rfl⟩
      · refine g_aload_n dX4_readClause_48 rfl rfl ?_
        refine g_ic_0 dX4_readClause_49 ?_
        refine g_callV dX4_readClause_50 cv_X4_63 (as' := [_]) hp_8 rfl (r_sum0 tp h) (by omega) rfl rfl (Nat.le_of_ble_eq_true rfl) ?_
        rintro _ _ ⟨rfl, A1, I1, h, rfl⟩
        refine g_aload_n dX4_readClause_53 rfl rfl ?_
        refine g_get dX4_readClause_54 fl_X4_20 hp_8 rfl ?_
        refine g_callV dX4_readClause_57 cv_X4_38 (as' := []) hp_9 rfl (r_look tp h) (by omega) rfl rfl (Nat.le_of_ble_eq_true rfl) ?_
        rintro _ _ ⟨v57, rfl, A1, I1, h, hv, rfl⟩
        refine g_callS dX4_readClause_60 cs_X4_66 (as := [_]) r_isC (by omega) rfl rfl (Nat.le_of_ble_eq_true rfl) ?_
        rintro _ _ ⟨rfl, rfl⟩
        refine g_istore_n dX4_readClause_63 rfl (by decide) ?_
        refine g_iload_n dX4_readClause_64 rfl rfl ?_
        refine g_if_eq (tgt := 83) dX4_readClause_65 (by decide) (fun c_65 => ?_) (fun c_65 => ?_)
        · refine g_iload_n dX4_readClause_83 rfl rfl ?_
          refine g_if_eq (tgt := 137) dX4_readClause_84 (by decide) (fun c_84 => ?_) (fun c_84 => ?_)
          · refine g_aload_n dX4_readClause_137 rfl rfl ?_
            refine g_ic_4 dX4_readClause_138 ?_
            refine g_ic_0 dX4_readClause_139 ?_
            refine g_callV dX4_readClause_140 cv_X4_74 (as' := [_, _]) hp_8 rfl (r_write tp h) (by omega) rfl rfl (Nat.le_of_ble_eq_true rfl) ?_
            rintro _ _ ⟨rfl, A1, I1, h, rfl⟩
            exact g_vret dX4_readClause_143 ⟨rfl, _, _, h, rfl⟩
          · refine g_aload_n dX4_readClause_87 rfl rfl ?_
            refine g_get dX4_readClause_88 fl_X4_20 hp_8 rfl ?_
            refine g_bipush (v := 63) dX4_readClause_91 (by decide) ?_
            refine g_callV dX4_readClause_93 cv_X4_59 (as' := [_]) hp_9 rfl (r_expect tp (by decide) h) (by omega) rfl rfl (Nat.le_of_ble_eq_true rfl) ?_
            rintro _ _ ⟨rfl, A1, I1, h, rfl⟩
            refine g_aload_n dX4_readClause_96 rfl rfl ?_
            refine g_get dX4_readClause_97 fl_X4_27 hp_8 rfl ?_
            refine g_istore_n dX4_readClause_100 rfl (by decide) ?_
            refine g_aload_n dX4_readClause_101 rfl rfl ?_
            refine g_ic_3 dX4_readClause_102 ?_
            refine g_ic_0 dX4_readClause_103 ?_
            refine g_callV dX4_readClause_104 cv_X4_74 (as' := [_, _]) hp_8 rfl (r_write tp h) (by omega) rfl rfl (Nat.le_of_ble_eq_true rfl) ?_
            rintro _ _ ⟨rfl, A1, I1, h, rfl⟩
            refine g_aload_n dX4_readClause_107 rfl rfl ?_
            refine g_ic_0 dX4_readClause_108 ?_
            refine g_callV dX4_readClause_109 cv_X4_63 (as' := [_]) hp_8 rfl (r_sum0 tp h) (by omega) rfl rfl (Nat.le_of_ble_eq_true rfl) ?_
            rintro _ _ ⟨rfl, A1, I1, h, rfl⟩
            refine g_aload_n dX4_readClause_112 rfl rfl ?_
            refine g_ic_4 dX4_readClause_113 ?_
            refine g_ic_0 dX4_readClause_114 ?_
            refine g_callV dX4_readClause_115 cv_X4_74 (as' := [_, _]) hp_8 rfl (r_write tp h) (by omega) rfl rfl (Nat.le_of_ble_eq_true rfl) ?_
            rintro _ _ ⟨rfl, A1, I1, h, rfl⟩
            refine g_aload_n dX4_readClause_118 rfl rfl ?_
            refine g_get dX4_readClause_119 fl_X4_9 hp_8 rfl ?_
            refine g_iload_n dX4_readClause_122 rfl rfl ?_
            refine g_sipush (v := 30000) dX4_readClause_123 (by decide) ?_
            refine g_aload_n dX4_readClause_126 rfl rfl ?_
            refine g_get dX4_readClause_127 fl_X4_27 hp_8 rfl ?_
            refine g_iadd dX4_readClause_130 ?_
            refine g_callS dX4_readClause_131 cs_X4_55 (as := [_, _, _]) (k_setCell hp_10 (by decide)) (by omega) rfl rfl (Nat.le_of_ble_eq_true rfl) ?_
            rintro _ _ ⟨rfl, rfl⟩
            rw [hq_10]
            refine g_goto (tgt := 143) dX4_readClause_134 (by decide) ?_
            exact g_vret dX4_readClause_143 ⟨rfl, _, _, SS_bad10 h, rfl⟩
        · refine g_aload_n dX4_readClause_68 rfl rfl ?_
          refine g_ic_0 dX4_readClause_69 ?_
          refine g_ic_1 dX4_readClause_70 ?_
          refine g_callV dX4_readClause_71 cv_X4_70 (as' := [_, _]) hp_8 rfl (r_cnd1 tp h) (by omega) rfl rfl (Nat.le_of_ble_eq_true rfl) ?_
          rintro _ _ ⟨rfl, A1, I1, h, rfl⟩
          refine g_goto (tgt := 83) dX4_readClause_74 (by decide) ?_
          refine g_iload_n dX4_readClause_83 rfl rfl ?_
          refine g_if_eq (tgt := 137) dX4_readClause_84 (by decide) (fun c_84 => ?_) (fun c_84 => ?_)
          · refine g_aload_n dX4_readClause_137 rfl rfl ?_
            refine g_ic_4 dX4_readClause_138 ?_
            refine g_ic_0 dX4_readClause_139 ?_
            refine g_callV dX4_readClause_140 cv_X4_74 (as' := [_, _]) hp_8 rfl (r_write tp h) (by omega) rfl rfl (Nat.le_of_ble_eq_true rfl) ?_
            rintro _ _ ⟨rfl, A1, I1, h, rfl⟩
            exact g_vret dX4_readClause_143 ⟨rfl, _, _, h, rfl⟩
          · refine g_aload_n dX4_readClause_87 rfl rfl ?_
            refine g_get dX4_readClause_88 fl_X4_20 hp_8 rfl ?_
            refine g_bipush (v := 63) dX4_readClause_91 (by decide) ?_
            refine g_callV dX4_readClause_93 cv_X4_59 (as' := [_]) hp_9 rfl (r_expect tp (by decide) h) (by omega) rfl rfl (Nat.le_of_ble_eq_true rfl) ?_
            rintro _ _ ⟨rfl, A1, I1, h, rfl⟩
            refine g_aload_n dX4_readClause_96 rfl rfl ?_
            refine g_get dX4_readClause_97 fl_X4_27 hp_8 rfl ?_
            refine g_istore_n dX4_readClause_100 rfl (by decide) ?_
            refine g_aload_n dX4_readClause_101 rfl rfl ?_
            refine g_ic_3 dX4_readClause_102 ?_
            refine g_ic_0 dX4_readClause_103 ?_
            refine g_callV dX4_readClause_104 cv_X4_74 (as' := [_, _]) hp_8 rfl (r_write tp h) (by omega) rfl rfl (Nat.le_of_ble_eq_true rfl) ?_
            rintro _ _ ⟨rfl, A1, I1, h, rfl⟩
            refine g_aload_n dX4_readClause_107 rfl rfl ?_
            refine g_ic_0 dX4_readClause_108 ?_
            refine g_callV dX4_readClause_109 cv_X4_63 (as' := [_]) hp_8 rfl (r_sum0 tp h) (by omega) rfl rfl (Nat.le_of_ble_eq_true rfl) ?_
            rintro _ _ ⟨rfl, A1, I1, h, rfl⟩
            refine g_aload_n dX4_readClause_112 rfl rfl ?_
            refine g_ic_4 dX4_readClause_113 ?_
            refine g_ic_0 dX4_readClause_114 ?_
            refine g_callV dX4_readClause_115 cv_X4_74 (as' := [_, _]) hp_8 rfl (r_write tp h) (by omega) rfl rfl (Nat.le_of_ble_eq_true rfl) ?_
            rintro _ _ ⟨rfl, A1, I1, h, rfl⟩
            refine g_aload_n dX4_readClause_118 rfl rfl ?_
            refine g_get dX4_readClause_119 fl_X4_9 hp_8 rfl ?_
            refine g_iload_n dX4_readClause_122 rfl rfl ?_
            refine g_sipush (v := 30000) dX4_readClause_123 (by decide) ?_
            refine g_aload_n dX4_readClause_126 rfl rfl ?_
            refine g_get dX4_readClause_127 fl_X4_27 hp_8 rfl ?_
            refine g_iadd dX4_readClause_130 ?_
            refine g_callS dX4_readClause_131 cs_X4_55 (as := [_, _, _]) (k_setCell hp_10 (by decide)) (by omega) rfl rfl (Nat.le_of_ble_eq_true rfl) ?_
            rintro _ _ ⟨rfl, rfl⟩
            rw [hq_10]
            refine g_goto (tgt := 143) dX4_readClause_134 (by decide) ?_
            exact g_vret dX4_readClause_143 ⟨rfl, _, _, SS_bad10 h, rfl⟩
