/-! READING A PLAIN: items, clauses, the whole -/
section PD
variable {A0 I0 A I : Nat → Nat → Int32} {L : Nat → Nat → Int64} {X : Nat → Int64} {n : Nat}
theorem p_begin2 {b : Nat} {D : ROW} {hr k : Int32} (h : PS A0 I0 n (.inr (b, (D, hr))) A I) : Con 3 yX6_beginClause cX6_beginClause 2 (some .int) [.ref 3, .int k] (hp A L I X) (fun r_ H_ => r_ = some (.int (begV k D)) ∧ ∃ A1 I1, PS A0 I0 n (.inr (b, (begD k D, if k = 0 then 1 else hr))) A1 I1 ∧ H_ = hp A1 L I1 X) := by
  obtain ⟨e1, e2, e3, e4, e5⟩ := h.2
  have e3 : A 6 = D := e3
  have e4 : I 3 2 = hr := e4
  have hs : smP A I (upS A 6 7 (begD k (A 6)) (A 7)) (if k = 0 then up2 I 3 2 1 else I) := by
    refine smP_tr (A1 := upS A 6 7 (begD k (A 6)) (A 7)) (I1 := I) smP_S ?_
    split
    · exact smP_3
    · exact smP_rf
  refine Con.mono (fun r H' z => ⟨by rw [z.1, e3], _, _, ⟨smP_tr h.1 hs, ?_⟩, z.2⟩) p_begin
  by_cases hk : k = 0
  · simp only [if_pos hk]
    exact ⟨by rw [up2_ne (by omega)]; exact e1, by rw [up2_ne (by omega)]; exact e2, by rw [upS_r (by decide), e3], up2_at, e5⟩
  · simp only [if_neg hk]
    exact ⟨e1, e2, by rw [upS_r (by decide), e3], e4, e5⟩
theorem p_usual2 {b : Nat} {D : ROW} {hr k place : Int32} (h : PS A0 I0 n (.inr (b, (D, hr))) A I) : Con 4 yX6_putUsual cX6_putUsual 5 none [.ref 3, .int k, .int place] (hp A L I X) (PQ A0 L I0 X n (.inr (b, (usP D k place, hr)))) := by
  obtain ⟨e1, e2, e3, e4, e5⟩ := h.2
  have e3 : A 6 = D := e3
  exact Con.mono (fun r H' z => ⟨z.1, upS A 6 7 (usP (A 6) k place) (A 7), I, ⟨smP_tr h.1 smP_S, e1, e2, by rw [upS_r (by decide), e3], e4, e5⟩, z.2⟩) p_usual
end PD
def lpI (T : Nat → Int32) (n : Nat) (k place : Int32) (f : Nat) (had : Int32) (s : PR ROW) : PR ROW := match s with
  | .inl p => .inl p
  | .inr (b, D) => itL T n k place f b had D
set_option maxHeartbeats 4000000 in
set_option maxRecDepth 100000 in
theorem p_items_loop {A0 I0 : Nat → Nat → Int32} {L : Nat → Nat → Int64} {X : Nat → Int64} {n : Nat} {k place hr : Int32} {Q : Option Value → m_H → Prop} (tp : tpS A0 I0 n) : ∀ f i had (s : PR ROW) A I, f + i = 6 → PS A0 I0 n (ppB hr s) A I → (∀ A1 I1, PS A0 I0 n (ppB hr (lpI (A0 2) n k place f had s)) A1 I1 → Q none (hp A1 L I1 X)) → G 7 RX6 cX6_readItems 9 none Q 11 [some (.ref 3), some (.int k), some (.int place), some (.ref (2000 + txI k)), some (.int had), some (.int (nI i)), none, none, none] [] (hp A L I X) := by
  intro f
  induction f with
  | zero =>
    intro i had s A I hf h hQ
    refine g_iload dX6_readItems_11 rfl ?_
    refine g_ic_5 dX6_readItems_13 ?_
    refine g_icmp_gt (tgt := 149) dX6_readItems_14 (by decide) (fun c_14 => ?_) (fun c_14 => ?_)
    · exact g_vret dX6_readItems_149 (hQ _ _ (by cases s <;> exact h))
    · exact absurd ((nI_ltI (a := 5) (b := i) (by omega) (by omega)).mpr (by omega)) c_14
  | succ f ih =>
    intro i had s A I hf h hQ
    rcases s with p | ⟨a, D⟩
    · skip
      have h : PS A0 I0 n (.inl p) A I := h
      refine g_iload dX6_readItems_11 rfl ?_
      refine g_ic_5 dX6_readItems_13 ?_
      refine g_icmp_gt (tgt := 149) dX6_readItems_14 (by decide) (fun c_14 => ?_) (fun c_14 => ?_)
      · exact g_vret dX6_readItems_149 (hQ _ _ h)
      · refine g_aload_n dX6_readItems_17 rfl rfl ?_
        refine g_get dX6_readItems_18 fl_X6_23 hp_3 rfl ?_
        refine g_callV dX6_readItems_21 cv_X6_44 (as' := []) hp_4 rfl (p_failed tp h) (by omega) rfl rfl (Nat.le_of_ble_eq_true rfl) ?_
        rintro _ _ ⟨rfl, rfl⟩
        refine g_if_ne (tgt := 149) dX6_readItems_24 (by decide) (fun c_24 => ?_) (fun c_24 => ?_)
        · exact g_vret dX6_readItems_149 (hQ _ _ h)
        · exact absurd (show (1 : Int32) = 0 from c_24) (by decide)
    · skip
      have h : PS A0 I0 n (.inr (a, (D, hr))) A I := h
      refine g_iload dX6_readItems_11 rfl ?_
      refine g_ic_5 dX6_readItems_13 ?_
      refine g_icmp_gt (tgt := 149) dX6_readItems_14 (by decide) (fun c_14 => ?_) (fun c_14 => ?_)
      · exact absurd ((nI_ltI (a := 5) (b := i) (by omega) (by omega)).mp c_14) (by omega)
      · refine g_aload_n dX6_readItems_17 rfl rfl ?_
        refine g_get dX6_readItems_18 fl_X6_23 hp_3 rfl ?_
        refine g_callV dX6_readItems_21 cv_X6_44 (as' := []) hp_4 rfl (p_failed tp h) (by omega) rfl rfl (Nat.le_of_ble_eq_true rfl) ?_
        rintro _ _ ⟨rfl, rfl⟩
        refine g_if_ne (tgt := 149) dX6_readItems_24 (by decide) (fun c_24 => ?_) (fun c_24 => ?_)
        · exact absurd rfl c_24
        · refine g_aload_n dX6_readItems_27 rfl rfl ?_
          refine g_get dX6_readItems_28 fl_X6_23 hp_3 rfl ?_
          refine g_callV dX6_readItems_31 cv_X6_48 (as' := []) hp_4 rfl (p_look tp h) (by omega) rfl rfl (Nat.le_of_ble_eq_true rfl) ?_
          rintro _ _ ⟨rfl, A1, I1, h, rfl⟩
          refine g_istore dX6_readItems_34 (by decide) ?_
          refine g_iload dX6_readItems_36 rfl ?_
          refine g_bipush (v := 59) dX6_readItems_38 (by decide) ?_
          refine g_icmp_eq (tgt := 49) dX6_readItems_40 (by decide) (fun c_40 => ?_) (fun c_40 => ?_)
          · exact g_vret dX6_readItems_49 (hQ _ _ (by rw [show lpI (A0 2) n k place (f + 1) had (.inr (a, D)) = .inr (sk (A0 2) n a, D) from if_pos (Or.inl c_40)]; exact h))
          · refine g_iload dX6_readItems_43 rfl ?_
            refine g_ic_m1 dX6_readItems_45 ?_
            refine g_icmp_ne (tgt := 50) dX6_readItems_46 (by decide) (fun c_46 => ?_) (fun c_46 => ?_)
            · refine g_aload_n dX6_readItems_50 rfl rfl ?_
              refine g_get dX6_readItems_51 fl_X6_23 hp_3 rfl ?_
              refine g_aload_n dX6_readItems_54 rfl rfl ?_
              refine g_callV dX6_readItems_55 cv_X6_96 (as' := [_]) hp_4 rfl (p_lookFor tp txI5 h) (by omega) rfl rfl (Nat.le_of_ble_eq_true rfl) ?_
              rintro _ _ ⟨rfl, A1, I1, h, rfl⟩
              simp only [sk_sk] at h ⊢
              refine g_istore dX6_readItems_58 (by decide) ?_
              refine g_iload dX6_readItems_60 rfl ?_
              refine g_if_lt (tgt := 76) dX6_readItems_62 (by decide) (fun c_62 => ?_) (fun c_62 => ?_)
              · refine g_aload_n dX6_readItems_76 rfl rfl ?_
                refine g_get dX6_readItems_77 fl_X6_23 hp_3 rfl ?_
                refine g_callV dX6_readItems_80 cv_X6_61 (as' := []) hp_4 rfl (p_fail h) (by omega) rfl rfl (Nat.le_of_ble_eq_true rfl) ?_
                rintro _ _ ⟨rfl, A1, I1, h, rfl⟩
                exact g_vret dX6_readItems_83 (hQ _ _ (by rw [show lpI (A0 2) n k place (f + 1) had (.inr (a, D)) = .inl (sk (A0 2) n a) from (if_neg (fun z => z.elim c_40 c_46)).trans (if_pos (Or.inl c_62))]; exact h))
              · refine g_iload dX6_readItems_65 rfl ?_
                refine g_iload dX6_readItems_67 rfl ?_
                refine g_ishr dX6_readItems_69 ?_
                refine g_ic_1 dX6_readItems_70 ?_
                refine g_iand dX6_readItems_71 ?_
                refine g_ic_1 dX6_readItems_72 ?_
                refine g_icmp_ne (tgt := 84) dX6_readItems_73 (by decide) (fun c_73 => ?_) (fun c_73 => ?_)
                · refine g_iload dX6_readItems_84 rfl ?_
                  refine g_ic_1 dX6_readItems_86 ?_
                  refine g_iload dX6_readItems_87 rfl ?_
                  refine g_ishl dX6_readItems_89 ?_
                  refine g_ior dX6_readItems_90 ?_
                  refine g_istore dX6_readItems_91 (by decide) ?_
                  refine g_aload_n dX6_readItems_93 rfl rfl ?_
                  refine g_get dX6_readItems_94 fl_X6_23 hp_3 rfl ?_
                  refine g_callV dX6_readItems_97 cv_X6_52 (as' := []) hp_4 rfl (p_step (bt_lt c_46) h) (by omega) rfl rfl (Nat.le_of_ble_eq_true rfl) ?_
                  rintro _ _ ⟨rfl, A1, I1, h, rfl⟩
                  refine g_iload_n dX6_readItems_100 rfl rfl ?_
                  refine g_ic_5 dX6_readItems_101 ?_
                  refine g_imul dX6_readItems_102 ?_
                  refine g_iload dX6_readItems_103 rfl ?_
                  refine g_iadd dX6_readItems_105 ?_
                  refine g_istore dX6_readItems_106 (by decide) ?_
                  refine g_aload_n dX6_readItems_108 rfl rfl ?_
                  refine g_get dX6_readItems_109 fl_X6_12 hp_3 rfl ?_
                  refine g_iload_n dX6_readItems_112 rfl rfl ?_
                  refine g_iload dX6_readItems_113 rfl ?_
                  refine g_iadd dX6_readItems_115 ?_
                  refine g_aload_n dX6_readItems_116 rfl rfl ?_
                  refine g_get dX6_readItems_117 fl_X6_23 hp_3 rfl ?_
                  refine g_ic_2 dX6_readItems_120 ?_
                  refine g_gets (n := "LOWEST") (a := 1001) dX6_readItems_121 lg_LOWEST (Or.inr (Or.inl ⟨rfl, rfl⟩)) ?_
                  refine g_iload dX6_readItems_124 rfl ?_
                  refine g_callS dX6_readItems_126 cs_X6_81 (as := [_, _]) (k_cell (Hp := _) (q := 1001) rfl (by decide)) (by omega) rfl rfl (Nat.le_of_ble_eq_true rfl) ?_
                  rintro _ _ ⟨rfl, rfl⟩
                  refine g_gets (n := "HIGHEST") (a := 1002) dX6_readItems_129 lg_HIGHEST (Or.inr (Or.inr ⟨rfl, rfl⟩)) ?_
                  refine g_iload dX6_readItems_132 rfl ?_
                  refine g_callS dX6_readItems_134 cs_X6_81 (as := [_, _]) (k_cell (Hp := _) (q := 1002) rfl (by decide)) (by omega) rfl rfl (Nat.le_of_ble_eq_true rfl) ?_
                  rintro _ _ ⟨rfl, rfl⟩
                  refine g_callV dX6_readItems_137 cv_X6_119 (as' := [_, _, _]) hp_4 rfl (p_number tp h) (by omega) rfl rfl (Nat.le_of_ble_eq_true rfl) ?_
                  rintro _ _ ⟨v, rfl, A1, I1, h, hv, rfl⟩
                  refine g_callV dX6_readItems_140 cv_X6_85 (as' := [_, _]) hp_5 rfl (h_put isS_5) (by omega) rfl rfl (Nat.le_of_ble_eq_true rfl) ?_
                  rintro _ _ ⟨rfl, rfl⟩
                  refine g_iinc1 dX6_readItems_143 rfl (by decide) ?_
                  refine g_goto (tgt := 11) dX6_readItems_146 (by decide) ?_
                  have e0 : itL (A0 2) n k place (f + 1) a had D = (match (numP (A0 2) n 2 (gt 15 m_lo (k * 5 + (lfS (txI k) (bt (A0 2) n (sk (A0 2) n a))))) (gt 15 m_hi (k * 5 + (lfS (txI k) (bt (A0 2) n (sk (A0 2) n a))))) (sk (A0 2) n a + 1)) with
                      | .inl p => .inl p
                      | .inr (b, v) => itL (A0 2) n k place f b (had ||| (1 <<< ((lfS (txI k) (bt (A0 2) n (sk (A0 2) n a))) &&& 31))) (pt 143 D (place + (lfS (txI k) (bt (A0 2) n (sk (A0 2) n a)))) v)) := (if_neg (fun z => z.elim c_40 c_46)).trans (if_neg (fun z => z.elim c_62 c_73))
                  rw [nI_1]
                  refine g_loc (ls' := [some (.ref 3), some (.int k), some (.int place), some (.ref (2000 + txI k)), some (.int (had ||| (1 <<< ((lfS (txI k) (bt (A0 2) n (sk (A0 2) n a))) &&& 31)))), some (.int (nI (i + 1))), none, none, none]) (fun i v h => by rcases i with _|_|_|_|_|_|_|_|_|_ <;> first | exact h | cases h) ?_
                  have e3 : ∀ d, PS A0 I0 n (.inr (d, (D, hr))) A1 I1 → A1 6 = D := fun d z => z.2.2.2.1
                  cases hn : (numP (A0 2) n 2 (gt 15 m_lo (k * 5 + (lfS (txI k) (bt (A0 2) n (sk (A0 2) n a))))) (gt 15 m_hi (k * 5 + (lfS (txI k) (bt (A0 2) n (sk (A0 2) n a))))) (sk (A0 2) n a + 1)) with
                  | inl p =>
                    rw [hn] at h e0
                    refine ih (i + 1) _ (.inl p) _ _ (by omega) ⟨smP_tr h.1 smP_S, h.2⟩ (fun A8 I8 h8 => hQ A8 I8 ?_)
                    rw [show lpI (A0 2) n k place (f + 1) had (.inr (a, D)) = .inl p from e0]
                    exact h8
                  | inr q2 =>
                    obtain ⟨d, x⟩ := q2
                    rw [hn] at h e0
                    obtain rfl := hv d x hn
                    have h : PS A0 I0 n (.inr (d, (D, hr))) A1 I1 := h
                    obtain ⟨g1, g2, g3, g4, g5⟩ := h.2
                    refine ih (i + 1) _ (.inr (d, pt 143 D (place + (lfS (txI k) (bt (A0 2) n (sk (A0 2) n a)))) v)) _ _ (by omega) ⟨smP_tr h.1 smP_S, g1, g2, by rw [upS_r (by decide), e3 d h], g4, g5⟩ (fun A8 I8 h8 => hQ A8 I8 ?_)
                    rw [show lpI (A0 2) n k place (f + 1) had (.inr (a, D)) = itL (A0 2) n k place f d (had ||| (1 <<< ((lfS (txI k) (bt (A0 2) n (sk (A0 2) n a))) &&& 31))) (pt 143 D (place + (lfS (txI k) (bt (A0 2) n (sk (A0 2) n a)))) v) from e0]
                    exact h8
                · refine g_aload_n dX6_readItems_76 rfl rfl ?_
                  refine g_get dX6_readItems_77 fl_X6_23 hp_3 rfl ?_
                  refine g_callV dX6_readItems_80 cv_X6_61 (as' := []) hp_4 rfl (p_fail h) (by omega) rfl rfl (Nat.le_of_ble_eq_true rfl) ?_
                  rintro _ _ ⟨rfl, A1, I1, h, rfl⟩
                  exact g_vret dX6_readItems_83 (hQ _ _ (by rw [show lpI (A0 2) n k place (f + 1) had (.inr (a, D)) = .inl (sk (A0 2) n a) from (if_neg (fun z => z.elim c_40 c_46)).trans (if_pos (Or.inr c_73))]; exact h))
            · exact g_vret dX6_readItems_49 (hQ _ _ (by rw [show lpI (A0 2) n k place (f + 1) had (.inr (a, D)) = .inr (sk (A0 2) n a, D) from if_pos (Or.inr c_46)]; exact h))

set_option maxHeartbeats 4000000 in
set_option maxRecDepth 100000 in
theorem p_items {A0 I0 A I : Nat → Nat → Int32} {L : Nat → Nat → Int64} {X : Nat → Int64} {n : Nat} {b : Nat} {D : ROW} {hr k place : Int32} (tp : tpS A0 I0 n) (h : PS A0 I0 n (.inr (b, (D, hr))) A I) : Con 7 yX6_readItems cX6_readItems 9 none [.ref 3, .int k, .int place] (hp A L I X) (PQ A0 L I0 X n (ppB hr (itL (A0 2) n k place 6 b 0 D))) := by
  refine m_con (by decide) (Nat.le_of_ble_eq_true rfl) ?_
  refine g_iload_n dX6_readItems_0 rfl rfl ?_
  refine g_callS dX6_readItems_1 cs_X6_68 (as := [_]) p_letters (by omega) rfl rfl (Nat.le_of_ble_eq_true rfl) ?_
  rintro _ _ ⟨rfl, rfl⟩
  refine g_astore_n dX6_readItems_4 rfl (by decide) ?_
  refine g_ic_0 dX6_readItems_5 ?_
  refine g_istore dX6_readItems_6 (by decide) ?_
  refine g_ic_0 dX6_readItems_8 ?_
  refine g_istore dX6_readItems_9 (by decide) ?_
  exact p_items_loop tp 6 0 0 (.inr (b, D)) _ _ rfl h (fun A8 I8 h8 => ⟨rfl, A8, I8, h8, rfl⟩)

set_option maxHeartbeats 4000000 in
set_option maxRecDepth 100000 in
theorem p_clause {A0 I0 A I : Nat → Nat → Int32} {L : Nat → Nat → Int64} {X : Nat → Int64} {n : Nat} {a : Nat} {q : PRW} (tp : tpS A0 I0 n) (h : PS A0 I0 n (.inr (a, q)) A I) : Con 8 yX6_readClause cX6_readClause 3 none [.ref 3] (hp A L I X) (PQ A0 L I0 X n (pcP (A0 2) n a q)) := by
  refine m_con (by decide) (Nat.le_of_ble_eq_true rfl) ?_
  refine g_aload_n dX6_readClause_0 rfl rfl ?_
  refine g_get dX6_readClause_1 fl_X6_23 hp_3 rfl ?_
  refine g_ldcS (i := 3) dX6_readClause_4 (by decide) rfl ?_
  refine g_callV dX6_readClause_6 cv_X6_96 (as' := [_]) hp_4 rfl (p_lookFor (i := 3) tp (by decide) h) (by omega) rfl rfl (Nat.le_of_ble_eq_true rfl) ?_
  rintro _ _ ⟨rfl, A1, I1, h, rfl⟩
  refine g_istore_n dX6_readClause_9 rfl (by decide) ?_
  refine g_iload_n dX6_readClause_10 rfl rfl ?_
  refine g_if_lt (tgt := 22) dX6_readClause_11 (by decide) (fun c_11 => ?_) (fun c_11 => ?_)
  · refine g_aload_n dX6_readClause_22 rfl rfl ?_
    refine g_get dX6_readClause_23 fl_X6_23 hp_3 rfl ?_
    refine g_callV dX6_readClause_26 cv_X6_61 (as' := []) hp_4 rfl (p_fail h) (by omega) rfl rfl (Nat.le_of_ble_eq_true rfl) ?_
    rintro _ _ ⟨rfl, A1, I1, h, rfl⟩
    exact g_vret dX6_readClause_29 ⟨rfl, A1, I1, by rw [show pcP (A0 2) n a q = .inl (sk (A0 2) n a) from if_pos (Or.inl c_11)]; exact h, rfl⟩
  · refine g_aload_n dX6_readClause_14 rfl rfl ?_
    refine g_iload_n dX6_readClause_15 rfl rfl ?_
    refine g_callV dX6_readClause_16 cv_X6_100 (as' := [_]) hp_3 rfl p_room (by omega) rfl rfl (Nat.le_of_ble_eq_true rfl) ?_
    rintro _ _ ⟨rfl, rfl⟩
    rw [show A1 6 = q.1 from h.2.2.2.1, show I1 3 2 = q.2 from h.2.2.2.2.1]
    refine g_if_ne (tgt := 30) dX6_readClause_19 (by decide) (fun c_19 => ?_) (fun c_19 => ?_)
    · refine g_aload_n dX6_readClause_30 rfl rfl ?_
      refine g_get dX6_readClause_31 fl_X6_23 hp_3 rfl ?_
      refine g_callV dX6_readClause_34 cv_X6_52 (as' := []) hp_4 rfl (p_step (bt_lt (fun z => c_11 (by rw [z]; decide))) h) (by omega) rfl rfl (Nat.le_of_ble_eq_true rfl) ?_
      rintro _ _ ⟨rfl, A1, I1, h, rfl⟩
      refine g_aload_n dX6_readClause_37 rfl rfl ?_
      refine g_iload_n dX6_readClause_38 rfl rfl ?_
      refine g_callV dX6_readClause_39 cv_X6_104 (as' := [_]) hp_3 rfl (p_begin2 (D := q.1) (hr := q.2) h) (by omega) rfl rfl (Nat.le_of_ble_eq_true rfl) ?_
      rintro _ _ ⟨rfl, A1, I1, h, rfl⟩
      refine g_istore_n dX6_readClause_42 rfl (by decide) ?_
      refine g_aload_n dX6_readClause_43 rfl rfl ?_
      refine g_iload_n dX6_readClause_44 rfl rfl ?_
      refine g_iload_n dX6_readClause_45 rfl rfl ?_
      refine g_callV dX6_readClause_46 cv_X6_37 (as' := [_, _]) hp_3 rfl (p_usual2 h) (by omega) rfl rfl (Nat.le_of_ble_eq_true rfl) ?_
      rintro _ _ ⟨rfl, A1, I1, h, rfl⟩
      refine g_aload_n dX6_readClause_49 rfl rfl ?_
      refine g_iload_n dX6_readClause_50 rfl rfl ?_
      refine g_iload_n dX6_readClause_51 rfl rfl ?_
      refine g_callV dX6_readClause_52 cv_X6_107 (as' := [_, _]) hp_3 rfl (p_items tp h) (by omega) rfl rfl (Nat.le_of_ble_eq_true rfl) ?_
      rintro _ _ ⟨rfl, A1, I1, h, rfl⟩
      exact g_vret dX6_readClause_55 ⟨rfl, A1, I1, by rw [pcP, if_neg (fun z => z.elim c_11 c_19)]; exact h, rfl⟩
    · refine g_aload_n dX6_readClause_22 rfl rfl ?_
      refine g_get dX6_readClause_23 fl_X6_23 hp_3 rfl ?_
      refine g_callV dX6_readClause_26 cv_X6_61 (as' := []) hp_4 rfl (p_fail h) (by omega) rfl rfl (Nat.le_of_ble_eq_true rfl) ?_
      rintro _ _ ⟨rfl, A1, I1, h, rfl⟩
      exact g_vret dX6_readClause_29 ⟨rfl, A1, I1, by rw [show pcP (A0 2) n a q = .inl (sk (A0 2) n a) from if_pos (Or.inr c_19)]; exact h, rfl⟩

set_option maxHeartbeats 4000000 in
set_option maxRecDepth 100000 in
theorem p_plain77 {A0 I0 A I : Nat → Nat → Int32} {L : Nat → Nat → Int64} {X : Nat → Int64} {n : Nat} {i : Option Value} {s : PR PRW} {Q : Option Value → m_H → Prop} (tp : tpS A0 I0 n) (h : PS A0 I0 n s A I) (hQ : ∀ A1 I1, PS A0 I0 n (ppE (A0 2) n s) A1 I1 → Q (some (.int (lawV (ppE (A0 2) n s)))) (hp A1 L I1 X)) : G 9 RX6 cX6_readPlain 2 (some .int) Q 77 [some (.ref 3), i] [] (hp A L I X) := by
  rcases s with p | ⟨b, q⟩
  · skip
    refine g_aload_n dX6_readPlain_77 rfl rfl ?_
    refine g_get dX6_readPlain_78 fl_X6_23 hp_3 rfl ?_
    refine g_callV dX6_readPlain_81 cv_X6_48 (as' := []) hp_4 rfl (p_lookB h) (by omega) rfl rfl (Nat.le_of_ble_eq_true rfl) ?_
    rintro _ _ ⟨vb, rfl, A1, I1, h, rfl⟩
    refine g_ic_m1 dX6_readPlain_84 ?_
    refine g_icmp_ne (tgt := 114) dX6_readPlain_85 (by decide) (fun c_85 => ?_) (fun c_85 => ?_)
    · refine g_aload_n dX6_readPlain_114 rfl rfl ?_
      refine g_get dX6_readPlain_115 fl_X6_23 hp_3 rfl ?_
      refine g_callV dX6_readPlain_118 cv_X6_61 (as' := []) hp_4 rfl (p_failB tp h) (by omega) rfl rfl (Nat.le_of_ble_eq_true rfl) ?_
      rintro _ _ ⟨rfl, A1, I1, h, rfl⟩
      refine g_aload_n dX6_readPlain_121 rfl rfl ?_
      refine g_get dX6_readPlain_122 fl_X6_23 hp_3 rfl ?_
      refine g_get dX6_readPlain_125 fl_X6_64 hp_4 rfl ?_
      exact g_iret dX6_readPlain_128 (by rw [show I1 4 2 = nI p from h.2.1]; exact hQ _ _ h)
    · refine g_aload_n dX6_readPlain_88 rfl rfl ?_
      refine g_get dX6_readPlain_89 fl_X6_12 hp_3 rfl ?_
      refine g_bipush (v := 9) dX6_readPlain_92 (by decide) ?_
      refine g_callV dX6_readPlain_94 cv_X6_57 (as' := [_]) hp_5 rfl (h_get isS_5) (by omega) rfl rfl (Nat.le_of_ble_eq_true rfl) ?_
      rintro _ _ ⟨rfl, rfl⟩
      refine g_ic_2 dX6_readPlain_97 ?_
      refine g_icmp_lt (tgt := 114) dX6_readPlain_98 (by decide) (fun c_98 => ?_) (fun c_98 => ?_)
      · refine g_aload_n dX6_readPlain_114 rfl rfl ?_
        refine g_get dX6_readPlain_115 fl_X6_23 hp_3 rfl ?_
        refine g_callV dX6_readPlain_118 cv_X6_61 (as' := []) hp_4 rfl (p_failB tp h) (by omega) rfl rfl (Nat.le_of_ble_eq_true rfl) ?_
        rintro _ _ ⟨rfl, A1, I1, h, rfl⟩
        refine g_aload_n dX6_readPlain_121 rfl rfl ?_
        refine g_get dX6_readPlain_122 fl_X6_23 hp_3 rfl ?_
        refine g_get dX6_readPlain_125 fl_X6_64 hp_4 rfl ?_
        exact g_iret dX6_readPlain_128 (by rw [show I1 4 2 = nI p from h.2.1]; exact hQ _ _ h)
      · refine g_aload_n dX6_readPlain_101 rfl rfl ?_
        refine g_get dX6_readPlain_102 fl_X6_12 hp_3 rfl ?_
        refine g_bipush (v := 10) dX6_readPlain_105 (by decide) ?_
        refine g_callV dX6_readPlain_107 cv_X6_57 (as' := [_]) hp_5 rfl (h_get isS_5) (by omega) rfl rfl (Nat.le_of_ble_eq_true rfl) ?_
        rintro _ _ ⟨rfl, rfl⟩
        refine g_ic_1 dX6_readPlain_110 ?_
        refine g_icmp_ge (tgt := 121) dX6_readPlain_111 (by decide) (fun c_111 => ?_) (fun c_111 => ?_)
        · refine g_aload_n dX6_readPlain_121 rfl rfl ?_
          refine g_get dX6_readPlain_122 fl_X6_23 hp_3 rfl ?_
          refine g_get dX6_readPlain_125 fl_X6_64 hp_4 rfl ?_
          exact g_iret dX6_readPlain_128 (by rw [show I1 4 2 = nI p from h.2.1]; exact hQ _ _ h)
        · refine g_aload_n dX6_readPlain_114 rfl rfl ?_
          refine g_get dX6_readPlain_115 fl_X6_23 hp_3 rfl ?_
          refine g_callV dX6_readPlain_118 cv_X6_61 (as' := []) hp_4 rfl (p_failB tp h) (by omega) rfl rfl (Nat.le_of_ble_eq_true rfl) ?_
          rintro _ _ ⟨rfl, A1, I1, h, rfl⟩
          refine g_aload_n dX6_readPlain_121 rfl rfl ?_
          refine g_get dX6_readPlain_122 fl_X6_23 hp_3 rfl ?_
          refine g_get dX6_readPlain_125 fl_X6_64 hp_4 rfl ?_
          exact g_iret dX6_readPlain_128 (by rw [show I1 4 2 = nI p from h.2.1]; exact hQ _ _ h)
  · skip
    refine g_aload_n dX6_readPlain_77 rfl rfl ?_
    refine g_get dX6_readPlain_78 fl_X6_23 hp_3 rfl ?_
    refine g_callV dX6_readPlain_81 cv_X6_48 (as' := []) hp_4 rfl (p_look tp h) (by omega) rfl rfl (Nat.le_of_ble_eq_true rfl) ?_
    rintro _ _ ⟨rfl, A1, I1, h, rfl⟩
    refine g_ic_m1 dX6_readPlain_84 ?_
    refine g_icmp_ne (tgt := 114) dX6_readPlain_85 (by decide) (fun c_85 => ?_) (fun c_85 => ?_)
    · refine g_aload_n dX6_readPlain_114 rfl rfl ?_
      refine g_get dX6_readPlain_115 fl_X6_23 hp_3 rfl ?_
      refine g_callV dX6_readPlain_118 cv_X6_61 (as' := []) hp_4 rfl (p_fail h) (by omega) rfl rfl (Nat.le_of_ble_eq_true rfl) ?_
      rintro _ _ ⟨rfl, A1, I1, h, rfl⟩
      refine g_aload_n dX6_readPlain_121 rfl rfl ?_
      refine g_get dX6_readPlain_122 fl_X6_23 hp_3 rfl ?_
      refine g_get dX6_readPlain_125 fl_X6_64 hp_4 rfl ?_
      exact g_iret dX6_readPlain_128 (by have e : ppE (A0 2) n (.inr (b, q)) = .inl (sk (A0 2) n b) := if_neg (fun z => c_85 z.1); rw [e] at hQ; rw [show I1 4 2 = nI (sk (A0 2) n b) from h.2.1]; exact hQ _ _ h)
    · refine g_aload_n dX6_readPlain_88 rfl rfl ?_
      refine g_get dX6_readPlain_89 fl_X6_12 hp_3 rfl ?_
      refine g_bipush (v := 9) dX6_readPlain_92 (by decide) ?_
      refine g_callV dX6_readPlain_94 cv_X6_57 (as' := [_]) hp_5 rfl (h_get isS_5) (by omega) rfl rfl (Nat.le_of_ble_eq_true rfl) ?_
      rintro _ _ ⟨rfl, rfl⟩
      rw [show A1 6 = q.1 from h.2.2.2.1]
      refine g_ic_2 dX6_readPlain_97 ?_
      refine g_icmp_lt (tgt := 114) dX6_readPlain_98 (by decide) (fun c_98 => ?_) (fun c_98 => ?_)
      · refine g_aload_n dX6_readPlain_114 rfl rfl ?_
        refine g_get dX6_readPlain_115 fl_X6_23 hp_3 rfl ?_
        refine g_callV dX6_readPlain_118 cv_X6_61 (as' := []) hp_4 rfl (p_fail h) (by omega) rfl rfl (Nat.le_of_ble_eq_true rfl) ?_
        rintro _ _ ⟨rfl, A1, I1, h, rfl⟩
        refine g_aload_n dX6_readPlain_121 rfl rfl ?_
        refine g_get dX6_readPlain_122 fl_X6_23 hp_3 rfl ?_
        refine g_get dX6_readPlain_125 fl_X6_64 hp_4 rfl ?_
        exact g_iret dX6_readPlain_128 (by have e : ppE (A0 2) n (.inr (b, q)) = .inl (sk (A0 2) n b) := if_neg (fun z => absurd z.2.1 (Int32.not_le.mpr c_98)); rw [e] at hQ; rw [show I1 4 2 = nI (sk (A0 2) n b) from h.2.1]; exact hQ _ _ h)
      · refine g_aload_n dX6_readPlain_101 rfl rfl ?_
        refine g_get dX6_readPlain_102 fl_X6_12 hp_3 rfl ?_
        refine g_bipush (v := 10) dX6_readPlain_105 (by decide) ?_
        refine g_callV dX6_readPlain_107 cv_X6_57 (as' := [_]) hp_5 rfl (h_get isS_5) (by omega) rfl rfl (Nat.le_of_ble_eq_true rfl) ?_
        rintro _ _ ⟨rfl, rfl⟩
        rw [show A1 6 = q.1 from h.2.2.2.1]
        refine g_ic_1 dX6_readPlain_110 ?_
        refine g_icmp_ge (tgt := 121) dX6_readPlain_111 (by decide) (fun c_111 => ?_) (fun c_111 => ?_)
        · refine g_aload_n dX6_readPlain_121 rfl rfl ?_
          refine g_get dX6_readPlain_122 fl_X6_23 hp_3 rfl ?_
          refine g_get dX6_readPlain_125 fl_X6_64 hp_4 rfl ?_
          exact g_iret dX6_readPlain_128 (by have e : ppE (A0 2) n (.inr (b, q)) = .inr (sk (A0 2) n b, q) := if_pos ⟨c_85, Int32.not_lt.mp c_98, c_111⟩; rw [e] at hQ; rw [show I1 4 2 = -1 from h.2.2.1]; exact hQ _ _ h)
        · refine g_aload_n dX6_readPlain_114 rfl rfl ?_
          refine g_get dX6_readPlain_115 fl_X6_23 hp_3 rfl ?_
          refine g_callV dX6_readPlain_118 cv_X6_61 (as' := []) hp_4 rfl (p_fail h) (by omega) rfl rfl (Nat.le_of_ble_eq_true rfl) ?_
          rintro _ _ ⟨rfl, A1, I1, h, rfl⟩
          refine g_aload_n dX6_readPlain_121 rfl rfl ?_
          refine g_get dX6_readPlain_122 fl_X6_23 hp_3 rfl ?_
          refine g_get dX6_readPlain_125 fl_X6_64 hp_4 rfl ?_
          exact g_iret dX6_readPlain_128 (by have e : ppE (A0 2) n (.inr (b, q)) = .inl (sk (A0 2) n b) := if_neg (fun z => c_111 z.2.2); rw [e] at hQ; rw [show I1 4 2 = nI (sk (A0 2) n b) from h.2.1]; exact hQ _ _ h)

set_option maxHeartbeats 4000000 in
set_option maxRecDepth 100000 in
theorem p_plain31 {A0 I0 : Nat → Nat → Int32} {L : Nat → Nat → Int64} {X : Nat → Int64} {n : Nat} {Q : Option Value → m_H → Prop} (tp : tpS A0 I0 n) : ∀ f i (s : PR PRW) A I, f + i = 240 → PS A0 I0 n s A I → (∀ A1 I1, PS A0 I0 n (ppE (A0 2) n (ppL (A0 2) n f s)) A1 I1 → Q (some (.int (lawV (ppE (A0 2) n (ppL (A0 2) n f s))))) (hp A1 L I1 X)) → G 9 RX6 cX6_readPlain 2 (some .int) Q 31 [some (.ref 3), some (.int (nI i))] [] (hp A L I X) := by
  intro f
  induction f with
  | zero =>
    intro i s A I hf h hQ
    refine g_iload_n dX6_readPlain_31 rfl rfl ?_
    refine g_sipush (v := 240) dX6_readPlain_32 (by decide) ?_
    refine g_icmp_ge (tgt := 77) dX6_readPlain_35 (by decide) (fun c_35 => ?_) (fun c_35 => ?_)
    · exact p_plain77 tp h hQ
    · exact absurd (nI_le (a := 240) (b := i) (by omega) (by omega)) c_35
  | succ f ih =>
    intro i s A I hf h hQ
    rcases s with p | ⟨b, q⟩
    · skip
      refine g_iload_n dX6_readPlain_31 rfl rfl ?_
      refine g_sipush (v := 240) dX6_readPlain_32 (by decide) ?_
      refine g_icmp_ge (tgt := 77) dX6_readPlain_35 (by decide) (fun c_35 => ?_) (fun c_35 => ?_)
      · exact p_plain77 (s := .inl p) tp h hQ
      · refine g_aload_n dX6_readPlain_38 rfl rfl ?_
        refine g_get dX6_readPlain_39 fl_X6_23 hp_3 rfl ?_
        refine g_callV dX6_readPlain_42 cv_X6_44 (as' := []) hp_4 rfl (p_failed tp h) (by omega) rfl rfl (Nat.le_of_ble_eq_true rfl) ?_
        rintro _ _ ⟨rfl, rfl⟩
        refine g_if_ne (tgt := 77) dX6_readPlain_45 (by decide) (fun c_45 => ?_) (fun c_45 => ?_)
        · exact p_plain77 (s := .inl p) tp h hQ
        · exact absurd (show (1 : Int32) = 0 from c_45) (by decide)
    · skip
      refine g_iload_n dX6_readPlain_31 rfl rfl ?_
      refine g_sipush (v := 240) dX6_readPlain_32 (by decide) ?_
      refine g_icmp_ge (tgt := 77) dX6_readPlain_35 (by decide) (fun c_35 => ?_) (fun c_35 => ?_)
      · exact absurd ((nI_leI (a := 240) (b := i) (by omega) (by omega)).mp c_35) (by omega)
      · refine g_aload_n dX6_readPlain_38 rfl rfl ?_
        refine g_get dX6_readPlain_39 fl_X6_23 hp_3 rfl ?_
        refine g_callV dX6_readPlain_42 cv_X6_44 (as' := []) hp_4 rfl (p_failed tp h) (by omega) rfl rfl (Nat.le_of_ble_eq_true rfl) ?_
        rintro _ _ ⟨rfl, rfl⟩
        refine g_if_ne (tgt := 77) dX6_readPlain_45 (by decide) (fun c_45 => ?_) (fun c_45 => ?_)
        · exact absurd rfl c_45
        · refine g_aload_n dX6_readPlain_48 rfl rfl ?_
          refine g_get dX6_readPlain_49 fl_X6_23 hp_3 rfl ?_
          refine g_callV dX6_readPlain_52 cv_X6_48 (as' := []) hp_4 rfl (p_look tp h) (by omega) rfl rfl (Nat.le_of_ble_eq_true rfl) ?_
          rintro _ _ ⟨rfl, A1, I1, h, rfl⟩
          refine g_bipush (v := 59) dX6_readPlain_55 (by decide) ?_
          refine g_icmp_ne (tgt := 77) dX6_readPlain_57 (by decide) (fun c_57 => ?_) (fun c_57 => ?_)
          · rw [show ppL (A0 2) n (f + 1) (.inr (b, q)) = .inr (sk (A0 2) n b, q) from if_neg c_57] at hQ
            exact p_plain77 (s := .inr (sk (A0 2) n b, q)) tp h hQ
          · refine g_aload_n dX6_readPlain_60 rfl rfl ?_
            refine g_get dX6_readPlain_61 fl_X6_23 hp_3 rfl ?_
            refine g_callV dX6_readPlain_64 cv_X6_52 (as' := []) hp_4 rfl (p_step (bt_lt (by rw [c_57]; decide)) h) (by omega) rfl rfl (Nat.le_of_ble_eq_true rfl) ?_
            rintro _ _ ⟨rfl, A1, I1, h, rfl⟩
            refine g_aload_n dX6_readPlain_67 rfl rfl ?_
            refine g_callV dX6_readPlain_68 cv_X6_41 (as' := []) hp_3 rfl (p_clause tp h) (by omega) rfl rfl (Nat.le_of_ble_eq_true rfl) ?_
            rintro _ _ ⟨rfl, A1, I1, h, rfl⟩
            refine g_iinc1 dX6_readPlain_71 rfl (by decide) ?_
            refine g_goto (tgt := 31) dX6_readPlain_74 (by decide) ?_
            rw [show ppL (A0 2) n (f + 1) (.inr (b, q)) = ppL (A0 2) n f (pcP (A0 2) n (sk (A0 2) n b + 1) q) from if_pos c_57] at hQ
            rw [nI_1]
            exact ih (i + 1) _ _ _ (by omega) h hQ

theorem plain_begin {A I : Nat → Nat → Int32} {n : Nat} : PS A I n (.inr (0, ((fun _ => 0), 0))) (upS A 6 7 (fun _ => 0) (A 7)) (up2 (up2 (up2 I 4 1 0) 4 2 (-1)) 3 2 0) := by
  refine ⟨⟨fun i z z2 => upS_ne z z2, fun i k z1 z2 => ?_⟩, ?_, ?_, upS_r (by decide), up2_at, Nat.zero_le _⟩
  · rw [up2_ne z2, up2_ne (by omega), up2_ne (by omega)]
  · rw [up2_ne (by omega), up2_ne (by omega), up2_at]; rfl
  · rw [up2_ne (by omega), up2_at]
set_option maxHeartbeats 4000000 in
set_option maxRecDepth 100000 in
theorem p_plain {A : Nat → Nat → Int32} {L : Nat → Nat → Int64} {I : Nat → Nat → Int32} {X : Nat → Int64} {n : Nat} (tp : tpS A I n) : Con 9 yX6_readPlain cX6_readPlain 2 (some .int) [.ref 3] (hp A L I X) (fun r_ H_ => r_ = some (.int (lawV (plainP (A 2) n))) ∧ ∃ A1 I1, PS A I n (plainP (A 2) n) A1 I1 ∧ H_ = hp A1 L I1 X) := by
  refine m_con (by decide) (Nat.le_of_ble_eq_true rfl) ?_
  refine g_aload_n dX6_readPlain_0 rfl rfl ?_
  refine g_get dX6_readPlain_1 fl_X6_23 hp_3 rfl ?_
  refine g_callV dX6_readPlain_4 cv_X6_27 (as' := []) hp_4 rfl (u_begin isC_4) (by decide) rfl rfl (Nat.le_of_ble_eq_true rfl) ?_
  rintro _ _ ⟨rfl, rfl⟩
  refine g_aload_n dX6_readPlain_7 rfl rfl ?_
  refine g_get dX6_readPlain_8 fl_X6_12 hp_3 rfl ?_
  refine g_callV dX6_readPlain_11 cv_X6_30 (as' := []) hp_5 rfl (h_clear isS_5) (by decide) rfl rfl (Nat.le_of_ble_eq_true rfl) ?_
  rintro _ _ ⟨rfl, rfl⟩
  refine g_aload_n dX6_readPlain_14 rfl rfl ?_
  refine g_ic_0 dX6_readPlain_15 ?_
  refine g_putz dX6_readPlain_16 fw_X6_33 hp_3 (by first | exact Or.inl rfl | exact Or.inr rfl) (Nat.le_of_ble_eq_true rfl) ?_
  rw [hq_3_2]
  refine g_aload_n dX6_readPlain_19 rfl rfl ?_
  refine g_ic_0 dX6_readPlain_20 ?_
  refine g_ic_0 dX6_readPlain_21 ?_
  refine g_callV dX6_readPlain_22 cv_X6_37 (as' := [_, _]) hp_3 rfl (p_usual2 (n := n) plain_begin) (by omega) rfl rfl (Nat.le_of_ble_eq_true rfl) ?_
  rintro _ _ ⟨rfl, A1, I1, h, rfl⟩
  refine g_aload_n dX6_readPlain_25 rfl rfl ?_
  refine g_callV dX6_readPlain_26 cv_X6_41 (as' := []) hp_3 rfl (p_clause tp h) (by omega) rfl rfl (Nat.le_of_ble_eq_true rfl) ?_
  rintro _ _ ⟨rfl, A1, I1, h, rfl⟩
  refine g_ic_0 dX6_readPlain_29 ?_
  refine g_istore_n dX6_readPlain_30 rfl (by decide) ?_
  exact p_plain31 tp 240 0 _ _ _ rfl h (fun A8 I8 h8 => ⟨rfl, A8, I8, h8, rfl⟩)
