/-! READING A LAW: units, truths, conditions -/
def CUnit (r : Nat) : Prop := ∀ {A0 I0 A I : Nat → Nat → Int32} {L : Nat → Nat → Int64} {X : Nat → Int64} {n : Nat} {w : TL} {k : Nat} {s : PR TL}, tpS A0 I0 n → SS A0 I0 n w k s A I → Con (10 + 4 * r) yX4_readUnit cX4_readUnit 5 none [.ref 8, .int (nI (6 - r)), .int 0] (hp A L I X) (RQ A0 L I0 X n w k (bnd s (unitP (A0 2) n r)))
def CUnit1 (r : Nat) : Prop := ∀ {A0 I0 A I : Nat → Nat → Int32} {L : Nat → Nat → Int64} {X : Nat → Int64} {n : Nat} {w : TL} {k : Nat} {s : PR TL}, tpS A0 I0 n → SS A0 I0 n w k s A I → Con (10 + 4 * r) yX4_readUnit cX4_readUnit 5 none [.ref 8, .int (nI (6 - r)), .int 1] (hp A L I X) (RQ A0 L I0 X n w k (bnd s (cmpQ (A0 2) n r)))
def CTruth (r : Nat) : Prop := ∀ {A0 I0 A I : Nat → Nat → Int32} {L : Nat → Nat → Int64} {X : Nat → Int64} {n : Nat} {w : TL} {k : Nat} {s : PR TL}, tpS A0 I0 n → SS A0 I0 n w k s A I → Con (11 + 4 * r) yX4_readTruth cX4_readTruth 4 none [.ref 8, .int (nI (6 - r)), .int 0] (hp A L I X) (RQ A0 L I0 X n w k (bnd s (fun a => truthF (A0 2) n (unitP (A0 2) n r) ((unitP (A0 2) n r) a))))
def CTruth1 (r : Nat) : Prop := ∀ {A0 I0 A I : Nat → Nat → Int32} {L : Nat → Nat → Int64} {X : Nat → Int64} {n : Nat} {w : TL} {k : Nat} {s : PR TL}, tpS A0 I0 n → SS A0 I0 n w k s A I → Con (11 + 4 * r) yX4_readTruth cX4_readTruth 4 none [.ref 8, .int (nI (6 - r)), .int 1] (hp A L I X) (RQ A0 L I0 X n w k (bnd s (fun a => truthF (A0 2) n (unitP (A0 2) n r) (cmpQ (A0 2) n r a))))
def CCond (r : Nat) : Prop := ∀ {A0 I0 A I : Nat → Nat → Int32} {L : Nat → Nat → Int64} {X : Nat → Int64} {n : Nat} {w : TL} {k : Nat} {s : PR TL}, tpS A0 I0 n → SS A0 I0 n w k s A I → Con (12 + 4 * r) yX4_readCondition cX4_readCondition 4 none [.ref 8, .int (nI (6 - r)), .int 0] (hp A L I X) (RQ A0 L I0 X n w k (bnd s (fun a => condF (A0 2) n (unitP (A0 2) n r) ((unitP (A0 2) n r) a))))
def CCond1 (r : Nat) : Prop := ∀ {A0 I0 A I : Nat → Nat → Int32} {L : Nat → Nat → Int64} {X : Nat → Int64} {n : Nat} {w : TL} {k : Nat} {s : PR TL}, tpS A0 I0 n → SS A0 I0 n w k s A I → Con (12 + 4 * r) yX4_readCondition cX4_readCondition 4 none [.ref 8, .int (nI (6 - r)), .int 1] (hp A L I X) (RQ A0 L I0 X n w k (bnd s (fun a => condF (A0 2) n (unitP (A0 2) n r) (cmpQ (A0 2) n r a))))
set_option maxHeartbeats 4000000 in
set_option maxRecDepth 100000 in
theorem r_nest0 {A0 I0 A I : Nat → Nat → Int32} {L : Nat → Nat → Int64} {X : Nat → Int64} {n : Nat} {w : TL} {k b : Nat} {u : TL} {sg : Int32} (tp : tpS A0 I0 n) (h : SS A0 I0 n w k (.inr (b, u)) A I) : Con 9 yX4_readNested cX4_readNested 3 none [.ref 8, .int (nI (6 - 0)), .int sg] (hp A L I X) (RQ A0 L I0 X n w k (.inl b)) := by
  refine m_con (by decide) (Nat.le_of_ble_eq_true rfl) ?_
  refine g_iload_n dX4_readNested_0 rfl rfl ?_
  refine g_bipush (v := 6) dX4_readNested_1 (by decide) ?_
  refine g_icmp_lt (tgt := 14) dX4_readNested_3 (by decide) (fun c_3 => ?_) (fun c_3 => ?_)
  · exact absurd c_3 (by decide)
  · refine g_aload_n dX4_readNested_6 rfl rfl ?_
    refine g_get dX4_readNested_7 fl_X4_20 hp_8 rfl ?_
    refine g_callV dX4_readNested_10 cv_X4_47 (as' := []) hp_9 rfl (r_fail tp h) (by omega) rfl rfl (Nat.le_of_ble_eq_true rfl) ?_
    rintro _ _ ⟨rfl, A1, I1, h, rfl⟩
    exact g_vret dX4_readNested_13 ⟨rfl, A1, I1, h, rfl⟩

set_option maxHeartbeats 4000000 in
set_option maxRecDepth 100000 in
theorem r_nest33 {A0 I0 A I : Nat → Nat → Int32} {L : Nat → Nat → Int64} {X : Nat → Int64} {n : Nat} {w : TL} {k r b : Nat} {u : TL} {sg : Int32} (tp : tpS A0 I0 n) (hr : r + 1 ≤ 6) (hU : CUnit r) (hsg : sg = 33) (hlt : b < n) (h : SS A0 I0 n w k (.inr (b, u)) A I) : Con (9 + 4 * (r + 1)) yX4_readNested cX4_readNested 3 none [.ref 8, .int (nI (6 - (r + 1))), .int sg] (hp A L I X) (RQ A0 L I0 X n w k (wrS (wd 2 33) (bnd (.inr (b + 1, u)) (unitP (A0 2) n r)))) := by
  refine m_con (by decide) (Nat.le_of_ble_eq_true rfl) ?_
  refine g_iload_n dX4_readNested_0 rfl rfl ?_
  refine g_bipush (v := 6) dX4_readNested_1 (by decide) ?_
  refine g_icmp_lt (tgt := 14) dX4_readNested_3 (by decide) (fun c_3 => ?_) (fun c_3 => ?_)
  · refine g_aload_n dX4_readNested_14 rfl rfl ?_
    refine g_get dX4_readNested_15 fl_X4_20 hp_8 rfl ?_
    refine g_callV dX4_readNested_18 cv_X4_42 (as' := []) hp_9 rfl (r_step tp (fun b u z => by cases z; exact hlt) h) (by omega) rfl rfl (Nat.le_of_ble_eq_true rfl) ?_
    rintro _ _ ⟨rfl, A1, I1, h, rfl⟩
    refine g_iload_n dX4_readNested_21 rfl rfl ?_
    refine g_bipush (v := 33) dX4_readNested_22 (by decide) ?_
    refine g_icmp_ne (tgt := 45) dX4_readNested_24 (by decide) (fun c_24 => ?_) (fun c_24 => ?_)
    · exact absurd hsg c_24
    · refine g_aload_n dX4_readNested_27 rfl rfl ?_
      refine g_iload_n dX4_readNested_28 rfl rfl ?_
      refine g_ic_1 dX4_readNested_29 ?_
      refine g_iadd dX4_readNested_30 ?_
      refine g_ic_0 dX4_readNested_31 ?_
      rw [show nI (6 - (r + 1)) + 1 = nI (6 - r) by rw [nI_1]; congr 1; omega]
      refine g_callV dX4_readNested_32 cv_X4_81 (as' := [_, _]) hp_8 rfl (hU tp h) (by omega) rfl rfl (Nat.le_of_ble_eq_true rfl) ?_
      rintro _ _ ⟨rfl, A1, I1, h, rfl⟩
      refine g_aload_n dX4_readNested_35 rfl rfl ?_
      refine g_ic_2 dX4_readNested_36 ?_
      refine g_bipush (v := 33) dX4_readNested_37 (by decide) ?_
      refine g_callV dX4_readNested_39 cv_X4_74 (as' := [_, _]) hp_8 rfl (r_write tp h) (by omega) rfl rfl (Nat.le_of_ble_eq_true rfl) ?_
      rintro _ _ ⟨rfl, A1, I1, h, rfl⟩
      refine g_goto (tgt := 62) dX4_readNested_42 (by decide) ?_
      exact g_vret dX4_readNested_62 ⟨rfl, A1, I1, SS_less (by omega) h, rfl⟩
  · exact absurd ((nI_ltI (b := 6) (by omega) (by omega)).mpr (by omega)) c_3

set_option maxHeartbeats 4000000 in
set_option maxRecDepth 100000 in
theorem r_nest40 {A0 I0 A I : Nat → Nat → Int32} {L : Nat → Nat → Int64} {X : Nat → Int64} {n : Nat} {w : TL} {k r b : Nat} {u : TL} {sg : Int32} (tp : tpS A0 I0 n) (hr : r + 1 ≤ 6) (hU : CCond r) (hsg : sg = 40) (hlt : b < n) (h : SS A0 I0 n w k (.inr (b, u)) A I) : Con (9 + 4 * (r + 1)) yX4_readNested cX4_readNested 3 none [.ref 8, .int (nI (6 - (r + 1))), .int sg] (hp A L I X) (RQ A0 L I0 X n w k (exS (A0 2) n 41 (bnd (.inr (b + 1, u)) (fun a => condF (A0 2) n (unitP (A0 2) n r) ((unitP (A0 2) n r) a))))) := by
  refine m_con (by decide) (Nat.le_of_ble_eq_true rfl) ?_
  refine g_iload_n dX4_readNested_0 rfl rfl ?_
  refine g_bipush (v := 6) dX4_readNested_1 (by decide) ?_
  refine g_icmp_lt (tgt := 14) dX4_readNested_3 (by decide) (fun c_3 => ?_) (fun c_3 => ?_)
  · refine g_aload_n dX4_readNested_14 rfl rfl ?_
    refine g_get dX4_readNested_15 fl_X4_20 hp_8 rfl ?_
    refine g_callV dX4_readNested_18 cv_X4_42 (as' := []) hp_9 rfl (r_step tp (fun b u z => by cases z; exact hlt) h) (by omega) rfl rfl (Nat.le_of_ble_eq_true rfl) ?_
    rintro _ _ ⟨rfl, A1, I1, h, rfl⟩
    refine g_iload_n dX4_readNested_21 rfl rfl ?_
    refine g_bipush (v := 33) dX4_readNested_22 (by decide) ?_
    refine g_icmp_ne (tgt := 45) dX4_readNested_24 (by decide) (fun c_24 => ?_) (fun c_24 => ?_)
    · refine g_aload_n dX4_readNested_45 rfl rfl ?_
      refine g_iload_n dX4_readNested_46 rfl rfl ?_
      refine g_ic_1 dX4_readNested_47 ?_
      refine g_iadd dX4_readNested_48 ?_
      refine g_ic_0 dX4_readNested_49 ?_
      rw [show nI (6 - (r + 1)) + 1 = nI (6 - r) by rw [nI_1]; congr 1; omega]
      refine g_callV dX4_readNested_50 cv_X4_70 (as' := [_, _]) hp_8 rfl (hU tp h) (by omega) rfl rfl (Nat.le_of_ble_eq_true rfl) ?_
      rintro _ _ ⟨rfl, A1, I1, h, rfl⟩
      refine g_aload_n dX4_readNested_53 rfl rfl ?_
      refine g_get dX4_readNested_54 fl_X4_20 hp_8 rfl ?_
      refine g_bipush (v := 41) dX4_readNested_57 (by decide) ?_
      refine g_callV dX4_readNested_59 cv_X4_59 (as' := [_]) hp_9 rfl (r_expect tp (by decide) h) (by omega) rfl rfl (Nat.le_of_ble_eq_true rfl) ?_
      rintro _ _ ⟨rfl, A1, I1, h, rfl⟩
      exact g_vret dX4_readNested_62 ⟨rfl, A1, I1, SS_less (by omega) h, rfl⟩
    · exact absurd (c_24.symm.trans hsg) (by decide)
  · exact absurd ((nI_ltI (b := 6) (by omega) (by omega)).mpr (by omega)) c_3

set_option maxHeartbeats 4000000 in
set_option maxRecDepth 100000 in
theorem r_unit51 {A0 I0 A I : Nat → Nat → Int32} {L : Nat → Nat → Int64} {X : Nat → Int64} {n : Nat} {w : TL} {k r : Nat} {s : PR TL} {bg : Int32} {Q : Option Value → m_H → Prop} (tp : tpS A0 I0 n) (hS : CSum r) (h : SS A0 I0 n w k s A I) (hQ : ∀ A1 I1, SS A0 I0 n w k (bnd s (cmpQ (A0 2) n r)) A1 I1 → Q none (hp A1 L I1 X)) : G (10 + 4 * r) RX4 cX4_readUnit 5 none Q 51 [some (.ref 8), some (.int (nI (6 - r))), some (.int bg), none, none] [] (hp A L I X) := by
  rcases s with p | ⟨b, u⟩
  · skip
    refine g_aload_n dX4_readUnit_51 rfl rfl ?_
    refine g_get dX4_readUnit_52 fl_X4_20 hp_8 rfl ?_
    refine g_callV dX4_readUnit_55 cv_X4_38 (as' := []) hp_9 rfl (r_look tp h) (by omega) rfl rfl (Nat.le_of_ble_eq_true rfl) ?_
    rintro _ _ ⟨v55, rfl, A1, I1, h, hv, rfl⟩
    refine g_istore dX4_readUnit_58 (by decide) ?_
    refine g_aload_n dX4_readUnit_60 rfl rfl ?_
    refine g_get dX4_readUnit_61 fl_X4_20 hp_8 rfl ?_
    refine g_callV dX4_readUnit_64 cv_X4_34 (as' := []) hp_9 rfl (r_failed tp h) (by omega) rfl rfl (Nat.le_of_ble_eq_true rfl) ?_
    rintro _ _ ⟨rfl, rfl⟩
    refine g_if_ne (tgt := 78) dX4_readUnit_67 (by decide) (fun c_67 => ?_) (fun c_67 => ?_)
    · refine g_aload_n dX4_readUnit_78 rfl rfl ?_
      refine g_get dX4_readUnit_79 fl_X4_20 hp_8 rfl ?_
      refine g_callV dX4_readUnit_82 cv_X4_47 (as' := []) hp_9 rfl (r_fail tp h) (by omega) rfl rfl (Nat.le_of_ble_eq_true rfl) ?_
      rintro _ _ ⟨rfl, A1, I1, h, rfl⟩
      exact g_vret dX4_readUnit_85 (hQ _ _ h)
    · exact absurd (show (1 : Int32) = 0 from c_67) (by decide)
  · skip
    refine g_aload_n dX4_readUnit_51 rfl rfl ?_
    refine g_get dX4_readUnit_52 fl_X4_20 hp_8 rfl ?_
    refine g_callV dX4_readUnit_55 cv_X4_38 (as' := []) hp_9 rfl (r_look tp h) (by omega) rfl rfl (Nat.le_of_ble_eq_true rfl) ?_
    rintro _ _ ⟨v55, rfl, A1, I1, h, hv, rfl⟩
    obtain rfl := hv _ _ rfl
    refine g_istore dX4_readUnit_58 (by decide) ?_
    refine g_aload_n dX4_readUnit_60 rfl rfl ?_
    refine g_get dX4_readUnit_61 fl_X4_20 hp_8 rfl ?_
    refine g_callV dX4_readUnit_64 cv_X4_34 (as' := []) hp_9 rfl (r_failed tp h) (by omega) rfl rfl (Nat.le_of_ble_eq_true rfl) ?_
    rintro _ _ ⟨rfl, rfl⟩
    refine g_if_ne (tgt := 78) dX4_readUnit_67 (by decide) (fun c_67 => ?_) (fun c_67 => ?_)
    · exact absurd rfl c_67
    · refine g_iload dX4_readUnit_70 rfl ?_
      refine g_callS dX4_readUnit_72 cs_X4_66 (as := [_]) r_isC (by omega) rfl rfl (Nat.le_of_ble_eq_true rfl) ?_
      rintro _ _ ⟨rfl, rfl⟩
      refine g_if_ne (tgt := 86) dX4_readUnit_75 (by decide) (fun c_75 => ?_) (fun c_75 => ?_)
      · have hop : opC (bt (A0 2) n (sk (A0 2) n b)) = true := by by_cases z : opC (bt (A0 2) n (sk (A0 2) n b)) = true; exact z; exact absurd (if_neg z) c_75
        refine g_aload_n dX4_readUnit_86 rfl rfl ?_
        refine g_get dX4_readUnit_87 fl_X4_20 hp_8 rfl ?_
        refine g_callV dX4_readUnit_90 cv_X4_42 (as' := []) hp_9 rfl (r_step tp (fun b u z => by cases z; exact bt_lt (fun z => by rw [z] at hop; exact absurd hop (by decide))) h) (by omega) rfl rfl (Nat.le_of_ble_eq_true rfl) ?_
        rintro _ _ ⟨rfl, A1, I1, h, rfl⟩
        refine g_aload_n dX4_readUnit_93 rfl rfl ?_
        refine g_iload_n dX4_readUnit_94 rfl rfl ?_
        refine g_callV dX4_readUnit_95 cv_X4_63 (as' := [_]) hp_8 rfl (hS tp h) (by omega) rfl rfl (Nat.le_of_ble_eq_true rfl) ?_
        rintro _ _ ⟨rfl, A1, I1, h, rfl⟩
        refine g_aload_n dX4_readUnit_98 rfl rfl ?_
        refine g_ic_2 dX4_readUnit_99 ?_
        refine g_iload dX4_readUnit_100 rfl ?_
        refine g_callV dX4_readUnit_102 cv_X4_74 (as' := [_, _]) hp_8 rfl (r_write tp h) (by omega) rfl rfl (Nat.le_of_ble_eq_true rfl) ?_
        rintro _ _ ⟨rfl, A1, I1, h, rfl⟩
        exact g_vret dX4_readUnit_105 (hQ _ _ (by rw [bnd_eq (f := cmpQ (A0 2) n r) (if_pos hop), ← bnd_eq (a := sk (A0 2) n b + 1) (u := u) (f := fun a => wrS (wd 2 (bt (A0 2) n (sk (A0 2) n b))) (sumP (A0 2) n r a)) rfl, ← wrS_bnd]; exact h))
      · refine g_aload_n dX4_readUnit_78 rfl rfl ?_
        refine g_get dX4_readUnit_79 fl_X4_20 hp_8 rfl ?_
        have hop : ¬ opC (bt (A0 2) n (sk (A0 2) n b)) = true := fun z => by rw [if_pos z] at c_75; exact absurd c_75 (by decide)
        refine g_callV dX4_readUnit_82 cv_X4_47 (as' := []) hp_9 rfl (r_fail tp h) (by omega) rfl rfl (Nat.le_of_ble_eq_true rfl) ?_
        rintro _ _ ⟨rfl, A1, I1, h, rfl⟩
        exact g_vret dX4_readUnit_85 (hQ _ _ (by rw [bnd_eq (f := cmpQ (A0 2) n r) (if_neg hop)]; exact h))

set_option maxHeartbeats 4000000 in
set_option maxRecDepth 100000 in
theorem r_unitB {r : Nat} (hS : CSum r) : CUnit1 r := by
  intro A0 I0 A I L X n w k s tp h
  refine m_con (by decide) (Nat.le_of_ble_eq_true rfl) ?_
  rcases s with p | ⟨a, u⟩
  · skip
    refine g_aload_n dX4_readUnit_0 rfl rfl ?_
    refine g_get dX4_readUnit_1 fl_X4_20 hp_8 rfl ?_
    refine g_callV dX4_readUnit_4 cv_X4_34 (as' := []) hp_9 rfl (r_failed tp h) (by omega) rfl rfl (Nat.le_of_ble_eq_true rfl) ?_
    rintro _ _ ⟨rfl, rfl⟩
    refine g_if_eq (tgt := 11) dX4_readUnit_7 (by decide) (fun c_7 => ?_) (fun c_7 => ?_)
    · exact absurd (show (1 : Int32) = 0 from c_7) (by decide)
    · exact g_vret dX4_readUnit_10 ⟨rfl, A, I, h, rfl⟩
  · skip
    refine g_aload_n dX4_readUnit_0 rfl rfl ?_
    refine g_get dX4_readUnit_1 fl_X4_20 hp_8 rfl ?_
    refine g_callV dX4_readUnit_4 cv_X4_34 (as' := []) hp_9 rfl (r_failed tp h) (by omega) rfl rfl (Nat.le_of_ble_eq_true rfl) ?_
    rintro _ _ ⟨rfl, rfl⟩
    refine g_if_eq (tgt := 11) dX4_readUnit_7 (by decide) (fun c_7 => ?_) (fun c_7 => ?_)
    · refine g_aload_n dX4_readUnit_11 rfl rfl ?_
      refine g_get dX4_readUnit_12 fl_X4_20 hp_8 rfl ?_
      refine g_callV dX4_readUnit_15 cv_X4_38 (as' := []) hp_9 rfl (r_look tp h) (by omega) rfl rfl (Nat.le_of_ble_eq_true rfl) ?_
      rintro _ _ ⟨v15, rfl, A1, I1, h, hv, rfl⟩
      obtain rfl := hv _ _ rfl
      refine g_istore_n dX4_readUnit_18 rfl (by decide) ?_
      refine g_iload_n dX4_readUnit_19 rfl rfl ?_
      refine g_if_ne (tgt := 42) dX4_readUnit_20 (by decide) (fun c_20 => ?_) (fun c_20 => ?_)
      · refine g_iload_n dX4_readUnit_42 rfl rfl ?_
        refine g_if_ne (tgt := 51) dX4_readUnit_43 (by decide) (fun c_43 => ?_) (fun c_43 => ?_)
        · refine g_loc (ls' := [some (.ref 8), some (.int (nI (6 - r))), some (.int 1), none, none]) (fun i v h => by rcases i with _|_|_|_|_|_ <;> first | exact h | cases h) ?_
          refine r_unit51 tp hS h (fun A8 I8 h8 => ⟨rfl, A8, I8, ?_, rfl⟩)
          rw [← bnd_sk (T := A0 2) (n := n) (a := a) (u := u) (f := cmpQ (A0 2) n r) (by unfold cmpQ; rw [sk_sk])]
          exact h8
        · exact absurd c_43 (by decide)
      · exact absurd c_20 (by decide)
    · exact absurd rfl c_7

set_option maxHeartbeats 4000000 in
set_option maxRecDepth 100000 in
theorem r_unit0 (hS : CSum 0) : CUnit 0 := by
  intro A0 I0 A I L X n w k s tp h
  refine m_con (by decide) (Nat.le_of_ble_eq_true rfl) ?_
  rcases s with p | ⟨a, u⟩
  · skip
    refine g_aload_n dX4_readUnit_0 rfl rfl ?_
    refine g_get dX4_readUnit_1 fl_X4_20 hp_8 rfl ?_
    refine g_callV dX4_readUnit_4 cv_X4_34 (as' := []) hp_9 rfl (r_failed tp h) (by omega) rfl rfl (Nat.le_of_ble_eq_true rfl) ?_
    rintro _ _ ⟨rfl, rfl⟩
    refine g_if_eq (tgt := 11) dX4_readUnit_7 (by decide) (fun c_7 => ?_) (fun c_7 => ?_)
    · exact absurd (show (1 : Int32) = 0 from c_7) (by decide)
    · exact g_vret dX4_readUnit_10 ⟨rfl, A, I, h, rfl⟩
  · skip
    refine g_aload_n dX4_readUnit_0 rfl rfl ?_
    refine g_get dX4_readUnit_1 fl_X4_20 hp_8 rfl ?_
    refine g_callV dX4_readUnit_4 cv_X4_34 (as' := []) hp_9 rfl (r_failed tp h) (by omega) rfl rfl (Nat.le_of_ble_eq_true rfl) ?_
    rintro _ _ ⟨rfl, rfl⟩
    refine g_if_eq (tgt := 11) dX4_readUnit_7 (by decide) (fun c_7 => ?_) (fun c_7 => ?_)
    · refine g_aload_n dX4_readUnit_11 rfl rfl ?_
      refine g_get dX4_readUnit_12 fl_X4_20 hp_8 rfl ?_
      refine g_callV dX4_readUnit_15 cv_X4_38 (as' := []) hp_9 rfl (r_look tp h) (by omega) rfl rfl (Nat.le_of_ble_eq_true rfl) ?_
      rintro _ _ ⟨v15, rfl, A1, I1, h, hv, rfl⟩
      obtain rfl := hv _ _ rfl
      refine g_istore_n dX4_readUnit_18 rfl (by decide) ?_
      refine g_iload_n dX4_readUnit_19 rfl rfl ?_
      refine g_if_ne (tgt := 42) dX4_readUnit_20 (by decide) (fun c_20 => ?_) (fun c_20 => ?_)
      · exact absurd rfl c_20
      · refine g_iload_n dX4_readUnit_23 rfl rfl ?_
        refine g_bipush (v := 33) dX4_readUnit_24 (by decide) ?_
        refine g_icmp_eq (tgt := 35) dX4_readUnit_26 (by decide) (fun c_26 => ?_) (fun c_26 => ?_)
        · refine g_aload_n dX4_readUnit_35 rfl rfl ?_
          refine g_iload_n dX4_readUnit_36 rfl rfl ?_
          refine g_iload_n dX4_readUnit_37 rfl rfl ?_
          refine g_callV dX4_readUnit_38 cv_X4_84 (as' := [_, _]) hp_8 rfl (r_nest0 tp h) (by omega) rfl rfl (Nat.le_of_ble_eq_true rfl) ?_
          rintro _ _ ⟨rfl, A1, I1, h, rfl⟩
          exact g_vret dX4_readUnit_41 ⟨rfl, A1, I1, by rw [bnd_eq (f := unitP (A0 2) n 0) (if_pos c_26)]; exact h, rfl⟩
        · refine g_iload_n dX4_readUnit_29 rfl rfl ?_
          refine g_bipush (v := 40) dX4_readUnit_30 (by decide) ?_
          refine g_icmp_ne (tgt := 42) dX4_readUnit_32 (by decide) (fun c_32 => ?_) (fun c_32 => ?_)
          · refine g_iload_n dX4_readUnit_42 rfl rfl ?_
            refine g_if_ne (tgt := 51) dX4_readUnit_43 (by decide) (fun c_43 => ?_) (fun c_43 => ?_)
            · exact absurd rfl c_43
            · refine g_aload_n dX4_readUnit_46 rfl rfl ?_
              refine g_iload_n dX4_readUnit_47 rfl rfl ?_
              refine g_callV dX4_readUnit_48 cv_X4_63 (as' := [_]) hp_8 rfl (hS tp h) (by omega) rfl rfl (Nat.le_of_ble_eq_true rfl) ?_
              rintro _ _ ⟨rfl, A1, I1, h, rfl⟩
              refine g_loc (ls' := [some (.ref 8), some (.int (nI (6 - 0))), some (.int 0), none, none]) (fun i v h => by rcases i with _|_|_|_|_|_ <;> first | exact h | cases h) ?_
              refine r_unit51 tp hS h (fun A8 I8 h8 => ⟨rfl, A8, I8, ?_, rfl⟩)
              rw [bnd_eq (f := unitP (A0 2) n 0) ((if_neg c_26).trans (if_neg c_32)), ← bnd_eq (a := sk (A0 2) n a) (u := u) (f := fun a => bnd (sumP (A0 2) n 0 a) (cmpQ (A0 2) n 0)) rfl, ← bnd_bnd]
              exact h8
          · refine g_aload_n dX4_readUnit_35 rfl rfl ?_
            refine g_iload_n dX4_readUnit_36 rfl rfl ?_
            refine g_iload_n dX4_readUnit_37 rfl rfl ?_
            refine g_callV dX4_readUnit_38 cv_X4_84 (as' := [_, _]) hp_8 rfl (r_nest0 tp h) (by omega) rfl rfl (Nat.le_of_ble_eq_true rfl) ?_
            rintro _ _ ⟨rfl, A1, I1, h, rfl⟩
            exact g_vret dX4_readUnit_41 ⟨rfl, A1, I1, by rw [bnd_eq (f := unitP (A0 2) n 0) ((if_neg c_26).trans (if_pos c_32))]; exact h, rfl⟩
    · exact absurd rfl c_7

set_option maxHeartbeats 4000000 in
set_option maxRecDepth 100000 in
theorem r_unitS {r : Nat} (hr : r + 1 ≤ 6) (hS : CSum (r + 1)) (hU : CUnit r) (hC : CCond r) : CUnit (r + 1) := by
  intro A0 I0 A I L X n w k s tp h
  refine m_con (by decide) (Nat.le_of_ble_eq_true rfl) ?_
  rcases s with p | ⟨a, u⟩
  · skip
    refine g_aload_n dX4_readUnit_0 rfl rfl ?_
    refine g_get dX4_readUnit_1 fl_X4_20 hp_8 rfl ?_
    refine g_callV dX4_readUnit_4 cv_X4_34 (as' := []) hp_9 rfl (r_failed tp h) (by omega) rfl rfl (Nat.le_of_ble_eq_true rfl) ?_
    rintro _ _ ⟨rfl, rfl⟩
    refine g_if_eq (tgt := 11) dX4_readUnit_7 (by decide) (fun c_7 => ?_) (fun c_7 => ?_)
    · exact absurd (show (1 : Int32) = 0 from c_7) (by decide)
    · exact g_vret dX4_readUnit_10 ⟨rfl, A, I, h, rfl⟩
  · skip
    refine g_aload_n dX4_readUnit_0 rfl rfl ?_
    refine g_get dX4_readUnit_1 fl_X4_20 hp_8 rfl ?_
    refine g_callV dX4_readUnit_4 cv_X4_34 (as' := []) hp_9 rfl (r_failed tp h) (by omega) rfl rfl (Nat.le_of_ble_eq_true rfl) ?_
    rintro _ _ ⟨rfl, rfl⟩
    refine g_if_eq (tgt := 11) dX4_readUnit_7 (by decide) (fun c_7 => ?_) (fun c_7 => ?_)
    · refine g_aload_n dX4_readUnit_11 rfl rfl ?_
      refine g_get dX4_readUnit_12 fl_X4_20 hp_8 rfl ?_
      refine g_callV dX4_readUnit_15 cv_X4_38 (as' := []) hp_9 rfl (r_look tp h) (by omega) rfl rfl (Nat.le_of_ble_eq_true rfl) ?_
      rintro _ _ ⟨v15, rfl, A1, I1, h, hv, rfl⟩
      obtain rfl := hv _ _ rfl
      refine g_istore_n dX4_readUnit_18 rfl (by decide) ?_
      refine g_iload_n dX4_readUnit_19 rfl rfl ?_
      refine g_if_ne (tgt := 42) dX4_readUnit_20 (by decide) (fun c_20 => ?_) (fun c_20 => ?_)
      · exact absurd rfl c_20
      · refine g_iload_n dX4_readUnit_23 rfl rfl ?_
        refine g_bipush (v := 33) dX4_readUnit_24 (by decide) ?_
        refine g_icmp_eq (tgt := 35) dX4_readUnit_26 (by decide) (fun c_26 => ?_) (fun c_26 => ?_)
        · refine g_aload_n dX4_readUnit_35 rfl rfl ?_
          refine g_iload_n dX4_readUnit_36 rfl rfl ?_
          refine g_iload_n dX4_readUnit_37 rfl rfl ?_
          refine g_callV dX4_readUnit_38 cv_X4_84 (as' := [_, _]) hp_8 rfl (r_nest33 tp hr hU c_26 (bt_lt (by rw [c_26]; decide)) h) (by omega) rfl rfl (Nat.le_of_ble_eq_true rfl) ?_
          rintro _ _ ⟨rfl, A1, I1, h, rfl⟩
          exact g_vret dX4_readUnit_41 ⟨rfl, A1, I1, by rw [bnd_eq (f := unitP (A0 2) n (r + 1)) (r := wrS (wd 2 33) ((UP (A0 2) n r).1 (sk (A0 2) n a + 1))) (if_pos c_26), ← bnd_eq (a := sk (A0 2) n a + 1) (u := u) (f := fun a => wrS (wd 2 33) ((UP (A0 2) n r).1 a)) rfl, ← wrS_bnd, UP_u]; exact h, rfl⟩
        · refine g_iload_n dX4_readUnit_29 rfl rfl ?_
          refine g_bipush (v := 40) dX4_readUnit_30 (by decide) ?_
          refine g_icmp_ne (tgt := 42) dX4_readUnit_32 (by decide) (fun c_32 => ?_) (fun c_32 => ?_)
          · refine g_iload_n dX4_readUnit_42 rfl rfl ?_
            refine g_if_ne (tgt := 51) dX4_readUnit_43 (by decide) (fun c_43 => ?_) (fun c_43 => ?_)
            · exact absurd rfl c_43
            · refine g_aload_n dX4_readUnit_46 rfl rfl ?_
              refine g_iload_n dX4_readUnit_47 rfl rfl ?_
              refine g_callV dX4_readUnit_48 cv_X4_63 (as' := [_]) hp_8 rfl (hS tp h) (by omega) rfl rfl (Nat.le_of_ble_eq_true rfl) ?_
              rintro _ _ ⟨rfl, A1, I1, h, rfl⟩
              refine g_loc (ls' := [some (.ref 8), some (.int (nI (6 - (r + 1)))), some (.int 0), none, none]) (fun i v h => by rcases i with _|_|_|_|_|_ <;> first | exact h | cases h) ?_
              refine r_unit51 tp hS h (fun A8 I8 h8 => ⟨rfl, A8, I8, ?_, rfl⟩)
              rw [bnd_eq (f := unitP (A0 2) n (r + 1)) ((if_neg c_26).trans (if_neg c_32)), ← bnd_eq (a := sk (A0 2) n a) (u := u) (f := fun a => bnd (sumP (A0 2) n (r + 1) a) (cmpQ (A0 2) n (r + 1))) rfl, ← bnd_bnd]
              exact h8
          · refine g_aload_n dX4_readUnit_35 rfl rfl ?_
            refine g_iload_n dX4_readUnit_36 rfl rfl ?_
            refine g_iload_n dX4_readUnit_37 rfl rfl ?_
            refine g_callV dX4_readUnit_38 cv_X4_84 (as' := [_, _]) hp_8 rfl (r_nest40 tp hr hC c_32 (bt_lt (by rw [c_32]; decide)) h) (by omega) rfl rfl (Nat.le_of_ble_eq_true rfl) ?_
            rintro _ _ ⟨rfl, A1, I1, h, rfl⟩
            exact g_vret dX4_readUnit_41 ⟨rfl, A1, I1, by rw [bnd_eq (f := unitP (A0 2) n (r + 1)) (r := exS (A0 2) n 41 ((UP (A0 2) n r).2 (sk (A0 2) n a + 1))) ((if_neg c_26).trans (if_pos c_32)), ← bnd_eq (a := sk (A0 2) n a + 1) (u := u) (f := fun a => exS (A0 2) n 41 ((UP (A0 2) n r).2 a)) rfl, ← exS_bnd, UP_c]; exact h, rfl⟩
    · exact absurd rfl c_7

set_option maxHeartbeats 4000000 in
set_option maxRecDepth 100000 in
theorem r_truth_loop {A0 I0 : Nat → Nat → Int32} {L : Nat → Nat → Int64} {X : Nat → Int64} {n : Nat} {w : TL} {k r : Nat} {bg : Int32} {Q : Option Value → m_H → Prop} (tp : tpS A0 I0 n) (hA : CUnit r) : ∀ f i (s : PR TL) A I, f + i = 240 → SS A0 I0 n w k s A I → (∀ A1 I1, SS A0 I0 n w k (lpB (A0 2) n (unitP (A0 2) n r) (op1 38) f s) A1 I1 → Q none (hp A1 L I1 X)) → G (11 + 4 * r) RX4 cX4_readTruth 4 none Q 8 [some (.ref 8), some (.int (nI (6 - r))), some (.int bg), some (.int (nI i))] [] (hp A L I X) := by
  intro f
  induction f with
  | zero =>
    intro i s A I hf h hQ
    refine g_iload_n dX4_readTruth_8 rfl rfl ?_
    refine g_sipush (v := 240) dX4_readTruth_9 (by decide) ?_
    refine g_icmp_ge (tgt := 63) dX4_readTruth_12 (by decide) (fun c_12 => ?_) (fun c_12 => ?_)
    · exact g_vret dX4_readTruth_63 (hQ _ _ (by cases s <;> exact h))
    · exact absurd (nI_le (a := 240) (b := i) (by omega) (by omega)) c_12
  | succ f ih =>
    intro i s A I hf h hQ
    rcases s with p | ⟨b, u⟩
    · skip
      refine g_iload_n dX4_readTruth_8 rfl rfl ?_
      refine g_sipush (v := 240) dX4_readTruth_9 (by decide) ?_
      refine g_icmp_ge (tgt := 63) dX4_readTruth_12 (by decide) (fun c_12 => ?_) (fun c_12 => ?_)
      · exact g_vret dX4_readTruth_63 (hQ _ _ h)
      · refine g_aload_n dX4_readTruth_15 rfl rfl ?_
        refine g_get dX4_readTruth_16 fl_X4_20 hp_8 rfl ?_
        refine g_callV dX4_readTruth_19 cv_X4_34 (as' := []) hp_9 rfl (r_failed tp h) (by omega) rfl rfl (Nat.le_of_ble_eq_true rfl) ?_
        rintro _ _ ⟨rfl, rfl⟩
        refine g_if_ne (tgt := 63) dX4_readTruth_22 (by decide) (fun c_22 => ?_) (fun c_22 => ?_)
        · exact g_vret dX4_readTruth_63 (hQ _ _ h)
        · exact absurd (show (1 : Int32) = 0 from c_22) (by decide)
    · skip
      refine g_iload_n dX4_readTruth_8 rfl rfl ?_
      refine g_sipush (v := 240) dX4_readTruth_9 (by decide) ?_
      refine g_icmp_ge (tgt := 63) dX4_readTruth_12 (by decide) (fun c_12 => ?_) (fun c_12 => ?_)
      · exact absurd ((nI_leI (a := 240) (b := i) (by omega) (by omega)).mp c_12) (by omega)
      · refine g_aload_n dX4_readTruth_15 rfl rfl ?_
        refine g_get dX4_readTruth_16 fl_X4_20 hp_8 rfl ?_
        refine g_callV dX4_readTruth_19 cv_X4_34 (as' := []) hp_9 rfl (r_failed tp h) (by omega) rfl rfl (Nat.le_of_ble_eq_true rfl) ?_
        rintro _ _ ⟨rfl, rfl⟩
        refine g_if_ne (tgt := 63) dX4_readTruth_22 (by decide) (fun c_22 => ?_) (fun c_22 => ?_)
        · exact absurd rfl c_22
        · refine g_aload_n dX4_readTruth_25 rfl rfl ?_
          refine g_get dX4_readTruth_26 fl_X4_20 hp_8 rfl ?_
          refine g_callV dX4_readTruth_29 cv_X4_38 (as' := []) hp_9 rfl (r_look tp h) (by omega) rfl rfl (Nat.le_of_ble_eq_true rfl) ?_
          rintro _ _ ⟨v29, rfl, A1, I1, h, hv, rfl⟩
          obtain rfl := hv _ _ rfl
          refine g_bipush (v := 38) dX4_readTruth_32 (by decide) ?_
          refine g_icmp_ne (tgt := 63) dX4_readTruth_34 (by decide) (fun c_34 => ?_) (fun c_34 => ?_)
          · exact g_vret dX4_readTruth_63 (hQ _ _ (by rw [lpB_stop (fun z => c_34 (of_decide_eq_true z))]; exact h))
          · refine g_aload_n dX4_readTruth_37 rfl rfl ?_
            refine g_get dX4_readTruth_38 fl_X4_20 hp_8 rfl ?_
            refine g_callV dX4_readTruth_41 cv_X4_42 (as' := []) hp_9 rfl (r_step tp (fun b u z => by cases z; exact bt_lt (by rw [c_34]; decide)) h) (by omega) rfl rfl (Nat.le_of_ble_eq_true rfl) ?_
            rintro _ _ ⟨rfl, A1, I1, h, rfl⟩
            refine g_aload_n dX4_readTruth_44 rfl rfl ?_
            refine g_iload_n dX4_readTruth_45 rfl rfl ?_
            refine g_ic_0 dX4_readTruth_46 ?_
            refine g_callV dX4_readTruth_47 cv_X4_81 (as' := [_, _]) hp_8 rfl (hA tp h) (by omega) rfl rfl (Nat.le_of_ble_eq_true rfl) ?_
            rintro _ _ ⟨rfl, A1, I1, h, rfl⟩
            refine g_aload_n dX4_readTruth_50 rfl rfl ?_
            refine g_ic_2 dX4_readTruth_51 ?_
            refine g_bipush (v := 38) dX4_readTruth_52 (by decide) ?_
            refine g_callV dX4_readTruth_54 cv_X4_74 (as' := [_, _]) hp_8 rfl (r_write tp h) (by omega) rfl rfl (Nat.le_of_ble_eq_true rfl) ?_
            rintro _ _ ⟨rfl, A1, I1, h, rfl⟩
            refine g_iinc1 dX4_readTruth_57 rfl (by decide) ?_
            refine g_goto (tgt := 8) dX4_readTruth_60 (by decide) ?_
            rw [nI_1]
            refine ih (i + 1) _ _ _ (by omega) h (fun A8 I8 h8 => hQ A8 I8 ?_)
            rw [lpB_step (decide_eq_true c_34), c_34]
            exact h8

set_option maxHeartbeats 4000000 in
set_option maxRecDepth 100000 in
theorem r_truth0 {r : Nat} (hA : CUnit r) (hF : CUnit r) : CTruth r := by
  intro A0 I0 A I L X n w k s tp h
  refine m_con (by decide) (Nat.le_of_ble_eq_true rfl) ?_
  refine g_aload_n dX4_readTruth_0 rfl rfl ?_
  refine g_iload_n dX4_readTruth_1 rfl rfl ?_
  refine g_iload_n dX4_readTruth_2 rfl rfl ?_
  refine g_callV dX4_readTruth_3 cv_X4_81 (as' := [_, _]) hp_8 rfl (hF tp h) (by omega) rfl rfl (Nat.le_of_ble_eq_true rfl) ?_
  rintro _ _ ⟨rfl, A1, I1, h, rfl⟩
  refine g_ic_0 dX4_readTruth_6 ?_
  refine g_istore_n dX4_readTruth_7 rfl (by decide) ?_
  refine r_truth_loop tp hA 240 0 _ _ _ rfl h (fun A8 I8 h8 => ⟨rfl, A8, I8, ?_, rfl⟩)
  rw [lpB_bnd] at h8
  exact h8

set_option maxHeartbeats 4000000 in
set_option maxRecDepth 100000 in
theorem r_truth1 {r : Nat} (hA : CUnit r) (hF : CUnit1 r) : CTruth1 r := by
  intro A0 I0 A I L X n w k s tp h
  refine m_con (by decide) (Nat.le_of_ble_eq_true rfl) ?_
  refine g_aload_n dX4_readTruth_0 rfl rfl ?_
  refine g_iload_n dX4_readTruth_1 rfl rfl ?_
  refine g_iload_n dX4_readTruth_2 rfl rfl ?_
  refine g_callV dX4_readTruth_3 cv_X4_81 (as' := [_, _]) hp_8 rfl (hF tp h) (by omega) rfl rfl (Nat.le_of_ble_eq_true rfl) ?_
  rintro _ _ ⟨rfl, A1, I1, h, rfl⟩
  refine g_ic_0 dX4_readTruth_6 ?_
  refine g_istore_n dX4_readTruth_7 rfl (by decide) ?_
  refine r_truth_loop tp hA 240 0 _ _ _ rfl h (fun A8 I8 h8 => ⟨rfl, A8, I8, ?_, rfl⟩)
  rw [lpB_bnd] at h8
  exact h8

set_option maxHeartbeats 4000000 in
set_option maxRecDepth 100000 in
theorem r_cond_loop {A0 I0 : Nat → Nat → Int32} {L : Nat → Nat → Int64} {X : Nat → Int64} {n : Nat} {w : TL} {k r : Nat} {bg : Int32} {Q : Option Value → m_H → Prop} (tp : tpS A0 I0 n) (hA : CTruth r) : ∀ f i (s : PR TL) A I, f + i = 240 → SS A0 I0 n w k s A I → (∀ A1 I1, SS A0 I0 n w k (lpB (A0 2) n (fun a => truthF (A0 2) n (unitP (A0 2) n r) ((unitP (A0 2) n r) a)) (op1 124) f s) A1 I1 → Q none (hp A1 L I1 X)) → G (12 + 4 * r) RX4 cX4_readCondition 4 none Q 8 [some (.ref 8), some (.int (nI (6 - r))), some (.int bg), some (.int (nI i))] [] (hp A L I X) := by
  intro f
  induction f with
  | zero =>
    intro i s A I hf h hQ
    refine g_iload_n dX4_readCondition_8 rfl rfl ?_
    refine g_sipush (v := 240) dX4_readCondition_9 (by decide) ?_
    refine g_icmp_ge (tgt := 63) dX4_readCondition_12 (by decide) (fun c_12 => ?_) (fun c_12 => ?_)
    · exact g_vret dX4_readCondition_63 (hQ _ _ (by cases s <;> exact h))
    · exact absurd (nI_le (a := 240) (b := i) (by omega) (by omega)) c_12
  | succ f ih =>
    intro i s A I hf h hQ
    rcases s with p | ⟨b, u⟩
    · skip
      refine g_iload_n dX4_readCondition_8 rfl rfl ?_
      refine g_sipush (v := 240) dX4_readCondition_9 (by decide) ?_
      refine g_icmp_ge (tgt := 63) dX4_readCondition_12 (by decide) (fun c_12 => ?_) (fun c_12 => ?_)
      · exact g_vret dX4_readCondition_63 (hQ _ _ h)
      · refine g_aload_n dX4_readCondition_15 rfl rfl ?_
        refine g_get dX4_readCondition_16 fl_X4_20 hp_8 rfl ?_
        refine g_callV dX4_readCondition_19 cv_X4_34 (as' := []) hp_9 rfl (r_failed tp h) (by omega) rfl rfl (Nat.le_of_ble_eq_true rfl) ?_
        rintro _ _ ⟨rfl, rfl⟩
        refine g_if_ne (tgt := 63) dX4_readCondition_22 (by decide) (fun c_22 => ?_) (fun c_22 => ?_)
        · exact g_vret dX4_readCondition_63 (hQ _ _ h)
        · exact absurd (show (1 : Int32) = 0 from c_22) (by decide)
    · skip
      refine g_iload_n dX4_readCondition_8 rfl rfl ?_
      refine g_sipush (v := 240) dX4_readCondition_9 (by decide) ?_
      refine g_icmp_ge (tgt := 63) dX4_readCondition_12 (by decide) (fun c_12 => ?_) (fun c_12 => ?_)
      · exact absurd ((nI_leI (a := 240) (b := i) (by omega) (by omega)).mp c_12) (by omega)
      · refine g_aload_n dX4_readCondition_15 rfl rfl ?_
        refine g_get dX4_readCondition_16 fl_X4_20 hp_8 rfl ?_
        refine g_callV dX4_readCondition_19 cv_X4_34 (as' := []) hp_9 rfl (r_failed tp h) (by omega) rfl rfl (Nat.le_of_ble_eq_true rfl) ?_
        rintro _ _ ⟨rfl, rfl⟩
        refine g_if_ne (tgt := 63) dX4_readCondition_22 (by decide) (fun c_22 => ?_) (fun c_22 => ?_)
        · exact absurd rfl c_22
        · refine g_aload_n dX4_readCondition_25 rfl rfl ?_
          refine g_get dX4_readCondition_26 fl_X4_20 hp_8 rfl ?_
          refine g_callV dX4_readCondition_29 cv_X4_38 (as' := []) hp_9 rfl (r_look tp h) (by omega) rfl rfl (Nat.le_of_ble_eq_true rfl) ?_
          rintro _ _ ⟨v29, rfl, A1, I1, h, hv, rfl⟩
          obtain rfl := hv _ _ rfl
          refine g_bipush (v := 124) dX4_readCondition_32 (by decide) ?_
          refine g_icmp_ne (tgt := 63) dX4_readCondition_34 (by decide) (fun c_34 => ?_) (fun c_34 => ?_)
          · exact g_vret dX4_readCondition_63 (hQ _ _ (by rw [lpB_stop (fun z => c_34 (of_decide_eq_true z))]; exact h))
          · refine g_aload_n dX4_readCondition_37 rfl rfl ?_
            refine g_get dX4_readCondition_38 fl_X4_20 hp_8 rfl ?_
            refine g_callV dX4_readCondition_41 cv_X4_42 (as' := []) hp_9 rfl (r_step tp (fun b u z => by cases z; exact bt_lt (by rw [c_34]; decide)) h) (by omega) rfl rfl (Nat.le_of_ble_eq_true rfl) ?_
            rintro _ _ ⟨rfl, A1, I1, h, rfl⟩
            refine g_aload_n dX4_readCondition_44 rfl rfl ?_
            refine g_iload_n dX4_readCondition_45 rfl rfl ?_
            refine g_ic_0 dX4_readCondition_46 ?_
            refine g_callV dX4_readCondition_47 cv_X4_78 (as' := [_, _]) hp_8 rfl (hA tp h) (by omega) rfl rfl (Nat.le_of_ble_eq_true rfl) ?_
            rintro _ _ ⟨rfl, A1, I1, h, rfl⟩
            refine g_aload_n dX4_readCondition_50 rfl rfl ?_
            refine g_ic_2 dX4_readCondition_51 ?_
            refine g_bipush (v := 124) dX4_readCondition_52 (by decide) ?_
            refine g_callV dX4_readCondition_54 cv_X4_74 (as' := [_, _]) hp_8 rfl (r_write tp h) (by omega) rfl rfl (Nat.le_of_ble_eq_true rfl) ?_
            rintro _ _ ⟨rfl, A1, I1, h, rfl⟩
            refine g_iinc1 dX4_readCondition_57 rfl (by decide) ?_
            refine g_goto (tgt := 8) dX4_readCondition_60 (by decide) ?_
            rw [nI_1]
            refine ih (i + 1) _ _ _ (by omega) h (fun A8 I8 h8 => hQ A8 I8 ?_)
            rw [lpB_step (decide_eq_true c_34), c_34]
            exact h8

set_option maxHeartbeats 4000000 in
set_option maxRecDepth 100000 in
theorem r_cond0 {r : Nat} (hA : CTruth r) (hF : CTruth r) : CCond r := by
  intro A0 I0 A I L X n w k s tp h
  refine m_con (by decide) (Nat.le_of_ble_eq_true rfl) ?_
  refine g_aload_n dX4_readCondition_0 rfl rfl ?_
  refine g_iload_n dX4_readCondition_1 rfl rfl ?_
  refine g_iload_n dX4_readCondition_2 rfl rfl ?_
  refine g_callV dX4_readCondition_3 cv_X4_78 (as' := [_, _]) hp_8 rfl (hF tp h) (by omega) rfl rfl (Nat.le_of_ble_eq_true rfl) ?_
  rintro _ _ ⟨rfl, A1, I1, h, rfl⟩
  refine g_ic_0 dX4_readCondition_6 ?_
  refine g_istore_n dX4_readCondition_7 rfl (by decide) ?_
  refine r_cond_loop tp hA 240 0 _ _ _ rfl h (fun A8 I8 h8 => ⟨rfl, A8, I8, ?_, rfl⟩)
  rw [lpB_bnd] at h8
  exact h8

set_option maxHeartbeats 4000000 in
set_option maxRecDepth 100000 in
theorem r_cond1 {r : Nat} (hA : CTruth r) (hF : CTruth1 r) : CCond1 r := by
  intro A0 I0 A I L X n w k s tp h
  refine m_con (by decide) (Nat.le_of_ble_eq_true rfl) ?_
  refine g_aload_n dX4_readCondition_0 rfl rfl ?_
  refine g_iload_n dX4_readCondition_1 rfl rfl ?_
  refine g_iload_n dX4_readCondition_2 rfl rfl ?_
  refine g_callV dX4_readCondition_3 cv_X4_78 (as' := [_, _]) hp_8 rfl (hF tp h) (by omega) rfl rfl (Nat.le_of_ble_eq_true rfl) ?_
  rintro _ _ ⟨rfl, A1, I1, h, rfl⟩
  refine g_ic_0 dX4_readCondition_6 ?_
  refine g_istore_n dX4_readCondition_7 rfl (by decide) ?_
  refine r_cond_loop tp hA 240 0 _ _ _ rfl h (fun A8 I8 h8 => ⟨rfl, A8, I8, ?_, rfl⟩)
  rw [lpB_bnd] at h8
  exact h8

theorem r_allU : ∀ r, r ≤ 6 → CUnit r ∧ CCond r := by
  intro r
  induction r with
  | zero =>
    intro _
    have hU : CUnit 0 := r_unit0 (r_all 0 (by omega)).2.2
    have hT : CTruth 0 := r_truth0 hU hU
    exact ⟨hU, r_cond0 hT hT⟩
  | succ r ih =>
    intro hr
    have h := ih (by omega)
    have hU : CUnit (r + 1) := r_unitS hr (r_all (r + 1) hr).2.2 h.1 h.2
    have hT : CTruth (r + 1) := r_truth0 hU hU
    exact ⟨hU, r_cond0 hT hT⟩
theorem r_sum6 : CSum 6 := (r_all 6 (by omega)).2.2
theorem r_cond6 : CCond 6 := (r_allU 6 (by omega)).2
theorem r_cond61 : CCond1 6 := r_cond1 (r_truth0 (r_allU 6 (by omega)).1 (r_allU 6 (by omega)).1) (r_truth1 (r_allU 6 (by omega)).1 (r_unitB r_sum6))