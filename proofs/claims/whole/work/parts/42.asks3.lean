def cpS (A : Nat → Nat → Int32) (a b n : Int32) : Int32 := if hasM (A 20) a = 0 ∨ hasM (A 20) b = 0 ∨ a = b ∨ n < 1 ∨ 40 < n then 0 else 1
set_option maxHeartbeats 4000000 in
set_option maxRecDepth 100000 in
theorem m_canPlay {A : Nat → Nat → Int32} {L : Nat → Nat → Int64} {I : Nat → Nat → Int32} {X : Nat → Int64} {a b n : Int32}  : Con 4 yX10_canPlay cX10_canPlay 4 (some .boolean) [.ref 0, .int a, .int b, .int n] (hp A L I X) (fun r_ H_ => r_ = some (.int (cpS A a b n)) ∧ H_ = hp A L I X) := by
  refine m_con (by decide) (Nat.le_of_ble_eq_true rfl) ?_
  refine g_aload_n dX10_canPlay_0 rfl rfl ?_
  refine g_get dX10_canPlay_1 fl_X10_46 hp_0 rfl ?_
  refine g_iload_n dX10_canPlay_4 rfl rfl ?_
  refine g_callV dX10_canPlay_5 cv_X10_147 (as' := [_]) hp_19 rfl (h_hasMonth isS_19) (by decide) rfl rfl (Nat.le_of_ble_eq_true rfl) ?_
  rintro _ _ ⟨rfl, rfl⟩
  refine g_if_eq (tgt := 42) dX10_canPlay_8 (by decide) (fun c_8 => ?_) (fun c_8 => ?_)
  · refine g_ic_0 dX10_canPlay_42 ?_
    exact g_zret (by first | exact Or.inl rfl | exact Or.inr rfl) dX10_canPlay_43 ⟨by simp [cpS, c_8], rfl⟩
  · refine g_aload_n dX10_canPlay_11 rfl rfl ?_
    refine g_get dX10_canPlay_12 fl_X10_46 hp_0 rfl ?_
    refine g_iload_n dX10_canPlay_15 rfl rfl ?_
    refine g_callV dX10_canPlay_16 cv_X10_147 (as' := [_]) hp_19 rfl (h_hasMonth isS_19) (by decide) rfl rfl (Nat.le_of_ble_eq_true rfl) ?_
    rintro _ _ ⟨rfl, rfl⟩
    refine g_if_eq (tgt := 42) dX10_canPlay_19 (by decide) (fun c_19 => ?_) (fun c_19 => ?_)
    · refine g_ic_0 dX10_canPlay_42 ?_
      exact g_zret (by first | exact Or.inl rfl | exact Or.inr rfl) dX10_canPlay_43 ⟨by simp [cpS, c_8, c_19], rfl⟩
    · refine g_iload_n dX10_canPlay_22 rfl rfl ?_
      refine g_iload_n dX10_canPlay_23 rfl rfl ?_
      refine g_icmp_eq (tgt := 42) dX10_canPlay_24 (by decide) (fun c_24 => ?_) (fun c_24 => ?_)
      · refine g_ic_0 dX10_canPlay_42 ?_
        exact g_zret (by first | exact Or.inl rfl | exact Or.inr rfl) dX10_canPlay_43 ⟨by simp [cpS, c_8, c_19, c_24], rfl⟩
      · refine g_iload_n dX10_canPlay_27 rfl rfl ?_
        refine g_ic_1 dX10_canPlay_28 ?_
        refine g_icmp_lt (tgt := 42) dX10_canPlay_29 (by decide) (fun c_29 => ?_) (fun c_29 => ?_)
        · refine g_ic_0 dX10_canPlay_42 ?_
          exact g_zret (by first | exact Or.inl rfl | exact Or.inr rfl) dX10_canPlay_43 ⟨by simp [cpS, c_8, c_19, c_24, c_29], rfl⟩
        · refine g_iload_n dX10_canPlay_32 rfl rfl ?_
          refine g_bipush (v := 40) dX10_canPlay_33 (by decide) ?_
          refine g_icmp_gt (tgt := 42) dX10_canPlay_35 (by decide) (fun c_35 => ?_) (fun c_35 => ?_)
          · refine g_ic_0 dX10_canPlay_42 ?_
            exact g_zret (by first | exact Or.inl rfl | exact Or.inr rfl) dX10_canPlay_43 ⟨by simp [cpS, c_8, c_19, c_24, c_29, c_35], rfl⟩
          · refine g_ic_1 dX10_canPlay_38 ?_
            refine g_goto (tgt := 43) dX10_canPlay_39 (by decide) ?_
            exact g_zret (by first | exact Or.inl rfl | exact Or.inr rfl) dX10_canPlay_43 ⟨by simp [cpS, c_8, c_19, c_24, c_29, c_35], rfl⟩

def gaS (A I : Nat → Nat → Int32) (a b n x y w : Int32) : Int32 := if cpS A a b n = 0 ∨ x < 0 ∨ 9 < x ∨ y < 0 ∨ 9 < y ∨ w < 0 ∨ ¬ w ≤ 1 then (-1000000) else if w = 0 then gt 8 (fc A I n.toNatClampNeg (fdS (A 20) (x + y))).2 a * 2 - x else gt 8 (fc A I n.toNatClampNeg (fdS (A 20) (x + y))).2 b * 2 - y
set_option maxHeartbeats 4000000 in
set_option maxRecDepth 100000 in
theorem m_game {A : Nat → Nat → Int32} {L : Nat → Nat → Int64} {I : Nat → Nat → Int32} {X : Nat → Int64} {a b n x y w : Int32}  : Con 8 yX10_game cX10_game 7 (some .int) [.ref 0, .int a, .int b, .int n, .int x, .int y, .int w] (hp A L I X) (fun r_ H_ => r_ = some (.int (gaS A I a b n x y w)) ∧ ∃ A9 L9 I9, sm A L I A9 L9 I9 ∧ H_ = hp A9 L9 I9 X) := by
  refine m_con (by decide) (Nat.le_of_ble_eq_true rfl) ?_
  refine g_aload_n dX10_game_0 rfl rfl ?_
  refine g_iload_n dX10_game_1 rfl rfl ?_
  refine g_iload_n dX10_game_2 rfl rfl ?_
  refine g_iload_n dX10_game_3 rfl rfl ?_
  refine g_callV dX10_game_4 cv_X10_280 (as' := [_, _, _]) hp_0 rfl m_canPlay (by decide) rfl rfl (Nat.le_of_ble_eq_true rfl) ?_
  rintro _ _ ⟨rfl, rfl⟩
  refine g_if_eq (tgt := 45) dX10_game_7 (by decide) (fun c_7 => ?_) (fun c_7 => ?_)
  · refine g_ldc dX10_game_45 lc_X10_210 ?_
    exact g_iret dX10_game_47 (by first | exact ⟨by simp [gaS, c_7], A9, L9, I9, h9, rfl⟩ | exact ⟨by simp [gaS, c_7], A, L, I, sm_rf, rfl⟩)
  · refine g_iload dX10_game_10 rfl ?_
    refine g_if_lt (tgt := 45) dX10_game_12 (by decide) (fun c_12 => ?_) (fun c_12 => ?_)
    · refine g_ldc dX10_game_45 lc_X10_210 ?_
      exact g_iret dX10_game_47 (by first | exact ⟨by simp [gaS, c_7, c_12], A9, L9, I9, h9, rfl⟩ | exact ⟨by simp [gaS, c_7, c_12], A, L, I, sm_rf, rfl⟩)
    · refine g_iload dX10_game_15 rfl ?_
      refine g_bipush (v := 9) dX10_game_17 (by decide) ?_
      refine g_icmp_gt (tgt := 45) dX10_game_19 (by decide) (fun c_19 => ?_) (fun c_19 => ?_)
      · refine g_ldc dX10_game_45 lc_X10_210 ?_
        exact g_iret dX10_game_47 (by first | exact ⟨by simp [gaS, c_7, c_12, c_19], A9, L9, I9, h9, rfl⟩ | exact ⟨by simp [gaS, c_7, c_12, c_19], A, L, I, sm_rf, rfl⟩)
      · refine g_iload dX10_game_22 rfl ?_
        refine g_if_lt (tgt := 45) dX10_game_24 (by decide) (fun c_24 => ?_) (fun c_24 => ?_)
        · refine g_ldc dX10_game_45 lc_X10_210 ?_
          exact g_iret dX10_game_47 (by first | exact ⟨by simp [gaS, c_7, c_12, c_19, c_24], A9, L9, I9, h9, rfl⟩ | exact ⟨by simp [gaS, c_7, c_12, c_19, c_24], A, L, I, sm_rf, rfl⟩)
        · refine g_iload dX10_game_27 rfl ?_
          refine g_bipush (v := 9) dX10_game_29 (by decide) ?_
          refine g_icmp_gt (tgt := 45) dX10_game_31 (by decide) (fun c_31 => ?_) (fun c_31 => ?_)
          · refine g_ldc dX10_game_45 lc_X10_210 ?_
            exact g_iret dX10_game_47 (by first | exact ⟨by simp [gaS, c_7, c_12, c_19, c_24, c_31], A9, L9, I9, h9, rfl⟩ | exact ⟨by simp [gaS, c_7, c_12, c_19, c_24, c_31], A, L, I, sm_rf, rfl⟩)
          · refine g_iload dX10_game_34 rfl ?_
            refine g_if_lt (tgt := 45) dX10_game_36 (by decide) (fun c_36 => ?_) (fun c_36 => ?_)
            · refine g_ldc dX10_game_45 lc_X10_210 ?_
              exact g_iret dX10_game_47 (by first | exact ⟨by simp [gaS, c_7, c_12, c_19, c_24, c_31, c_36], A9, L9, I9, h9, rfl⟩ | exact ⟨by simp [gaS, c_7, c_12, c_19, c_24, c_31, c_36], A, L, I, sm_rf, rfl⟩)
            · refine g_iload dX10_game_39 rfl ?_
              refine g_ic_1 dX10_game_41 ?_
              refine g_icmp_le (tgt := 48) dX10_game_42 (by decide) (fun c_42 => ?_) (fun c_42 => ?_)
              · refine g_iload dX10_game_48 rfl ?_
                refine g_if_ne (tgt := 75) dX10_game_50 (by decide) (fun c_50 => ?_) (fun c_50 => ?_)
                · refine g_aload_n dX10_game_75 rfl rfl ?_
                  refine g_get dX10_game_76 fl_X10_64 hp_0 rfl ?_
                  refine g_iload dX10_game_79 rfl ?_
                  refine g_iload dX10_game_81 rfl ?_
                  refine g_iadd dX10_game_83 ?_
                  refine g_iload_n dX10_game_84 rfl rfl ?_
                  refine g_iload_n dX10_game_85 rfl rfl ?_
                  refine g_callV dX10_game_86 cv_X10_284 (as' := [_, _, _]) hp_27 rfl w_days (by decide) rfl rfl (Nat.le_of_ble_eq_true rfl) ?_
                  rintro _ _ ⟨rfl, A9, L9, I9, h9, rfl⟩
                  refine g_ic_2 dX10_game_89 ?_
                  refine g_imul dX10_game_90 ?_
                  refine g_iload dX10_game_91 rfl ?_
                  refine g_isub dX10_game_93 ?_
                  exact g_iret dX10_game_94 (by first | exact ⟨by simp [gaS, c_7, c_12, c_19, c_24, c_31, c_36, c_42, c_50], A9, L9, I9, h9, rfl⟩ | exact ⟨by simp [gaS, c_7, c_12, c_19, c_24, c_31, c_36, c_42, c_50], A, L, I, sm_rf, rfl⟩)
                · refine g_aload_n dX10_game_53 rfl rfl ?_
                  refine g_get dX10_game_54 fl_X10_64 hp_0 rfl ?_
                  refine g_iload dX10_game_57 rfl ?_
                  refine g_iload dX10_game_59 rfl ?_
                  refine g_iadd dX10_game_61 ?_
                  refine g_iload_n dX10_game_62 rfl rfl ?_
                  refine g_iload_n dX10_game_63 rfl rfl ?_
                  refine g_callV dX10_game_64 cv_X10_284 (as' := [_, _, _]) hp_27 rfl w_days (by decide) rfl rfl (Nat.le_of_ble_eq_true rfl) ?_
                  rintro _ _ ⟨rfl, A9, L9, I9, h9, rfl⟩
                  refine g_ic_2 dX10_game_67 ?_
                  refine g_imul dX10_game_68 ?_
                  refine g_iload dX10_game_69 rfl ?_
                  refine g_isub dX10_game_71 ?_
                  refine g_goto (tgt := 94) dX10_game_72 (by decide) ?_
                  exact g_iret dX10_game_94 (by first | exact ⟨by simp [gaS, c_7, c_12, c_19, c_24, c_31, c_36, c_42, c_50], A9, L9, I9, h9, rfl⟩ | exact ⟨by simp [gaS, c_7, c_12, c_19, c_24, c_31, c_36, c_42, c_50], A, L, I, sm_rf, rfl⟩)
              · refine g_ldc dX10_game_45 lc_X10_210 ?_
                exact g_iret dX10_game_47 (by first | exact ⟨by simp [gaS, c_7, c_12, c_19, c_24, c_31, c_36, c_42], A9, L9, I9, h9, rfl⟩ | exact ⟨by simp [gaS, c_7, c_12, c_19, c_24, c_31, c_36, c_42], A, L, I, sm_rf, rfl⟩)

def reS (A I : Nat → Nat → Int32) (a b n i : Int32) : Int32 := if cpS A a b n = 0 ∨ ¬ (-1) ≤ i then (-1) else rsS A I a b n i
set_option maxHeartbeats 4000000 in
set_option maxRecDepth 100000 in
theorem m_rests {A : Nat → Nat → Int32} {L : Nat → Nat → Int64} {I : Nat → Nat → Int32} {X : Nat → Int64} {a b n i : Int32}  : Con 8 yX10_rests cX10_rests 5 (some .int) [.ref 0, .int a, .int b, .int n, .int i] (hp A L I X) (fun r_ H_ => r_ = some (.int (reS A I a b n i)) ∧ ∃ A9 L9 I9, sm A L I A9 L9 I9 ∧ H_ = hp A9 L9 I9 X) := by
  refine m_con (by decide) (Nat.le_of_ble_eq_true rfl) ?_
  refine g_aload_n dX10_rests_0 rfl rfl ?_
  refine g_iload_n dX10_rests_1 rfl rfl ?_
  refine g_iload_n dX10_rests_2 rfl rfl ?_
  refine g_iload_n dX10_rests_3 rfl rfl ?_
  refine g_callV dX10_rests_4 cv_X10_280 (as' := [_, _, _]) hp_0 rfl m_canPlay (by decide) rfl rfl (Nat.le_of_ble_eq_true rfl) ?_
  rintro _ _ ⟨rfl, rfl⟩
  refine g_if_eq (tgt := 16) dX10_rests_7 (by decide) (fun c_7 => ?_) (fun c_7 => ?_)
  · refine g_ic_m1 dX10_rests_16 ?_
    exact g_iret dX10_rests_17 (by first | exact ⟨by simp [reS, c_7], A9, L9, I9, h9, rfl⟩ | exact ⟨by simp [reS, c_7], A, L, I, sm_rf, rfl⟩)
  · refine g_iload dX10_rests_10 rfl ?_
    refine g_ic_m1 dX10_rests_12 ?_
    refine g_icmp_ge (tgt := 18) dX10_rests_13 (by decide) (fun c_13 => ?_) (fun c_13 => ?_)
    · refine g_aload_n dX10_rests_18 rfl rfl ?_
      refine g_get dX10_rests_19 fl_X10_64 hp_0 rfl ?_
      refine g_iload_n dX10_rests_22 rfl rfl ?_
      refine g_iload_n dX10_rests_23 rfl rfl ?_
      refine g_iload_n dX10_rests_24 rfl rfl ?_
      refine g_iload dX10_rests_25 rfl ?_
      refine g_callV dX10_rests_27 cv_X10_288 (as' := [_, _, _, _]) hp_27 rfl w_rest (by decide) rfl rfl (Nat.le_of_ble_eq_true rfl) ?_
      rintro _ _ ⟨rfl, A9, L9, I9, h9, rfl⟩
      exact g_iret dX10_rests_30 (by first | exact ⟨by simp [reS, c_7, c_13], A9, L9, I9, h9, rfl⟩ | exact ⟨by simp [reS, c_7, c_13], A, L, I, sm_rf, rfl⟩)
    · refine g_ic_m1 dX10_rests_16 ?_
      exact g_iret dX10_rests_17 (by first | exact ⟨by simp [reS, c_7, c_13], A9, L9, I9, h9, rfl⟩ | exact ⟨by simp [reS, c_7, c_13], A, L, I, sm_rf, rfl⟩)

def oilS (A I : Nat → Nat → Int32) (k n w : Int32) : Int32 := if I 0 12 = 0 ∨ k < 1 ∨ 3 < k ∨ n < 1 ∨ 40 < n ∨ w < 0 ∨ ¬ w ≤ 1 then (-1) else if w = 0 then (oiS A I k n).1 else (oiS A I k n).2
set_option maxHeartbeats 4000000 in
set_option maxRecDepth 100000 in
theorem m_oil {A : Nat → Nat → Int32} {L : Nat → Nat → Int64} {I : Nat → Nat → Int32} {X : Nat → Int64} {k n w : Int32} (hM : ¬ I 0 12 = 0 → 1 ≤ (gt 143 (A 20) 9).toNatClampNeg) : Con 8 yX10_oil cX10_oil 4 (some .int) [.ref 0, .int k, .int n, .int w] (hp A L I X) (fun r_ H_ => r_ = some (.int (oilS A I k n w)) ∧ ∃ A9 L9 I9, sm A L I A9 L9 I9 ∧ H_ = hp A9 L9 I9 X) := by
  refine m_con (by decide) (Nat.le_of_ble_eq_true rfl) ?_
  refine g_aload_n dX10_oil_0 rfl rfl ?_
  refine g_get dX10_oil_1 fl_X10_128 hp_0 rfl ?_
  refine g_if_eq (tgt := 37) dX10_oil_4 (by decide) (fun c_4 => ?_) (fun c_4 => ?_)
  · refine g_ic_m1 dX10_oil_37 ?_
    exact g_iret dX10_oil_38 ⟨by simp [oilS, c_4], A, L, I, sm_rf, rfl⟩
  · refine g_iload_n dX10_oil_7 rfl rfl ?_
    refine g_ic_1 dX10_oil_8 ?_
    refine g_icmp_lt (tgt := 37) dX10_oil_9 (by decide) (fun c_9 => ?_) (fun c_9 => ?_)
    · refine g_ic_m1 dX10_oil_37 ?_
      exact g_iret dX10_oil_38 ⟨by simp [oilS, c_4, c_9], A, L, I, sm_rf, rfl⟩
    · refine g_iload_n dX10_oil_12 rfl rfl ?_
      refine g_ic_3 dX10_oil_13 ?_
      refine g_icmp_gt (tgt := 37) dX10_oil_14 (by decide) (fun c_14 => ?_) (fun c_14 => ?_)
      · refine g_ic_m1 dX10_oil_37 ?_
        exact g_iret dX10_oil_38 ⟨by simp [oilS, c_4, c_9, c_14], A, L, I, sm_rf, rfl⟩
      · refine g_iload_n dX10_oil_17 rfl rfl ?_
        refine g_ic_1 dX10_oil_18 ?_
        refine g_icmp_lt (tgt := 37) dX10_oil_19 (by decide) (fun c_19 => ?_) (fun c_19 => ?_)
        · refine g_ic_m1 dX10_oil_37 ?_
          exact g_iret dX10_oil_38 ⟨by simp [oilS, c_4, c_9, c_14, c_19], A, L, I, sm_rf, rfl⟩
        · refine g_iload_n dX10_oil_22 rfl rfl ?_
          refine g_bipush (v := 40) dX10_oil_23 (by decide) ?_
          refine g_icmp_gt (tgt := 37) dX10_oil_25 (by decide) (fun c_25 => ?_) (fun c_25 => ?_)
          · refine g_ic_m1 dX10_oil_37 ?_
            exact g_iret dX10_oil_38 ⟨by simp [oilS, c_4, c_9, c_14, c_19, c_25], A, L, I, sm_rf, rfl⟩
          · refine g_iload_n dX10_oil_28 rfl rfl ?_
            refine g_if_lt (tgt := 37) dX10_oil_29 (by decide) (fun c_29 => ?_) (fun c_29 => ?_)
            · refine g_ic_m1 dX10_oil_37 ?_
              exact g_iret dX10_oil_38 ⟨by simp [oilS, c_4, c_9, c_14, c_19, c_25, c_29], A, L, I, sm_rf, rfl⟩
            · refine g_iload_n dX10_oil_32 rfl rfl ?_
              refine g_ic_1 dX10_oil_33 ?_
              refine g_icmp_le (tgt := 39) dX10_oil_34 (by decide) (fun c_34 => ?_) (fun c_34 => ?_)
              · refine g_aload_n dX10_oil_39 rfl rfl ?_
                refine g_get dX10_oil_40 fl_X10_64 hp_0 rfl ?_
                refine g_iload_n dX10_oil_43 rfl rfl ?_
                refine g_iload_n dX10_oil_44 rfl rfl ?_
                refine g_callV dX10_oil_45 cv_X10_271 (as' := [_, _]) hp_27 rfl (w_seek (hM c_4)) (by decide) rfl rfl (Nat.le_of_ble_eq_true rfl) ?_
                rintro _ _ ⟨rfl, A9, I9, h9, e9, rfl⟩
                refine g_iload_n dX10_oil_48 rfl rfl ?_
                refine g_if_ne (tgt := 62) dX10_oil_49 (by decide) (fun c_49 => ?_) (fun c_49 => ?_)
                · refine g_aload_n dX10_oil_62 rfl rfl ?_
                  refine g_get dX10_oil_63 fl_X10_64 hp_0 rfl ?_
                  refine g_get dX10_oil_66 fl_X10_277 hp_27 rfl ?_
                  exact g_iret dX10_oil_69 ⟨by rw [show I9 27 7 = (oiS A I k n).2 from congrArg Prod.snd e9]; simp [oilS, c_4, c_9, c_14, c_19, c_25, c_29, c_34, c_49], A9, L, I9, h9, rfl⟩
                · refine g_aload_n dX10_oil_52 rfl rfl ?_
                  refine g_get dX10_oil_53 fl_X10_64 hp_0 rfl ?_
                  refine g_get dX10_oil_56 fl_X10_274 hp_27 rfl ?_
                  refine g_goto (tgt := 69) dX10_oil_59 (by decide) ?_
                  exact g_iret dX10_oil_69 ⟨by rw [show I9 27 6 = (oiS A I k n).1 from congrArg Prod.fst e9]; simp [oilS, c_4, c_9, c_14, c_19, c_25, c_29, c_34, c_49], A9, L, I9, h9, rfl⟩
              · refine g_ic_m1 dX10_oil_37 ?_
                exact g_iret dX10_oil_38 ⟨by simp [oilS, c_4, c_9, c_14, c_19, c_25, c_29, c_34], A, L, I, sm_rf, rfl⟩

def dpV (A : Nat → Nat → Int32) (L : Nat → Nat → Int64) (n ch : Int32) : Int64 := gl (dpS (L 33) (gt 143 (A 20) 0) n ch) 0
def odS (A : Nat → Nat → Int32) (L : Nat → Nat → Int64) (I : Nat → Nat → Int32) (n ch : Int32) : Int32 := if I 0 12 = 0 ∨ n < 0 ∨ 30 < n ∨ ch < 0 ∨ ¬ ch ≤ 100 then (-1) else ((1000000000 : Int64) - dpV A L n ch).toInt32
set_option maxHeartbeats 4000000 in
set_option maxRecDepth 100000 in
theorem m_odds {A : Nat → Nat → Int32} {L : Nat → Nat → Int64} {I : Nat → Nat → Int32} {X : Nat → Int64} {n ch : Int32}  : Con 8 yX10_odds cX10_odds 3 (some .int) [.ref 0, .int n, .int ch] (hp A L I X) (fun r_ H_ => r_ = some (.int (odS A L I n ch)) ∧ ∃ A9 L9 I9, sm A L I A9 L9 I9 ∧ H_ = hp A9 L9 I9 X) := by
  refine m_con (by decide) (Nat.le_of_ble_eq_true rfl) ?_
  refine g_aload_n dX10_odds_0 rfl rfl ?_
  refine g_get dX10_odds_1 fl_X10_128 hp_0 rfl ?_
  refine g_if_eq (tgt := 27) dX10_odds_4 (by decide) (fun c_4 => ?_) (fun c_4 => ?_)
  · refine g_ic_m1 dX10_odds_27 ?_
    exact g_iret dX10_odds_28 (by first | exact ⟨by simp [odS, dpV, c_4], A9, L9, I9, h9, rfl⟩ | exact ⟨by simp [odS, dpV, c_4], A, L, I, sm_rf, rfl⟩)
  · refine g_iload_n dX10_odds_7 rfl rfl ?_
    refine g_if_lt (tgt := 27) dX10_odds_8 (by decide) (fun c_8 => ?_) (fun c_8 => ?_)
    · refine g_ic_m1 dX10_odds_27 ?_
      exact g_iret dX10_odds_28 (by first | exact ⟨by simp [odS, dpV, c_4, c_8], A9, L9, I9, h9, rfl⟩ | exact ⟨by simp [odS, dpV, c_4, c_8], A, L, I, sm_rf, rfl⟩)
    · refine g_iload_n dX10_odds_11 rfl rfl ?_
      refine g_bipush (v := 30) dX10_odds_12 (by decide) ?_
      refine g_icmp_gt (tgt := 27) dX10_odds_14 (by decide) (fun c_14 => ?_) (fun c_14 => ?_)
      · refine g_ic_m1 dX10_odds_27 ?_
        exact g_iret dX10_odds_28 (by first | exact ⟨by simp [odS, dpV, c_4, c_8, c_14], A9, L9, I9, h9, rfl⟩ | exact ⟨by simp [odS, dpV, c_4, c_8, c_14], A, L, I, sm_rf, rfl⟩)
      · refine g_iload_n dX10_odds_17 rfl rfl ?_
        refine g_if_lt (tgt := 27) dX10_odds_18 (by decide) (fun c_18 => ?_) (fun c_18 => ?_)
        · refine g_ic_m1 dX10_odds_27 ?_
          exact g_iret dX10_odds_28 (by first | exact ⟨by simp [odS, dpV, c_4, c_8, c_14, c_18], A9, L9, I9, h9, rfl⟩ | exact ⟨by simp [odS, dpV, c_4, c_8, c_14, c_18], A, L, I, sm_rf, rfl⟩)
        · refine g_iload_n dX10_odds_21 rfl rfl ?_
          refine g_bipush (v := 100) dX10_odds_22 (by decide) ?_
          refine g_icmp_le (tgt := 29) dX10_odds_24 (by decide) (fun c_24 => ?_) (fun c_24 => ?_)
          · refine g_ldc2 dX10_odds_29 lc_X10_304 ?_
            refine g_aload_n dX10_odds_32 rfl rfl ?_
            refine g_get dX10_odds_33 fl_X10_64 hp_0 rfl ?_
            refine g_iload_n dX10_odds_36 rfl rfl ?_
            refine g_iload_n dX10_odds_37 rfl rfl ?_
            refine g_callV dX10_odds_38 cv_X10_306 (as' := [_, _]) hp_27 rfl p_dead (by decide) rfl rfl (Nat.le_of_ble_eq_true rfl) ?_
            rintro _ _ ⟨rfl, A9, L9, I9, h9, rfl⟩
            refine g_lsub dX10_odds_41 ?_
            refine g_l2i dX10_odds_42 ?_
            exact g_iret dX10_odds_43 (by first | exact ⟨by simp [odS, dpV, c_4, c_8, c_14, c_18, c_24], A9, L9, I9, h9, rfl⟩ | exact ⟨by simp [odS, dpV, c_4, c_8, c_14, c_18, c_24], A, L, I, sm_rf, rfl⟩)
          · refine g_ic_m1 dX10_odds_27 ?_
            exact g_iret dX10_odds_28 (by first | exact ⟨by simp [odS, dpV, c_4, c_8, c_14, c_18, c_24], A9, L9, I9, h9, rfl⟩ | exact ⟨by simp [odS, dpV, c_4, c_8, c_14, c_18, c_24], A, L, I, sm_rf, rfl⟩)

def prS (A : Nat → Nat → Int32) (L : Nat → Nat → Int64) (I : Nat → Nat → Int32) (n ch c : Int32) : Int32 := if I 0 12 = 0 ∨ n < 0 ∨ 30 < n ∨ ch < 0 ∨ 100 < ch ∨ c < 1 ∨ ¬ c ≤ 999 then (-1) else ((c.toInt64 * dpV A L n ch + 1000000000 - 1) / 1000000000).toInt32
set_option maxHeartbeats 4000000 in
set_option maxRecDepth 100000 in
theorem m_price {A : Nat → Nat → Int32} {L : Nat → Nat → Int64} {I : Nat → Nat → Int32} {X : Nat → Int64} {n ch c : Int32}  : Con 8 yX10_price cX10_price 4 (some .int) [.ref 0, .int n, .int ch, .int c] (hp A L I X) (fun r_ H_ => r_ = some (.int (prS A L I n ch c)) ∧ ∃ A9 L9 I9, sm A L I A9 L9 I9 ∧ H_ = hp A9 L9 I9 X) := by
  refine m_con (by decide) (Nat.le_of_ble_eq_true rfl) ?_
  refine g_aload_n dX10_price_0 rfl rfl ?_
  refine g_get dX10_price_1 fl_X10_128 hp_0 rfl ?_
  refine g_if_eq (tgt := 39) dX10_price_4 (by decide) (fun c_4 => ?_) (fun c_4 => ?_)
  · refine g_ic_m1 dX10_price_39 ?_
    exact g_iret dX10_price_40 (by first | exact ⟨by simp [prS, dpV, c_4], A9, L9, I9, h9, rfl⟩ | exact ⟨by simp [prS, dpV, c_4], A, L, I, sm_rf, rfl⟩)
  · refine g_iload_n dX10_price_7 rfl rfl ?_
    refine g_if_lt (tgt := 39) dX10_price_8 (by decide) (fun c_8 => ?_) (fun c_8 => ?_)
    · refine g_ic_m1 dX10_price_39 ?_
      exact g_iret dX10_price_40 (by first | exact ⟨by simp [prS, dpV, c_4, c_8], A9, L9, I9, h9, rfl⟩ | exact ⟨by simp [prS, dpV, c_4, c_8], A, L, I, sm_rf, rfl⟩)
    · refine g_iload_n dX10_price_11 rfl rfl ?_
      refine g_bipush (v := 30) dX10_price_12 (by decide) ?_
      refine g_icmp_gt (tgt := 39) dX10_price_14 (by decide) (fun c_14 => ?_) (fun c_14 => ?_)
      · refine g_ic_m1 dX10_price_39 ?_
        exact g_iret dX10_price_40 (by first | exact ⟨by simp [prS, dpV, c_4, c_8, c_14], A9, L9, I9, h9, rfl⟩ | exact ⟨by simp [prS, dpV, c_4, c_8, c_14], A, L, I, sm_rf, rfl⟩)
      · refine g_iload_n dX10_price_17 rfl rfl ?_
        refine g_if_lt (tgt := 39) dX10_price_18 (by decide) (fun c_18 => ?_) (fun c_18 => ?_)
        · refine g_ic_m1 dX10_price_39 ?_
          exact g_iret dX10_price_40 (by first | exact ⟨by simp [prS, dpV, c_4, c_8, c_14, c_18], A9, L9, I9, h9, rfl⟩ | exact ⟨by simp [prS, dpV, c_4, c_8, c_14, c_18], A, L, I, sm_rf, rfl⟩)
        · refine g_iload_n dX10_price_21 rfl rfl ?_
          refine g_bipush (v := 100) dX10_price_22 (by decide) ?_
          refine g_icmp_gt (tgt := 39) dX10_price_24 (by decide) (fun c_24 => ?_) (fun c_24 => ?_)
          · refine g_ic_m1 dX10_price_39 ?_
            exact g_iret dX10_price_40 (by first | exact ⟨by simp [prS, dpV, c_4, c_8, c_14, c_18, c_24], A9, L9, I9, h9, rfl⟩ | exact ⟨by simp [prS, dpV, c_4, c_8, c_14, c_18, c_24], A, L, I, sm_rf, rfl⟩)
          · refine g_iload_n dX10_price_27 rfl rfl ?_
            refine g_ic_1 dX10_price_28 ?_
            refine g_icmp_lt (tgt := 39) dX10_price_29 (by decide) (fun c_29 => ?_) (fun c_29 => ?_)
            · refine g_ic_m1 dX10_price_39 ?_
              exact g_iret dX10_price_40 (by first | exact ⟨by simp [prS, dpV, c_4, c_8, c_14, c_18, c_24, c_29], A9, L9, I9, h9, rfl⟩ | exact ⟨by simp [prS, dpV, c_4, c_8, c_14, c_18, c_24, c_29], A, L, I, sm_rf, rfl⟩)
            · refine g_iload_n dX10_price_32 rfl rfl ?_
              refine g_sipush (v := 999) dX10_price_33 (by decide) ?_
              refine g_icmp_le (tgt := 41) dX10_price_36 (by decide) (fun c_36 => ?_) (fun c_36 => ?_)
              · refine g_iload_n dX10_price_41 rfl rfl ?_
                refine g_i2l dX10_price_42 ?_
                refine g_aload_n dX10_price_43 rfl rfl ?_
                refine g_get dX10_price_44 fl_X10_64 hp_0 rfl ?_
                refine g_iload_n dX10_price_47 rfl rfl ?_
                refine g_iload_n dX10_price_48 rfl rfl ?_
                refine g_callV dX10_price_49 cv_X10_306 (as' := [_, _]) hp_27 rfl p_dead (by decide) rfl rfl (Nat.le_of_ble_eq_true rfl) ?_
                rintro _ _ ⟨rfl, A9, L9, I9, h9, rfl⟩
                refine g_lmul dX10_price_52 ?_
                refine g_ldc2 dX10_price_53 lc_X10_304 ?_
                refine g_ladd dX10_price_56 ?_
                refine g_lconst (v := 1) dX10_price_57 rfl ?_
                refine g_lsub dX10_price_58 ?_
                refine g_ldc2 dX10_price_59 lc_X10_304 ?_
                refine g_ldiv dX10_price_62 (by decide) ?_
                refine g_l2i dX10_price_63 ?_
                exact g_iret dX10_price_64 (by first | exact ⟨by simp [prS, dpV, c_4, c_8, c_14, c_18, c_24, c_29, c_36], A9, L9, I9, h9, rfl⟩ | exact ⟨by simp [prS, dpV, c_4, c_8, c_14, c_18, c_24, c_29, c_36], A, L, I, sm_rf, rfl⟩)
              · refine g_ic_m1 dX10_price_39 ?_
                exact g_iret dX10_price_40 (by first | exact ⟨by simp [prS, dpV, c_4, c_8, c_14, c_18, c_24, c_29, c_36], A9, L9, I9, h9, rfl⟩ | exact ⟨by simp [prS, dpV, c_4, c_8, c_14, c_18, c_24, c_29, c_36], A, L, I, sm_rf, rfl⟩)

def pulS (A I : Nat → Nat → Int32) : Int32 := if I 0 12 = 0 then (-1) else plS (A 12) (A 13) (I 11 5) (A 20)
set_option maxHeartbeats 4000000 in
set_option maxRecDepth 100000 in
theorem m_pull {A : Nat → Nat → Int32} {L : Nat → Nat → Int64} {I : Nat → Nat → Int32} {X : Nat → Int64}   : Con 5 yX10_pull cX10_pull 1 (some .int) [.ref 0] (hp A L I X) (fun r_ H_ => r_ = some (.int (pulS A I)) ∧ ∃ A9 L9 I9, sm A L I A9 L9 I9 ∧ H_ = hp A9 L9 I9 X) := by
  refine m_con (by decide) (Nat.le_of_ble_eq_true rfl) ?_
  refine g_aload_n dX10_pull_0 rfl rfl ?_
  refine g_get dX10_pull_1 fl_X10_128 hp_0 rfl ?_
  refine g_if_eq (tgt := 21) dX10_pull_4 (by decide) (fun c_4 => ?_) (fun c_4 => ?_)
  · refine g_ic_m1 dX10_pull_21 ?_
    exact g_iret dX10_pull_22 ⟨by simp [pulS, c_4], A, L, I, sm_rf, rfl⟩
  · refine g_aload_n dX10_pull_7 rfl rfl ?_
    refine g_get dX10_pull_8 fl_X10_35 hp_0 rfl ?_
    refine g_aload_n dX10_pull_11 rfl rfl ?_
    refine g_get dX10_pull_12 fl_X10_46 hp_0 rfl ?_
    refine g_callV dX10_pull_15 cv_X10_171 (as' := [_]) hp_11 rfl (l_pull isS_19) (by decide) rfl rfl (Nat.le_of_ble_eq_true rfl) ?_
    rintro _ _ ⟨rfl, A9, I9, h9, rfl⟩
    refine g_goto (tgt := 22) dX10_pull_18 (by decide) ?_
    exact g_iret dX10_pull_22 ⟨by simp [pulS, c_4], A9, L, I9, sm_scr h9, rfl⟩

def lawS (I : Nat → Nat → Int32) (k : Int32) : Int32 := if k < (-1) ∨ ¬ k < I 11 4 then 0 else 1
set_option maxHeartbeats 4000000 in
set_option maxRecDepth 100000 in
theorem m_law {A : Nat → Nat → Int32} {L : Nat → Nat → Int64} {I : Nat → Nat → Int32} {X : Nat → Int64} {k : Int32}  : Con 1 yX10_law cX10_law 2 (some .boolean) [.ref 0, .int k] (hp A L I X) (fun r_ H_ => (lawS I k = 0 ∧ r_ = some (.int 0) ∧ H_ = hp A L I X) ∨ (lawS I k = 1 ∧ r_ = some (.int 1) ∧ H_ = hp A L (up2 I 11 5 k) X)) := by
  refine m_con (by decide) (Nat.le_of_ble_eq_true rfl) ?_
  refine g_iload_n dX10_law_0 rfl rfl ?_
  refine g_ic_m1 dX10_law_1 ?_
  refine g_icmp_lt (tgt := 16) dX10_law_2 (by decide) (fun c_2 => ?_) (fun c_2 => ?_)
  · refine g_ic_0 dX10_law_16 ?_
    exact g_zret (by first | exact Or.inl rfl | exact Or.inr rfl) dX10_law_17 (Or.inl ⟨by simp [lawS, c_2], rfl, rfl⟩)
  · refine g_iload_n dX10_law_5 rfl rfl ?_
    refine g_aload_n dX10_law_6 rfl rfl ?_
    refine g_get dX10_law_7 fl_X10_35 hp_0 rfl ?_
    refine g_get dX10_law_10 fl_X10_110 hp_11 rfl ?_
    refine g_icmp_lt (tgt := 18) dX10_law_13 (by decide) (fun c_13 => ?_) (fun c_13 => ?_)
    · refine g_aload_n dX10_law_18 rfl rfl ?_
      refine g_get dX10_law_19 fl_X10_35 hp_0 rfl ?_
      refine g_iload_n dX10_law_22 rfl rfl ?_
      refine g_puti dX10_law_23 fw_X10_168 hp_11 (Nat.le_of_ble_eq_true rfl) ?_
      rw [hq_11_5]
      refine g_ic_1 dX10_law_26 ?_
      exact g_zret (by first | exact Or.inl rfl | exact Or.inr rfl) dX10_law_27 (Or.inr ⟨by simp [lawS, c_2, c_13], rfl, rfl⟩)
    · refine g_ic_0 dX10_law_16 ?_
      exact g_zret (by first | exact Or.inl rfl | exact Or.inr rfl) dX10_law_17 (Or.inl ⟨by simp [lawS, c_2, c_13], rfl, rfl⟩)

def setS (I : Nat → Nat → Int32) (w v : Int32) : Int32 := if w < 0 ∨ 1 < w ∨ v < 0 ∨ 9 < v ∨ ¬ ¬ v = (if w = 0 then I 0 14 else I 0 15) then 0 else 1
set_option maxHeartbeats 4000000 in
set_option maxRecDepth 100000 in
theorem m_setq {A : Nat → Nat → Int32} {L : Nat → Nat → Int64} {I : Nat → Nat → Int32} {X : Nat → Int64} {w v : Int32}  : Con 1 yX10_set cX10_set 3 (some .boolean) [.ref 0, .int w, .int v] (hp A L I X) (fun r_ H_ => (setS I w v = 0 ∧ r_ = some (.int 0) ∧ H_ = hp A L I X) ∨ (setS I w v = 1 ∧ r_ = some (.int 1) ∧ H_ = hp A L (up2 I 0 (if w = 0 then 14 else 15) v) X)) := by
  refine m_con (by decide) (Nat.le_of_ble_eq_true rfl) ?_
  refine g_iload_n dX10_set_0 rfl rfl ?_
  refine g_if_lt (tgt := 38) dX10_set_1 (by decide) (fun c_1 => ?_) (fun c_1 => ?_)
  · refine g_ic_0 dX10_set_38 ?_
    exact g_zret (by first | exact Or.inl rfl | exact Or.inr rfl) dX10_set_39 (Or.inl ⟨by simp [setS, c_1], rfl, rfl⟩)
  · refine g_iload_n dX10_set_4 rfl rfl ?_
    refine g_ic_1 dX10_set_5 ?_
    refine g_icmp_gt (tgt := 38) dX10_set_6 (by decide) (fun c_6 => ?_) (fun c_6 => ?_)
    · refine g_ic_0 dX10_set_38 ?_
      exact g_zret (by first | exact Or.inl rfl | exact Or.inr rfl) dX10_set_39 (Or.inl ⟨by simp [setS, c_1, c_6], rfl, rfl⟩)
    · refine g_iload_n dX10_set_9 rfl rfl ?_
      refine g_if_lt (tgt := 38) dX10_set_10 (by decide) (fun c_10 => ?_) (fun c_10 => ?_)
      · refine g_ic_0 dX10_set_38 ?_
        exact g_zret (by first | exact Or.inl rfl | exact Or.inr rfl) dX10_set_39 (Or.inl ⟨by simp [setS, c_1, c_6, c_10], rfl, rfl⟩)
      · refine g_iload_n dX10_set_13 rfl rfl ?_
        refine g_bipush (v := 9) dX10_set_14 (by decide) ?_
        refine g_icmp_gt (tgt := 38) dX10_set_16 (by decide) (fun c_16 => ?_) (fun c_16 => ?_)
        · refine g_ic_0 dX10_set_38 ?_
          exact g_zret (by first | exact Or.inl rfl | exact Or.inr rfl) dX10_set_39 (Or.inl ⟨by simp [setS, c_1, c_6, c_10, c_16], rfl, rfl⟩)
        · refine g_iload_n dX10_set_19 rfl rfl ?_
          refine g_iload_n dX10_set_20 rfl rfl ?_
          refine g_if_ne (tgt := 31) dX10_set_21 (by decide) (fun c_21 => ?_) (fun c_21 => ?_)
          · refine g_aload_n dX10_set_31 rfl rfl ?_
            refine g_get dX10_set_32 fl_X10_205 hp_0 rfl ?_
            refine g_icmp_ne (tgt := 40) dX10_set_35 (by decide) (fun c_35 => ?_) (fun c_35 => ?_)
            · refine g_iload_n dX10_set_40 rfl rfl ?_
              refine g_if_ne (tgt := 52) dX10_set_41 (by decide) (fun c_41 => ?_) (fun c_41 => ?_)
              · refine g_aload_n dX10_set_52 rfl rfl ?_
                refine g_iload_n dX10_set_53 rfl rfl ?_
                refine g_puti dX10_set_54 fw_X10_205 hp_0 (Nat.le_of_ble_eq_true rfl) ?_
                rw [hq_0_15]
                refine g_ic_1 dX10_set_57 ?_
                exact g_zret (by first | exact Or.inl rfl | exact Or.inr rfl) dX10_set_58 (Or.inr ⟨by simp [setS, c_1, c_6, c_10, c_16, c_21, c_35, c_41], rfl, by simp [c_41]⟩)
              · refine g_aload_n dX10_set_44 rfl rfl ?_
                refine g_iload_n dX10_set_45 rfl rfl ?_
                refine g_puti dX10_set_46 fw_X10_202 hp_0 (Nat.le_of_ble_eq_true rfl) ?_
                rw [hq_0_14]
                refine g_goto (tgt := 57) dX10_set_49 (by decide) ?_
                refine g_ic_1 dX10_set_57 ?_
                exact g_zret (by first | exact Or.inl rfl | exact Or.inr rfl) dX10_set_58 (absurd c_41 c_21)
            · refine g_ic_0 dX10_set_38 ?_
              exact g_zret (by first | exact Or.inl rfl | exact Or.inr rfl) dX10_set_39 (Or.inl ⟨by simp [setS, c_1, c_6, c_10, c_16, c_21, c_35], rfl, rfl⟩)
          · refine g_aload_n dX10_set_24 rfl rfl ?_
            refine g_get dX10_set_25 fl_X10_202 hp_0 rfl ?_
            refine g_goto (tgt := 35) dX10_set_28 (by decide) ?_
            refine g_icmp_ne (tgt := 40) dX10_set_35 (by decide) (fun c_35 => ?_) (fun c_35 => ?_)
            · refine g_iload_n dX10_set_40 rfl rfl ?_
              refine g_if_ne (tgt := 52) dX10_set_41 (by decide) (fun c_41 => ?_) (fun c_41 => ?_)
              · refine g_aload_n dX10_set_52 rfl rfl ?_
                refine g_iload_n dX10_set_53 rfl rfl ?_
                refine g_puti dX10_set_54 fw_X10_205 hp_0 (Nat.le_of_ble_eq_true rfl) ?_
                rw [hq_0_15]
                refine g_ic_1 dX10_set_57 ?_
                exact g_zret (by first | exact Or.inl rfl | exact Or.inr rfl) dX10_set_58 (absurd c_21 c_41)
              · refine g_aload_n dX10_set_44 rfl rfl ?_
                refine g_iload_n dX10_set_45 rfl rfl ?_
                refine g_puti dX10_set_46 fw_X10_202 hp_0 (Nat.le_of_ble_eq_true rfl) ?_
                rw [hq_0_14]
                refine g_goto (tgt := 57) dX10_set_49 (by decide) ?_
                refine g_ic_1 dX10_set_57 ?_
                exact g_zret (by first | exact Or.inl rfl | exact Or.inr rfl) dX10_set_58 (Or.inr ⟨by simp [setS, c_1, c_6, c_10, c_16, c_21, c_35, c_41], rfl, by simp [c_41]⟩)
            · refine g_ic_0 dX10_set_38 ?_
              exact g_zret (by first | exact Or.inl rfl | exact Or.inr rfl) dX10_set_39 (Or.inl ⟨by simp [setS, c_1, c_6, c_10, c_16, c_21, c_35], rfl, rfl⟩)

def senS (A I : Nat → Nat → Int32) (n m : Int32) : Int32 := if hasM (A 17) m = 0 ∨ n < 1 ∨ 40 < n ∨ ¬ I 34 9 < 10 then (-1) else I 34 9 + 1
set_option maxHeartbeats 4000000 in
set_option maxRecDepth 100000 in
theorem m_seen {A : Nat → Nat → Int32} {L : Nat → Nat → Int64} {I : Nat → Nat → Int32} {X : Nat → Int64} {n m w : Int32}  : Con 4 yX10_seen cX10_seen 4 (some .int) [.ref 0, .int n, .int m, .int w] (hp A L I X) (fun r_ H_ => r_ = some (.int (senS A I n m)) ∧ H_ = (if hasM (A 17) m = 0 ∨ n < 1 ∨ 40 < n ∨ ¬ I 34 9 < 10 then hp A L I X else hp (up (up (up A 38 (pt 10 (A 38) (I 34 9) n)) 39 (pt 10 (A 39) (I 34 9) m)) 40 (pt 10 (A 40) (I 34 9) (if w = 0 then 0 else 1))) L (up2 I 34 9 (I 34 9 + 1)) X)) := by
  refine m_con (by decide) (Nat.le_of_ble_eq_true rfl) ?_
  refine g_aload_n dX10_seen_0 rfl rfl ?_
  refine g_get dX10_seen_1 fl_X10_42 hp_0 rfl ?_
  refine g_iload_n dX10_seen_4 rfl rfl ?_
  refine g_callV dX10_seen_5 cv_X10_147 (as' := [_]) hp_16 rfl (h_hasMonth isS_16) (by decide) rfl rfl (Nat.le_of_ble_eq_true rfl) ?_
  rintro _ _ ⟨rfl, rfl⟩
  refine g_if_eq (tgt := 34) dX10_seen_8 (by decide) (fun c_8 => ?_) (fun c_8 => ?_)
  · refine g_ic_m1 dX10_seen_34 ?_
    exact g_iret dX10_seen_35 ⟨by simp [senS, c_8], by simp [c_8]⟩
  · refine g_iload_n dX10_seen_11 rfl rfl ?_
    refine g_ic_1 dX10_seen_12 ?_
    refine g_icmp_lt (tgt := 34) dX10_seen_13 (by decide) (fun c_13 => ?_) (fun c_13 => ?_)
    · refine g_ic_m1 dX10_seen_34 ?_
      exact g_iret dX10_seen_35 ⟨by simp [senS, c_8, c_13], by simp [c_8, c_13]⟩
    · refine g_iload_n dX10_seen_16 rfl rfl ?_
      refine g_bipush (v := 40) dX10_seen_17 (by decide) ?_
      refine g_icmp_gt (tgt := 34) dX10_seen_19 (by decide) (fun c_19 => ?_) (fun c_19 => ?_)
      · refine g_ic_m1 dX10_seen_34 ?_
        exact g_iret dX10_seen_35 ⟨by simp [senS, c_8, c_13, c_19], by simp [c_8, c_13, c_19]⟩
      · refine g_aload_n dX10_seen_22 rfl rfl ?_
        refine g_get dX10_seen_23 fl_X10_71 hp_0 rfl ?_
        refine g_get dX10_seen_26 fl_X10_208 hp_34 rfl ?_
        refine g_bipush (v := 10) dX10_seen_29 (by decide) ?_
        refine g_icmp_lt (tgt := 36) dX10_seen_31 (by decide) (fun c_31 => ?_) (fun c_31 => ?_)
        · refine g_aload_n dX10_seen_36 rfl rfl ?_
          refine g_get dX10_seen_37 fl_X10_71 hp_0 rfl ?_
          refine g_iload_n dX10_seen_40 rfl rfl ?_
          refine g_iload_n dX10_seen_41 rfl rfl ?_
          refine g_iload_n dX10_seen_42 rfl rfl ?_
          refine g_callV dX10_seen_43 cv_X10_310 (as' := [_, _, _]) hp_34 rfl v_add (by decide) rfl rfl (Nat.le_of_ble_eq_true rfl) ?_
          rintro _ _ ⟨rfl, rfl⟩
          exact g_iret dX10_seen_46 ⟨by simp [senS, c_8, c_13, c_19, c_31], by simp [c_8, c_13, c_19, c_31]⟩
        · refine g_ic_m1 dX10_seen_34 ?_
          exact g_iret dX10_seen_35 ⟨by simp [senS, c_8, c_13, c_19, c_31], by simp [c_8, c_13, c_19, c_31]⟩

def whoS (A I : Nat → Nat → Int32) (g i : Int32) : Int32 := if I 0 12 = 0 ∨ g < 1 ∨ 5 < g ∨ ¬ (-1) ≤ i then (-1) else spL (taS A I g 9).2 i 9 0 0
def besS (A I : Nat → Nat → Int32) (g : Int32) : Int32 := if I 0 12 = 0 ∨ g < 1 ∨ ¬ g ≤ 5 then (-1) else loS (taS A I g 9).1 (taS A I g 9).2
set_option maxHeartbeats 4000000 in
set_option maxRecDepth 100000 in
theorem m_who {A : Nat → Nat → Int32} {L : Nat → Nat → Int64} {I : Nat → Nat → Int32} {X : Nat → Int64} {g i : Int32}  : Con 8 yX10_who cX10_who 3 (some .int) [.ref 0, .int g, .int i] (hp A L I X) (fun r_ H_ => r_ = some (.int (whoS A I g i)) ∧ ∃ A9 L9 I9, sm A L I A9 L9 I9 ∧ H_ = hp A9 L9 I9 X) := by
  refine m_con (by decide) (Nat.le_of_ble_eq_true rfl) ?_
  refine g_aload_n dX10_who_0 rfl rfl ?_
  refine g_get dX10_who_1 fl_X10_128 hp_0 rfl ?_
  refine g_if_eq (tgt := 22) dX10_who_4 (by decide) (fun c_4 => ?_) (fun c_4 => ?_)
  · refine g_ic_m1 dX10_who_22 ?_
    exact g_iret dX10_who_23 ⟨by simp [whoS, c_4], A, L, I, sm_rf, rfl⟩
  · refine g_iload_n dX10_who_7 rfl rfl ?_
    refine g_ic_1 dX10_who_8 ?_
    refine g_icmp_lt (tgt := 22) dX10_who_9 (by decide) (fun c_9 => ?_) (fun c_9 => ?_)
    · refine g_ic_m1 dX10_who_22 ?_
      exact g_iret dX10_who_23 ⟨by simp [whoS, c_4, c_9], A, L, I, sm_rf, rfl⟩
    · refine g_iload_n dX10_who_12 rfl rfl ?_
      refine g_ic_5 dX10_who_13 ?_
      refine g_icmp_gt (tgt := 22) dX10_who_14 (by decide) (fun c_14 => ?_) (fun c_14 => ?_)
      · refine g_ic_m1 dX10_who_22 ?_
        exact g_iret dX10_who_23 ⟨by simp [whoS, c_4, c_9, c_14], A, L, I, sm_rf, rfl⟩
      · refine g_iload_n dX10_who_17 rfl rfl ?_
        refine g_ic_m1 dX10_who_18 ?_
        refine g_icmp_ge (tgt := 24) dX10_who_19 (by decide) (fun c_19 => ?_) (fun c_19 => ?_)
        · refine g_aload_n dX10_who_24 rfl rfl ?_
          refine g_get dX10_who_25 fl_X10_71 hp_0 rfl ?_
          refine g_iload_n dX10_who_28 rfl rfl ?_
          refine g_callV dX10_who_29 cv_X10_314 (as' := [_]) hp_34 rfl v_all (by decide) rfl rfl (Nat.le_of_ble_eq_true rfl) ?_
          rintro _ _ ⟨rfl, A3, I3, h3, e41, e42, rfl⟩
          refine g_aload_n dX10_who_32 rfl rfl ?_
          refine g_get dX10_who_33 fl_X10_71 hp_0 rfl ?_
          refine g_iload_n dX10_who_36 rfl rfl ?_
          refine g_callV dX10_who_37 cv_X10_317 (as' := [_]) hp_34 rfl v_susp (by decide) rfl rfl (Nat.le_of_ble_eq_true rfl) ?_
          rintro _ _ ⟨rfl, rfl⟩
          rw [e42]
          exact g_iret dX10_who_40 ⟨by simp [whoS, c_4, c_9, c_14, c_19], A3, L, I3, smV_sm h3, rfl⟩
        · refine g_ic_m1 dX10_who_22 ?_
          exact g_iret dX10_who_23 ⟨by simp [whoS, c_4, c_9, c_14, c_19], A, L, I, sm_rf, rfl⟩

set_option maxHeartbeats 4000000 in
set_option maxRecDepth 100000 in
theorem m_best {A : Nat → Nat → Int32} {L : Nat → Nat → Int64} {I : Nat → Nat → Int32} {X : Nat → Int64} {g : Int32}  : Con 8 yX10_best cX10_best 2 (some .int) [.ref 0, .int g] (hp A L I X) (fun r_ H_ => r_ = some (.int (besS A I g)) ∧ ∃ A9 L9 I9, sm A L I A9 L9 I9 ∧ H_ = hp A9 L9 I9 X) := by
  refine m_con (by decide) (Nat.le_of_ble_eq_true rfl) ?_
  refine g_aload_n dX10_best_0 rfl rfl ?_
  refine g_get dX10_best_1 fl_X10_128 hp_0 rfl ?_
  refine g_if_eq (tgt := 17) dX10_best_4 (by decide) (fun c_4 => ?_) (fun c_4 => ?_)
  · refine g_ic_m1 dX10_best_17 ?_
    exact g_iret dX10_best_18 ⟨by simp [besS, c_4], A, L, I, sm_rf, rfl⟩
  · refine g_iload_n dX10_best_7 rfl rfl ?_
    refine g_ic_1 dX10_best_8 ?_
    refine g_icmp_lt (tgt := 17) dX10_best_9 (by decide) (fun c_9 => ?_) (fun c_9 => ?_)
    · refine g_ic_m1 dX10_best_17 ?_
      exact g_iret dX10_best_18 ⟨by simp [besS, c_4, c_9], A, L, I, sm_rf, rfl⟩
    · refine g_iload_n dX10_best_12 rfl rfl ?_
      refine g_ic_5 dX10_best_13 ?_
      refine g_icmp_le (tgt := 19) dX10_best_14 (by decide) (fun c_14 => ?_) (fun c_14 => ?_)
      · refine g_aload_n dX10_best_19 rfl rfl ?_
        refine g_get dX10_best_20 fl_X10_71 hp_0 rfl ?_
        refine g_iload_n dX10_best_23 rfl rfl ?_
        refine g_callV dX10_best_24 cv_X10_314 (as' := [_]) hp_34 rfl v_all (by decide) rfl rfl (Nat.le_of_ble_eq_true rfl) ?_
        rintro _ _ ⟨rfl, A3, I3, h3, e41, e42, rfl⟩
        refine g_aload_n dX10_best_27 rfl rfl ?_
        refine g_get dX10_best_28 fl_X10_71 hp_0 rfl ?_
        refine g_callV dX10_best_31 cv_X10_320 (as' := []) hp_34 rfl v_look (by decide) rfl rfl (Nat.le_of_ble_eq_true rfl) ?_
        rintro _ _ ⟨rfl, T2, rfl⟩
        rw [e41, e42]
        exact g_iret dX10_best_34 ⟨by simp [besS, c_4, c_9, c_14], _, L, I3, sm_tr (smV_sm h3) (sm_upA (by decide)), rfl⟩
      · refine g_ic_m1 dX10_best_17 ?_
        exact g_iret dX10_best_18 ⟨by simp [besS, c_4, c_9, c_14], A, L, I, sm_rf, rfl⟩

set_option maxHeartbeats 4000000 in
set_option maxRecDepth 100000 in
theorem m_image {A : Nat → Nat → Int32} {L : Nat → Nat → Int64} {I : Nat → Nat → Int32} {X : Nat → Int64}   : Con 4 yX10_image cX10_image 1 (some .int) [.ref 0] (hp A L I X) (fun r_ H_ => (I 0 12 = 0 ∧ r_ = some (.int (-1)) ∧ H_ = hp A L I X) ∨ (¬ I 0 12 = 0 ∧ r_ = some (.int (gt 143 (A 20) 8)) ∧ H_ = hp (upS A 23 24 (A 20) (fun _ => 0)) L (up2 I 0 13 1) X)) := by
  refine m_con (by decide) (Nat.le_of_ble_eq_true rfl) ?_
  refine g_aload_n dX10_image_0 rfl rfl ?_
  refine g_get dX10_image_1 fl_X10_128 hp_0 rfl ?_
  refine g_if_ne (tgt := 9) dX10_image_4 (by decide) (fun c_4 => ?_) (fun c_4 => ?_)
  · refine g_aload_n dX10_image_9 rfl rfl ?_
    refine g_get dX10_image_10 fl_X10_49 hp_0 rfl ?_
    refine g_aload_n dX10_image_13 rfl rfl ?_
    refine g_get dX10_image_14 fl_X10_46 hp_0 rfl ?_
    refine g_callV dX10_image_17 cv_X10_120 (as' := [_]) hp_22 rfl (h_become isS_22 isS_19 (by decide)) (by decide) rfl rfl (Nat.le_of_ble_eq_true rfl) ?_
    rintro _ _ ⟨rfl, rfl⟩
    refine g_aload_n dX10_image_20 rfl rfl ?_
    refine g_ic_1 dX10_image_21 ?_
    refine g_putz dX10_image_22 fw_X10_132 hp_0 (by first | exact Or.inl rfl | exact Or.inr rfl) (Nat.le_of_ble_eq_true rfl) ?_
    rw [hq_0_13]
    refine g_aload_n dX10_image_25 rfl rfl ?_
    refine g_get dX10_image_26 fl_X10_46 hp_0 rfl ?_
    refine g_bipush (v := 8) dX10_image_29 (by decide) ?_
    refine g_callV dX10_image_31 cv_X10_135 (as' := [_]) hp_19 rfl (h_get isS_19) (by decide) rfl rfl (Nat.le_of_ble_eq_true rfl) ?_
    rintro _ _ ⟨rfl, rfl⟩
    exact g_iret dX10_image_34 (Or.inr ⟨c_4, rfl, rfl⟩)
  · refine g_ic_m1 dX10_image_7 ?_
    exact g_iret dX10_image_8 (Or.inl ⟨c_4, rfl, rfl⟩)

set_option maxHeartbeats 4000000 in
set_option maxRecDepth 100000 in
theorem a_forget {A : Nat → Nat → Int32} {L : Nat → Nat → Int64} {I : Nat → Nat → Int32} {X : Nat → Int64}   : Con 1 yX0_forget cX0_forget 1 none [.ref 25] (hp A L I X) (fun r_ H_ => r_ = none ∧ H_ = hp A L (up2 I 25 1 0) X) := by
  refine m_con (by decide) (Nat.le_of_ble_eq_true rfl) ?_
  refine g_aload_n dX0_forget_0 rfl rfl ?_
  refine g_ic_0 dX0_forget_1 ?_
  refine g_puti dX0_forget_2 fw_X0_15 hp_25 (Nat.le_of_ble_eq_true rfl) ?_
  rw [hq_25_1]
  exact g_vret dX0_forget_5 ⟨rfl, rfl⟩

set_option maxHeartbeats 4000000 in
set_option maxRecDepth 100000 in
theorem v_forget {A : Nat → Nat → Int32} {L : Nat → Nat → Int64} {I : Nat → Nat → Int32} {X : Nat → Int64}   : Con 1 yX9_forget cX9_forget 1 none [.ref 34] (hp A L I X) (fun r_ H_ => r_ = none ∧ H_ = hp A L (up2 I 34 9 0) X) := by
  refine m_con (by decide) (Nat.le_of_ble_eq_true rfl) ?_
  refine g_aload_n dX9_forget_0 rfl rfl ?_
  refine g_ic_0 dX9_forget_1 ?_
  refine g_puti dX9_forget_2 fw_X9_44 hp_34 (Nat.le_of_ble_eq_true rfl) ?_
  rw [hq_34_9]
  exact g_vret dX9_forget_5 ⟨rfl, rfl⟩

set_option maxHeartbeats 4000000 in
set_option maxRecDepth 100000 in
theorem m_back {A : Nat → Nat → Int32} {L : Nat → Nat → Int64} {I : Nat → Nat → Int32} {X : Nat → Int64}   : Con 4 yX10_back cX10_back 1 (some .int) [.ref 0] (hp A L I X) (fun r_ H_ => (I 0 13 = 0 ∧ r_ = some (.int (-1)) ∧ H_ = hp A L I X) ∨ (¬ I 0 13 = 0 ∧ r_ = some (.int (gt 143 (A 23) 8)) ∧ H_ = hp (upS A 20 21 (A 23) (fun _ => 0)) L (up2 I 25 1 0) X)) := by
  refine m_con (by decide) (Nat.le_of_ble_eq_true rfl) ?_
  refine g_aload_n dX10_back_0 rfl rfl ?_
  refine g_get dX10_back_1 fl_X10_132 hp_0 rfl ?_
  refine g_if_ne (tgt := 9) dX10_back_4 (by decide) (fun c_4 => ?_) (fun c_4 => ?_)
  · refine g_aload_n dX10_back_9 rfl rfl ?_
    refine g_get dX10_back_10 fl_X10_46 hp_0 rfl ?_
    refine g_aload_n dX10_back_13 rfl rfl ?_
    refine g_get dX10_back_14 fl_X10_49 hp_0 rfl ?_
    refine g_callV dX10_back_17 cv_X10_120 (as' := [_]) hp_19 rfl (h_become isS_19 isS_22 (by decide)) (by decide) rfl rfl (Nat.le_of_ble_eq_true rfl) ?_
    rintro _ _ ⟨rfl, rfl⟩
    refine g_aload_n dX10_back_20 rfl rfl ?_
    refine g_get dX10_back_21 fl_X10_55 hp_0 rfl ?_
    refine g_callV dX10_back_24 cv_X10_124 (as' := []) hp_25 rfl a_forget (by decide) rfl rfl (Nat.le_of_ble_eq_true rfl) ?_
    rintro _ _ ⟨rfl, rfl⟩
    refine g_aload_n dX10_back_27 rfl rfl ?_
    refine g_get dX10_back_28 fl_X10_46 hp_0 rfl ?_
    refine g_bipush (v := 8) dX10_back_31 (by decide) ?_
    refine g_callV dX10_back_33 cv_X10_135 (as' := [_]) hp_19 rfl (h_get isS_19) (by decide) rfl rfl (Nat.le_of_ble_eq_true rfl) ?_
    rintro _ _ ⟨rfl, rfl⟩
    rw [upS_r (show (20 : Nat) ≠ 21 by decide)]
    exact g_iret dX10_back_36 (Or.inr ⟨c_4, rfl, rfl⟩)
  · refine g_ic_m1 dX10_back_7 ?_
    exact g_iret dX10_back_8 (Or.inl ⟨c_4, rfl, rfl⟩)

set_option maxHeartbeats 4000000 in
set_option maxRecDepth 100000 in
theorem m_undo {A : Nat → Nat → Int32} {L : Nat → Nat → Int64} {I : Nat → Nat → Int32} {X : Nat → Int64} : Con 4 yX10_undo cX10_undo 1 (some .int) [.ref 0] (hp A L I X) (fun r_ H_ => (I 25 1 < 1 ∧ r_ = some (.int (-1)) ∧ H_ = hp A L I X) ∨ (1 ≤ I 25 1 ∧ r_ = some (.int (I 25 1 - 1)) ∧ H_ = hp (up A 20 (tbR (A 26) (rm (I 25 2 + 40 - 1) 40))) L (up2 (up2 I 25 2 (rm (I 25 2 + 40 - 1) 40)) 25 1 (I 25 1 - 1)) X)) := by
  refine m_con (by decide) (Nat.le_of_ble_eq_true rfl) ?_
  refine g_aload_n dX10_undo_0 rfl rfl ?_
  refine g_get dX10_undo_1 fl_X10_55 hp_0 rfl ?_
  refine g_aload_n dX10_undo_4 rfl rfl ?_
  refine g_get dX10_undo_5 fl_X10_46 hp_0 rfl ?_
  refine g_callV dX10_undo_8 cv_X10_254 (as' := [_]) hp_25 rfl (a_back isS_19) (by decide) rfl rfl (Nat.le_of_ble_eq_true rfl) ?_
  rintro _ _ (⟨u1, rfl, rfl⟩ | ⟨u1, rfl, rfl⟩)
  · skip
    refine g_if_eq (tgt := 24) dX10_undo_11 (by decide) (fun c_11 => ?_) (fun c_11 => ?_)
    · refine g_ic_m1 dX10_undo_24 ?_
      exact g_iret dX10_undo_25 (Or.inl ⟨u1, rfl, rfl⟩)
    · refine g_aload_n dX10_undo_14 rfl rfl ?_
      refine g_get dX10_undo_15 fl_X10_55 hp_0 rfl ?_
      refine g_get dX10_undo_18 fl_X10_209 hp_25 rfl ?_
      refine g_goto (tgt := 25) dX10_undo_21 (by decide) ?_
      exact absurd rfl c_11
  · skip
    refine g_if_eq (tgt := 24) dX10_undo_11 (by decide) (fun c_11 => ?_) (fun c_11 => ?_)
    · refine g_ic_m1 dX10_undo_24 ?_
      exact absurd c_11 (by decide)
    · refine g_aload_n dX10_undo_14 rfl rfl ?_
      refine g_get dX10_undo_15 fl_X10_55 hp_0 rfl ?_
      refine g_get dX10_undo_18 fl_X10_209 hp_25 rfl ?_
      refine g_goto (tgt := 25) dX10_undo_21 (by decide) ?_
      exact g_iret dX10_undo_25 (Or.inr ⟨u1, by rw [up2_at], rfl⟩)
