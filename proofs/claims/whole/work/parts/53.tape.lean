/-! THE TAPE: numbers are fed -/
def byI (x s : Int32) : Int32 := (x.toUInt32 >>> (s.toUInt32 &&& Int32.toUInt32 31)).toInt32 &&& 255
def nzI (x s : Int32) : Int32 := if byI x s = 0 then 0 else 1
def bnI (x : Int32) : Int32 := 0 + nzI x 24 + nzI x 16 + nzI x 8 + nzI x 0
def adF (s : (Nat → Int32) × Int32) (p : Int32) : (Nat → Int32) × Int32 := if p = 0 ∨ ¬ s.2 < 240 then s else (pt 240 s.1 s.2 p, s.2 + 1)
def adN (s : (Nat → Int32) × Int32) (x : Int32) : (Nat → Int32) × Int32 := adF (adF (adF (adF s (byI x 24)) (byI x 16)) (byI x 8)) (byI x 0)
set_option maxHeartbeats 4000000 in
set_option maxRecDepth 100000 in
theorem u_bytes1 {Hp : m_H} {x a s : Int32} {Q : Option Value → m_H → Prop} (hs : ¬ s < 0) (k : G 1 RX8 cX8_bytesIn 3 (some .int) Q 5 [some (.int x), some (.int (a + nzI x s)), some (.int (s + (-8)))] [] Hp) : G 1 RX8 cX8_bytesIn 3 (some .int) Q 5 [some (.int x), some (.int (a)), some (.int (s))] [] Hp := by
  refine g_iload_n dX8_bytesIn_5 rfl rfl ?_
  refine g_if_lt (tgt := 33) dX8_bytesIn_6 (by decide) (fun c_6 => ?_) (fun c_6 => ?_)
  · exact absurd c_6 hs
  · refine g_iload_n dX8_bytesIn_9 rfl rfl ?_
    refine g_iload_n dX8_bytesIn_10 rfl rfl ?_
    refine g_iload_n dX8_bytesIn_11 rfl rfl ?_
    refine g_iushr dX8_bytesIn_12 ?_
    refine g_sipush (v := 255) dX8_bytesIn_13 (by decide) ?_
    refine g_iand dX8_bytesIn_16 ?_
    refine g_if_ne (tgt := 24) dX8_bytesIn_17 (by decide) (fun c_17 => ?_) (fun c_17 => ?_)
    · refine g_ic_1 dX8_bytesIn_24 ?_
      refine g_iadd dX8_bytesIn_25 ?_
      refine g_istore_n dX8_bytesIn_26 rfl (by decide) ?_
      refine g_iinc dX8_bytesIn_27 rfl (by rw [show Int32.ofInt (-8) = ((-8) : Int32) by decide]) (by decide) ?_
      refine g_goto (tgt := 5) dX8_bytesIn_30 (by decide) ?_
      rw [show nzI x s = 1 from if_neg c_17] at k
      exact k
    · refine g_ic_0 dX8_bytesIn_20 ?_
      refine g_goto (tgt := 25) dX8_bytesIn_21 (by decide) ?_
      refine g_iadd dX8_bytesIn_25 ?_
      refine g_istore_n dX8_bytesIn_26 rfl (by decide) ?_
      refine g_iinc dX8_bytesIn_27 rfl (by rw [show Int32.ofInt (-8) = ((-8) : Int32) by decide]) (by decide) ?_
      refine g_goto (tgt := 5) dX8_bytesIn_30 (by decide) ?_
      rw [show nzI x s = 0 from if_pos c_17] at k
      exact k

set_option maxHeartbeats 4000000 in
set_option maxRecDepth 100000 in
theorem u_bytes  {Hp : m_H} {x : Int32}  : Con 1 yX8_bytesIn cX8_bytesIn 3 (some .int) [.int x] Hp (fun r_ H_ => r_ = some (.int (bnI x)) ∧ H_ = Hp) := by
  refine m_con (by decide) (Nat.le_of_ble_eq_true rfl) ?_
  refine g_ic_0 dX8_bytesIn_0 ?_
  refine g_istore_n dX8_bytesIn_1 rfl (by decide) ?_
  refine g_bipush (v := 24) dX8_bytesIn_2 (by decide) ?_
  refine g_istore_n dX8_bytesIn_4 rfl (by decide) ?_
  refine u_bytes1 (s := 24) (by decide) ?_
  refine u_bytes1 (s := 24 + (-8)) (by decide) ?_
  refine u_bytes1 (s := 24 + (-8) + (-8)) (by decide) ?_
  refine u_bytes1 (s := 24 + (-8) + (-8) + (-8)) (by decide) ?_
  refine g_iload_n dX8_bytesIn_5 rfl rfl ?_
  refine g_if_lt (tgt := 33) dX8_bytesIn_6 (by decide) (fun c => ?_) (fun c => absurd (by decide) c)
  refine g_iload_n dX8_bytesIn_33 rfl rfl ?_
  exact g_iret dX8_bytesIn_34 ⟨rfl, rfl⟩

set_option maxHeartbeats 4000000 in
set_option maxRecDepth 100000 in
theorem u_add1 {A : Nat → Nat → Int32} {L : Nat → Nat → Int64} {I : Nat → Nat → Int32} {X : Nat → Int64} {x sh : Int32} {s : (Nat → Int32) × Int32} {Q : Option Value → m_H → Prop} (hs : ¬ sh < 0) (k : G 2 RX8 cX8_addNumber 4 none Q 3 [some (.ref 1), some (.int x), some (.int (sh + (-8))), none] [] (hp (up A 2 (adF s (byI x sh)).1) L (up2 I 1 1 (adF s (byI x sh)).2) X)) : G 2 RX8 cX8_addNumber 4 none Q 3 [some (.ref 1), some (.int x), some (.int (sh)), none] [] (hp (up A 2 s.1) L (up2 I 1 1 s.2) X) := by
  refine g_iload_n dX8_addNumber_3 rfl rfl ?_
  refine g_if_lt (tgt := 57) dX8_addNumber_4 (by decide) (fun c_4 => ?_) (fun c_4 => ?_)
  · exact absurd c_4 hs
  · refine g_iload_n dX8_addNumber_7 rfl rfl ?_
    refine g_iload_n dX8_addNumber_8 rfl rfl ?_
    refine g_iushr dX8_addNumber_9 ?_
    refine g_sipush (v := 255) dX8_addNumber_10 (by decide) ?_
    refine g_iand dX8_addNumber_13 ?_
    refine g_istore_n dX8_addNumber_14 rfl (by decide) ?_
    refine g_iload_n dX8_addNumber_15 rfl rfl ?_
    refine g_if_eq (tgt := 51) dX8_addNumber_16 (by decide) (fun c_16 => ?_) (fun c_16 => ?_)
    · refine g_iinc dX8_addNumber_51 rfl (by rw [show Int32.ofInt (-8) = ((-8) : Int32) by decide]) (by decide) ?_
      refine g_goto (tgt := 3) dX8_addNumber_54 (by decide) ?_
      rw [show adF s (byI x sh) = s from if_pos (Or.inl c_16)] at k
      refine g_loc (ls' := [some (.ref 1), some (.int x), some (.int (sh + (-8))), none]) (fun i v h => by rcases i with _|_|_|_|_ <;> first | exact h | cases h) ?_
      exact k
    · refine g_aload_n dX8_addNumber_19 rfl rfl ?_
      refine g_get dX8_addNumber_20 fl_X8_15 hp_1 rfl ?_
      refine g_sipush (v := 240) dX8_addNumber_23 (by decide) ?_
      skip
      refine g_icmp_ge (tgt := 51) dX8_addNumber_26 (by decide) (fun c_26 => ?_) (fun c_26 => ?_)
      · refine g_iinc dX8_addNumber_51 rfl (by rw [show Int32.ofInt (-8) = ((-8) : Int32) by decide]) (by decide) ?_
        refine g_goto (tgt := 3) dX8_addNumber_54 (by decide) ?_
        rw [up2_at] at c_26
        rw [show adF s (byI x sh) = s from if_pos (Or.inr (Int32.not_lt.mpr c_26))] at k
        refine g_loc (ls' := [some (.ref 1), some (.int x), some (.int (sh + (-8))), none]) (fun i v h => by rcases i with _|_|_|_|_ <;> first | exact h | cases h) ?_
        exact k
      · refine g_aload_n dX8_addNumber_29 rfl rfl ?_
        refine g_get dX8_addNumber_30 fl_X8_9 hp_1 rfl ?_
        refine g_aload_n dX8_addNumber_33 rfl rfl ?_
        refine g_get dX8_addNumber_34 fl_X8_15 hp_1 rfl ?_
        refine g_iload_n dX8_addNumber_37 rfl rfl ?_
        refine g_callS dX8_addNumber_38 cs_X8_19 (as := [_, _, _]) (k_setCell hp_2 (by decide)) (by decide) rfl rfl (Nat.le_of_ble_eq_true rfl) ?_
        rintro _ _ ⟨rfl, rfl⟩
        rw [hq_2]
        refine g_aload_n dX8_addNumber_41 rfl rfl ?_
        refine g_dup dX8_addNumber_42 rfl ?_
        refine g_get dX8_addNumber_43 fl_X8_15 hp_1 rfl ?_
        refine g_ic_1 dX8_addNumber_46 ?_
        refine g_iadd dX8_addNumber_47 ?_
        refine g_puti dX8_addNumber_48 fw_X8_15 hp_1 (Nat.le_of_ble_eq_true rfl) ?_
        rw [hq_1_1]
        refine g_iinc dX8_addNumber_51 rfl (by rw [show Int32.ofInt (-8) = ((-8) : Int32) by decide]) (by decide) ?_
        refine g_goto (tgt := 3) dX8_addNumber_54 (by decide) ?_
        rw [up2_at] at c_26
        rw [up_up, up_at, up2_up2, up2_at]
        rw [show adF s (byI x sh) = (pt 240 s.1 s.2 (byI x sh), s.2 + 1) from if_neg (fun h => h.elim c_16 (fun h => h (Int32.not_le.mp c_26)))] at k
        refine g_loc (ls' := [some (.ref 1), some (.int x), some (.int (sh + (-8))), none]) (fun i v h => by rcases i with _|_|_|_|_ <;> first | exact h | cases h) ?_
        exact k

set_option maxHeartbeats 4000000 in
set_option maxRecDepth 100000 in
theorem u_add {A : Nat → Nat → Int32} {L : Nat → Nat → Int64} {I : Nat → Nat → Int32} {X : Nat → Int64} {x : Int32}  : Con 2 yX8_addNumber cX8_addNumber 4 none [.ref 1, .int x] (hp A L I X) (fun r_ H_ => r_ = none ∧ H_ = hp (up A 2 (adN (A 2, I 1 1) x).1) L (up2 I 1 1 (adN (A 2, I 1 1) x).2) X) := by
  refine m_con (by decide) (Nat.le_of_ble_eq_true rfl) ?_
  refine g_bipush (v := 24) dX8_addNumber_0 (by decide) ?_
  refine g_istore_n dX8_addNumber_2 rfl (by decide) ?_
  have k : G 2 RX8 cX8_addNumber 4 none (fun r_ H_ => r_ = none ∧ H_ = hp (up A 2 (adN (A 2, I 1 1) x).1) L (up2 I 1 1 (adN (A 2, I 1 1) x).2) X) 3 [some (.ref 1), some (.int x), some (.int 24), none] [] (hp (up A 2 (A 2, I 1 1).1) L (up2 I 1 1 (A 2, I 1 1).2) X) := by
    refine u_add1 (sh := 24) (by decide) ?_
    refine u_add1 (sh := 24 + (-8)) (by decide) ?_
    refine u_add1 (sh := 24 + (-8) + (-8)) (by decide) ?_
    refine u_add1 (sh := 24 + (-8) + (-8) + (-8)) (by decide) ?_
    refine g_iload_n dX8_addNumber_3 rfl rfl ?_
    refine g_if_lt (tgt := 57) dX8_addNumber_4 (by decide) (fun c => ?_) (fun c => absurd (by decide) c)
    exact g_vret dX8_addNumber_57 ⟨rfl, rfl⟩
  rw [show up A 2 (A 2, I 1 1).1 = A from up_self, show up2 I 1 1 (A 2, I 1 1).2 = I from up2_self] at k
  exact k

set_option maxHeartbeats 4000000 in
set_option maxRecDepth 100000 in
theorem u_cut {A : Nat → Nat → Int32} {L : Nat → Nat → Int64} {I : Nat → Nat → Int32} {X : Nat → Int64} {n : Int32}  : Con 1 yX8_cut cX8_cut 2 none [.ref 1, .int n] (hp A L I X) (fun r_ H_ => r_ = none ∧ H_ = hp A L (up2 I 1 1 n) X) := by
  refine m_con (by decide) (Nat.le_of_ble_eq_true rfl) ?_
  refine g_aload_n dX8_cut_0 rfl rfl ?_
  refine g_iload_n dX8_cut_1 rfl rfl ?_
  refine g_puti dX8_cut_2 fw_X8_15 hp_1 (Nat.le_of_ble_eq_true rfl) ?_
  rw [hq_1_1]
  exact g_vret dX8_cut_5 ⟨rfl, rfl⟩

def feM (a b c d e : Int32) : Int32 := bnI a + bnI b + bnI c + bnI d + bnI e
def feS (s : (Nat → Int32) × Int32) (a b c d e : Int32) : (Nat → Int32) × Int32 := adN (adN (adN (adN (adN s a) b) c) d) e
set_option maxHeartbeats 4000000 in
set_option maxRecDepth 100000 in
theorem m_feed {A : Nat → Nat → Int32} {L : Nat → Nat → Int64} {I : Nat → Nat → Int32} {X : Nat → Int64} {a b c d e : Int32}  : Con 3 yX10_feed cX10_feed 7 (some .int) [.ref 0, .int a, .int b, .int c, .int d, .int e] (hp A L I X) (fun r_ H_ => (¬ I 1 1 + feM a b c d e ≤ 240 ∧ r_ = some (.int (-1)) ∧ H_ = hp A L I X) ∨ (I 1 1 + feM a b c d e ≤ 240 ∧ r_ = some (.int (feS (A 2, I 1 1) a b c d e).2) ∧ H_ = hp (up A 2 (feS (A 2, I 1 1) a b c d e).1) L (up2 I 1 1 (feS (A 2, I 1 1) a b c d e).2) X)) := by
  refine m_con (by decide) (Nat.le_of_ble_eq_true rfl) ?_
  refine g_iload_n dX10_feed_0 rfl rfl ?_
  refine g_callS dX10_feed_1 cs_X10_86 (as := [_]) u_bytes (by decide) rfl rfl (Nat.le_of_ble_eq_true rfl) ?_
  rintro _ _ ⟨rfl, rfl⟩
  refine g_iload_n dX10_feed_4 rfl rfl ?_
  refine g_callS dX10_feed_5 cs_X10_86 (as := [_]) u_bytes (by decide) rfl rfl (Nat.le_of_ble_eq_true rfl) ?_
  rintro _ _ ⟨rfl, rfl⟩
  refine g_iadd dX10_feed_8 ?_
  refine g_iload_n dX10_feed_9 rfl rfl ?_
  refine g_callS dX10_feed_10 cs_X10_86 (as := [_]) u_bytes (by decide) rfl rfl (Nat.le_of_ble_eq_true rfl) ?_
  rintro _ _ ⟨rfl, rfl⟩
  refine g_iadd dX10_feed_13 ?_
  refine g_iload dX10_feed_14 rfl ?_
  refine g_callS dX10_feed_16 cs_X10_86 (as := [_]) u_bytes (by decide) rfl rfl (Nat.le_of_ble_eq_true rfl) ?_
  rintro _ _ ⟨rfl, rfl⟩
  refine g_iadd dX10_feed_19 ?_
  refine g_iload dX10_feed_20 rfl ?_
  refine g_callS dX10_feed_22 cs_X10_86 (as := [_]) u_bytes (by decide) rfl rfl (Nat.le_of_ble_eq_true rfl) ?_
  rintro _ _ ⟨rfl, rfl⟩
  refine g_iadd dX10_feed_25 ?_
  refine g_istore dX10_feed_26 (by decide) ?_
  refine g_aload_n dX10_feed_28 rfl rfl ?_
  refine g_get dX10_feed_29 fl_X10_12 hp_0 rfl ?_
  refine g_callV dX10_feed_32 cv_X10_90 (as' := []) hp_1 rfl t_size (by decide) rfl rfl (Nat.le_of_ble_eq_true rfl) ?_
  rintro _ _ ⟨rfl, rfl⟩
  refine g_iload dX10_feed_35 rfl ?_
  refine g_iadd dX10_feed_37 ?_
  refine g_sipush (v := 240) dX10_feed_38 (by decide) ?_
  refine g_icmp_le (tgt := 46) dX10_feed_41 (by decide) (fun c_41 => ?_) (fun c_41 => ?_)
  · refine g_aload_n dX10_feed_46 rfl rfl ?_
    refine g_get dX10_feed_47 fl_X10_12 hp_0 rfl ?_
    refine g_iload_n dX10_feed_50 rfl rfl ?_
    refine g_callV dX10_feed_51 cv_X10_94 (as' := [_]) hp_1 rfl u_add (by decide) rfl rfl (Nat.le_of_ble_eq_true rfl) ?_
    rintro _ _ ⟨rfl, rfl⟩
    try rw [up_up, up_at, up2_up2, up2_at]
    refine g_aload_n dX10_feed_54 rfl rfl ?_
    refine g_get dX10_feed_55 fl_X10_12 hp_0 rfl ?_
    refine g_iload_n dX10_feed_58 rfl rfl ?_
    refine g_callV dX10_feed_59 cv_X10_94 (as' := [_]) hp_1 rfl u_add (by decide) rfl rfl (Nat.le_of_ble_eq_true rfl) ?_
    rintro _ _ ⟨rfl, rfl⟩
    try rw [up_up, up_at, up2_up2, up2_at]
    refine g_aload_n dX10_feed_62 rfl rfl ?_
    refine g_get dX10_feed_63 fl_X10_12 hp_0 rfl ?_
    refine g_iload_n dX10_feed_66 rfl rfl ?_
    refine g_callV dX10_feed_67 cv_X10_94 (as' := [_]) hp_1 rfl u_add (by decide) rfl rfl (Nat.le_of_ble_eq_true rfl) ?_
    rintro _ _ ⟨rfl, rfl⟩
    try rw [up_up, up_at, up2_up2, up2_at]
    refine g_aload_n dX10_feed_70 rfl rfl ?_
    refine g_get dX10_feed_71 fl_X10_12 hp_0 rfl ?_
    refine g_iload dX10_feed_74 rfl ?_
    refine g_callV dX10_feed_76 cv_X10_94 (as' := [_]) hp_1 rfl u_add (by decide) rfl rfl (Nat.le_of_ble_eq_true rfl) ?_
    rintro _ _ ⟨rfl, rfl⟩
    try rw [up_up, up_at, up2_up2, up2_at]
    refine g_aload_n dX10_feed_79 rfl rfl ?_
    refine g_get dX10_feed_80 fl_X10_12 hp_0 rfl ?_
    refine g_iload dX10_feed_83 rfl ?_
    refine g_callV dX10_feed_85 cv_X10_94 (as' := [_]) hp_1 rfl u_add (by decide) rfl rfl (Nat.le_of_ble_eq_true rfl) ?_
    rintro _ _ ⟨rfl, rfl⟩
    try rw [up_up, up_at, up2_up2, up2_at]
    refine g_aload_n dX10_feed_88 rfl rfl ?_
    refine g_get dX10_feed_89 fl_X10_12 hp_0 rfl ?_
    refine g_callV dX10_feed_92 cv_X10_90 (as' := []) hp_1 rfl t_size (by decide) rfl rfl (Nat.le_of_ble_eq_true rfl) ?_
    rintro _ _ ⟨rfl, rfl⟩
    exact g_iret dX10_feed_95 (Or.inr ⟨c_41, by rw [up2_at]; rfl, rfl⟩)
  · refine g_ic_m1 dX10_feed_44 ?_
    exact g_iret dX10_feed_45 (Or.inl ⟨c_41, rfl, rfl⟩)

set_option maxHeartbeats 4000000 in
set_option maxRecDepth 100000 in
theorem m_end {A : Nat → Nat → Int32} {L : Nat → Nat → Int64} {I : Nat → Nat → Int32} {X : Nat → Int64} {n : Int32}  : Con 2 yX10_end cX10_end 2 (some .boolean) [.ref 0, .int n] (hp A L I X) (fun r_ H_ => ((n < 0 ∨ ¬ n ≤ I 1 1) ∧ r_ = some (.int 0) ∧ H_ = hp A L I X) ∨ (¬ n < 0 ∧ n ≤ I 1 1 ∧ r_ = some (.int 1) ∧ H_ = hp A L (up2 I 1 1 n) X)) := by
  refine m_con (by decide) (Nat.le_of_ble_eq_true rfl) ?_
  refine g_iload_n dX10_end_0 rfl rfl ?_
  refine g_if_lt (tgt := 15) dX10_end_1 (by decide) (fun c_1 => ?_) (fun c_1 => ?_)
  · refine g_ic_0 dX10_end_15 ?_
    exact g_zret (by first | exact Or.inl rfl | exact Or.inr rfl) dX10_end_16 (Or.inl ⟨Or.inl c_1, rfl, rfl⟩)
  · refine g_iload_n dX10_end_4 rfl rfl ?_
    refine g_aload_n dX10_end_5 rfl rfl ?_
    refine g_get dX10_end_6 fl_X10_12 hp_0 rfl ?_
    refine g_callV dX10_end_9 cv_X10_90 (as' := []) hp_1 rfl t_size (by decide) rfl rfl (Nat.le_of_ble_eq_true rfl) ?_
    rintro _ _ ⟨rfl, rfl⟩
    refine g_icmp_le (tgt := 17) dX10_end_12 (by decide) (fun c_12 => ?_) (fun c_12 => ?_)
    · refine g_aload_n dX10_end_17 rfl rfl ?_
      refine g_get dX10_end_18 fl_X10_12 hp_0 rfl ?_
      refine g_iload_n dX10_end_21 rfl rfl ?_
      refine g_callV dX10_end_22 cv_X10_98 (as' := [_]) hp_1 rfl u_cut (by decide) rfl rfl (Nat.le_of_ble_eq_true rfl) ?_
      rintro _ _ ⟨rfl, rfl⟩
      refine g_ic_1 dX10_end_25 ?_
      exact g_zret (by first | exact Or.inl rfl | exact Or.inr rfl) dX10_end_26 (Or.inr ⟨c_1, c_12, rfl, rfl⟩)
    · refine g_ic_0 dX10_end_15 ?_
      exact g_zret (by first | exact Or.inl rfl | exact Or.inr rfl) dX10_end_16 (Or.inl ⟨Or.inr c_12, rfl, rfl⟩)
