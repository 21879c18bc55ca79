/-! ODDS: parts L 33 -/
def gl (P : Nat → Int64) (i : Int32) : Int64 := if i < 0 ∨ 31 ≤ i.toNatClampNeg then 0 else P i.toNatClampNeg
def pl (P : Nat → Int64) (i : Int32) (v : Int64) : Nat → Int64 := if i < 0 ∨ 31 ≤ i.toNatClampNeg then P else vp_updL P i.toNatClampNeg v
def dpC (c : Int64) (k : Nat) (P : Nat → Int64) : Nat → Int64 :=
  let lost := gl P (nI (k + 1)) * c / 100
  let P1 := pl P (nI (k + 1)) (gl P (nI (k + 1)) - lost)
  pl P1 (nI (k + 1) - 1) (gl P1 (nI (k + 1) - 1) + lost)
def dpT (c : Int64) (P : Nat → Int64) : Nat → Int64 := itn (dpC c) 30 P
def dp0 (P : Nat → Int64) : Nat → Int64 := itn (fun k P => pl P (nI k) 0) 31 P
def dpS (P : Nat → Int64) (m n ch : Int32) : Nat → Int64 := itn (fun _ => dpT ch.toInt64) n.toNatClampNeg (pl (dp0 P) m 1000000000)
set_option maxHeartbeats 4000000 in
set_option maxRecDepth 100000 in
theorem p_at {A : Nat → Nat → Int32} {L : Nat → Nat → Int64} {I : Nat → Nat → Int32} {X : Nat → Int64} {m : Int32}  : Con 1 yX3_partAt cX3_partAt 2 (some .long) [.ref 27, .int m] (hp A L I X) (fun r_ H_ => r_ = some (.long (gl (L 33) m)) ∧ H_ = hp A L I X) := by
  refine m_con (by decide) (Nat.le_of_ble_eq_true rfl) ?_
  refine g_iload_n dX3_partAt_0 rfl rfl ?_
  refine g_if_lt (tgt := 13) dX3_partAt_1 (by decide) (fun c_1 => ?_) (fun c_1 => ?_)
  · refine g_lconst (v := 0) dX3_partAt_13 rfl ?_
    refine g_goto (tgt := 23) dX3_partAt_14 (by decide) ?_
    exact g_lret dX3_partAt_23 ⟨congrArg (fun z => some (Value.long z)) (show _ = gl (L 33) m from (if_pos (Or.inl c_1)).symm), rfl⟩
  · refine g_iload_n dX3_partAt_4 rfl rfl ?_
    refine g_aload_n dX3_partAt_5 rfl rfl ?_
    refine g_get dX3_partAt_6 fl_X3_25 hp_27 rfl ?_
    refine g_llen dX3_partAt_9 hp_33 rfl ?_
    refine g_icmp_lt (tgt := 17) dX3_partAt_10 (by decide) (fun c_10 => ?_) (fun c_10 => ?_)
    · refine g_aload_n dX3_partAt_17 rfl rfl ?_
      refine g_get dX3_partAt_18 fl_X3_25 hp_27 rfl ?_
      refine g_iload_n dX3_partAt_21 rfl rfl ?_
      refine g_lald dX3_partAt_22 hp_33 (ix_in (by decide) c_1 c_10) ?_
      exact g_lret dX3_partAt_23 ⟨congrArg (fun z => some (Value.long z)) (show _ = gl (L 33) m from (if_neg (ix_in (N := 31) (by decide) c_1 c_10)).symm), rfl⟩
    · refine g_lconst (v := 0) dX3_partAt_13 rfl ?_
      refine g_goto (tgt := 23) dX3_partAt_14 (by decide) ?_
      exact g_lret dX3_partAt_23 ⟨congrArg (fun z => some (Value.long z)) (show _ = gl (L 33) m from (if_pos (ix_out (N := 31) (by decide) c_1 c_10)).symm), rfl⟩

set_option maxHeartbeats 4000000 in
set_option maxRecDepth 100000 in
theorem p_set {A : Nat → Nat → Int32} {L : Nat → Nat → Int64} {I : Nat → Nat → Int32} {X : Nat → Int64} {m : Int32} {v : Int64}  : Con 1 yX3_setPart cX3_setPart 4 none [.ref 27, .int m, .long v] (hp A L I X) (fun r_ H_ => r_ = none ∧ H_ = hp A (up L 33 (pl (L 33) m v)) I X) := by
  refine m_con (by decide) (Nat.le_of_ble_eq_true rfl) ?_
  refine g_iload_n dX3_setPart_0 rfl rfl ?_
  refine g_if_lt (tgt := 20) dX3_setPart_1 (by decide) (fun c_1 => ?_) (fun c_1 => ?_)
  · exact g_vret dX3_setPart_20 ⟨rfl, by rw [show pl (L 33) m v = L 33 from if_pos (Or.inl c_1), up_self]⟩
  · refine g_iload_n dX3_setPart_4 rfl rfl ?_
    refine g_aload_n dX3_setPart_5 rfl rfl ?_
    refine g_get dX3_setPart_6 fl_X3_25 hp_27 rfl ?_
    refine g_llen dX3_setPart_9 hp_33 rfl ?_
    refine g_icmp_ge (tgt := 20) dX3_setPart_10 (by decide) (fun c_10 => ?_) (fun c_10 => ?_)
    · exact g_vret dX3_setPart_20 ⟨rfl, by rw [show pl (L 33) m v = L 33 from if_pos (ix_out' (N := 31) (by decide) c_1 c_10), up_self]⟩
    · refine g_aload_n dX3_setPart_13 rfl rfl ?_
      refine g_get dX3_setPart_14 fl_X3_25 hp_27 rfl ?_
      refine g_iload_n dX3_setPart_17 rfl rfl ?_
      refine g_lload_n dX3_setPart_18 rfl rfl ?_
      refine g_last dX3_setPart_19 hp_33 (ix_in' (by decide) c_1 c_10) ?_
      rw [hq_33]
      exact g_vret dX3_setPart_20 ⟨rfl, by rw [show pl (L 33) m v = vp_updL (L 33) m.toNatClampNeg v from if_neg (ix_in' (N := 31) (by decide) c_1 c_10)]⟩

set_option maxHeartbeats 4000000 in
set_option maxRecDepth 100000 in
theorem p_loop1 {A : Nat → Nat → Int32} {L : Nat → Nat → Int64} {I : Nat → Nat → Int32} {X : Nat → Int64} {n0 ch : Int32} {Q : Option Value → m_H → Prop} (hE : G 3 RX3 cX3_deadParts 7 (some .long) Q 23 [some (.ref 27), some (.int n0), some (.int ch), some (.int (nI 31)), none, none, none] [] (hp A (up L 33 (dp0 (L 33))) I X)) : ∀ n k, k ≤ 31 → 31 - k < n → G 3 RX3 cX3_deadParts 7 (some .long) Q 2 [some (.ref 27), some (.int n0), some (.int ch), some (.int (nI k)), none, none, none] [] (hp A (up L 33 (itn (fun k P => pl P (nI k) 0) k (L 33))) I X) := by
  intro n
  induction n with
  | zero => intro k h1 h2; omega
  | succ n ih =>
    intro k h1 h2
    refine g_iload_n dX3_deadParts_2 rfl rfl ?_
    refine g_aload_n dX3_deadParts_3 rfl rfl ?_
    refine g_get dX3_deadParts_4 fl_X3_25 hp_27 rfl ?_
    refine g_llen dX3_deadParts_7 hp_33 rfl ?_
    refine g_icmp_ge (tgt := 23) dX3_deadParts_8 (by decide) (fun c_8 => ?_) (fun c_8 => ?_)
    · have h6 : 31 ≤ k := lit_le (n := 31) (by decide) (by omega) c_8
      have hkn : k = 31 := by omega
      subst hkn
      exact hE
    · have hlt : k < 31 := lit_nle (n := 31) (by decide) (by omega) c_8
      refine g_aload_n dX3_deadParts_11 rfl rfl ?_
      refine g_iload_n dX3_deadParts_12 rfl rfl ?_
      refine g_lconst (v := 0) dX3_deadParts_13 rfl ?_
      refine g_callV dX3_deadParts_14 cv_X3_106 (as' := [_, _]) hp_27 rfl p_set (by decide) rfl rfl (Nat.le_of_ble_eq_true rfl) ?_
      rintro _ _ ⟨rfl, rfl⟩
      try simp only [up_at, up_up]
      refine g_iinc1 dX3_deadParts_17 rfl (by decide) ?_
      refine g_goto (tgt := 2) dX3_deadParts_20 (by decide) ?_
      rw [nI_1]
      exact ih (k + 1) (by omega) (by omega)

set_option maxHeartbeats 4000000 in
set_option maxRecDepth 100000 in
theorem p_loop2 {A : Nat → Nat → Int32} {L : Nat → Nat → Int64} {I : Nat → Nat → Int32} {X : Nat → Int64} {n0 ch : Int32} {t : Nat} {P : Nat → Int64} {Q : Option Value → m_H → Prop} (hE : G 3 RX3 cX3_deadParts 7 (some .long) Q 113 [some (.ref 27), some (.int n0), some (.int ch), some (.int (nI t)), some (.int (nI (30 + 1))), none, none] [] (hp A (up L 33 (dpT ch.toInt64 P)) I X)) : ∀ n k, k ≤ 30 → 30 - k < n → G 3 RX3 cX3_deadParts 7 (some .long) Q 48 [some (.ref 27), some (.int n0), some (.int ch), some (.int (nI t)), some (.int (nI (k + 1))), none, none] [] (hp A (up L 33 (itn (dpC ch.toInt64) k P)) I X) := by
  intro n
  induction n with
  | zero => intro k h1 h2; omega
  | succ n ih =>
    intro k h1 h2
    refine g_iload dX3_deadParts_48 rfl ?_
    refine g_aload_n dX3_deadParts_50 rfl rfl ?_
    refine g_get dX3_deadParts_51 fl_X3_25 hp_27 rfl ?_
    refine g_llen dX3_deadParts_54 hp_33 rfl ?_
    refine g_icmp_ge (tgt := 113) dX3_deadParts_55 (by decide) (fun c_55 => ?_) (fun c_55 => ?_)
    · have h6 : 31 ≤ k + 1 := lit_le (n := 31) (by decide) (by omega) c_55
      have hkn : k = 30 := by omega
      subst hkn
      exact hE
    · have hlt : k + 1 < 31 := lit_nle (n := 31) (by decide) (by omega) c_55
      refine g_aload_n dX3_deadParts_58 rfl rfl ?_
      refine g_iload dX3_deadParts_59 rfl ?_
      refine g_callV dX3_deadParts_61 cv_X3_112 (as' := [_]) hp_27 rfl p_at (by decide) rfl rfl (Nat.le_of_ble_eq_true rfl) ?_
      rintro _ _ ⟨rfl, rfl⟩
      try simp only [up_at, up_up]
      refine g_iload_n dX3_deadParts_64 rfl rfl ?_
      refine g_i2l dX3_deadParts_65 ?_
      refine g_lmul dX3_deadParts_66 ?_
      refine g_ldc2 dX3_deadParts_67 lc_X3_116 ?_
      refine g_ldiv dX3_deadParts_70 (by decide) ?_
      refine g_lstore dX3_deadParts_71 (by decide) ?_
      refine g_aload_n dX3_deadParts_73 rfl rfl ?_
      refine g_iload dX3_deadParts_74 rfl ?_
      refine g_aload_n dX3_deadParts_76 rfl rfl ?_
      refine g_iload dX3_deadParts_77 rfl ?_
      refine g_callV dX3_deadParts_79 cv_X3_112 (as' := [_]) hp_27 rfl p_at (by decide) rfl rfl (Nat.le_of_ble_eq_true rfl) ?_
      rintro _ _ ⟨rfl, rfl⟩
      try simp only [up_at, up_up]
      refine g_lload dX3_deadParts_82 rfl ?_
      refine g_lsub dX3_deadParts_84 ?_
      refine g_callV dX3_deadParts_85 cv_X3_106 (as' := [_, _]) hp_27 rfl p_set (by decide) rfl rfl (Nat.le_of_ble_eq_true rfl) ?_
      rintro _ _ ⟨rfl, rfl⟩
      try simp only [up_at, up_up]
      refine g_aload_n dX3_deadParts_88 rfl rfl ?_
      refine g_iload dX3_deadParts_89 rfl ?_
      refine g_ic_1 dX3_deadParts_91 ?_
      refine g_isub dX3_deadParts_92 ?_
      refine g_aload_n dX3_deadParts_93 rfl rfl ?_
      refine g_iload dX3_deadParts_94 rfl ?_
      refine g_ic_1 dX3_deadParts_96 ?_
      refine g_isub dX3_deadParts_97 ?_
      refine g_callV dX3_deadParts_98 cv_X3_112 (as' := [_]) hp_27 rfl p_at (by decide) rfl rfl (Nat.le_of_ble_eq_true rfl) ?_
      rintro _ _ ⟨rfl, rfl⟩
      try simp only [up_at, up_up]
      refine g_lload dX3_deadParts_101 rfl ?_
      refine g_ladd dX3_deadParts_103 ?_
      refine g_callV dX3_deadParts_104 cv_X3_106 (as' := [_, _]) hp_27 rfl p_set (by decide) rfl rfl (Nat.le_of_ble_eq_true rfl) ?_
      rintro _ _ ⟨rfl, rfl⟩
      try simp only [up_at, up_up]
      refine g_iinc1 dX3_deadParts_107 rfl (by decide) ?_
      refine g_goto (tgt := 48) dX3_deadParts_110 (by decide) ?_
      refine g_loc (ls' := [some (.ref 27), some (.int n0), some (.int ch), some (.int (nI t)), some (.int (nI (k + 1) + 1)), none, none]) (fun i v h => by rcases i with _|_|_|_|_|_|_|_ <;> first | exact h | cases h) ?_
      rw [nI_1]
      exact ih (k + 1) (by omega) (by omega)

set_option maxHeartbeats 4000000 in
set_option maxRecDepth 100000 in
theorem p_loop3 {A : Nat → Nat → Int32} {L : Nat → Nat → Int64} {I : Nat → Nat → Int32} {X : Nat → Int64} {n0 ch : Int32} {P0 : Nat → Int64} {Q : Option Value → m_H → Prop} (hE : G 3 RX3 cX3_deadParts 7 (some .long) Q 119 [some (.ref 27), some (.int n0), some (.int ch), some (.int (nI n0.toNatClampNeg)), none, none, none] [] (hp A (up L 33 (itn (fun _ => dpT ch.toInt64) n0.toNatClampNeg P0)) I X)) : ∀ n k P, P = itn (fun _ => dpT ch.toInt64) k P0 → k ≤ n0.toNatClampNeg → n0.toNatClampNeg - k < n → G 3 RX3 cX3_deadParts 7 (some .long) Q 40 [some (.ref 27), some (.int n0), some (.int ch), some (.int (nI k)), none, none, none] [] (hp A (up L 33 (P)) I X) := by
  intro n
  induction n with
  | zero => intro k P hs1 h1 h2; omega
  | succ n ih =>
    intro k P hs1 h1 h2
    have hb := clamp_lt n0
    refine g_iload_n dX3_deadParts_40 rfl rfl ?_
    refine g_iload_n dX3_deadParts_41 rfl rfl ?_
    refine g_icmp_ge (tgt := 119) dX3_deadParts_42 (by decide) (fun c_42 => ?_) (fun c_42 => ?_)
    · have h6 := (nI_gen (k := k) (by omega)).mp c_42
      have hkn : k = n0.toNatClampNeg := by omega
      subst hkn
      rw [hs1]
      exact hE
    · have hlt : k < n0.toNatClampNeg := Nat.not_le.mp (fun z => c_42 ((nI_gen (k := k) (by omega)).mpr z))
      refine g_ic_1 dX3_deadParts_45 ?_
      refine g_istore dX3_deadParts_46 (by decide) ?_
      refine p_loop2 (A := A) (L := L) (I := I) (P := P) ?_ 31 0 (by omega) (by omega)
      refine g_iinc1 dX3_deadParts_113 rfl (by decide) ?_
      refine g_goto (tgt := 40) dX3_deadParts_116 (by decide) ?_
      refine g_loc (ls' := [some (.ref 27), some (.int n0), some (.int ch), some (.int (nI k + 1)), none, none, none]) (fun i v h => by rcases i with _|_|_|_|_|_|_|_ <;> first | exact h | cases h) ?_
      rw [nI_1]
      exact ih (k + 1) (dpT ch.toInt64 P) (by rw [hs1]; rfl) (by omega) (by omega)

set_option maxHeartbeats 4000000 in
set_option maxRecDepth 100000 in
theorem p_dead {A : Nat → Nat → Int32} {L : Nat → Nat → Int64} {I : Nat → Nat → Int32} {X : Nat → Int64} {n ch : Int32}  : Con 3 yX3_deadParts cX3_deadParts 7 (some .long) [.ref 27, .int n, .int ch] (hp A L I X) (fun r_ H_ => r_ = some (.long (gl (dpS (L 33) (gt 143 (A 20) 0) n ch) 0)) ∧ ∃ A9 L9 I9, sm A L I A9 L9 I9 ∧ H_ = hp A9 L9 I9 X) := by
  refine m_con (by decide) (Nat.le_of_ble_eq_true rfl) ?_
  refine g_ic_0 dX3_deadParts_0 ?_
  refine g_istore_n dX3_deadParts_1 rfl (by decide) ?_
  have h := p_loop1 (A := A) (L := L) (I := I) (X := X) (n0 := n) (ch := ch) (Q := (fun r_ H_ => r_ = some (.long (gl (dpS (L 33) (gt 143 (A 20) 0) n ch) 0)) ∧ ∃ A9 L9 I9, sm A L I A9 L9 I9 ∧ H_ = hp A9 L9 I9 X)) (by
    refine g_aload_n dX3_deadParts_23 rfl rfl ?_
    refine g_aload_n dX3_deadParts_24 rfl rfl ?_
    refine g_get dX3_deadParts_25 fl_X3_29 hp_27 rfl ?_
    refine g_ic_0 dX3_deadParts_28 ?_
    refine g_callV dX3_deadParts_29 cv_X3_47 (as' := [_]) hp_19 rfl (h_get isS_19) (by decide) rfl rfl (Nat.le_of_ble_eq_true rfl) ?_
    rintro _ _ ⟨rfl, rfl⟩
    refine g_ldc2 dX3_deadParts_32 lc_X3_110 ?_
    refine g_callV dX3_deadParts_35 cv_X3_106 (as' := [_, _]) hp_27 rfl p_set (by decide) rfl rfl (Nat.le_of_ble_eq_true rfl) ?_
    rintro _ _ ⟨rfl, rfl⟩
    try simp only [up_at, up_up]
    refine g_ic_0 dX3_deadParts_38 ?_
    refine g_istore_n dX3_deadParts_39 rfl (by decide) ?_
    refine p_loop3 (A := A) (L := L) (I := I) ?_ _ 0 _ rfl (Nat.zero_le _) (Nat.lt_succ_self _)
    refine g_aload_n dX3_deadParts_119 rfl rfl ?_
    refine g_ic_0 dX3_deadParts_120 ?_
    refine g_callV dX3_deadParts_121 cv_X3_112 (as' := [_]) hp_27 rfl p_at (by decide) rfl rfl (Nat.le_of_ble_eq_true rfl) ?_
    rintro _ _ ⟨rfl, rfl⟩
    try simp only [up_at, up_up]
    exact g_lret dX3_deadParts_124 ⟨rfl, _, _, _, sm_upL, rfl⟩) 32 0 (by omega) (by omega)
  rw [show itn (fun k P => pl P (nI k) 0) 0 (L 33) = L 33 from rfl, up_self] at h
  exact h
