theorem isS_5 : isS 5 6 7 := Or.inl ⟨rfl, rfl, rfl⟩
theorem isS_16 : isS 16 17 18 := Or.inr (Or.inl ⟨rfl, rfl, rfl⟩)
theorem isS_19 : isS 19 20 21 := Or.inr (Or.inr (Or.inl ⟨rfl, rfl, rfl⟩))
theorem isS_22 : isS 22 23 24 := Or.inr (Or.inr (Or.inr (Or.inl ⟨rfl, rfl, rfl⟩)))
theorem isS_28 : isS 28 29 30 := Or.inr (Or.inr (Or.inr (Or.inr (Or.inl ⟨rfl, rfl, rfl⟩))))
theorem isS_35 : isS 35 36 37 := Or.inr (Or.inr (Or.inr (Or.inr (Or.inr ⟨rfl, rfl, rfl⟩))))
theorem h_grow {A : Nat → Nat → Int32} {L : Nat → Nat → Int64} {I : Nat → Nat → Int32} {X : Nat → Int64} {q r c : Nat} {m : Int32} (hs : isS q r c) : Con 4 yX7_growCrops cX7_growCrops 9 (some .int) [.ref q, .int m] (hp A L I X) (fun r_ H_ => r_ = some (.int (grS (A r) m).2) ∧ H_ = hp (upS A r c (grS (A r) m).1 (A c)) L I X) := by
  have h := s_grow (m := m) (f := A r) (g := A c) (isS_k (A := A) (L := L) (I := I) (X := X) hs)
  rw [isS_in hs, isS_out hs] at h
  exact h

/-! LAWS: object 11, code 12, sizes 13, values 14, stack 15; fields 4 many, 5 holds, 6 top -/
def psK (K : Nat → Int32) (t v : Int32) : Nat → Int32 := if t < 0 then K else if 64 ≤ t then K else upd K t.toNatClampNeg v
def psT (t : Int32) : Int32 := if t < 0 then t else if 64 ≤ t then t else t + 1
def ppT (t : Int32) : Int32 := if t < 1 then t else if t ≤ 64 then t - 1 else t
def ppV (K : Nat → Int32) (t : Int32) : Int32 := if t < 1 then 0 else if t ≤ 64 then K (t - 1).toNatClampNeg else 0
theorem in_of {N : Nat} {t : Int32} (hN : N < 2 ^ 31) (h0 : ¬ t < 0) (h1 : ¬ nI N ≤ t) : vp_in t N := ix_in' hN h0 h1
theorem ppin {t : Int32} (h0 : ¬ t < 1) (h1 : t ≤ 64) : vp_in (t - 1) 64 := by
  rw [Int32.lt_iff_toInt_lt] at h0
  rw [Int32.le_iff_toInt_le] at h1
  have e1 : (1 : Int32).toInt = 1 := by decide
  have e2 : (64 : Int32).toInt = 64 := by decide
  rw [e1] at h0
  rw [e2] at h1
  rw [vp_in_iff, Int32.toInt_sub, e1, Int.bmod_def]
  omega

set_option maxHeartbeats 4000000 in
set_option maxRecDepth 100000 in
theorem l_push {A : Nat → Nat → Int32} {L : Nat → Nat → Int64} {I : Nat → Nat → Int32} {X : Nat → Int64} {v : Int32}  : Con 1 yX5_push cX5_push 2 none [.ref 11, .int v] (hp A L I X) (fun r_ H_ => r_ = none ∧ H_ = hp (up A 15 (psK (A 15) (I 11 6) v)) L (up2 I 11 6 (psT (I 11 6))) X) := by
  refine m_con (by decide) (Nat.le_of_ble_eq_true rfl) ?_
  refine g_aload_n dX5_push_0 rfl rfl ?_
  refine g_get dX5_push_1 fl_X5_61 hp_11 rfl ?_
  refine g_if_lt (tgt := 39) dX5_push_4 (by decide) (fun c_4 => ?_) (fun c_4 => ?_)
  · exact g_vret dX5_push_39 ⟨rfl, by unfold psK psT; rw [if_pos c_4, if_pos c_4, up_self, up2_self]⟩
  · refine g_aload_n dX5_push_7 rfl rfl ?_
    refine g_get dX5_push_8 fl_X5_61 hp_11 rfl ?_
    refine g_aload_n dX5_push_11 rfl rfl ?_
    refine g_get dX5_push_12 fl_X5_21 hp_11 rfl ?_
    refine g_ilenW dX5_push_15 hp_15 rfl ?_
    refine g_icmp_ge (tgt := 39) dX5_push_16 (by decide) (fun c_16 => ?_) (fun c_16 => ?_)
    · exact g_vret dX5_push_39 ⟨rfl, by unfold psK psT; rw [if_neg c_4, if_neg c_4, if_pos (show (64 : Int32) ≤ I 11 6 from c_16), if_pos (show (64 : Int32) ≤ I 11 6 from c_16), up_self, up2_self]⟩
    · refine g_aload_n dX5_push_19 rfl rfl ?_
      refine g_get dX5_push_20 fl_X5_21 hp_11 rfl ?_
      refine g_aload_n dX5_push_23 rfl rfl ?_
      refine g_get dX5_push_24 fl_X5_61 hp_11 rfl ?_
      refine g_iload_n dX5_push_27 rfl rfl ?_
      refine g_iast dX5_push_28 hp_15 (in_of (by decide) c_4 c_16) ?_
      rw [hq_15]
      refine g_aload_n dX5_push_29 rfl rfl ?_
      refine g_dup dX5_push_30 rfl ?_
      refine g_get dX5_push_31 fl_X5_61 hp_11 rfl ?_
      refine g_ic_1 dX5_push_34 ?_
      refine g_iadd dX5_push_35 ?_
      refine g_puti dX5_push_36 fw_X5_61 hp_11 (Nat.le_of_ble_eq_true rfl) ?_
      rw [hq_11_6]
      exact g_vret dX5_push_39 ⟨rfl, by unfold psK psT; rw [if_neg c_4, if_neg c_4, if_neg (show ¬ (64 : Int32) ≤ I 11 6 from c_16), if_neg (show ¬ (64 : Int32) ≤ I 11 6 from c_16)]⟩

set_option maxHeartbeats 4000000 in
set_option maxRecDepth 100000 in
theorem l_pop {A : Nat → Nat → Int32} {L : Nat → Nat → Int64} {I : Nat → Nat → Int32} {X : Nat → Int64}   : Con 1 yX5_pop cX5_pop 1 (some .int) [.ref 11] (hp A L I X) (fun r_ H_ => r_ = some (.int (ppV (A 15) (I 11 6))) ∧ H_ = hp A L (up2 I 11 6 (ppT (I 11 6))) X) := by
  refine m_con (by decide) (Nat.le_of_ble_eq_true rfl) ?_
  refine g_aload_n dX5_pop_0 rfl rfl ?_
  refine g_get dX5_pop_1 fl_X5_61 hp_11 rfl ?_
  refine g_ic_1 dX5_pop_4 ?_
  refine g_icmp_lt (tgt := 20) dX5_pop_5 (by decide) (fun c_5 => ?_) (fun c_5 => ?_)
  · refine g_ic_0 dX5_pop_20 ?_
    exact g_iret dX5_pop_21 ⟨by unfold ppV; rw [if_pos c_5], by unfold ppT; rw [if_pos c_5, up2_self]⟩
  · refine g_aload_n dX5_pop_8 rfl rfl ?_
    refine g_get dX5_pop_9 fl_X5_61 hp_11 rfl ?_
    refine g_aload_n dX5_pop_12 rfl rfl ?_
    refine g_get dX5_pop_13 fl_X5_21 hp_11 rfl ?_
    refine g_ilenW dX5_pop_16 hp_15 rfl ?_
    refine g_icmp_le (tgt := 22) dX5_pop_17 (by decide) (fun c_17 => ?_) (fun c_17 => ?_)
    · refine g_aload_n dX5_pop_22 rfl rfl ?_
      refine g_dup dX5_pop_23 rfl ?_
      refine g_get dX5_pop_24 fl_X5_61 hp_11 rfl ?_
      refine g_ic_1 dX5_pop_27 ?_
      refine g_isub dX5_pop_28 ?_
      refine g_puti dX5_pop_29 fw_X5_61 hp_11 (Nat.le_of_ble_eq_true rfl) ?_
      rw [hq_11_6]
      refine g_aload_n dX5_pop_32 rfl rfl ?_
      refine g_get dX5_pop_33 fl_X5_21 hp_11 rfl ?_
      refine g_aload_n dX5_pop_36 rfl rfl ?_
      refine g_get dX5_pop_37 fl_X5_61 hp_11 rfl ?_
      refine g_ialdW dX5_pop_40 hp_15 (by rw [up2_at]; exact ppin c_5 c_17) ?_
      exact g_iret dX5_pop_41 ⟨by unfold ppV; rw [if_neg c_5, if_pos (show I 11 6 ≤ (64 : Int32) from c_17), up2_at], by unfold ppT; rw [if_neg c_5, if_pos (show I 11 6 ≤ (64 : Int32) from c_17)]⟩
    · refine g_ic_0 dX5_pop_20 ?_
      exact g_iret dX5_pop_21 ⟨by unfold ppV; rw [if_neg c_5, if_neg (show ¬ I 11 6 ≤ (64 : Int32) from c_17)], by unfold ppT; rw [if_neg c_5, if_neg (show ¬ I 11 6 ≤ (64 : Int32) from c_17), up2_self]⟩

def jnd (l s r : Int32) : Int64 :=
  if s = 43 then l.toInt64 + r.toInt64 else if s = 45 then l.toInt64 - r.toInt64 else if s = 42 then l.toInt64 * r.toInt64
  else if s = 47 then (if r = 0 then 0 else (l / r).toInt64) else if s = 61 then (if l = r then 1 else 0) else if s = 60 then (if l < r then 1 else 0)
  else if s = 62 then (if r < l then 1 else 0) else if s = 38 then (l &&& r).toInt64 else if s = 124 then (l ||| r).toInt64 else (if r = 0 then 1 else 0)
def hld (v : Int64) : Int32 := if 0 < lg_cmp v 1000000 then 1000000 else if lg_cmp v (-1000000) < 0 then (-1000000) else v.toInt32

set_option maxHeartbeats 4000000 in
set_option maxRecDepth 100000 in
theorem l_held {A : Nat → Nat → Int32} {L : Nat → Nat → Int64} {I : Nat → Nat → Int32} {X : Nat → Int64} {v : Int64}  : Con 1 yX5_held cX5_held 2 (some .int) [.long v] (hp A L I X) (fun r_ H_ => r_ = some (.int (hld v)) ∧ H_ = hp A L I X) := by
  refine m_con (by decide) (Nat.le_of_ble_eq_true rfl) ?_
  refine g_lload_n dX5_held_0 rfl rfl ?_
  refine g_ldc2 dX5_held_1 lc_X5_79 ?_
  refine g_lcmp dX5_held_4 ?_
  refine g_if_le (tgt := 11) dX5_held_5 (by decide) (fun c_5 => ?_) (fun c_5 => ?_)
  · refine g_lload_n dX5_held_11 rfl rfl ?_
    refine g_ldc2 dX5_held_12 lc_X5_82 ?_
    refine g_lcmp dX5_held_15 ?_
    refine g_if_ge (tgt := 24) dX5_held_16 (by decide) (fun c_16 => ?_) (fun c_16 => ?_)
    · refine g_lload_n dX5_held_24 rfl rfl ?_
      refine g_l2i dX5_held_25 ?_
      exact g_iret dX5_held_26 ⟨congrArg (fun z => some (Value.int z)) (show _ = hld v by unfold hld; rw [if_neg (fun z => Int32.not_le.mpr z c_5)]; first | rw [if_neg (fun z => Int32.not_le.mpr z c_16)] | rw [if_pos (Int32.not_le.mp c_16)]), rfl⟩
    · refine g_ldc dX5_held_19 lc_X5_84 ?_
      refine g_goto (tgt := 26) dX5_held_21 (by decide) ?_
      exact g_iret dX5_held_26 ⟨congrArg (fun z => some (Value.int z)) (show _ = hld v by unfold hld; rw [if_neg (fun z => Int32.not_le.mpr z c_5)]; first | rw [if_neg (fun z => Int32.not_le.mpr z c_16)] | rw [if_pos (Int32.not_le.mp c_16)]), rfl⟩
  · refine g_ldc dX5_held_8 lc_X5_81 ?_
    exact g_iret dX5_held_10 ⟨congrArg (fun z => some (Value.int z)) (show _ = hld v by unfold hld; rw [if_pos (Int32.not_le.mp c_5)]), rfl⟩
