/-! THE CLASS'S ROWS: cell, setCell, Season. gt, pt: a place of a row that is looked at first -/
def gt (N : Nat) (f : Nat → Int32) (i : Int32) : Int32 := if i < 0 ∨ N ≤ i.toNatClampNeg then 0 else f i.toNatClampNeg
def pt (N : Nat) (f : Nat → Int32) (i v : Int32) : Nat → Int32 := if i < 0 ∨ N ≤ i.toNatClampNeg then f else upd f i.toNatClampNeg v
theorem ix_in {N : Nat} {i : Int32} (hN : N < 2 ^ 31) (h0 : ¬ i < 0) (h1 : i < Int32.ofNat N) : vp_in i N := by
  rw [vp_in_iff]
  rw [Int32.lt_iff_toInt_lt] at h0 h1
  have e : (Int32.ofNat N).toInt = (N : Int) := nI_toInt hN
  rw [e] at h1
  have e0 : (0 : Int32).toInt = 0 := by decide
  rw [e0] at h0
  omega
theorem ix_out {N : Nat} {i : Int32} (hN : N < 2 ^ 31) (h0 : ¬ i < 0) (h1 : ¬ i < Int32.ofNat N) : i < 0 ∨ N ≤ i.toNatClampNeg := by
  by_cases h : i < 0 ∨ N ≤ i.toNatClampNeg
  · exact h
  · exfalso
    have h2 := vp_in_iff.mp (show vp_in i N from h)
    rw [Int32.lt_iff_toInt_lt] at h1
    have e : (Int32.ofNat N).toInt = (N : Int) := nI_toInt hN
    rw [e] at h1
    omega
theorem ix_out' {N : Nat} {i : Int32} (hN : N < 2 ^ 31) (h0 : ¬ i < 0) (h1 : Int32.ofNat N ≤ i) : i < 0 ∨ N ≤ i.toNatClampNeg := ix_out hN h0 (by rw [Int32.not_lt]; exact h1)
theorem ix_in' {N : Nat} {i : Int32} (hN : N < 2 ^ 31) (h0 : ¬ i < 0) (h1 : ¬ Int32.ofNat N ≤ i) : vp_in i N := ix_in hN h0 (by rw [Int32.not_le] at h1; exact h1)
theorem gt_in {N : Nat} {f : Nat → Int32} {i : Int32} (h : vp_in i N) : gt N f i = f i.toNatClampNeg := if_neg h
theorem gt_out {N : Nat} {f : Nat → Int32} {i : Int32} (h : i < 0 ∨ N ≤ i.toNatClampNeg) : gt N f i = 0 := if_pos h
theorem pt_in {N : Nat} {f : Nat → Int32} {i v : Int32} (h : vp_in i N) : pt N f i v = upd f i.toNatClampNeg v := if_neg h
theorem pt_out {N : Nat} {f : Nat → Int32} {i v : Int32} (h : i < 0 ∨ N ≤ i.toNatClampNeg) : pt N f i v = f := if_pos h


set_option maxHeartbeats 4000000 in
set_option maxRecDepth 100000 in
theorem k_cell {Hp : m_H} {q N : Nat} {f : Nat → Int32} {i : Int32} (ha : m_ar Hp q = some (N, f)) (hN : N < 2 ^ 31) : Con 1 yX10_cell cX10_cell 2 (some .int) [.ref q, .int i] Hp (fun r_ H_ => r_ = some (.int (gt N f i)) ∧ H_ = Hp) := by
  refine m_con (by decide) (Nat.le_of_ble_eq_true rfl) ?_
  refine g_aload_n dX10_cell_0 rfl rfl ?_
  refine g_ifnull dX10_cell_1 ?_
  refine g_iload_n dX10_cell_4 rfl rfl ?_
  refine g_if_lt (tgt := 14) dX10_cell_5 (by decide) (fun c_5 => ?_) (fun c_5 => ?_)
  · refine g_ic_0 dX10_cell_14 ?_
    refine g_goto (tgt := 21) dX10_cell_15 (by decide) ?_
    exact g_iret dX10_cell_21 ⟨by first | rw [gt_in (ix_in hN c_5 c_11)] | rw [gt_out (ix_out hN c_5 c_11)] | rw [gt_out (Or.inl c_5)], rfl⟩
  · refine g_iload_n dX10_cell_8 rfl rfl ?_
    refine g_aload_n dX10_cell_9 rfl rfl ?_
    refine g_ilen dX10_cell_10 ha rfl ?_
    refine g_icmp_lt (tgt := 18) dX10_cell_11 (by decide) (fun c_11 => ?_) (fun c_11 => ?_)
    · refine g_aload_n dX10_cell_18 rfl rfl ?_
      refine g_iload_n dX10_cell_19 rfl rfl ?_
      refine g_iald dX10_cell_20 ha (ix_in hN c_5 c_11) ?_
      exact g_iret dX10_cell_21 ⟨by first | rw [gt_in (ix_in hN c_5 c_11)] | rw [gt_out (ix_out hN c_5 c_11)] | rw [gt_out (Or.inl c_5)], rfl⟩
    · refine g_ic_0 dX10_cell_14 ?_
      refine g_goto (tgt := 21) dX10_cell_15 (by decide) ?_
      exact g_iret dX10_cell_21 ⟨by first | rw [gt_in (ix_in hN c_5 c_11)] | rw [gt_out (ix_out hN c_5 c_11)] | rw [gt_out (Or.inl c_5)], rfl⟩

set_option maxHeartbeats 4000000 in
set_option maxRecDepth 100000 in
theorem k_setCell {Hp : m_H} {q N : Nat} {f : Nat → Int32} {i v : Int32} (ha : Hp q = ia N f) (hN : N < 2 ^ 31) : Con 1 yX10_setCell cX10_setCell 3 none [.ref q, .int i, .int v] Hp (fun r_ H_ => r_ = none ∧ H_ = m_set Hp q (ia N (pt N f i v))) := by
  refine m_con (by decide) (Nat.le_of_ble_eq_true rfl) ?_
  refine g_aload_n dX10_setCell_0 rfl rfl ?_
  refine g_ifnull dX10_setCell_1 ?_
  refine g_iload_n dX10_setCell_4 rfl rfl ?_
  refine g_if_lt (tgt := 18) dX10_setCell_5 (by decide) (fun c_5 => ?_) (fun c_5 => ?_)
  · exact g_vret dX10_setCell_18 ⟨rfl, by first | rw [pt_in (ix_in' hN c_5 c_11)] | rw [pt_out (ix_out' hN c_5 c_11), m_set_self ha] | rw [pt_out (Or.inl c_5), m_set_self ha]⟩
  · refine g_iload_n dX10_setCell_8 rfl rfl ?_
    refine g_aload_n dX10_setCell_9 rfl rfl ?_
    refine g_ilenW dX10_setCell_10 ha rfl ?_
    refine g_icmp_ge (tgt := 18) dX10_setCell_11 (by decide) (fun c_11 => ?_) (fun c_11 => ?_)
    · exact g_vret dX10_setCell_18 ⟨rfl, by first | rw [pt_in (ix_in' hN c_5 c_11)] | rw [pt_out (ix_out' hN c_5 c_11), m_set_self ha] | rw [pt_out (Or.inl c_5), m_set_self ha]⟩
    · refine g_aload_n dX10_setCell_14 rfl rfl ?_
      refine g_iload_n dX10_setCell_15 rfl rfl ?_
      refine g_iload_n dX10_setCell_16 rfl rfl ?_
      refine g_iast dX10_setCell_17 ha (ix_in' hN c_5 c_11) ?_
      exact g_vret dX10_setCell_18 ⟨rfl, by first | rw [pt_in (ix_in' hN c_5 c_11)] | rw [pt_out (ix_out' hN c_5 c_11), m_set_self ha] | rw [pt_out (Or.inl c_5), m_set_self ha]⟩
