/-! THE REFERENCE: draws, undo, image, back -/
set_option maxHeartbeats 800000 in
set_option maxRecDepth 100000 in
theorem e_draw {A : Nat → Nat → Int32} {L : Nat → Nat → Int64} {I : Nat → Nat → Int32} {X : Nat → Int64} {m : Int32} (hm : 1 ≤ m) : Con 1 yX11_draw cX11_draw 2 (some .int) [.ref 46, .int m] (hp A L I X) (fun r_ H_ => r_ = some (.int (drV (X 46) m)) ∧ H_ = hp A L I (up X 46 (drX (X 46)))) := by
  refine m_con (by decide) (Nat.le_of_ble_eq_true rfl) ?_
  refine g_aload_n dX11_draw_0 rfl rfl ?_
  refine g_aload_n dX11_draw_1 rfl rfl ?_
  refine g_get dX11_draw_2 fl_X11_344 hp_46 rfl ?_
  refine g_ldc2 dX11_draw_5 lc_X11_348 ?_
  refine g_lmul dX11_draw_8 ?_
  refine g_ldc2 dX11_draw_9 lc_X11_350 ?_
  refine g_ladd dX11_draw_12 ?_
  refine g_putl dX11_draw_13 fw_X11_344 hp_46 (Nat.le_of_ble_eq_true rfl) ?_
  rw [hq_46_36]
  refine g_aload_n dX11_draw_16 rfl rfl ?_
  refine g_get dX11_draw_17 fl_X11_344 hp_46 rfl ?_
  refine g_bipush (v := 33) dX11_draw_20 (by decide) ?_
  refine g_lushr dX11_draw_22 ?_
  refine g_iload_n dX11_draw_23 rfl rfl ?_
  refine g_i2l dX11_draw_24 ?_
  refine g_lrem dX11_draw_25 (i2l_ne hm) ?_
  refine g_l2i dX11_draw_26 ?_
  exact g_iret dX11_draw_27 ⟨by unfold drV; rw [if_pos hm, up_at]; rfl, rfl⟩

def dt1 (N : ROW) (x : Int64) (hail ms : Int32) : ROW × Int64 := if hail ≤ drV x 10 then (N, drX x) else if N (8 + (drV (drX x) ms).toNatClampNeg) ≤ 0 then (N, drX (drX x)) else (chN N (drV (drX x) ms).toNatClampNeg, drX (drX x))
def dt2 (s : ROW × Int64) (th : Int32) : ROW × Int64 := if th ≤ drV s.2 10 then (s.1, drX s.2) else (upd s.1 36 (s.1 36 / 2), drX s.2)
def dtN (N : ROW) (x : Int64) (hail th ms : Int32) : ROW × Int64 := dt2 (dt1 N x hail ms) th
theorem bm_32 {w : Nat} (h : w < 100) : Int.bmod (w : Int) (2 ^ 32) = (w : Int) := by
  have h2 : (w : Int) < 100 := by omega
  have h0 : (0 : Int) ≤ (w : Int) := by omega
  rw [show (2 ^ 32 : Nat) = 4294967296 by decide]
  exact Int.bmod_eq_of_le (by omega) (by omega)
theorem drV_n {x : Int64} {ms : Nat} (h1 : 1 ≤ ms) (h2 : ms ≤ 10) : ∃ m, m < ms ∧ drV x (nI ms) = nI m := by
  unfold drV
  rw [if_pos (show (1 : Int32) ≤ nI ms from nI_le (a := 1) h1 (by omega)), show ((33 : Int32).toInt64.toUInt64 &&& Int64.toUInt64 63) = 33 by decide]
  obtain ⟨u, hu⟩ : ∃ u, u = (drX x).toUInt64 >>> 33 := ⟨_, rfl⟩
  rw [← hu]
  have hu1 : u.toNat < 2 ^ 31 := by
    rw [hu, UInt64.toNat_shiftRight]
    have h64 := (drX x).toUInt64.toNat_lt
    rw [show (33 : UInt64).toNat % 64 = 33 by decide, Nat.shiftRight_eq_div_pow]
    omega
  have ha : u.toInt64.toInt = (u.toNat : Int) := by
    show u.toBitVec.toInt = _
    exact BitVec.toInt_eq_toNat_of_lt (by show 2 * u.toNat < 2 ^ 64; omega)
  have hb : (nI ms).toInt64.toInt = (ms : Int) := by
    rw [Int32.toInt_toInt64, nI_toInt (by omega)]
  obtain ⟨q, hq⟩ : ∃ q, q = u.toNat / ms := ⟨_, rfl⟩
  have h3 : q ≤ u.toNat := by rw [hq]; exact Nat.div_le_self _ _
  have hd : (u.toInt64 / (nI ms).toInt64).toInt = (q : Int) := by
    rw [Int64.toInt_div, ha, hb, Int.tdiv_eq_ediv_of_nonneg (by omega)]
    have e : ((u.toNat : Int) / (ms : Int)) = (q : Int) := by rw [hq]; exact (Int.natCast_ediv _ _).symm
    rw [e]
    exact Int.bmod_eq_of_le (by omega) (by omega)
  have h4 : q * ms ≤ u.toNat := by rw [hq]; exact Nat.div_mul_le_self _ _
  have h5 : u.toNat - q * ms < ms := by
    have h6 := Nat.div_add_mod u.toNat ms
    have h7 := Nat.mod_lt u.toNat (y := ms) (by omega)
    rw [Nat.mul_comm, ← hq] at h6
    omega
  obtain ⟨p, hp2⟩ : ∃ p, p = q * ms := ⟨_, rfl⟩
  rw [← hp2] at h4 h5
  have hm : (u.toInt64 / (nI ms).toInt64 * (nI ms).toInt64).toInt = (p : Int) := by
    rw [Int64.toInt_mul, hd, hb]
    have e : (q : Int) * (ms : Int) = (p : Int) := by rw [hp2]; exact (Int.natCast_mul _ _).symm
    rw [e]
    exact Int.bmod_eq_of_le (by omega) (by omega)
  refine ⟨u.toNat - p, h5, ?_⟩
  apply Int32.toInt_inj.mp
  rw [Int64.toInt_toInt32, Int64.toInt_sub, ha, hm, nI_toInt (by omega)]
  have e : ((u.toNat : Int) - (p : Int)) = ((u.toNat - p : Nat) : Int) := by omega
  have e1 : Int.bmod ((u.toNat - p : Nat) : Int) (2 ^ 64) = ((u.toNat - p : Nat) : Int) := Int.bmod_eq_of_le (by omega) (by omega)
  rw [e, e1]
  exact bm_32 (Nat.lt_of_lt_of_le h5 (Nat.le_trans h2 (by decide)))
set_option maxHeartbeats 800000 in
set_option maxRecDepth 100000 in
theorem e_dt2 {A : Nat → Nat → Int32} {L : Nat → Nat → Int64} {I : Nat → Nat → Int32} {X : Nat → Int64} {s : ROW × Int64} {Q : Option Value → m_H → Prop} (hQ : Q none (hp (up A 63 (dt2 s (I 46 31)).1) L I (up X 46 (dt2 s (I 46 31)).2))) : G 3 RX11 cX11_drawTurn 2 none Q 39 [some (.ref 46), none] [] (hp (up A 63 s.1) L I (up X 46 s.2)) := by
  refine g_aload_n dX11_drawTurn_39 rfl rfl ?_
  refine g_bipush (v := 10) dX11_drawTurn_40 (by decide) ?_
  refine g_callV dX11_drawTurn_42 cv_X11_352 (as' := [_]) hp_46 rfl (e_draw (by decide)) (by decide) rfl rfl (Nat.le_of_ble_eq_true rfl) ?_
  rintro _ _ ⟨rfl, rfl⟩
  try simp (disch := omega) only [up_at, up_up, up_ne, up2_at, up2_up2, up2_ne, ud_at, ud_ne]
  refine g_aload_n dX11_drawTurn_45 rfl rfl ?_
  refine g_get dX11_drawTurn_46 fl_X11_341 hp_46 rfl ?_
  try simp (disch := omega) only [up_at, up_up, up_ne, up2_at, up2_up2, up2_ne, ud_at, ud_ne]
  refine g_icmp_ge (tgt := 63) dX11_drawTurn_49 (by decide) (fun c_49 => ?_) (fun c_49 => ?_)
  · exact g_vret dX11_drawTurn_63 (by unfold dt2 at hQ; rw [if_pos c_49] at hQ; exact hQ)
  · refine g_aload_n dX11_drawTurn_52 rfl rfl ?_
    refine g_get dX11_drawTurn_53 fl_X11_58 hp_46 rfl ?_
    refine g_bipush (v := 36) dX11_drawTurn_56 (by decide) ?_
    refine g_dup2 dX11_drawTurn_58 rfl rfl ?_
    refine g_ra dX11_drawTurn_59 hp_63 (k := 36) rfl (by decide) (by decide) ?_
    try simp (disch := omega) only [up_at, up_up, up_ne, up2_at, up2_up2, up2_ne, ud_at, ud_ne]
    refine g_ic_2 dX11_drawTurn_60 ?_
    refine g_idiv dX11_drawTurn_61 (by decide) ?_
    refine g_wa dX11_drawTurn_62 hp_63 (k := 36) rfl (by decide) (by decide) ?_
    rw [hq_63]
    try simp (disch := omega) only [up_at, up_up, up_ne, up2_at, up2_up2, up2_ne, ud_at, ud_ne]
    exact g_vret dX11_drawTurn_63 (by unfold dt2 at hQ; rw [if_neg c_49] at hQ; exact hQ)

set_option maxHeartbeats 800000 in
set_option maxRecDepth 100000 in
theorem e_drawTurn {A : Nat → Nat → Int32} {L : Nat → Nat → Int64} {I : Nat → Nat → Int32} {X : Nat → Int64} {ms : Nat} (h25 : I 46 25 = nI ms) (h1 : 1 ≤ ms) (h8 : ms ≤ 8) : Con 3 yX11_drawTurn cX11_drawTurn 2 none [.ref 46] (hp A L I X) (fun r_ H_ => r_ = none ∧ H_ = hp (up A 63 (dtN (A 63) (X 46) (I 46 30) (I 46 31) (I 46 25)).1) L I (up X 46 (dtN (A 63) (X 46) (I 46 30) (I 46 31) (I 46 25)).2)) := by
  refine m_con (by decide) (Nat.le_of_ble_eq_true rfl) ?_
  refine g_aload_n dX11_drawTurn_0 rfl rfl ?_
  refine g_bipush (v := 10) dX11_drawTurn_1 (by decide) ?_
  refine g_callV dX11_drawTurn_3 cv_X11_352 (as' := [_]) hp_46 rfl (e_draw (by decide)) (by decide) rfl rfl (Nat.le_of_ble_eq_true rfl) ?_
  rintro _ _ ⟨rfl, rfl⟩
  try simp (disch := omega) only [up_at, up_up, up_ne, up2_at, up2_up2, up2_ne, ud_at, ud_ne]
  refine g_aload_n dX11_drawTurn_6 rfl rfl ?_
  refine g_get dX11_drawTurn_7 fl_X11_338 hp_46 rfl ?_
  try simp (disch := omega) only [up_at, up_up, up_ne, up2_at, up2_up2, up2_ne, ud_at, ud_ne]
  refine g_icmp_ge (tgt := 39) dX11_drawTurn_10 (by decide) (fun c_10 => ?_) (fun c_10 => ?_)
  · have e : dt1 (A 63) (X 46) (I 46 30) (I 46 25) = (A 63, drX (X 46)) := if_pos c_10
    refine g_loc (ls' := [some (.ref 46), none]) (fun i v h => by rcases i with _|_|_ <;> first | exact h | cases h) ?_
    refine g_eq (Hp2 := hp (up A 63 (A 63)) L I (up X 46 (drX (X 46)))) (by rw [up_self]) ?_
    exact e_dt2 (s := (A 63, drX (X 46))) ⟨rfl, by unfold dtN; rw [e]⟩
  · refine g_aload_n dX11_drawTurn_13 rfl rfl ?_
    refine g_aload_n dX11_drawTurn_14 rfl rfl ?_
    refine g_get dX11_drawTurn_15 fl_X11_261 hp_46 rfl ?_
    try simp (disch := omega) only [up_at, up_up, up_ne, up2_at, up2_up2, up2_ne, ud_at, ud_ne]
    refine g_callV dX11_drawTurn_18 cv_X11_352 (as' := [_]) hp_46 rfl (e_draw (by rw [h25]; exact nI_le (a := 1) h1 (by omega))) (by decide) rfl rfl (Nat.le_of_ble_eq_true rfl) ?_
    rintro _ _ ⟨rfl, rfl⟩
    obtain ⟨m, hm8, hm⟩ := drV_n (x := drX (X 46)) h1 (Nat.le_trans h8 (by decide))
    rw [← h25] at hm
    try simp (disch := omega) only [up_at, up_up, up_ne, up2_at, up2_up2, up2_ne, ud_at, ud_ne]
    refine g_istore_n dX11_drawTurn_21 rfl (by decide) ?_
    refine g_aload_n dX11_drawTurn_22 rfl rfl ?_
    refine g_get dX11_drawTurn_23 fl_X11_58 hp_46 rfl ?_
    refine g_bipush (v := 8) dX11_drawTurn_26 (by decide) ?_
    refine g_iload_n dX11_drawTurn_28 rfl rfl ?_
    refine g_iadd dX11_drawTurn_29 ?_
    refine g_ra dX11_drawTurn_30 hp_63 (k := 8 + m) (nk_add (show (8 : Int32) = nI 8 from rfl) hm) (by omega) (by decide) ?_
    try simp (disch := omega) only [up_at, up_up, up_ne, up2_at, up2_up2, up2_ne, ud_at, ud_ne]
    refine g_if_le (tgt := 39) dX11_drawTurn_31 (by decide) (fun c_31 => ?_) (fun c_31 => ?_)
    · have e : dt1 (A 63) (X 46) (I 46 30) (I 46 25) = (A 63, drX (drX (X 46))) := (if_neg c_10).trans (by rw [hm, nI_clamp (by omega)]; exact if_pos c_31)
      refine g_loc (ls' := [some (.ref 46), none]) (fun i v h => by rcases i with _|_|_ <;> first | exact h | cases h) ?_
      refine g_eq (Hp2 := hp (up A 63 (A 63)) L I (up X 46 (drX (drX (X 46))))) (by rw [up_self]) ?_
      exact e_dt2 (s := (A 63, drX (drX (X 46)))) ⟨rfl, by unfold dtN; rw [e]⟩
    · refine g_aload_n dX11_drawTurn_34 rfl rfl ?_
      refine g_iload_n dX11_drawTurn_35 rfl rfl ?_
      refine g_callV dX11_drawTurn_36 cv_X11_335 (as' := [_]) hp_46 rfl (e_chipNow (m := m) hm (by omega)) (by decide) rfl rfl (Nat.le_of_ble_eq_true rfl) ?_
      rintro _ _ ⟨rfl, rfl⟩
      try simp (disch := omega) only [up_at, up_up, up_ne, up2_at, up2_up2, up2_ne, ud_at, ud_ne]
      try simp (disch := omega) only [up_at, up_up, up_ne, up2_at, up2_up2, up2_ne, ud_at, ud_ne]
      have e : dt1 (A 63) (X 46) (I 46 30) (I 46 25) = (chN (A 63) m, drX (drX (X 46))) := (if_neg c_10).trans (by rw [hm, nI_clamp (by omega)]; exact if_neg c_31)
      refine g_loc (ls' := [some (.ref 46), none]) (fun i v h => by rcases i with _|_|_ <;> first | exact h | cases h) ?_
      exact e_dt2 (s := (chN (A 63) m, drX (drX (X 46)))) ⟨rfl, by unfold dtN; rw [e]⟩

set_option maxHeartbeats 800000 in
set_option maxRecDepth 100000 in
theorem e_undo_loop {A : Nat → Nat → Int32} {L : Nat → Nat → Int64} {I : Nat → Nat → Int32} {X : Nat → Int64} {a : Nat} {f : ROW} {Q : Option Value → m_H → Prop} (ha : I 46 35 = nI a) (ha39 : a ≤ 39) (hQ : Q (some (.int (I 46 35))) (hp (up A 63 (fl (fun j => A 66 (284 * a + j)) f 284)) L I X)) : ∀ n k, k ≤ 284 → 284 - k < n → G 1 RX11 cX11_undo 2 (some .int) Q 21 [some (.ref 46), some (.int (nI k))] [] (hp (up A 63 (fl (fun j => A 66 (284 * a + j)) f k)) L I X) := by
  intro n
  induction n with
  | zero => intro k h1 h2; omega
  | succ n ih =>
    intro k h1 h2
    refine g_iload_n dX11_undo_21 rfl rfl ?_
    refine g_sipush (v := 284) dX11_undo_22 (by decide) ?_
    refine g_icmp_ge (tgt := 55) dX11_undo_25 (by decide) (fun c_25 => ?_) (fun c_25 => ?_)
    · have h6 : 284 ≤ k := lit_le (n := 284) (by decide) (by omega) c_25
      have hkn : k = 284 := by omega
      subst hkn
      refine g_aload_n dX11_undo_55 rfl rfl ?_
      refine g_get dX11_undo_56 fl_X11_276 hp_46 rfl ?_
      exact g_iret dX11_undo_59 hQ
    · have hlt : k < 284 := lit_nle (n := 284) (by decide) (by omega) c_25
      refine g_aload_n dX11_undo_28 rfl rfl ?_
      refine g_get dX11_undo_29 fl_X11_58 hp_46 rfl ?_
      refine g_iload_n dX11_undo_32 rfl rfl ?_
      refine g_aload_n dX11_undo_33 rfl rfl ?_
      refine g_get dX11_undo_34 fl_X11_71 hp_46 rfl ?_
      refine g_sipush (v := 284) dX11_undo_37 (by decide) ?_
      refine g_aload_n dX11_undo_40 rfl rfl ?_
      refine g_get dX11_undo_41 fl_X11_276 hp_46 rfl ?_
      refine g_imul dX11_undo_44 ?_
      refine g_iload_n dX11_undo_45 rfl rfl ?_
      refine g_iadd dX11_undo_46 ?_
      refine g_ra dX11_undo_47 hp_66 (k := (284 * a) + k) (nk_add (nk_mul (show (284 : Int32) = nI 284 from rfl) ha) (show nI (k) = nI (k) from rfl)) (by omega) (by decide) ?_
      refine g_wa dX11_undo_48 hp_63 (k := k) rfl (by omega) (by decide) ?_
      rw [hq_63]
      try simp (disch := omega) only [up_at, up_up, up_ne, up2_at, up2_up2, up2_ne, ud_at, ud_ne]
      refine g_iinc1 dX11_undo_49 rfl (by decide) ?_
      refine g_goto (tgt := 21) dX11_undo_52 (by decide) ?_
      rw [show A 66 (284 * a + k) = (fun j => A 66 (284 * a + j)) k from rfl, fl_upd, nI_1]
      exact ih (k + 1) (by omega) (by omega)

set_option maxHeartbeats 800000 in
set_option maxRecDepth 100000 in
theorem e_undo0 {A : Nat → Nat → Int32} {L : Nat → Nat → Int64} {I : Nat → Nat → Int32} {X : Nat → Int64}  (h0 : I 46 35 = 0) : Con 1 yX11_undo cX11_undo 2 (some .int) [.ref 46] (hp A L I X) (fun r_ H_ => r_ = some (.int (-1)) ∧ H_ = hp A L I X) := by
  refine m_con (by decide) (Nat.le_of_ble_eq_true rfl) ?_
  refine g_aload_n dX11_undo_0 rfl rfl ?_
  refine g_get dX11_undo_1 fl_X11_276 hp_46 rfl ?_
  refine g_if_ne (tgt := 9) dX11_undo_4 (by decide) (fun c_4 => ?_) (fun c_4 => ?_)
  · exact absurd h0 c_4
  · refine g_ic_m1 dX11_undo_7 ?_
    exact g_iret dX11_undo_8 ⟨rfl, rfl⟩

set_option maxHeartbeats 800000 in
set_option maxRecDepth 100000 in
theorem e_undo {A : Nat → Nat → Int32} {L : Nat → Nat → Int64} {I : Nat → Nat → Int32} {X : Nat → Int64} {a : Nat} (ha : I 46 35 = nI (a + 1)) (ha39 : a ≤ 39) : Con 1 yX11_undo cX11_undo 2 (some .int) [.ref 46] (hp A L I X) (fun r_ H_ => r_ = some (.int (nI a)) ∧ H_ = hp (up A 63 (fl (fun j => A 66 (284 * a + j)) (A 63) 284)) L (up2 I 46 35 (nI a)) X) := by
  refine m_con (by decide) (Nat.le_of_ble_eq_true rfl) ?_
  refine g_aload_n dX11_undo_0 rfl rfl ?_
  refine g_get dX11_undo_1 fl_X11_276 hp_46 rfl ?_
  refine g_if_ne (tgt := 9) dX11_undo_4 (by decide) (fun c_4 => ?_) (fun c_4 => ?_)
  · refine g_aload_n dX11_undo_9 rfl rfl ?_
    refine g_dup dX11_undo_10 rfl ?_
    refine g_get dX11_undo_11 fl_X11_276 hp_46 rfl ?_
    refine g_ic_1 dX11_undo_14 ?_
    refine g_isub dX11_undo_15 ?_
    refine g_puti dX11_undo_16 fw_X11_276 hp_46 (Nat.le_of_ble_eq_true rfl) ?_
    rw [hq_46_35]
    try simp (disch := omega) only [up2_at, up2_up2, up2_ne]
    refine g_ic_0 dX11_undo_19 ?_
    refine g_istore_n dX11_undo_20 rfl (by decide) ?_
    rw [show I 46 35 - 1 = nI a from by rw [ha]; exact pk_sub (a := a + 1) (b := 1) (by omega)]
    refine g_eq (Hp2 := hp (up A 63 (fl (fun j => A 66 (284 * a + j)) (A 63) 0)) L (up2 I 46 35 (nI a)) X) (by rw [fl_0, up_self]) ?_
    exact e_undo_loop (I := up2 I 46 35 (nI a)) up2_at ha39 ⟨congrArg (fun z => some (Value.int z)) up2_at, rfl⟩ 285 0 (by decide) (by decide)
  · exact absurd (ha.symm.trans c_4) (fun z => absurd ((nI_eq (a := a + 1) (b := 0) (by omega) (by decide)).mp (z.trans nI_0.symm)) (by omega))

set_option maxHeartbeats 800000 in
set_option maxRecDepth 100000 in
theorem e_image_loop {A : Nat → Nat → Int32} {L : Nat → Nat → Int64} {I : Nat → Nat → Int32} {X : Nat → Int64} {f : ROW} {Q : Option Value → m_H → Prop}  (hQ : Q (some (.int (A 63 42))) (hp (up A 76 (fl (A 63) f 284)) L (up2 I 46 50 1) X)) : ∀ n k, k ≤ 284 → 284 - k < n → G 1 RX11 cX11_image 2 (some .int) Q 11 [some (.ref 46), some (.int (nI k))] [] (hp (up A 76 (fl (A 63) f k)) L I X) := by
  intro n
  induction n with
  | zero => intro k h1 h2; omega
  | succ n ih =>
    intro k h1 h2
    refine g_iload_n dX11_image_11 rfl rfl ?_
    refine g_sipush (v := 284) dX11_image_12 (by decide) ?_
    refine g_icmp_ge (tgt := 36) dX11_image_15 (by decide) (fun c_15 => ?_) (fun c_15 => ?_)
    · have h6 : 284 ≤ k := lit_le (n := 284) (by decide) (by omega) c_15
      have hkn : k = 284 := by omega
      subst hkn
      refine g_aload_n dX11_image_36 rfl rfl ?_
      refine g_ic_1 dX11_image_37 ?_
      refine g_putz dX11_image_38 fw_X11_279 hp_46 (by first | exact Or.inl rfl | exact Or.inr rfl) (Nat.le_of_ble_eq_true rfl) ?_
      rw [hq_46_50]
      try simp (disch := omega) only [up_at, up_up, up_ne, up2_at, up2_up2, up2_ne, ud_at, ud_ne]
      refine g_aload_n dX11_image_41 rfl rfl ?_
      refine g_get dX11_image_42 fl_X11_58 hp_46 rfl ?_
      refine g_bipush (v := 42) dX11_image_45 (by decide) ?_
      refine g_ra dX11_image_47 hp_63 (k := 42) rfl (by decide) (by decide) ?_
      try simp (disch := omega) only [up_at, up_up, up_ne, up2_at, up2_up2, up2_ne, ud_at, ud_ne]
      exact g_iret dX11_image_48 hQ
    · have hlt : k < 284 := lit_nle (n := 284) (by decide) (by omega) c_15
      refine g_aload_n dX11_image_18 rfl rfl ?_
      refine g_get dX11_image_19 fl_X11_103 hp_46 rfl ?_
      refine g_iload_n dX11_image_22 rfl rfl ?_
      refine g_aload_n dX11_image_23 rfl rfl ?_
      refine g_get dX11_image_24 fl_X11_58 hp_46 rfl ?_
      refine g_iload_n dX11_image_27 rfl rfl ?_
      refine g_ra dX11_image_28 hp_63 (k := k) rfl (by omega) (by decide) ?_
      refine g_wa dX11_image_29 hp_76 (k := k) rfl (by omega) (by decide) ?_
      rw [hq_76]
      try simp (disch := omega) only [up_at, up_up, up_ne, up2_at, up2_up2, up2_ne, ud_at, ud_ne]
      refine g_iinc1 dX11_image_30 rfl (by decide) ?_
      refine g_goto (tgt := 11) dX11_image_33 (by decide) ?_
      rw [show A 63 k = (A 63) k from rfl, fl_upd, nI_1]
      exact ih (k + 1) (by omega) (by omega)

set_option maxHeartbeats 800000 in
set_option maxRecDepth 100000 in
theorem e_image0 {A : Nat → Nat → Int32} {L : Nat → Nat → Int64} {I : Nat → Nat → Int32} {X : Nat → Int64}  (h0 : I 46 25 = 0) : Con 1 yX11_image cX11_image 2 (some .int) [.ref 46] (hp A L I X) (fun r_ H_ => r_ = some (.int (-1)) ∧ H_ = hp A L I X) := by
  refine m_con (by decide) (Nat.le_of_ble_eq_true rfl) ?_
  refine g_aload_n dX11_image_0 rfl rfl ?_
  refine g_get dX11_image_1 fl_X11_261 hp_46 rfl ?_
  refine g_if_ne (tgt := 9) dX11_image_4 (by decide) (fun c_4 => ?_) (fun c_4 => ?_)
  · exact absurd h0 c_4
  · refine g_ic_m1 dX11_image_7 ?_
    exact g_iret dX11_image_8 ⟨rfl, rfl⟩

set_option maxHeartbeats 800000 in
set_option maxRecDepth 100000 in
theorem e_image {A : Nat → Nat → Int32} {L : Nat → Nat → Int64} {I : Nat → Nat → Int32} {X : Nat → Int64}  (h0 : ¬ I 46 25 = 0) : Con 1 yX11_image cX11_image 2 (some .int) [.ref 46] (hp A L I X) (fun r_ H_ => r_ = some (.int (A 63 42)) ∧ H_ = hp (up A 76 (fl (A 63) (A 76) 284)) L (up2 I 46 50 1) X) := by
  refine m_con (by decide) (Nat.le_of_ble_eq_true rfl) ?_
  refine g_aload_n dX11_image_0 rfl rfl ?_
  refine g_get dX11_image_1 fl_X11_261 hp_46 rfl ?_
  refine g_if_ne (tgt := 9) dX11_image_4 (by decide) (fun c_4 => ?_) (fun c_4 => ?_)
  · refine g_ic_0 dX11_image_9 ?_
    refine g_istore_n dX11_image_10 rfl (by decide) ?_
    refine g_eq (Hp2 := hp (up A 76 (fl (A 63) (A 76) 0)) L I X) (by rw [fl_0, up_self]) ?_
    exact e_image_loop ⟨rfl, rfl⟩ 285 0 (by decide) (by decide)
  · exact absurd c_4 h0

set_option maxHeartbeats 800000 in
set_option maxRecDepth 100000 in
theorem e_bk_loop {A : Nat → Nat → Int32} {L : Nat → Nat → Int64} {I : Nat → Nat → Int32} {X : Nat → Int64} {f : ROW} {Q : Option Value → m_H → Prop}  (hQ : Q (some (.int (A 76 42))) (hp (up A 63 (fl (A 76) f 284)) L (up2 I 46 35 0) X)) : ∀ n k, k ≤ 284 → 284 - k < n → G 1 RX11 cX11_back 2 (some .int) Q 11 [some (.ref 46), some (.int (nI k))] [] (hp (up A 63 (fl (A 76) f k)) L I X) := by
  intro n
  induction n with
  | zero => intro k h1 h2; omega
  | succ n ih =>
    intro k h1 h2
    refine g_iload_n dX11_back_11 rfl rfl ?_
    refine g_sipush (v := 284) dX11_back_12 (by decide) ?_
    refine g_icmp_ge (tgt := 36) dX11_back_15 (by decide) (fun c_15 => ?_) (fun c_15 => ?_)
    · have h6 : 284 ≤ k := lit_le (n := 284) (by decide) (by omega) c_15
      have hkn : k = 284 := by omega
      subst hkn
      refine g_aload_n dX11_back_36 rfl rfl ?_
      refine g_ic_0 dX11_back_37 ?_
      refine g_puti dX11_back_38 fw_X11_276 hp_46 (Nat.le_of_ble_eq_true rfl) ?_
      rw [hq_46_35]
      try simp (disch := omega) only [up_at, up_up, up_ne, up2_at, up2_up2, up2_ne, ud_at, ud_ne]
      refine g_aload_n dX11_back_41 rfl rfl ?_
      refine g_get dX11_back_42 fl_X11_58 hp_46 rfl ?_
      refine g_bipush (v := 42) dX11_back_45 (by decide) ?_
      refine g_ra dX11_back_47 hp_63 (k := 42) rfl (by decide) (by decide) ?_
      try simp (disch := omega) only [up_at, up_up, up_ne, up2_at, up2_up2, up2_ne, ud_at, ud_ne]
      exact g_iret dX11_back_48 (by rw [show fl (A 76) f 284 42 = A 76 42 from if_pos (by decide)]; exact hQ)
    · have hlt : k < 284 := lit_nle (n := 284) (by decide) (by omega) c_15
      refine g_aload_n dX11_back_18 rfl rfl ?_
      refine g_get dX11_back_19 fl_X11_58 hp_46 rfl ?_
      refine g_iload_n dX11_back_22 rfl rfl ?_
      refine g_aload_n dX11_back_23 rfl rfl ?_
      refine g_get dX11_back_24 fl_X11_103 hp_46 rfl ?_
      refine g_iload_n dX11_back_27 rfl rfl ?_
      refine g_ra dX11_back_28 hp_76 (k := k) rfl (by omega) (by decide) ?_
      refine g_wa dX11_back_29 hp_63 (k := k) rfl (by omega) (by decide) ?_
      rw [hq_63]
      try simp (disch := omega) only [up_at, up_up, up_ne, up2_at, up2_up2, up2_ne, ud_at, ud_ne]
      refine g_iinc1 dX11_back_30 rfl (by decide) ?_
      refine g_goto (tgt := 11) dX11_back_33 (by decide) ?_
      rw [show A 76 k = (A 76) k from rfl, fl_upd, nI_1]
      exact ih (k + 1) (by omega) (by omega)

set_option maxHeartbeats 800000 in
set_option maxRecDepth 100000 in
theorem e_bk0 {A : Nat → Nat → Int32} {L : Nat → Nat → Int64} {I : Nat → Nat → Int32} {X : Nat → Int64}  (h0 : I 46 50 = 0) : Con 1 yX11_back cX11_back 2 (some .int) [.ref 46] (hp A L I X) (fun r_ H_ => r_ = some (.int (-1)) ∧ H_ = hp A L I X) := by
  refine m_con (by decide) (Nat.le_of_ble_eq_true rfl) ?_
  refine g_aload_n dX11_back_0 rfl rfl ?_
  refine g_get dX11_back_1 fl_X11_279 hp_46 rfl ?_
  refine g_if_ne (tgt := 9) dX11_back_4 (by decide) (fun c_4 => ?_) (fun c_4 => ?_)
  · exact absurd h0 c_4
  · refine g_ic_m1 dX11_back_7 ?_
    exact g_iret dX11_back_8 ⟨rfl, rfl⟩

set_option maxHeartbeats 800000 in
set_option maxRecDepth 100000 in
theorem e_bk {A : Nat → Nat → Int32} {L : Nat → Nat → Int64} {I : Nat → Nat → Int32} {X : Nat → Int64}  (h0 : ¬ I 46 50 = 0) : Con 1 yX11_back cX11_back 2 (some .int) [.ref 46] (hp A L I X) (fun r_ H_ => r_ = some (.int (A 76 42)) ∧ H_ = hp (up A 63 (fl (A 76) (A 63) 284)) L (up2 I 46 35 0) X) := by
  refine m_con (by decide) (Nat.le_of_ble_eq_true rfl) ?_
  refine g_aload_n dX11_back_0 rfl rfl ?_
  refine g_get dX11_back_1 fl_X11_279 hp_46 rfl ?_
  refine g_if_ne (tgt := 9) dX11_back_4 (by decide) (fun c_4 => ?_) (fun c_4 => ?_)
  · refine g_ic_0 dX11_back_9 ?_
    refine g_istore_n dX11_back_10 rfl (by decide) ?_
    refine g_eq (Hp2 := hp (up A 63 (fl (A 76) (A 63) 0)) L I X) (by rw [fl_0, up_self]) ?_
    exact e_bk_loop ⟨rfl, rfl⟩ 285 0 (by decide) (by decide)
  · exact absurd c_4 h0
