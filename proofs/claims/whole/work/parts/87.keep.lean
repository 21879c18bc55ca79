/-! THE REFERENCE'S KEPT ACTS -/
def ksF (K : ROW) (k : Nat) : ROW := fun j => if j + 284 < k then K (j + 284) else K j
theorem ks_0 {K : ROW} : ksF K 284 = K := by
  funext j
  exact if_neg (by omega)
theorem ks_step {K : ROW} {k : Nat} (h : 284 ≤ k) : upd (ksF K k) (k - 284) (ksF K k k) = ksF K (k + 1) := by
  funext j
  unfold upd
  by_cases e : j = k - 284
  · rw [if_pos e]
    unfold ksF
    rw [if_neg (by omega), if_pos (by omega), show j + 284 = k by omega]
  · rw [if_neg e]
    unfold ksF
    by_cases e2 : j + 284 < k
    · rw [if_pos e2, if_pos (by omega)]
    · rw [if_neg e2, if_neg (by omega)]
def kcF (K N : ROW) (a k : Nat) : ROW := fun j => if 284 * a ≤ j ∧ j < 284 * a + k then N (j - 284 * a) else K j
theorem kc_0 {K N : ROW} {a : Nat} : kcF K N a 0 = K := by
  funext j
  exact if_neg (by omega)
theorem kc_step {K N : ROW} {a k : Nat} : upd (kcF K N a k) (284 * a + k) (N k) = kcF K N a (k + 1) := by
  funext j
  unfold upd
  by_cases e : j = 284 * a + k
  · rw [if_pos e]
    unfold kcF
    rw [if_pos (by omega), show j - 284 * a = k by omega]
  · rw [if_neg e]
    unfold kcF
    by_cases e2 : 284 * a ≤ j ∧ j < 284 * a + k
    · rw [if_pos e2, if_pos (by omega)]
    · rw [if_neg e2, if_neg (by omega)]
def ka1 (a : Nat) : Nat := if a = 40 then 39 else a
def kpN (K N : ROW) (a : Nat) : ROW := kcF (if a = 40 then ksF K 11360 else K) N (ka1 a) 284
set_option maxHeartbeats 800000 in
set_option maxRecDepth 100000 in
theorem e_ks_loop {A : Nat → Nat → Int32} {L : Nat → Nat → Int64} {I : Nat → Nat → Int32} {X : Nat → Int64} {K : ROW} {Q : Option Value → m_H → Prop} (hE : G 1 RX11 cX11_keep 2 none Q 42 [some (.ref 46), none] [] (hp (up A 66 (ksF K 11360)) L I X)) : ∀ n k, 284 ≤ k → k ≤ 11360 → 11360 - k < n → G 1 RX11 cX11_keep 2 none Q 13 [some (.ref 46), some (.int (nI k))] [] (hp (up A 66 (ksF K k)) L I X) := by
  intro n
  induction n with
  | zero => intro k h4 h1 h2; omega
  | succ n ih =>
    intro k h4 h1 h2
    refine g_iload_n dX11_keep_13 rfl rfl ?_
    refine g_sipush (v := 11360) dX11_keep_14 (by decide) ?_
    refine g_icmp_ge (tgt := 42) dX11_keep_17 (by decide) (fun c_17 => ?_) (fun c_17 => ?_)
    · have h6 : 11360 ≤ k := lit_le (n := 11360) (by decide) (by omega) c_17
      have hkn : k = 11360 := by omega
      subst hkn
      refine g_loc (ls' := [some (.ref 46), none]) (fun i v h => by rcases i with _|_|_ <;> first | exact h | cases h) ?_
      exact hE
    · have hlt : k < 11360 := lit_nle (n := 11360) (by decide) (by omega) c_17
      refine g_aload_n dX11_keep_20 rfl rfl ?_
      refine g_get dX11_keep_21 fl_X11_71 hp_46 rfl ?_
      refine g_iload_n dX11_keep_24 rfl rfl ?_
      refine g_sipush (v := 284) dX11_keep_25 (by decide) ?_
      refine g_isub dX11_keep_28 ?_
      refine g_aload_n dX11_keep_29 rfl rfl ?_
      refine g_get dX11_keep_30 fl_X11_71 hp_46 rfl ?_
      refine g_iload_n dX11_keep_33 rfl rfl ?_
      refine g_ra dX11_keep_34 hp_66 (k := k) rfl (by omega) (by decide) ?_
      refine g_wa dX11_keep_35 hp_66 (k := k - 284) (nk_sub (show nI (k) = nI (k) from rfl) (show (284 : Int32) = nI 284 from rfl) (by omega)) (by omega) (by decide) ?_
      rw [hq_66]
      try simp (disch := omega) only [up_at, up_up, up_ne]
      refine g_iinc1 dX11_keep_36 rfl (by decide) ?_
      refine g_goto (tgt := 13) dX11_keep_39 (by decide) ?_
      rw [ks_step h4, nI_1]
      exact ih (k + 1) (by omega) (by omega) (by omega)

set_option maxHeartbeats 800000 in
set_option maxRecDepth 100000 in
theorem e_kc_loop {A : Nat → Nat → Int32} {L : Nat → Nat → Int64} {I : Nat → Nat → Int32} {X : Nat → Int64} {K : ROW} {a : Nat} {Q : Option Value → m_H → Prop} (ha : I 46 35 = nI a) (ha39 : a ≤ 39) (hE : G 1 RX11 cX11_keep 2 none Q 88 [some (.ref 46), none] [] (hp (up A 66 (kcF K (A 63) a 284)) L I X)) : ∀ n k, k ≤ 284 → 284 - k < n → G 1 RX11 cX11_keep 2 none Q 54 [some (.ref 46), some (.int (nI k))] [] (hp (up A 66 (kcF K (A 63) a k)) L I X) := by
  intro n
  induction n with
  | zero => intro k h1 h2; omega
  | succ n ih =>
    intro k h1 h2
    refine g_iload_n dX11_keep_54 rfl rfl ?_
    refine g_sipush (v := 284) dX11_keep_55 (by decide) ?_
    refine g_icmp_ge (tgt := 88) dX11_keep_58 (by decide) (fun c_58 => ?_) (fun c_58 => ?_)
    · have h6 : 284 ≤ k := lit_le (n := 284) (by decide) (by omega) c_58
      have hkn : k = 284 := by omega
      subst hkn
      refine g_loc (ls' := [some (.ref 46), none]) (fun i v h => by rcases i with _|_|_ <;> first | exact h | cases h) ?_
      exact hE
    · have hlt : k < 284 := lit_nle (n := 284) (by decide) (by omega) c_58
      refine g_aload_n dX11_keep_61 rfl rfl ?_
      refine g_get dX11_keep_62 fl_X11_71 hp_46 rfl ?_
      refine g_sipush (v := 284) dX11_keep_65 (by decide) ?_
      refine g_aload_n dX11_keep_68 rfl rfl ?_
      refine g_get dX11_keep_69 fl_X11_276 hp_46 rfl ?_
      refine g_imul dX11_keep_72 ?_
      refine g_iload_n dX11_keep_73 rfl rfl ?_
      refine g_iadd dX11_keep_74 ?_
      refine g_aload_n dX11_keep_75 rfl rfl ?_
      refine g_get dX11_keep_76 fl_X11_58 hp_46 rfl ?_
      refine g_iload_n dX11_keep_79 rfl rfl ?_
      refine g_ra dX11_keep_80 hp_63 (k := k) rfl (by omega) (by decide) ?_
      refine g_wa dX11_keep_81 hp_66 (k := (284 * a) + k) (nk_add (nk_mul (show (284 : Int32) = nI 284 from rfl) ha) (show nI (k) = nI (k) from rfl)) (by omega) (by decide) ?_
      rw [hq_66]
      try simp (disch := omega) only [up_at, up_up, up_ne]
      refine g_iinc1 dX11_keep_82 rfl (by decide) ?_
      refine g_goto (tgt := 54) dX11_keep_85 (by decide) ?_
      rw [kc_step, nI_1]
      exact ih (k + 1) (by omega) (by omega)

set_option maxHeartbeats 800000 in
set_option maxRecDepth 100000 in
theorem e_keep {A : Nat → Nat → Int32} {L : Nat → Nat → Int64} {I : Nat → Nat → Int32} {X : Nat → Int64} {a : Nat} (ha : I 46 35 = nI a) (ha40 : a ≤ 40) : Con 1 yX11_keep cX11_keep 2 none [.ref 46] (hp A L I X) (fun r_ H_ => r_ = none ∧ H_ = hp (up A 66 (kpN (A 66) (A 63) a)) L (up2 I 46 35 (nI (ka1 a + 1))) X) := by
  refine m_con (by decide) (Nat.le_of_ble_eq_true rfl) ?_
  refine g_aload_n dX11_keep_0 rfl rfl ?_
  refine g_get dX11_keep_1 fl_X11_276 hp_46 rfl ?_
  refine g_bipush (v := 40) dX11_keep_4 (by decide) ?_
  refine g_icmp_ne (tgt := 52) dX11_keep_6 (by decide) (fun c_6 => ?_) (fun c_6 => ?_)
  · refine g_ic_0 dX11_keep_52 ?_
    refine g_istore_n dX11_keep_53 rfl (by decide) ?_
    have h40 : ¬ a = 40 := fun z => c_6 (by rw [ha, z]; rfl)
    refine g_eq (Hp2 := hp (up A 66 (kcF (A 66) (A 63) a 0)) L I X) (by rw [kc_0, up_self]) ?_
    refine e_kc_loop ha (by omega) ?_ 285 0 (by decide) (by decide)
    refine g_aload_n dX11_keep_88 rfl rfl ?_
    refine g_dup dX11_keep_89 rfl ?_
    refine g_get dX11_keep_90 fl_X11_276 hp_46 rfl ?_
    refine g_ic_1 dX11_keep_93 ?_
    refine g_iadd dX11_keep_94 ?_
    refine g_puti dX11_keep_95 fw_X11_276 hp_46 (Nat.le_of_ble_eq_true rfl) ?_
    rw [hq_46_35]
    try simp (disch := omega) only [up2_at, up2_up2, up2_ne]
    exact g_vret dX11_keep_98 ⟨rfl, by rw [ha, nI_1, show kpN (A 66) (A 63) a = kcF (A 66) (A 63) a 284 from by unfold kpN ka1; rw [if_neg h40, if_neg h40], show ka1 a = a from if_neg h40]⟩
  · refine g_sipush (v := 284) dX11_keep_9 (by decide) ?_
    refine g_istore_n dX11_keep_12 rfl (by decide) ?_
    have h40 : a = 40 := (nI_eq (by omega) (by decide)).mp (ha.symm.trans c_6)
    subst h40
    refine g_eq (Hp2 := hp (up A 66 (ksF (A 66) 284)) L I X) (by rw [ks_0, up_self]) ?_
    refine e_ks_loop ?_ 11360 284 (by decide) (by decide) (by decide)
    refine g_aload_n dX11_keep_42 rfl rfl ?_
    refine g_dup dX11_keep_43 rfl ?_
    refine g_get dX11_keep_44 fl_X11_276 hp_46 rfl ?_
    refine g_ic_1 dX11_keep_47 ?_
    refine g_isub dX11_keep_48 ?_
    refine g_puti dX11_keep_49 fw_X11_276 hp_46 (Nat.le_of_ble_eq_true rfl) ?_
    rw [hq_46_35]
    try simp (disch := omega) only [up2_at, up2_up2, up2_ne]
    refine g_ic_0 dX11_keep_52 ?_
    refine g_istore_n dX11_keep_53 rfl (by decide) ?_
    rw [show I 46 35 - 1 = nI 39 from by rw [ha]; exact pk_sub (a := 40) (b := 1) (by decide)]
    refine g_eq (Hp2 := hp (up A 66 (kcF (ksF (A 66) 11360) (A 63) 39 0)) L (up2 I 46 35 (nI 39)) X) (by rw [kc_0]) ?_
    refine e_kc_loop (A := A) (I := up2 I 46 35 (nI 39)) (a := 39) up2_at (by decide) ?_ 285 0 (by decide) (by decide)
    refine g_aload_n dX11_keep_88 rfl rfl ?_
    refine g_dup dX11_keep_89 rfl ?_
    refine g_get dX11_keep_90 fl_X11_276 hp_46 rfl ?_
    refine g_ic_1 dX11_keep_93 ?_
    refine g_iadd dX11_keep_94 ?_
    refine g_puti dX11_keep_95 fw_X11_276 hp_46 (Nat.le_of_ble_eq_true rfl) ?_
    rw [hq_46_35]
    try simp (disch := omega) only [up2_at, up2_up2, up2_ne]
    exact g_vret dX11_keep_98 ⟨rfl, by rw [show nI 39 + 1 = nI (ka1 40 + 1) from nI_1 39]; rfl⟩

theorem kp_at {R f : ROW} {nx j : Nat} (hn : nx < 40) : ∀ k, k ≤ 143 → j < 5720 → kpR R f (nI nx) k j = if nx * 143 ≤ j ∧ j < nx * 143 + k then f (j - nx * 143) else R j := by
  intro k
  induction k with
  | zero =>
    intro _ _
    rw [if_neg (by omega)]
    rfl
  | succ k ih =>
    intro h1 h2
    show pt 5720 (kpR R f (nI nx) k) (nI nx * 143 + nI k) (f k) j = _
    rw [show nI nx * 143 + nI k = nI (nx * 143 + k) from nk_add (nk_mul rfl rfl) rfl, pt_nI (by omega) (by decide)]
    by_cases e : j = nx * 143 + k
    · subst e
      rw [ud_at, if_pos (by omega), show nx * 143 + k - nx * 143 = k by omega]
    · rw [ud_ne e, ih (by omega) h2]
      by_cases e2 : nx * 143 ≤ j ∧ j < nx * 143 + k
      · rw [if_pos e2, if_pos (by omega)]
      · rw [if_neg e2, if_neg (by omega)]
theorem RF_eq {ms cs : Nat} {R M C f N f' N' : ROW} (h : RF ms cs R M C f N) (ef : ∀ j, j < 143 → f' j = f j) (en : ∀ j, j < 284 → N' j = N j) : RF ms cs R M C f' N' := by
  obtain ⟨h1, ⟨L, nx, l1, l2, l3, l4, l5, l6⟩, h3⟩ := h
  refine ⟨R_ext h1 (fun j j1 _ _ => ef j (by omega)) (by rw [ef 12 (by decide)]; exact h1.2.1.2.2.2.2.2.2.2) (fun j hj => en j (by omega)), ⟨L, nx, l1, l2, by rw [ef 11 (by decide)]; exact l3, by rw [en 43 (by decide)]; exact l4, by rw [ef 12 (by decide)]; exact l5, fun i hi => ?_⟩, by rw [en 36 (by decide)]; exact h3⟩
  obtain ⟨a, b, c, d, b1, b2, b3, b4, b5, b6, b7, b8, b9⟩ := l6 i hi
  exact ⟨a, b, c, d, b1, b2, b3, b4, by rw [ef _ (by omega)]; exact b5, by rw [en _ (by omega)]; exact b6, by rw [en _ (by omega)]; exact b7, by rw [en _ (by omega)]; exact b8, by rw [en _ (by omega)]; exact b9⟩
/-- an act is kept in both -/
theorem AK_step {ms cs : Nat} {A I A' I' : Nat → Nat → Int32} (h : AKT ms cs A I) {f N : ROW} (hF : RF ms cs (A 60) (A 61) (A 62) f N) (e26 : A' 26 = kpR (A 26) f (I 25 2) 143) (i2 : I' 25 2 = rm (I 25 2 + 1) 40) (i1 : I' 25 1 = mn 40 (I 25 1 + 1)) (e66 : ∃ a, I 46 35 = nI a ∧ a ≤ 40 ∧ A' 66 = kpN (A 66) N a ∧ I' 46 35 = nI (ka1 a + 1)) (e60 : A' 60 = A 60) (e61 : A' 61 = A 61) (e62 : A' 62 = A 62) : AKT ms cs A' I' := by
  obtain ⟨a, nx, a1, a2, a3, a4, a5, a6⟩ := h
  obtain ⟨a', b1, b2, b3, b4⟩ := e66
  have ha : a' = a := (nI_eq (by omega) (by omega)).mp (b1.symm.trans a4)
  subst ha
  have hk1 : ka1 a' ≤ 39 := by unfold ka1; split <;> omega
  refine ⟨ka1 a' + 1, (nx + 1) % 40, by omega, by omega, ?_, b4, ?_, fun i hi => ?_⟩
  · rw [i1, a3, nI_1, show (40 : Int32) = nI 40 from rfl, mn_n (by decide) (by omega)]
    congr 1
    unfold ka1
    split <;> omega
  · rw [i2, a5, nI_1, show (40 : Int32) = nI 40 from rfl, rm_n (by omega) (by decide) (by decide)]
  · rw [e60, e61, e62, e26, a5, b3]
    by_cases hi0 : i = 0
    · subst hi0
      refine RF_eq hF (fun j hj => ?_) (fun j hj => ?_)
      · show kpR (A 26) f (nI nx) 143 _ = _
        rw [show ((nx + 1) % 40 + 39 - 0) % 40 = nx by omega, kp_at a2 143 (by decide) (by omega), if_pos (by omega), show nx * 143 + j - nx * 143 = j by omega]
      · show kpN (A 66) N a' _ = _
        unfold kpN kcF
        rw [if_pos (by omega), show 284 * (ka1 a' + 1 - 1 - 0) + j - 284 * ka1 a' = j by omega]
    · have hka : ka1 a' ≤ a' := by unfold ka1; split <;> omega
      refine RF_eq (a6 (i - 1) (by omega)) (fun j hj => ?_) (fun j hj => ?_)
      · show kpR (A 26) f (nI nx) 143 _ = A 26 _
        rw [show ((nx + 1) % 40 + 39 - i) % 40 = (nx + 39 - (i - 1)) % 40 by omega, kp_at a2 143 (by decide) (by omega), if_neg (by omega)]
      · show kpN (A 66) N a' _ = A 66 _
        unfold kpN kcF
        rw [if_neg (by omega)]
        by_cases h40 : a' = 40
        · rw [if_pos h40]
          unfold ksF
          have hk39 : ka1 a' = 39 := if_pos h40
          rw [if_pos (by omega)]
          congr 1
          omega
        · rw [if_neg h40]
          have hk39 : ka1 a' = a' := if_neg h40
          congr 1
          omega