/-! THE REFERENCE: least, shares, never, games -/
theorem PLN_smM {ms cs : Nat} {A I A' I' : Nat → Nat → Int32} (h : smM A I A' I') (k : PLN ms cs A I) : PLN ms cs A' I' := by
  have e : ∀ i, i ∈ iA → A' i = A i := fun i hi => h.1 i ((by decide : ∀ i, i ∈ iA → nsM i = true) i hi)
  have q : ∀ i k, (i, k) ∈ iI → I' i k = I i k := fun i k hk => h.2 i k ((by decide : ∀ p, p ∈ iI → niM p.1 p.2 = true) (i, k) hk)
  obtain ⟨k1, k2, k3, k4, k5⟩ := k
  refine ⟨by rw [q 46 25 (by decide), q 46 26 (by decide)]; exact k1, by rw [e 60 (by decide), e 61 (by decide), e 62 (by decide), e 20 (by decide), e 63 (by decide)]; exact k2, by rw [e 60 (by decide), e 61 (by decide), e 62 (by decide), e 17 (by decide)]; exact k3, AKT_ext (fun i hi => e i ((by decide : ∀ i, i ∈ [60, 61, 62, 26, 66] → i ∈ iA) i hi)) (q 25 1 (by decide)) (q 46 35 (by decide)) (q 25 2 (by decide)) k4, ?_⟩
  rw [q 46 50 (by decide), q 0 13 (by decide), e 60 (by decide), e 61 (by decide), e 62 (by decide), e 23 (by decide), e 76 (by decide)]
  exact k5
theorem fc_smM {A I A' I' : Nat → Nat → Int32} (h : smM A I A' I') : fc A' I' = fc A I := by
  funext n f
  unfold fc
  rw [h.1 12 (by decide), h.1 13 (by decide), h.2 11 5 (by decide)]
theorem al_t {ms cs : Nat} {R M C f N : ROW} {v : Int32} (h : RJ ms cs R M C f N) (hv : v = nI cs) : (allS f = 0 ↔ ¬ N 34 = (1 <<< (v &&& 31)) - 1) := by
  unfold allS
  rw [ripe_N h, g143_10, h.1.2.2.2.2.2, hv]
  by_cases z : N 34 = (1 <<< (nI cs &&& 31)) - 1
  · rw [if_pos z]
    exact ⟨fun q => absurd q (by decide), fun q => absurd z q⟩
  · rw [if_neg z]
    exact ⟨fun _ => z, fun _ => rfl⟩
set_option maxHeartbeats 800000 in
set_option maxRecDepth 100000 in
theorem n_least_loop {A : Nat → Nat → Int32} {L : Nat → Nat → Int64} {I : Nat → Nat → Int32} {X : Nat → Int64} {ms cs : Nat} {n0 : Int32} {Q : Option Value → m_H → Prop} (h : INV A I) (hP : PLN ms cs A I) : ∀ n k A2 I2, smM A I A2 I2 → n + k = 100 → (∀ {v : Int32} A9 I9, smM A I A9 I9 → leL (leP A I n0) n k = v → Q (some (.int v)) (hp A9 L I9 X)) → G 9 RX11 cX11_least 4 (some .int) Q 21 [some (.ref 46), some (.int (n0)), some (.int (nI k)), none] [] (hp A2 L I2 X) := by
  intro n
  induction n with
  | zero =>
    intro k A2 I2 hm hk hQ
    refine g_iload_n dX11_least_21 rfl rfl ?_
    refine g_bipush (v := 99) dX11_least_22 (by decide) ?_
    refine g_icmp_gt (tgt := 87) dX11_least_24 (by decide) (fun c_24 => ?_) (fun c_24 => ?_)
    · refine g_ic_m1 dX11_least_87 ?_
      exact g_iret dX11_least_88 (hQ A2 I2 hm rfl)
    · exact absurd (nI_lt (a := 99) (b := k) (by omega) (by omega)) c_24
  | succ n ih =>
    intro k A2 I2 hm hk hQ
    refine g_iload_n dX11_least_21 rfl rfl ?_
    refine g_bipush (v := 99) dX11_least_22 (by decide) ?_
    refine g_icmp_gt (tgt := 87) dX11_least_24 (by decide) (fun c_24 => ?_) (fun c_24 => ?_)
    · exact absurd ((nI_ltI (a := 99) (b := k) (by decide) (by omega)).mp c_24) (by omega)
    · have hlt : k < 100 := by omega
      refine g_aload_n dX11_least_27 rfl rfl ?_
      refine g_callV dX11_least_28 cv_X11_358 (as' := []) hp_46 rfl e_putAside (by decide) rfl rfl (Nat.le_of_ble_eq_true rfl) ?_
      rintro _ _ ⟨rfl, rfl⟩
      try simp (disch := omega) only [up_at, up_up, up_ne, up2_at, up2_ne]
      refine g_aload_n dX11_least_31 rfl rfl ?_
      refine g_get dX11_least_32 fl_X11_58 hp_46 rfl ?_
      refine g_bipush (v := 36) dX11_least_35 (by decide) ?_
      refine g_dup2 dX11_least_37 rfl rfl ?_
      refine g_ra dX11_least_38 hp_63 (k := 36) rfl (by decide) (by decide) ?_
      try simp (disch := omega) only [up_at, up_up, up_ne, up2_at, up2_ne]
      refine g_iload_n dX11_least_39 rfl rfl ?_
      refine g_iadd dX11_least_40 ?_
      refine g_wa dX11_least_41 hp_63 (k := 36) rfl (by decide) (by decide) ?_
      rw [hq_63]
      try simp (disch := omega) only [up_at, up_up, up_ne, up2_at, up2_ne]
      refine g_aload_n dX11_least_42 rfl rfl ?_
      have h2 := INV_smM hm h
      have hP2 := PLN_smM hm hP
      have hRJ0 : RJ ms cs (A2 60) (A2 61) (A2 62) (fdS (A2 20) (nI (k))) (upd (A2 63) 36 (A2 63 36 + nI (k))) := R_fd (b := 99) hP2.2.1.1 hP2.2.1.2.2 (by omega)
      obtain ⟨hw0, h250, h260, hL, hA0⟩ := as_start h2 hP2 hRJ0 (N2 := upd (A2 63) 36 (A2 63 36 + nI (k))) (by intro j hj; simp (disch := omega) only [ud_at, ud_ne])
      refine g_iload_n dX11_least_43 rfl rfl ?_
      refine g_callV dX11_least_44 cv_X11_361 (as' := [_]) hp_46 rfl (e_liveMany hw0 h250 h260 hL) (by decide) rfl rfl (Nat.le_of_ble_eq_true rfl) ?_
      rintro _ _ ⟨rfl, A3, I3, hL, rfl⟩
      try simp (disch := omega) only [up_at, up_up, up_ne, up2_at, up2_ne]
      refine g_aload_n dX11_least_47 rfl rfl ?_
      refine g_get dX11_least_48 fl_X11_58 hp_46 rfl ?_
      refine g_bipush (v := 34) dX11_least_51 (by decide) ?_
      refine g_ra dX11_least_53 hp_63 (k := 34) rfl (by decide) (by decide) ?_
      try simp (disch := omega) only [up_at, up_up, up_ne, up2_at, up2_ne]
      refine g_ic_1 dX11_least_54 ?_
      refine g_aload_n dX11_least_55 rfl rfl ?_
      refine g_get dX11_least_56 fl_X11_267 hp_46 rfl ?_
      try simp (disch := omega) only [up_at, up_up, up_ne, up2_at, up2_ne]
      refine g_ishl dX11_least_59 ?_
      refine g_ic_1 dX11_least_60 ?_
      refine g_isub dX11_least_61 ?_
      refine g_icmp_ne (tgt := 69) dX11_least_62 (by decide) (fun c_62 => ?_) (fun c_62 => ?_)
      · refine g_ic_0 dX11_least_69 ?_
        refine g_istore_n dX11_least_70 rfl (by decide) ?_
        refine g_aload_n dX11_least_71 rfl rfl ?_
        refine g_callV dX11_least_72 cv_X11_364 (as' := []) hp_46 rfl e_takeBack (by decide) rfl rfl (Nat.le_of_ble_eq_true rfl) ?_
        rintro _ _ ⟨rfl, rfl⟩
        try simp (disch := omega) only [up_at, up_up, up_ne, up2_at, up2_ne]
        refine g_iload_n dX11_least_75 rfl rfl ?_
        refine g_if_eq (tgt := 81) dX11_least_76 (by decide) (fun c_76 => ?_) (fun c_76 => ?_)
        · refine g_iinc1 dX11_least_81 rfl (by decide) ?_
          refine g_goto (tgt := 21) dX11_least_84 (by decide) ?_
          rw [nI_1]
          refine g_loc (ls' := [some (.ref 46), some (.int (n0)), some (.int (nI (k + 1))), none]) (fun i v h => by rcases i with _|_|_|_|_ <;> first | exact h | cases h) ?_
          have e3 : I3 46 26 = nI cs := (hL.1.2 46 26 (by decide)).trans h260
          have hp1 : ¬ leP A I n0 k = true := fun z => by unfold leP at z; rw [decide_eq_true_iff] at z; exact z (by rw [← fc_smM hm, ← hm.1 20 (by decide)]; exact (al_t hL.2.1 e3).mpr c_62)
          exact ih (k + 1) _ _ (smM_tr hm (as_back (as_step hA0 hL))) (by omega) (fun A9 I9 h9 z => hQ A9 I9 h9 ((if_neg hp1).trans z))
        · exact absurd rfl c_76
      · refine g_ic_1 dX11_least_65 ?_
        refine g_goto (tgt := 70) dX11_least_66 (by decide) ?_
        refine g_istore_n dX11_least_70 rfl (by decide) ?_
        refine g_aload_n dX11_least_71 rfl rfl ?_
        refine g_callV dX11_least_72 cv_X11_364 (as' := []) hp_46 rfl e_takeBack (by decide) rfl rfl (Nat.le_of_ble_eq_true rfl) ?_
        rintro _ _ ⟨rfl, rfl⟩
        try simp (disch := omega) only [up_at, up_up, up_ne, up2_at, up2_ne]
        refine g_iload_n dX11_least_75 rfl rfl ?_
        refine g_if_eq (tgt := 81) dX11_least_76 (by decide) (fun c_76 => ?_) (fun c_76 => ?_)
        · exact absurd c_76 (by decide)
        · refine g_iload_n dX11_least_79 rfl rfl ?_
          exact g_iret dX11_least_80 (by have e3 : I3 46 26 = nI cs := (hL.1.2 46 26 (by decide)).trans h260; have hp1 : leP A I n0 k = true := (by unfold leP; rw [decide_eq_true_iff]; intro z; rw [← fc_smM hm, ← hm.1 20 (by decide)] at z; exact (al_t hL.2.1 e3).mp z c_62); exact hQ _ _ (smM_tr hm (as_back (as_step hA0 hL))) (if_pos hp1))

set_option maxHeartbeats 800000 in
set_option maxRecDepth 100000 in
theorem n_least {A : Nat → Nat → Int32} {L : Nat → Nat → Int64} {I : Nat → Nat → Int32} {X : Nat → Int64} {n : Int32} (h : INV A I) : Con 9 yX11_least cX11_least 4 (some .int) [.ref 46, .int n] (hp A L I X) (QM A I X (lstS A I n)) := by
  refine m_con (by decide) (Nat.le_of_ble_eq_true rfl) ?_
  refine g_aload_n dX11_least_0 rfl rfl ?_
  refine g_get dX11_least_1 fl_X11_261 hp_46 rfl ?_
  refine g_if_eq (tgt := 17) dX11_least_4 (by decide) (fun c_4 => ?_) (fun c_4 => ?_)
  · refine g_ic_m1 dX11_least_17 ?_
    exact g_iret dX11_least_18 ⟨congrArg (fun z => some (Value.int z)) (show _ = lstS A I n from (if_pos (Or.inl ((INV_0 h).mp c_4))).symm), _, _, _, smM_rf, rfl⟩
  · refine g_iload_n dX11_least_7 rfl rfl ?_
    refine g_ic_1 dX11_least_8 ?_
    refine g_bipush (v := 60) dX11_least_9 (by decide) ?_
    refine g_callS dX11_least_11 cs_X11_221 (as := [_, _, _]) e_in (by decide) rfl rfl (Nat.le_of_ble_eq_true rfl) ?_
    rintro _ _ ⟨rfl, rfl⟩
    refine g_if_ne (tgt := 19) dX11_least_14 (by decide) (fun c_14 => ?_) (fun c_14 => ?_)
    · refine g_ic_0 dX11_least_19 ?_
      refine g_istore_n dX11_least_20 rfl (by decide) ?_
      obtain ⟨ms, cs, hP⟩ := INV_P h (fun w => c_4 ((INV_0 h).mpr w))
      refine g_loc (ls' := [some (.ref 46), some (.int (n)), some (.int (nI 0)), none]) (fun i v h => by rcases i with _|_|_|_|_ <;> first | exact h | cases h) ?_
      have hv : lstS A I n = leS A I n := if_neg (fun z => by rcases z with z | z | z; exact c_4 ((INV_0 h).mpr z); exact c_14 (in_0.mpr (Or.inl z)); exact c_14 (in_0.mpr (Or.inr z)))
      exact n_least_loop h hP 100 0 A I smM_rf rfl (fun A9 I9 h9 z => ⟨congrArg (fun z => some (Value.int z)) (z.symm.trans hv.symm), _, _, _, h9, rfl⟩)
    · refine g_ic_m1 dX11_least_17 ?_
      exact g_iret dX11_least_18 ⟨congrArg (fun z => some (Value.int z)) (show _ = lstS A I n from (if_pos (Or.inr (in_0.mp c_14))).symm), _, _, _, smM_rf, rfl⟩
