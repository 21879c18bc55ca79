/-! ASIDE: what would come, tried on the reference's own row and taken back -/
def ASD (A I A0 I0 : Nat → Nat → Int32) : Prop := (∀ i, i ≠ 55 → i ≠ 56 → i ≠ 63 → i ≠ 65 → i ≠ 67 → A0 i = A i) ∧ A0 67 = A 63 ∧ (∀ j, 43 ≤ j → A0 63 j = A 63 j) ∧ ∀ i k, ¬ (i = 46 ∧ k = 33) → I0 i k = I i k
theorem as_step {A I A0 I0 A1 I1 : Nat → Nat → Int32} {ms cs : Nat} {U : Int32} {s : RD} (h : ASD A I A0 I0) (k : LV ms cs A0 I0 U s A1 I1) : ASD A I A1 I1 := by
  obtain ⟨h1, h2, h3, h4⟩ := h
  obtain ⟨⟨k1, k2⟩, -, -, k4, -⟩ := k
  exact ⟨fun i a b c d e => (k1 i a b c d).trans (h1 i a b c d e), (k1 67 (by decide) (by decide) (by decide) (by decide)).trans h2, fun j hj => (k4 j hj).trans (h3 j hj), fun i l z => (k2 i l z).trans (h4 i l z)⟩
theorem as_back {A I A1 I1 : Nat → Nat → Int32} (h : ASD A I A1 I1) : smM A I (up A1 63 (fl (A1 67) (A1 63) 43)) I1 := by
  obtain ⟨h1, h2, h3, h4⟩ := h
  have e : fl (A1 67) (A1 63) 43 = A 63 := by
    funext j
    rcases Nat.lt_or_ge j 43 with z | z
    · rw [fl_lt z, h2]
    · rw [fl_ge z, h3 j z]
  rw [e]
  refine ⟨fun i z => ?_, fun i k z => h4 i k (by rintro ⟨rfl, rfl⟩; revert z; decide)⟩
  by_cases hi : i = 63
  · subst hi; exact up_at
  · rw [up_ne hi]
    refine h1 i ?_ ?_ hi ?_ ?_ <;> (rintro rfl; revert z; decide)
theorem as_start {A I : Nat → Nat → Int32} {ms cs : Nat} {f N2 : ROW} (h : INV A I) (hP : PLN ms cs A I) (hR : RJ ms cs (A 60) (A 61) (A 62) f N2) (hN : ∀ j, 43 ≤ j → N2 j = A 63 j) : LWA (up (up (up A 67 (A 63)) 65 (fun _ => 0)) 63 N2) (up2 I 46 33 0) ∧ (up2 I 46 33 0) 46 25 = nI ms ∧ (up2 I 46 33 0) 46 26 = nI cs ∧ LV ms cs (up (up (up A 67 (A 63)) 65 (fun _ => 0)) 63 N2) (up2 I 46 33 0) (unrS f) (f, fun _ => 0) (up (up (up A 67 (A 63)) 65 (fun _ => 0)) 63 N2) (up2 I 46 33 0) ∧ ASD A I (up (up (up A 67 (A 63)) 65 (fun _ => 0)) 63 N2) (up2 I 46 33 0) := by
  refine ⟨LWA_A (fun i hi => ?_) ?_ ?_ (INV_LWA h), ?_, ?_, ⟨smN_rf, hR, fun _ _ => rfl, fun _ _ => rfl, ?_⟩, fun i a b c d e => ?_, rfl, fun j hj => hN j hj, fun i k z => ?_⟩
  · have z : i ≠ 63 ∧ i ≠ 65 ∧ i ≠ 67 := (by decide : ∀ i, i ∈ [12, 13, 48, 49, 51, 52, 53, 54] → i ≠ 63 ∧ i ≠ 65 ∧ i ≠ 67) i hi
    rw [up_ne z.1, up_ne z.2.1, up_ne z.2.2]
  · rw [up2_ne (by decide)]
  · rw [up2_ne (by decide)]
  · rw [up2_ne (by decide)]; exact hP.1.1
  · rw [up2_ne (by decide)]; exact hP.1.2
  · show up2 I 46 33 0 46 33 + unrS f = unrS f
    rw [up2_at, Int32.zero_add]
  · rw [up_ne c, up_ne d, up_ne e]
  · rw [up2_ne z]
theorem RJ_56 {ms cs : Nat} {R M C f N : ROW} (h : RJ ms cs R M C f N) : N 39 = gt 143 f 5 ∧ N 40 = gt 143 f 6 ∧ N 35 = gt 143 f 0 := by
  obtain ⟨-, ⟨s0, -⟩, ⟨m, d, l, d1, d2, d3, d4, d5, -⟩, -⟩ := h
  exact ⟨by rw [g143_5, d1, d2], by rw [g143_6, d4, d5], by rw [g143_0, s0.1]⟩
theorem R_same {ms cs : Nat} {R M C f N N' : ROW} (h : RJ ms cs R M C f N) (e : ∀ j, j < 43 → N' j = N j) : RJ ms cs R M C f N' := R_ext h (fun _ _ _ _ => rfl) h.2.1.2.2.2.2.2.2.2 e
theorem R_way {ms cs : Nat} {R M C f N : ROW} (h : RJ ms cs R M C f N) : RJ ms cs R M C (trn f) (upd N 38 (1 - N 38)) := by
  have h0 := h
  obtain ⟨-, ⟨⟨s0, b0⟩, ⟨s1, b1⟩, s2, ⟨s3, b3⟩, ⟨s4, k, k1, k2⟩, s7, s8, -⟩, -⟩ := h
  have e : trn f = upd f 4 (1 - N 38) := by
    unfold trn
    rw [p143_4, g143_4, s4, k2]
    rcases (show k = 0 ∨ k = 1 by omega) with rfl | rfl
    · rw [if_pos nI_0]; rfl
    · rw [if_neg (by decide)]; rfl
  have b4 : bd 1 (1 - N 38) := by
    rw [k2]
    rcases (show k = 0 ∨ k = 1 by omega) with rfl | rfl
    · exact ⟨1, by decide, rfl⟩
    · exact ⟨0, by decide, rfl⟩
  rw [e]
  refine R_sc h0 (y0 := N 35) (y1 := N 36) (y3 := N 37) (y4 := 1 - N 38) (y8 := N 42) ?_ ?_ b0 ?_ ?_ b1 ?_ ?_ b3 ?_ ?_ b4 ?_ ?_ (fun j j0 j1 j3 j4 j8 => ?_) (fun j j0 j1 j3 j4 j8 => ?_)
  all_goals simp (disch := omega) only [ud_at, ud_ne]
  all_goals assumption
theorem R_fd {ms cs : Nat} {R M C f N : ROW} (h : RJ ms cs R M C f N) {k b : Nat} (hb : bd b (N 36)) (hk : b + k ≤ 300) : RJ ms cs R M C (fdS f (nI k)) (upd N 36 (N 36 + nI k)) := by
  have h0 := h
  obtain ⟨-, ⟨⟨s0, b0⟩, ⟨s1, -⟩, s2, ⟨s3, b3⟩, ⟨s4, b4⟩, s7, s8, -⟩, -⟩ := h
  obtain ⟨a, a1, a2⟩ := hb
  have e : fdS f (nI k) = upd f 1 (N 36 + nI k) := by
    unfold fdS
    rw [p143_1, g143_1, s1]
  rw [e]
  refine R_sc h0 (y0 := N 35) (y1 := N 36 + nI k) (y3 := N 37) (y4 := N 38) (y8 := N 42) ?_ ?_ b0 ?_ ?_ (by rw [a2, nI_add]; exact bd_k (by omega)) ?_ ?_ b3 ?_ ?_ b4 ?_ ?_ (fun j j0 j1 j3 j4 j8 => ?_) (fun j j0 j1 j3 j4 j8 => ?_)
  all_goals simp (disch := omega) only [ud_at, ud_ne]
  all_goals assumption
set_option maxHeartbeats 800000 in
set_option maxRecDepth 100000 in
theorem n_ahead {A : Nat → Nat → Int32} {L : Nat → Nat → Int64} {I : Nat → Nat → Int32} {X : Nat → Int64} {n w p : Int32} (h : INV A I) : Con 9 yX11_ahead cX11_ahead 5 (some .int) [.ref 46, .int n, .int w, .int p] (hp A L I X) (QM A I X (ahS A I n w p)) := by
  refine m_con (by decide) (Nat.le_of_ble_eq_true rfl) ?_
  refine g_aload_n dX11_ahead_0 rfl rfl ?_
  refine g_get dX11_ahead_1 fl_X11_261 hp_46 rfl ?_
  refine g_if_eq (tgt := 26) dX11_ahead_4 (by decide) (fun c_4 => ?_) (fun c_4 => ?_)
  · refine g_ic_m1 dX11_ahead_26 ?_
    exact g_iret dX11_ahead_27 ⟨congrArg (fun z => some (Value.int z)) (show _ = ahS A I n w p from (if_pos (Or.inl ((INV_0 h).mp c_4))).symm), _, _, _, smM_rf, rfl⟩
  · refine g_iload_n dX11_ahead_7 rfl rfl ?_
    refine g_ic_0 dX11_ahead_8 ?_
    refine g_bipush (v := 60) dX11_ahead_9 (by decide) ?_
    refine g_callS dX11_ahead_11 cs_X11_221 (as := [_, _, _]) e_in (by decide) rfl rfl (Nat.le_of_ble_eq_true rfl) ?_
    rintro _ _ ⟨rfl, rfl⟩
    refine g_if_eq (tgt := 26) dX11_ahead_14 (by decide) (fun c_14 => ?_) (fun c_14 => ?_)
    · refine g_ic_m1 dX11_ahead_26 ?_
      exact g_iret dX11_ahead_27 ⟨congrArg (fun z => some (Value.int z)) (show _ = ahS A I n w p from (if_pos (Or.inr ((in_0.mp c_14).elim Or.inl (fun z => Or.inr (Or.inl z))))).symm), _, _, _, smM_rf, rfl⟩
    · refine g_iload_n dX11_ahead_17 rfl rfl ?_
      refine g_ic_0 dX11_ahead_18 ?_
      refine g_ic_1 dX11_ahead_19 ?_
      refine g_callS dX11_ahead_20 cs_X11_221 (as := [_, _, _]) e_in (by decide) rfl rfl (Nat.le_of_ble_eq_true rfl) ?_
      rintro _ _ ⟨rfl, rfl⟩
      refine g_if_ne (tgt := 28) dX11_ahead_23 (by decide) (fun c_23 => ?_) (fun c_23 => ?_)
      · obtain ⟨ms, cs, hP⟩ := INV_P h (fun w => c_4 ((INV_0 h).mpr w))
        have hv : ahS A I n w p = gt 143 (fc A I n.toNatClampNeg (othS (A 20) w)).1 (if p = 0 then 5 else 6) := if_neg (fun z => by rcases z with z | z | z | z | z; exact c_4 ((INV_0 h).mpr z); exact c_14 (in_0.mpr (Or.inl z)); exact c_14 (in_0.mpr (Or.inr z)); exact c_23 (in_0.mpr (Or.inl z)); exact c_23 (in_0.mpr (Or.inr (Int32.not_le.mp z))))
        refine g_aload_n dX11_ahead_28 rfl rfl ?_
        refine g_callV dX11_ahead_29 cv_X11_358 (as' := []) hp_46 rfl e_putAside (by decide) rfl rfl (Nat.le_of_ble_eq_true rfl) ?_
        rintro _ _ ⟨rfl, rfl⟩
        try simp (disch := omega) only [up_at, up_up, up_ne, up2_at, up2_ne]
        refine g_aload_n dX11_ahead_32 rfl rfl ?_
        refine g_get dX11_ahead_33 fl_X11_58 hp_46 rfl ?_
        refine g_bipush (v := 38) dX11_ahead_36 (by decide) ?_
        refine g_iload_n dX11_ahead_38 rfl rfl ?_
        refine g_if_eq (tgt := 54) dX11_ahead_39 (by decide) (fun c_39 => ?_) (fun c_39 => ?_)
        · refine g_aload_n dX11_ahead_54 rfl rfl ?_
          refine g_get dX11_ahead_55 fl_X11_58 hp_46 rfl ?_
          refine g_bipush (v := 38) dX11_ahead_58 (by decide) ?_
          refine g_ra dX11_ahead_60 hp_63 (k := 38) rfl (by decide) (by decide) ?_
          try simp (disch := omega) only [up_at, up_up, up_ne, up2_at, up2_ne]
          refine g_wa dX11_ahead_61 hp_63 (k := 38) rfl (by decide) (by decide) ?_
          rw [hq_63]
          try simp (disch := omega) only [up_at, up_up, up_ne, up2_at, up2_ne]
          have ho := (show othS (A 20) w = A 20 from if_pos c_39)
          have hRJ0 : RJ ms cs (A 60) (A 61) (A 62) ((A 20)) ((upd (A 63) 38 (A 63 38))) := R_same hP.2.1.1 (fun j _ => by by_cases z : j = 38; subst z; exact ud_at; exact ud_ne z)
          obtain ⟨hw0, h250, h260, hL, hA0⟩ := as_start h hP hRJ0 (N2 := (upd (A 63) 38 (A 63 38))) (by intro j hj; first | rfl | (simp (disch := omega) only [ud_at, ud_ne]))
          refine g_aload_n dX11_ahead_62 rfl rfl ?_
          refine g_iload_n dX11_ahead_63 rfl rfl ?_
          refine g_callV dX11_ahead_64 cv_X11_361 (as' := [_]) hp_46 rfl (e_liveMany hw0 h250 h260 hL) (by decide) rfl rfl (Nat.le_of_ble_eq_true rfl) ?_
          rintro _ _ ⟨rfl, A3, I3, hL, rfl⟩
          try simp (disch := omega) only [up_at, up_up, up_ne, up2_at, up2_ne]
          refine g_iload_n dX11_ahead_67 rfl rfl ?_
          refine g_if_ne (tgt := 81) dX11_ahead_68 (by decide) (fun c_68 => ?_) (fun c_68 => ?_)
          · refine g_aload_n dX11_ahead_81 rfl rfl ?_
            refine g_get dX11_ahead_82 fl_X11_58 hp_46 rfl ?_
            refine g_bipush (v := 40) dX11_ahead_85 (by decide) ?_
            refine g_ra dX11_ahead_87 hp_63 (k := 40) rfl (by decide) (by decide) ?_
            try simp (disch := omega) only [up_at, up_up, up_ne, up2_at, up2_ne]
            refine g_istore dX11_ahead_88 (by decide) ?_
            refine g_aload_n dX11_ahead_90 rfl rfl ?_
            refine g_callV dX11_ahead_91 cv_X11_364 (as' := []) hp_46 rfl e_takeBack (by decide) rfl rfl (Nat.le_of_ble_eq_true rfl) ?_
            rintro _ _ ⟨rfl, rfl⟩
            try simp (disch := omega) only [up_at, up_up, up_ne, up2_at, up2_ne]
            refine g_iload dX11_ahead_94 rfl ?_
            exact g_iret dX11_ahead_96 ⟨congrArg (fun z => some (Value.int z)) (show _ = ahS A I n w p from by rw [hv, if_neg c_68, ho]; exact (RJ_56 hL.2.1).2.1), _, _, _, as_back (as_step hA0 hL), rfl⟩
          · refine g_aload_n dX11_ahead_71 rfl rfl ?_
            refine g_get dX11_ahead_72 fl_X11_58 hp_46 rfl ?_
            refine g_bipush (v := 39) dX11_ahead_75 (by decide) ?_
            refine g_ra dX11_ahead_77 hp_63 (k := 39) rfl (by decide) (by decide) ?_
            try simp (disch := omega) only [up_at, up_up, up_ne, up2_at, up2_ne]
            refine g_goto (tgt := 88) dX11_ahead_78 (by decide) ?_
            refine g_istore dX11_ahead_88 (by decide) ?_
            refine g_aload_n dX11_ahead_90 rfl rfl ?_
            refine g_callV dX11_ahead_91 cv_X11_364 (as' := []) hp_46 rfl e_takeBack (by decide) rfl rfl (Nat.le_of_ble_eq_true rfl) ?_
            rintro _ _ ⟨rfl, rfl⟩
            try simp (disch := omega) only [up_at, up_up, up_ne, up2_at, up2_ne]
            refine g_iload dX11_ahead_94 rfl ?_
            exact g_iret dX11_ahead_96 ⟨congrArg (fun z => some (Value.int z)) (show _ = ahS A I n w p from by rw [hv, if_pos c_68, ho]; exact (RJ_56 hL.2.1).1), _, _, _, as_back (as_step hA0 hL), rfl⟩
        · refine g_ic_1 dX11_ahead_42 ?_
          refine g_aload_n dX11_ahead_43 rfl rfl ?_
          refine g_get dX11_ahead_44 fl_X11_58 hp_46 rfl ?_
          refine g_bipush (v := 38) dX11_ahead_47 (by decide) ?_
          refine g_ra dX11_ahead_49 hp_63 (k := 38) rfl (by decide) (by decide) ?_
          try simp (disch := omega) only [up_at, up_up, up_ne, up2_at, up2_ne]
          refine g_isub dX11_ahead_50 ?_
          refine g_goto (tgt := 61) dX11_ahead_51 (by decide) ?_
          refine g_wa dX11_ahead_61 hp_63 (k := 38) rfl (by decide) (by decide) ?_
          rw [hq_63]
          try simp (disch := omega) only [up_at, up_up, up_ne, up2_at, up2_ne]
          have ho := (show othS (A 20) w = trn (A 20) from if_neg c_39)
          have hRJ0 : RJ ms cs (A 60) (A 61) (A 62) ((trn (A 20))) ((upd (A 63) 38 (1 - A 63 38))) := R_way hP.2.1.1
          obtain ⟨hw0, h250, h260, hL, hA0⟩ := as_start h hP hRJ0 (N2 := (upd (A 63) 38 (1 - A 63 38))) (by intro j hj; first | rfl | (simp (disch := omega) only [ud_at, ud_ne]))
          refine g_aload_n dX11_ahead_62 rfl rfl ?_
          refine g_iload_n dX11_ahead_63 rfl rfl ?_
          refine g_callV dX11_ahead_64 cv_X11_361 (as' := [_]) hp_46 rfl (e_liveMany hw0 h250 h260 hL) (by decide) rfl rfl (Nat.le_of_ble_eq_true rfl) ?_
          rintro _ _ ⟨rfl, A3, I3, hL, rfl⟩
          try simp (disch := omega) only [up_at, up_up, up_ne, up2_at, up2_ne]
          refine g_iload_n dX11_ahead_67 rfl rfl ?_
          refine g_if_ne (tgt := 81) dX11_ahead_68 (by decide) (fun c_68 => ?_) (fun c_68 => ?_)
          · refine g_aload_n dX11_ahead_81 rfl rfl ?_
            refine g_get dX11_ahead_82 fl_X11_58 hp_46 rfl ?_
            refine g_bipush (v := 40) dX11_ahead_85 (by decide) ?_
            refine g_ra dX11_ahead_87 hp_63 (k := 40) rfl (by decide) (by decide) ?_
            try simp (disch := omega) only [up_at, up_up, up_ne, up2_at, up2_ne]
            refine g_istore dX11_ahead_88 (by decide) ?_
            refine g_aload_n dX11_ahead_90 rfl rfl ?_
            refine g_callV dX11_ahead_91 cv_X11_364 (as' := []) hp_46 rfl e_takeBack (by decide) rfl rfl (Nat.le_of_ble_eq_true rfl) ?_
            rintro _ _ ⟨rfl, rfl⟩
            try simp (disch := omega) only [up_at, up_up, up_ne, up2_at, up2_ne]
            refine g_iload dX11_ahead_94 rfl ?_
            exact g_iret dX11_ahead_96 ⟨congrArg (fun z => some (Value.int z)) (show _ = ahS A I n w p from by rw [hv, if_neg c_68, ho]; exact (RJ_56 hL.2.1).2.1), _, _, _, as_back (as_step hA0 hL), rfl⟩
          · refine g_aload_n dX11_ahead_71 rfl rfl ?_
            refine g_get dX11_ahead_72 fl_X11_58 hp_46 rfl ?_
            refine g_bipush (v := 39) dX11_ahead_75 (by decide) ?_
            refine g_ra dX11_ahead_77 hp_63 (k := 39) rfl (by decide) (by decide) ?_
            try simp (disch := omega) only [up_at, up_up, up_ne, up2_at, up2_ne]
            refine g_goto (tgt := 88) dX11_ahead_78 (by decide) ?_
            refine g_istore dX11_ahead_88 (by decide) ?_
            refine g_aload_n dX11_ahead_90 rfl rfl ?_
            refine g_callV dX11_ahead_91 cv_X11_364 (as' := []) hp_46 rfl e_takeBack (by decide) rfl rfl (Nat.le_of_ble_eq_true rfl) ?_
            rintro _ _ ⟨rfl, rfl⟩
            try simp (disch := omega) only [up_at, up_up, up_ne, up2_at, up2_ne]
            refine g_iload dX11_ahead_94 rfl ?_
            exact g_iret dX11_ahead_96 ⟨congrArg (fun z => some (Value.int z)) (show _ = ahS A I n w p from by rw [hv, if_pos c_68, ho]; exact (RJ_56 hL.2.1).1), _, _, _, as_back (as_step hA0 hL), rfl⟩
      · refine g_ic_m1 dX11_ahead_26 ?_
        exact g_iret dX11_ahead_27 ⟨congrArg (fun z => some (Value.int z)) (show _ = ahS A I n w p from (if_pos (Or.inr (Or.inr (Or.inr ((in_0.mp c_23).elim Or.inl (fun z => Or.inr (Int32.not_le.mpr z))))))).symm), _, _, _, smM_rf, rfl⟩
