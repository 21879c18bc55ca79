/-! THE REFERENCE READS A PLAIN: numbers, items -/
/-- all but the place of reading -/
def sI (I I1 : Nat → Nat → Int32) : Prop := ∀ i k, ¬ (i = 46 ∧ (k = 3 ∨ k = 4)) → I1 i k = I i k
theorem sI_rf {I : Nat → Nat → Int32} : sI I I := fun _ _ _ => rfl
theorem sI_tr {I I1 I2 : Nat → Nat → Int32} (h : sI I I1) (k : sI I1 I2) : sI I I2 := fun i l z => (k i l z).trans (h i l z)
theorem sI_u {I I1 : Nat → Nat → Int32} {k : Nat} {v : Int32} (h : sI I I1) (hk : k = 3 ∨ k = 4) : sI I (up2 I1 46 k v) := fun i l z => (up2_ne (fun w => z ⟨w.1, by rw [w.2]; exact hk⟩)).trans (h i l z)
/-- a number of one or two digits: what it leaves -/
def nbQ (n : Nat) (I : Nat → Nat → Int32) (r : PR Int32) (v : Int32) (I1 : Nat → Nat → Int32) : Prop := sI I I1 ∧ match r with
  | .inl p => I1 46 4 = nI p ∧ p ≤ n
  | .inr (d, w) => v = w ∧ I1 46 3 = nI d ∧ I1 46 4 = (-1) ∧ d ≤ n
theorem dgL_2a {T : Nat → Int32} {n a : Nat} {v : Int32} (h : isDg (bt T n a)) (h2 : isDg (bt T n (a + 1))) : dgL T n 2 a v = (((v * 10 + bt T n a - 48) * 10 + bt T n (a + 1) - 48), a + 2) := (if_pos h).trans (if_pos h2)
theorem dgL_2b {T : Nat → Int32} {n a : Nat} {v : Int32} (h : isDg (bt T n a)) (h2 : ¬ isDg (bt T n (a + 1))) : dgL T n 2 a v = (v * 10 + bt T n a - 48, a + 1) := (if_pos h).trans (if_neg h2)
set_option maxHeartbeats 800000 in
set_option maxRecDepth 100000 in
theorem e_number {A : Nat → Nat → Int32} {L : Nat → Nat → Int64} {I : Nat → Nat → Int32} {X : Nat → Int64} {n b : Nat} {lo hi : Int32} (h2 : I 46 2 = nI n) (hn : n ≤ 240) (h3 : I 46 3 = nI b) (hb : b ≤ n) (w1 : I 46 4 = (-1)) : Con 3 yX11_number cX11_number 4 (some .int) [.ref 46, .int lo, .int hi] (hp A L I X) (fun r_ H_ => ∃ v I1, r_ = some (.int v) ∧ H_ = hp A L I1 X ∧ nbQ n I (numP (A 47) n 2 lo hi b) v I1) := by
  refine m_con (by decide) (Nat.le_of_ble_eq_true rfl) ?_
  refine g_aload_n dX11_number_0 rfl rfl ?_
  refine g_callV dX11_number_1 cv_X11_135 (as' := []) hp_46 rfl (e_look h2 hn h3 hb) (by decide) rfl rfl (Nat.le_of_ble_eq_true rfl) ?_
  rintro _ _ ⟨rfl, rfl⟩
  have k2 : (up2 I 46 3 (nI (sk (A 47) n b))) 46 2 = nI n := (up2_ne (by decide)).trans h2
  have k3 : (up2 I 46 3 (nI (sk (A 47) n b))) 46 3 = nI (sk (A 47) n b) := up2_at
  have k4 : (up2 I 46 3 (nI (sk (A 47) n b))) 46 4 = (-1) := (up2_ne (by decide)).trans w1
  have hskl := sk_le (T := A 47) hb
  refine g_callS dX11_number_4 cs_X11_138 (as := [_]) e_digit (by decide) rfl rfl (Nat.le_of_ble_eq_true rfl) ?_
  rintro _ _ ⟨rfl, rfl⟩
  refine g_if_ne (tgt := 16) dX11_number_7 (by decide) (fun c_7 => ?_) (fun c_7 => ?_)
  · have sd : isDg (bt (A 47) n (sk (A 47) n b)) := Decidable.byContradiction (fun z => c_7 (dg_Z.mpr z))
    refine g_aload_n dX11_number_16 rfl rfl ?_
    refine g_callV dX11_number_17 cv_X11_119 (as' := []) hp_46 rfl (e_here k2 hn k3 (by omega)) (by decide) rfl rfl (Nat.le_of_ble_eq_true rfl) ?_
    rintro _ _ ⟨rfl, rfl⟩
    refine g_bipush (v := 48) dX11_number_20 (by decide) ?_
    refine g_isub dX11_number_22 ?_
    refine g_istore_n dX11_number_23 rfl (by decide) ?_
    refine g_aload_n dX11_number_24 rfl rfl ?_
    refine g_dup dX11_number_25 rfl ?_
    refine g_get dX11_number_26 fl_X11_116 hp_46 rfl ?_
    refine g_ic_1 dX11_number_29 ?_
    refine g_iadd dX11_number_30 ?_
    refine g_puti dX11_number_31 fw_X11_116 hp_46 (Nat.le_of_ble_eq_true rfl) ?_
    rw [hq_46_3]
    refine g_aload_n dX11_number_34 rfl rfl ?_
    rw [k3, nI_1]
    refine g_callV dX11_number_35 cv_X11_119 (as' := []) hp_46 rfl (e_here (b := (sk (A 47) n b) + 1) ((up2_ne (by decide)).trans k2) hn up2_at (by omega)) (by decide) rfl rfl (Nat.le_of_ble_eq_true rfl) ?_
    rintro _ _ ⟨rfl, rfl⟩
    refine g_callS dX11_number_38 cs_X11_138 (as := [_]) e_digit (by decide) rfl rfl (Nat.le_of_ble_eq_true rfl) ?_
    rintro _ _ ⟨rfl, rfl⟩
    refine g_if_eq (tgt := 67) dX11_number_41 (by decide) (fun c_41 => ?_) (fun c_41 => ?_)
    · obtain ⟨I9, hI9⟩ : ∃ I9, I9 = (up2 (up2 I 46 3 (nI (sk (A 47) n b))) 46 3 (nI ((sk (A 47) n b) + 1))) := ⟨_, rfl⟩
      rw [← hI9]
      have a3 : I9 46 3 = nI ((sk (A 47) n b) + 1) := by rw [hI9, up2_at]
      have w3 : I9 46 4 = (-1) := by rw [hI9, up2_ne (by decide), up2_ne (by decide)]; exact w1
      have s3 : sI I I9 := by rw [hI9]; exact sI_u (sI_u sI_rf (Or.inl rfl)) (Or.inl rfl)
      have h29 : I9 46 2 = nI n := by rw [hI9, up2_ne (by decide), up2_ne (by decide)]; exact h2
      have le3 : (sk (A 47) n b) + 1 ≤ n := isDg_lt sd
      have e0 : (0 * 10 + bt (A 47) n (sk (A 47) n b) - 48) = bt (A 47) n (sk (A 47) n b) - 48 := by
        rw [Int32.zero_mul, Int32.zero_add]
      refine g_aload_n dX11_number_67 rfl rfl ?_
      refine g_callV dX11_number_68 cv_X11_119 (as' := []) hp_46 rfl (e_here h29 hn a3 (by omega)) (by decide) rfl rfl (Nat.le_of_ble_eq_true rfl) ?_
      rintro _ _ ⟨rfl, rfl⟩
      refine g_callS dX11_number_71 cs_X11_138 (as := [_]) e_digit (by decide) rfl rfl (Nat.le_of_ble_eq_true rfl) ?_
      rintro _ _ ⟨rfl, rfl⟩
      refine g_if_eq (tgt := 84) dX11_number_74 (by decide) (fun c_74 => ?_) (fun c_74 => ?_)
      · refine g_iload_n dX11_number_84 rfl rfl ?_
        refine g_iload_n dX11_number_85 rfl rfl ?_
        refine g_iload_n dX11_number_86 rfl rfl ?_
        refine g_callS dX11_number_87 cs_X11_221 (as := [_, _, _]) e_in (by decide) rfl rfl (Nat.le_of_ble_eq_true rfl) ?_
        rintro _ _ ⟨rfl, rfl⟩
        refine g_if_ne (tgt := 107) dX11_number_90 (by decide) (fun c_90 => ?_) (fun c_90 => ?_)
        · refine g_iload_n dX11_number_107 rfl rfl ?_
          exact g_iret dX11_number_108 ⟨_, _, rfl, rfl, by rw [show numP (A 47) n 2 lo hi b = .inr ((sk (A 47) n b + 1), (0 * 10 + bt (A 47) n (sk (A 47) n b) - 48)) from (if_pos sd).trans (by rw [(show dgL (A 47) n 2 (sk (A 47) n b) 0 = ((0 * 10 + bt (A 47) n (sk (A 47) n b) - 48), (sk (A 47) n b + 1)) from dgL_2b sd (dg_Z.mp c_41))]; exact (if_neg (dg_Z.mp c_74)).trans (if_neg (by rw [e0]; exact fun z => c_90 (in_0.mpr z))))]; exact ⟨s3, e0.symm, a3, w3, le3⟩⟩
        · refine g_aload_n dX11_number_93 rfl rfl ?_
          refine g_dup dX11_number_94 rfl ?_
          refine g_get dX11_number_95 fl_X11_116 hp_46 rfl ?_
          refine g_ic_1 dX11_number_98 ?_
          refine g_isub dX11_number_99 ?_
          refine g_puti dX11_number_100 fw_X11_116 hp_46 (Nat.le_of_ble_eq_true rfl) ?_
          rw [hq_46_3]
          refine g_aload_n dX11_number_103 rfl rfl ?_
          have w4 : (up2 I9 46 3 (I9 46 3 - 1)) 46 4 = (-1) := (up2_ne (by decide)).trans w3
          refine g_callV dX11_number_104 cv_X11_132 (as' := []) hp_46 rfl e_bad (by decide) rfl rfl (Nat.le_of_ble_eq_true rfl) ?_
          rintro _ _ ⟨rfl, rfl⟩
          refine g_iload_n dX11_number_107 rfl rfl ?_
          exact g_iret dX11_number_108 ⟨_, _, rfl, rfl, by rw [show numP (A 47) n 2 lo hi b = .inl ((sk (A 47) n b + 1) - 1) from (if_pos sd).trans (by rw [(show dgL (A 47) n 2 (sk (A 47) n b) 0 = ((0 * 10 + bt (A 47) n (sk (A 47) n b) - 48), (sk (A 47) n b + 1)) from dgL_2b sd (dg_Z.mp c_41))]; exact (if_neg (dg_Z.mp c_74)).trans (if_pos (by rw [e0]; exact in_0.mp c_90)))]; exact ⟨by rw [if_pos w4]; exact sI_u (sI_u s3 (Or.inl rfl)) (Or.inr rfl), by rw [if_pos w4, up2_at, up2_at, a3]; exact pk_sub (a := (sk (A 47) n b + 1)) (b := 1) (by omega), by omega⟩⟩
      · refine g_aload_n dX11_number_77 rfl rfl ?_
        refine g_callV dX11_number_78 cv_X11_132 (as' := []) hp_46 rfl e_bad (by decide) rfl rfl (Nat.le_of_ble_eq_true rfl) ?_
        rintro _ _ ⟨rfl, rfl⟩
        refine g_goto (tgt := 107) dX11_number_81 (by decide) ?_
        refine g_iload_n dX11_number_107 rfl rfl ?_
        exact g_iret dX11_number_108 ⟨_, _, rfl, rfl, by rw [show numP (A 47) n 2 lo hi b = .inl (sk (A 47) n b + 1) from (if_pos sd).trans (by rw [(show dgL (A 47) n 2 (sk (A 47) n b) 0 = ((0 * 10 + bt (A 47) n (sk (A 47) n b) - 48), (sk (A 47) n b + 1)) from dgL_2b sd (dg_Z.mp c_41))]; exact if_pos (Decidable.byContradiction (fun z => c_74 (dg_Z.mpr z))))]; exact ⟨by rw [if_pos w3]; exact sI_u s3 (Or.inr rfl), by rw [if_pos w3, up2_at]; exact a3, le3⟩⟩
    · have sd2 : isDg (bt (A 47) n ((sk (A 47) n b) + 1)) := Decidable.byContradiction (fun z => c_41 (dg_Z.mpr z))
      refine g_bipush (v := 10) dX11_number_44 (by decide) ?_
      refine g_iload_n dX11_number_46 rfl rfl ?_
      refine g_imul dX11_number_47 ?_
      refine g_aload_n dX11_number_48 rfl rfl ?_
      refine g_callV dX11_number_49 cv_X11_119 (as' := []) hp_46 rfl (e_here (b := (sk (A 47) n b) + 1) ((up2_ne (by decide)).trans k2) hn up2_at (by omega)) (by decide) rfl rfl (Nat.le_of_ble_eq_true rfl) ?_
      rintro _ _ ⟨rfl, rfl⟩
      refine g_iadd dX11_number_52 ?_
      refine g_bipush (v := 48) dX11_number_53 (by decide) ?_
      refine g_isub dX11_number_55 ?_
      refine g_istore_n dX11_number_56 rfl (by decide) ?_
      refine g_aload_n dX11_number_57 rfl rfl ?_
      refine g_dup dX11_number_58 rfl ?_
      refine g_get dX11_number_59 fl_X11_116 hp_46 rfl ?_
      refine g_ic_1 dX11_number_62 ?_
      refine g_iadd dX11_number_63 ?_
      refine g_puti dX11_number_64 fw_X11_116 hp_46 (Nat.le_of_ble_eq_true rfl) ?_
      rw [hq_46_3]
      have hlt2 := isDg_lt sd2
      obtain ⟨I9, hI9⟩ : ∃ I9, I9 = up2 (up2 (up2 I 46 3 (nI (sk (A 47) n b))) 46 3 (nI ((sk (A 47) n b) + 1))) 46 3 ((up2 (up2 I 46 3 (nI (sk (A 47) n b))) 46 3 (nI ((sk (A 47) n b) + 1))) 46 3 + 1) := ⟨_, rfl⟩
      rw [← hI9]
      have a3 : I9 46 3 = nI ((sk (A 47) n b) + 2) := by rw [hI9, up2_at, up2_at, nI_1]
      have w3 : I9 46 4 = (-1) := by rw [hI9, up2_ne (by decide), up2_ne (by decide), up2_ne (by decide)]; exact w1
      have s3 : sI I I9 := by rw [hI9]; exact sI_u (sI_u (sI_u sI_rf (Or.inl rfl)) (Or.inl rfl)) (Or.inl rfl)
      have h29 : I9 46 2 = nI n := by rw [hI9, up2_ne (by decide), up2_ne (by decide), up2_ne (by decide)]; exact h2
      have le3 : (sk (A 47) n b) + 2 ≤ n := hlt2
      have e0 : ((0 * 10 + bt (A 47) n (sk (A 47) n b) - 48) * 10 + bt (A 47) n ((sk (A 47) n b) + 1) - 48) = 10 * (bt (A 47) n (sk (A 47) n b) - 48) + bt (A 47) n ((sk (A 47) n b) + 1) - 48 := by
        rw [Int32.zero_mul, Int32.zero_add, Int32.mul_comm]
      refine g_aload_n dX11_number_67 rfl rfl ?_
      refine g_callV dX11_number_68 cv_X11_119 (as' := []) hp_46 rfl (e_here h29 hn a3 (by omega)) (by decide) rfl rfl (Nat.le_of_ble_eq_true rfl) ?_
      rintro _ _ ⟨rfl, rfl⟩
      refine g_callS dX11_number_71 cs_X11_138 (as := [_]) e_digit (by decide) rfl rfl (Nat.le_of_ble_eq_true rfl) ?_
      rintro _ _ ⟨rfl, rfl⟩
      refine g_if_eq (tgt := 84) dX11_number_74 (by decide) (fun c_74 => ?_) (fun c_74 => ?_)
      · refine g_iload_n dX11_number_84 rfl rfl ?_
        refine g_iload_n dX11_number_85 rfl rfl ?_
        refine g_iload_n dX11_number_86 rfl rfl ?_
        refine g_callS dX11_number_87 cs_X11_221 (as := [_, _, _]) e_in (by decide) rfl rfl (Nat.le_of_ble_eq_true rfl) ?_
        rintro _ _ ⟨rfl, rfl⟩
        refine g_if_ne (tgt := 107) dX11_number_90 (by decide) (fun c_90 => ?_) (fun c_90 => ?_)
        · refine g_iload_n dX11_number_107 rfl rfl ?_
          exact g_iret dX11_number_108 ⟨_, _, rfl, rfl, by rw [show numP (A 47) n 2 lo hi b = .inr ((sk (A 47) n b + 2), ((0 * 10 + bt (A 47) n (sk (A 47) n b) - 48) * 10 + bt (A 47) n ((sk (A 47) n b) + 1) - 48)) from (if_pos sd).trans (by rw [(show dgL (A 47) n 2 (sk (A 47) n b) 0 = (((0 * 10 + bt (A 47) n (sk (A 47) n b) - 48) * 10 + bt (A 47) n ((sk (A 47) n b) + 1) - 48), (sk (A 47) n b + 2)) from dgL_2a sd sd2)]; exact (if_neg (dg_Z.mp c_74)).trans (if_neg (by rw [e0]; exact fun z => c_90 (in_0.mpr z))))]; exact ⟨s3, e0.symm, a3, w3, le3⟩⟩
        · refine g_aload_n dX11_number_93 rfl rfl ?_
          refine g_dup dX11_number_94 rfl ?_
          refine g_get dX11_number_95 fl_X11_116 hp_46 rfl ?_
          refine g_ic_1 dX11_number_98 ?_
          refine g_isub dX11_number_99 ?_
          refine g_puti dX11_number_100 fw_X11_116 hp_46 (Nat.le_of_ble_eq_true rfl) ?_
          rw [hq_46_3]
          refine g_aload_n dX11_number_103 rfl rfl ?_
          have w4 : (up2 I9 46 3 (I9 46 3 - 1)) 46 4 = (-1) := (up2_ne (by decide)).trans w3
          refine g_callV dX11_number_104 cv_X11_132 (as' := []) hp_46 rfl e_bad (by decide) rfl rfl (Nat.le_of_ble_eq_true rfl) ?_
          rintro _ _ ⟨rfl, rfl⟩
          refine g_iload_n dX11_number_107 rfl rfl ?_
          exact g_iret dX11_number_108 ⟨_, _, rfl, rfl, by rw [show numP (A 47) n 2 lo hi b = .inl ((sk (A 47) n b + 2) - 1) from (if_pos sd).trans (by rw [(show dgL (A 47) n 2 (sk (A 47) n b) 0 = (((0 * 10 + bt (A 47) n (sk (A 47) n b) - 48) * 10 + bt (A 47) n ((sk (A 47) n b) + 1) - 48), (sk (A 47) n b + 2)) from dgL_2a sd sd2)]; exact (if_neg (dg_Z.mp c_74)).trans (if_pos (by rw [e0]; exact in_0.mp c_90)))]; exact ⟨by rw [if_pos w4]; exact sI_u (sI_u s3 (Or.inl rfl)) (Or.inr rfl), by rw [if_pos w4, up2_at, up2_at, a3]; exact pk_sub (a := (sk (A 47) n b + 2)) (b := 1) (by omega), by omega⟩⟩
      · refine g_aload_n dX11_number_77 rfl rfl ?_
        refine g_callV dX11_number_78 cv_X11_132 (as' := []) hp_46 rfl e_bad (by decide) rfl rfl (Nat.le_of_ble_eq_true rfl) ?_
        rintro _ _ ⟨rfl, rfl⟩
        refine g_goto (tgt := 107) dX11_number_81 (by decide) ?_
        refine g_iload_n dX11_number_107 rfl rfl ?_
        exact g_iret dX11_number_108 ⟨_, _, rfl, rfl, by rw [show numP (A 47) n 2 lo hi b = .inl (sk (A 47) n b + 2) from (if_pos sd).trans (by rw [(show dgL (A 47) n 2 (sk (A 47) n b) 0 = (((0 * 10 + bt (A 47) n (sk (A 47) n b) - 48) * 10 + bt (A 47) n ((sk (A 47) n b) + 1) - 48), (sk (A 47) n b + 2)) from dgL_2a sd sd2)]; exact if_pos (Decidable.byContradiction (fun z => c_74 (dg_Z.mpr z))))]; exact ⟨by rw [if_pos w3]; exact sI_u s3 (Or.inr rfl), by rw [if_pos w3, up2_at]; exact a3, le3⟩⟩
  · refine g_aload_n dX11_number_10 rfl rfl ?_
    refine g_callV dX11_number_11 cv_X11_132 (as' := []) hp_46 rfl e_bad (by decide) rfl rfl (Nat.le_of_ble_eq_true rfl) ?_
    rintro _ _ ⟨rfl, rfl⟩
    rw [k4]
    refine g_iload_n dX11_number_14 rfl rfl ?_
    exact g_iret dX11_number_15 ⟨_, _, rfl, rfl, by rw [show numP (A 47) n 2 lo hi b = .inl (sk (A 47) n b) from if_neg (dg_Z.mp c_7)]; exact ⟨by rw [if_pos (rfl : (-1 : Int32) = (-1))]; exact sI_u (sI_u sI_rf (Or.inl rfl)) (Or.inr rfl), by rw [if_pos (rfl : (-1 : Int32) = (-1)), up2_at, up2_at], sk_le hb⟩⟩

/-! items -/
def pcnt (h : Nat) : Nat := h % 2 + h / 2 % 2 + h / 4 % 2 + h / 8 % 2 + h / 16 % 2
theorem pc_le : ∀ h, h < 32 → pcnt h ≤ 5 := by decide +kernel
theorem pc_up : ∀ h, h < 32 → ∀ l, l < 5 → haZ (nI h) (nI l) = 0 → nI h ||| (1 <<< (nI l &&& 31)) = nI (h + 2 ^ l) ∧ h + 2 ^ l < 32 ∧ pcnt (h + 2 ^ l) = pcnt h + 1 := by decide +kernel
theorem ha_b {s k : Int32} : haZ s k = 0 ↔ ¬ (s >>> (k &&& 31)) &&& 1 = 1 := by
  unfold haZ
  by_cases h : (s >>> (k &&& 31)) &&& 1 = 1
  · rw [if_pos h]; exact ⟨fun z => absurd z (by decide), fun z => absurd h z⟩
  · rw [if_neg h]; exact ⟨fun _ => h, fun _ => rfl⟩
section IT
variable {T : Nat → Int32} {n f a : Nat} {k place had : Int32} {D : ROW}
theorem itL_ok (hs : sk T n a = a) (h : bt T n a = 59 ∨ bt T n a = (-1)) : itL T n k place (f + 1) a had D = .inr (a, D) := by
  unfold itL
  rw [hs, if_pos h]
theorem itL_no (hs : sk T n a = a) (h : ¬ (bt T n a = 59 ∨ bt T n a = (-1))) (h2 : lfS (txI k) (bt T n a) < 0 ∨ (had >>> (lfS (txI k) (bt T n a) &&& 31)) &&& 1 = 1) : itL T n k place (f + 1) a had D = .inl a := by
  unfold itL
  rw [hs, if_neg h, if_pos h2]
theorem itL_l {p : Nat} (hs : sk T n a = a) (h : ¬ (bt T n a = 59 ∨ bt T n a = (-1))) (h2 : ¬ (lfS (txI k) (bt T n a) < 0 ∨ (had >>> (lfS (txI k) (bt T n a) &&& 31)) &&& 1 = 1)) (h3 : numP T n 2 (gt 15 m_lo (k * 5 + lfS (txI k) (bt T n a))) (gt 15 m_hi (k * 5 + lfS (txI k) (bt T n a))) (a + 1) = .inl p) : itL T n k place (f + 1) a had D = .inl p := by
  unfold itL
  rw [hs, if_neg h, if_neg h2]
  simp only [h3]
theorem itL_r {d : Nat} {v : Int32} (hs : sk T n a = a) (h : ¬ (bt T n a = 59 ∨ bt T n a = (-1))) (h2 : ¬ (lfS (txI k) (bt T n a) < 0 ∨ (had >>> (lfS (txI k) (bt T n a) &&& 31)) &&& 1 = 1)) (h3 : numP T n 2 (gt 15 m_lo (k * 5 + lfS (txI k) (bt T n a))) (gt 15 m_hi (k * 5 + lfS (txI k) (bt T n a))) (a + 1) = .inr (d, v)) : itL T n k place (f + 1) a had D = itL T n k place f d (had ||| (1 <<< (lfS (txI k) (bt T n a) &&& 31))) (pt 143 D (place + lfS (txI k) (bt T n a)) v) := by
  conv => lhs; unfold itL
  rw [hs, if_neg h, if_neg h2]
  simp only [h3]
theorem itL_sk : itL T n k place (f + 1) (sk T n a) had D = itL T n k place (f + 1) a had D := by
  conv => lhs; unfold itL
  conv => rhs; unfold itL
  rw [sk_sk]
end IT
theorem numP_in {T : Nat → Int32} {n j a d : Nat} {lo hi v : Int32} (h : numP T n j lo hi a = .inr (d, v)) : ¬ v < lo ∧ ¬ hi < v := by
  unfold numP at h
  split at h
  · split at h
    · cases h
    · split at h
      · cases h
      · rename_i h1 h2 h3
        cases h
        exact ⟨fun z => h3 (Or.inl z), fun z => h3 (Or.inr z)⟩
  · cases h
/-- a number within its bounds -/
def LH (kd l : Nat) (v : Int32) : Prop := ¬ v < gt 15 m_lo (nI kd * 5 + nI l) ∧ ¬ gt 15 m_hi (nI kd * 5 + nI l) < v
def IR (ar kd f0 p0 w : Nat) (D : ROW) (A : Nat → Nat → Int32) : Prop := ∀ k, k < w → A ar (f0 + k) = D (p0 + k) ∧ LH kd k (D (p0 + k))
def AX (ar f0 w : Nat) (A0 A : Nat → Nat → Int32) : Prop := (∀ i, i ≠ ar → A i = A0 i) ∧ ∀ j, (j < f0 ∨ f0 + w ≤ j) → A ar j = A0 ar j
def DX (p0 w : Nat) (D0 D : ROW) : Prop := ∀ j, (j < p0 ∨ p0 + w ≤ j) → D j = D0 j
theorem AX_up {ar f0 w l : Nat} {A0 A : Nat → Nat → Int32} {v : Int32} (h : AX ar f0 w A0 A) (hl : l < w) : AX ar f0 w A0 (up A ar (upd (A ar) (f0 + l) v)) :=
  ⟨fun i z => (up_ne z).trans (h.1 i z), fun j hj => by rw [up_at, ud_ne (by omega)]; exact h.2 j hj⟩
theorem DX_up {p0 w l : Nat} {D0 D : ROW} {v : Int32} (h : DX p0 w D0 D) (hl : l < w) : DX p0 w D0 (upd D (p0 + l) v) := fun j hj => by
  rw [ud_ne (by omega)]; exact h j hj
theorem IR_up {ar kd f0 p0 w l : Nat} {D : ROW} {A : Nat → Nat → Int32} {v : Int32} (h : IR ar kd f0 p0 w D A) (hl : l < w) (hv : LH kd l v) : IR ar kd f0 p0 w (upd D (p0 + l) v) (up A ar (upd (A ar) (f0 + l) v)) := by
  intro k hk
  rw [up_at]
  by_cases c : k = l
  · rw [c, ud_at, ud_at]; exact ⟨rfl, hv⟩
  · rw [ud_ne (by omega), ud_ne (by omega)]; exact h k hk
/-- what items leave -/
def ITQ (T : Nat → Int32) (n ar kd f0 p0 w : Nat) (D0 : ROW) (A0 I0 : Nat → Nat → Int32) (R : PR ROW) (A I : Nat → Nat → Int32) : Prop := AX ar f0 w A0 A ∧ sI I0 I ∧ ((∃ p, R = .inl p ∧ I 46 4 = nI p ∧ p ≤ n) ∨ (I 46 4 = (-1) ∧ ∃ b, I 46 3 = nI b ∧ b ≤ n ∧ sk T n b = b ∧ ((R = .inl b ∧ ¬ (bt T n b = 59 ∨ bt T n b = (-1))) ∨ ∃ D', R = .inr (b, D') ∧ (bt T n b = 59 ∨ bt T n b = (-1)) ∧ DX p0 w D0 D' ∧ IR ar kd f0 p0 w D' A)))
theorem nb_ne {n : Nat} {I I1 : Nat → Nat → Int32} {r : PR Int32} {v : Int32} (h : nbQ n I r v I1) (hw : ¬ I1 46 4 = (-1)) : ∃ p, r = .inl p ∧ I1 46 4 = nI p ∧ p ≤ n := by
  cases r with
  | inl p => exact ⟨p, rfl, h.2.1, h.2.2⟩
  | inr x => exact absurd h.2.2.2.1 hw
theorem nb_eq {n : Nat} {I I1 : Nat → Nat → Int32} {r : PR Int32} {v : Int32} (hn : n ≤ 240) (h : nbQ n I r v I1) (hw : I1 46 4 = (-1)) : ∃ d, r = .inr (d, v) ∧ I1 46 3 = nI d ∧ d ≤ n := by
  cases r with
  | inl p =>
    have e1 : nI p = (-1) := h.2.1.symm.trans hw
    have hp2 : p ≤ n := h.2.2
    exact absurd (Int32.le_trans (nI_pos' (n := p) (by omega)) (Int32.le_of_eq e1)) (by decide)
  | inr x =>
    obtain ⟨d, w⟩ := x
    obtain ⟨-, h1, h2, h3, h4⟩ := h
    subst h1
    exact ⟨d, rfl, h2, h4⟩
theorem it_lf0 : ∀ v, v < 256 → lfS 0 (nI v) = itZ 115 (nI v) := by decide +kernel
theorem it_bt0 {A0 I0 : Nat → Nat → Int32} {n a : Nat} (tp : tpM A0 I0 n) : lfS (txI (nI 0)) (bt (A0 47) n a) = itZ 115 (bt (A0 47) n a) := by
  show lfS 0 _ = _
  by_cases c : a < n
  · obtain ⟨v, v0, v1, v2⟩ := tp.2.2 a c
    rw [bt_in c, v2]
    exact it_lf0 v v1
  · rw [bt_out (by omega)]
    decide
theorem it_v0 : ∀ v, v < 256 → itZ 115 (nI v) = (-1) ∨ ∃ l, l < 4 ∧ itZ 115 (nI v) = nI l := by decide +kernel
theorem it_b0 {A0 I0 : Nat → Nat → Int32} {n a : Nat} (tp : tpM A0 I0 n) (h : ¬ itZ 115 (bt (A0 47) n a) = (-1)) : ∃ l, l < 4 ∧ itZ 115 (bt (A0 47) n a) = nI l := by
  by_cases c : a < n
  · obtain ⟨v, v0, v1, v2⟩ := tp.2.2 a c
    rw [bt_in c, v2] at h ⊢
    exact (it_v0 v v1).resolve_left h
  · rw [bt_out (by omega)] at h
    exact absurd (by decide) h
theorem it_lo0 : ∀ l, l < 4 → gt 15 m_lo (nI 0 * 5 + nI l) = lwZ 115 (nI l) ∧ gt 15 m_hi (nI 0 * 5 + nI l) = hiZ 115 (nI l) := by decide +kernel
theorem it_us0 : ∀ l, l < 4 → gt 15 m_us (nI 0 * 5 + nI l) = usZ 115 (nI l) ∧ LH 0 l (usZ 115 (nI l)) := by unfold LH; decide +kernel
set_option maxHeartbeats 800000 in
set_option maxRecDepth 100000 in
theorem e_itf0 {A I : Nat → Nat → Int32} {L : Nat → Nat → Int64} {X : Nat → Int64} {f0 : Nat} {Q : Option Value → m_H → Prop} {g k : Option Value} (hw : ¬ I 46 4 = (-1)) (hQ : Q none (hp A L I X)) : G 4 RX11 cX11_items 7 none Q 41 [some (.ref 46), some (.int (115)), some (.ref 57), some (.int (nI f0)), some (.int (nI 4)), g, k] [] (hp A L I X) := by
  refine g_aload_n dX11_items_41 rfl rfl ?_
  refine g_get dX11_items_42 fl_X11_123 hp_46 rfl ?_
  refine g_ic_m1 dX11_items_45 ?_
  refine g_icmp_ne (tgt := 131) dX11_items_46 (by decide) (fun c_46 => ?_) (fun c_46 => ?_)
  · exact g_vret dX11_items_131 hQ
  · exact absurd c_46 hw

def usA (kc : Int32) (F : ROW) (f0 k : Nat) : ROW := fun j => if f0 ≤ j ∧ j < f0 + k then usZ kc (nI (j - f0)) else F j
theorem usA_0 {kc : Int32} {F : ROW} {f0 : Nat} : usA kc F f0 0 = F := by
  funext j
  exact if_neg (by omega)
theorem usA_s {kc : Int32} {F : ROW} {f0 k : Nat} : upd (usA kc F f0 k) (f0 + k) (usZ kc (nI k)) = usA kc F f0 (k + 1) := by
  funext j
  by_cases c : j = f0 + k
  · rw [c, ud_at]
    unfold usA
    rw [if_pos (by omega), show f0 + k - f0 = k by omega]
  · rw [ud_ne c]
    unfold usA
    by_cases c2 : f0 ≤ j ∧ j < f0 + k
    · rw [if_pos c2, if_pos (by omega)]
    · rw [if_neg c2, if_neg (by omega)]
theorem usF_at {D : ROW} {kd p0 w : Nat} (hp0 : p0 + w ≤ 143) : ∀ i, i ≤ w → DX p0 w D (usF D (nI kd) (nI p0) i) ∧ ∀ k, k < i → usF D (nI kd) (nI p0) i (p0 + k) = gt 15 m_us (nI kd * 5 + nI k)
  | 0, _ => ⟨fun _ _ => rfl, fun k hk => by omega⟩
  | i + 1, hi => by
    obtain ⟨h1, h2⟩ := usF_at (D := D) (kd := kd) hp0 i (by omega)
    have e : usF D (nI kd) (nI p0) (i + 1) = upd (usF D (nI kd) (nI p0) i) (p0 + i) (gt 15 m_us (nI kd * 5 + nI i)) := by
      show pt 143 _ (nI p0 + nI i) _ = _
      rw [nI_add, pt_nI (by omega) (by decide)]
    rw [e]
    refine ⟨fun j hj => by rw [ud_ne (by omega)]; exact h1 j hj, fun k hk => ?_⟩
    by_cases c : k = i
    · rw [c, ud_at]
    · rw [ud_ne (by omega)]
      exact h2 k (by omega)
theorem it_59_0 : ∀ l, l < 4 → ¬ itZ 115 59 = nI l := by decide +kernel
theorem it_m1_0 : ∀ l, l < 4 → ¬ itZ 115 (-1) = nI l := by decide +kernel
set_option maxHeartbeats 800000 in
set_option maxRecDepth 100000 in
theorem e_it0 {A0 I0 : Nat → Nat → Int32} {L : Nat → Nat → Int64} {X : Nat → Int64} {n f0 p0 : Nat} {D0 : ROW} {Q : Option Value → m_H → Prop} (tp : tpM A0 I0 n) (hf : f0 + 4 ≤ 4) (hp0 : p0 + 4 ≤ 143) : ∀ f h a D A1 I1, AX 57 f0 4 A0 A1 → sI I0 I1 → DX p0 4 D0 D → IR 57 0 f0 p0 4 D A1 → h < 32 → pcnt h + f = 6 → I1 46 4 = (-1) → I1 46 3 = nI a → a ≤ n → sk (A0 47) n a = a → (∀ A9 I9, ITQ (A0 47) n 57 0 f0 p0 4 D0 A0 I0 (itL (A0 47) n (nI 0) (nI p0) f a (nI h) D) A9 I9 → Q none (hp A9 L I9 X)) → G 4 RX11 cX11_items 7 none Q 41 [some (.ref 46), some (.int (115)), some (.ref 57), some (.int (nI f0)), some (.int (nI 4)), some (.int (nI h)), some (.int (itZ 115 (bt (A0 47) n a)))] [] (hp A1 L I1 X) := by
  intro f
  induction f using Nat.strongRecOn with
  | ind f ih =>
    intro h a D A1 I1 hA hI hD hR h32 hpc w1 h3 ha hs hQ
    refine g_aload_n dX11_items_41 rfl rfl ?_
    refine g_get dX11_items_42 fl_X11_123 hp_46 rfl ?_
    try simp (disch := omega) only [up_at, up_up, up_ne]
    refine g_ic_m1 dX11_items_45 ?_
    refine g_icmp_ne (tgt := 131) dX11_items_46 (by decide) (fun c_46 => ?_) (fun c_46 => ?_)
    · exact absurd w1 c_46
    · have e47 : A1 47 = A0 47 := hA.1 47 (by decide)
      have k2 : I1 46 2 = nI n := (hI 46 2 (by decide)).trans tp.1
      have hn := tp.2.1
      refine g_iload dX11_items_49 rfl ?_
      refine g_ic_m1 dX11_items_51 ?_
      refine g_icmp_eq (tgt := 131) dX11_items_52 (by decide) (fun c_52 => ?_) (fun c_52 => ?_)
      · exact g_vret dX11_items_131 (hQ _ _ ⟨hA, hI, Or.inr ⟨w1, a, h3, ha, hs, by obtain ⟨f2, rfl⟩ : ∃ f2, f = f2 + 1 := ⟨f - 1, by have := pc_le h h32; omega⟩; by_cases c : (bt (A0 47) n a) = 59 ∨ (bt (A0 47) n a) = (-1); exact Or.inr ⟨D, itL_ok hs c, c, hD, hR⟩; exact Or.inl ⟨itL_no hs c (Or.inl (by rw [it_bt0 tp, c_52]; decide)), c⟩⟩⟩)
      · obtain ⟨l, hlw, hl⟩ := it_b0 tp c_52
        have hlf : (lfS (txI (nI 0)) (bt (A0 47) n a)) = nI l := (it_bt0 tp).trans hl
        have hne : ¬ ((bt (A0 47) n a) = 59 ∨ (bt (A0 47) n a) = (-1)) := fun z => by
          rcases z with z | z
          · rw [z] at hl; exact absurd hl (it_59_0 l hlw)
          · rw [z] at hl; exact absurd hl (it_m1_0 l hlw)
        have hlt : a < n := bt_lt (fun z => hne (Or.inr z))
        rw [hl]
        refine g_iload dX11_items_55 rfl ?_
        refine g_iload dX11_items_57 rfl ?_
        refine g_callS dX11_items_59 cs_X11_232 (as := [_, _]) e_has (by decide) rfl rfl (Nat.le_of_ble_eq_true rfl) ?_
        rintro _ _ ⟨rfl, rfl⟩
        try simp (disch := omega) only [up_at, up_up, up_ne]
        refine g_if_ne (tgt := 131) dX11_items_62 (by decide) (fun c_62 => ?_) (fun c_62 => ?_)
        · exact g_vret dX11_items_131 (hQ _ _ ⟨hA, hI, Or.inr ⟨w1, a, h3, ha, hs, by obtain ⟨f2, rfl⟩ : ∃ f2, f = f2 + 1 := ⟨f - 1, by have := pc_le h h32; omega⟩; exact Or.inl ⟨itL_no hs hne (Or.inr (by rw [hlf]; exact Decidable.byContradiction (fun z => c_62 (ha_b.mpr z)))), hne⟩⟩⟩)
        · refine g_iload dX11_items_65 rfl ?_
          refine g_ic_1 dX11_items_67 ?_
          refine g_iload dX11_items_68 rfl ?_
          refine g_ishl dX11_items_70 ?_
          refine g_ior dX11_items_71 ?_
          refine g_istore dX11_items_72 (by decide) ?_
          refine g_aload_n dX11_items_74 rfl rfl ?_
          refine g_dup dX11_items_75 rfl ?_
          refine g_get dX11_items_76 fl_X11_116 hp_46 rfl ?_
          try simp (disch := omega) only [up_at, up_up, up_ne]
          refine g_ic_1 dX11_items_79 ?_
          refine g_iadd dX11_items_80 ?_
          refine g_puti dX11_items_81 fw_X11_116 hp_46 (Nat.le_of_ble_eq_true rfl) ?_
          rw [hq_46_3]
          try simp (disch := omega) only [up_at, up_up, up_ne]
          refine g_aload_n dX11_items_84 rfl rfl ?_
          refine g_iload_n dX11_items_85 rfl rfl ?_
          refine g_iload dX11_items_86 rfl ?_
          refine g_iadd dX11_items_88 ?_
          refine g_aload_n dX11_items_89 rfl rfl ?_
          refine g_iload_n dX11_items_90 rfl rfl ?_
          refine g_iload dX11_items_91 rfl ?_
          refine g_callS dX11_items_93 cs_X11_236 (as := [_, _]) (e_low (Or.inl rfl)) (by decide) rfl rfl (Nat.le_of_ble_eq_true rfl) ?_
          rintro _ _ ⟨rfl, rfl⟩
          try simp (disch := omega) only [up_at, up_up, up_ne]
          refine g_iload_n dX11_items_96 rfl rfl ?_
          refine g_iload dX11_items_97 rfl ?_
          refine g_callS dX11_items_99 cs_X11_239 (as := [_, _]) (e_high (Or.inl rfl)) (by decide) rfl rfl (Nat.le_of_ble_eq_true rfl) ?_
          rintro _ _ ⟨rfl, rfl⟩
          try simp (disch := omega) only [up_at, up_up, up_ne]
          refine g_callV dX11_items_102 cv_X11_242 (as' := [_, _]) hp_46 rfl (e_number (b := a + 1) ((up2_ne (by decide)).trans k2) hn (by rw [up2_at, h3, nI_1]) hlt ((up2_ne (by decide)).trans w1)) (by decide) rfl rfl (Nat.le_of_ble_eq_true rfl) ?_
          rw [e47]
          rintro _ _ ⟨v, I2, rfl, rfl, hnb⟩
          have k22 : I2 46 2 = nI n := (hnb.1 46 2 (by decide)).trans ((up2_ne (by decide)).trans k2)
          try simp (disch := omega) only [up_at, up_up, up_ne]
          refine g_wa dX11_items_105 hp_57 (k := f0 + l) (nk_add (show nI (f0) = nI (f0) from rfl) (show nI (l) = nI (l) from rfl)) (by omega) (by decide) ?_
          rw [hq_57]
          try simp (disch := omega) only [up_at, up_up, up_ne]
          refine g_aload_n dX11_items_106 rfl rfl ?_
          refine g_get dX11_items_107 fl_X11_123 hp_46 rfl ?_
          try simp (disch := omega) only [up_at, up_up, up_ne]
          refine g_ic_m1 dX11_items_110 ?_
          refine g_icmp_ne (tgt := 125) dX11_items_111 (by decide) (fun c_111 => ?_) (fun c_111 => ?_)
          · refine g_ic_m1 dX11_items_125 ?_
            refine g_istore dX11_items_126 (by decide) ?_
            refine g_goto (tgt := 41) dX11_items_128 (by decide) ?_
            obtain ⟨p, np, nw, npn⟩ := nb_ne hnb c_111
            refine e_itf0 c_111 (hQ _ _ ⟨AX_up hA hlw, sI_tr hI (sI_tr (sI_u sI_rf (Or.inl rfl)) hnb.1), Or.inl ⟨p, ?_, nw, npn⟩⟩)
            obtain ⟨f2, rfl⟩ : ∃ f2, f = f2 + 1 := ⟨f - 1, by have := pc_le h h32; omega⟩
            exact itL_l hs hne (fun z => z.elim (fun w => absurd w (by rw [hlf]; exact le_no (by omega))) (fun w => ha_b.mp c_62 (by rw [hlf] at w; exact w))) (by rw [hlf, (it_lo0 l hlw).1, (it_lo0 l hlw).2]; exact np)
          · refine g_iload_n dX11_items_114 rfl rfl ?_
            refine g_aload_n dX11_items_115 rfl rfl ?_
            obtain ⟨d, np, nd3, nd⟩ := nb_eq hn hnb c_111
            refine g_callV dX11_items_116 cv_X11_135 (as' := []) hp_46 rfl (e_look k22 hn nd3 nd) (by decide) rfl rfl (Nat.le_of_ble_eq_true rfl) ?_
            rintro _ _ ⟨rfl, rfl⟩
            have e47b : (up A1 57 (upd (A1 57) (f0 + l) v)) 47 = A0 47 := (up_ne (by decide)).trans e47
            rw [e47b]
            try simp (disch := omega) only [up_at, up_up, up_ne]
            refine g_callS dX11_items_119 cs_X11_229 (as := [_, _]) (e_item (Or.inl rfl)) (by decide) rfl rfl (Nat.le_of_ble_eq_true rfl) ?_
            rintro _ _ ⟨rfl, rfl⟩
            try simp (disch := omega) only [up_at, up_up, up_ne]
            refine g_goto (tgt := 126) dX11_items_122 (by decide) ?_
            refine g_istore dX11_items_126 (by decide) ?_
            refine g_goto (tgt := 41) dX11_items_128 (by decide) ?_
            obtain ⟨f2, rfl⟩ : ∃ f2, f = f2 + 1 := ⟨f - 1, by have := pc_le h h32; omega⟩
            obtain ⟨u1, u2, u3⟩ := pc_up h h32 l (by omega) c_62
            rw [u1]
            have hlh : LH 0 l v := by
              obtain ⟨z1, z2⟩ := numP_in np
              rw [← (it_lo0 l hlw).1] at z1
              rw [← (it_lo0 l hlw).2] at z2
              exact ⟨z1, z2⟩
            refine ih f2 (Nat.lt_succ_self f2) (h + 2 ^ l) (sk (A0 47) n d) (upd D (p0 + l) v) _ _ (AX_up hA hlw) (sI_tr hI (sI_tr (sI_tr (sI_u sI_rf (Or.inl rfl)) hnb.1) (sI_u sI_rf (Or.inl rfl)))) (DX_up hD hlw) (IR_up hR hlw hlh) u2 (by omega) ((up2_ne (by decide)).trans c_111) up2_at (sk_le nd) sk_sk ?_
            intro A9 I9 z
            refine hQ A9 I9 ?_
            obtain ⟨f3, rfl⟩ : ∃ f3, f2 = f3 + 1 := ⟨f2 - 1, by have := pc_le (h + 2 ^ l) u2; omega⟩
            rw [itL_r hs hne (fun z => z.elim (fun w => absurd w (by rw [hlf]; exact le_no (by omega))) (fun w => ha_b.mp c_62 (by rw [hlf] at w; exact w))) (by rw [hlf, (it_lo0 l hlw).1, (it_lo0 l hlw).2]; exact np), hlf, u1, nI_add, pt_nI (by omega) (by decide), ← itL_sk]
            exact z

set_option maxHeartbeats 800000 in
set_option maxRecDepth 100000 in
theorem e_itu0 {A : Nat → Nat → Int32} {L : Nat → Nat → Int64} {I : Nat → Nat → Int32} {X : Nat → Int64} {f0 : Nat} {Q : Option Value → m_H → Prop} (hf : f0 + 4 ≤ 4) (hE : G 4 RX11 cX11_items 7 none Q 28 [some (.ref 46), some (.int (115)), some (.ref 57), some (.int (nI f0)), some (.int (nI 4)), none, none] [] (hp (up A 57 (usA 115 (A 57) f0 (4))) L I X)) : ∀ f k, k ≤ 4 → 4 - k < f → G 4 RX11 cX11_items 7 none Q 3 [some (.ref 46), some (.int (115)), some (.ref 57), some (.int (nI f0)), some (.int (nI 4)), some (.int (nI k)), none] [] (hp (up A 57 (usA 115 (A 57) f0 (k))) L I X) := by
  intro f
  induction f with
  | zero => intro k h1 h2; omega
  | succ f ih =>
    intro k h1 h2
    refine g_iload dX11_items_3 rfl ?_
    refine g_iload dX11_items_5 rfl ?_
    refine g_icmp_ge (tgt := 28) dX11_items_7 (by decide) (fun c_7 => ?_) (fun c_7 => ?_)
    · have h6 : 4 ≤ k := lit_le (n := 4) (by decide) (by omega) c_7
      have hkn : k = 4 := by omega
      subst hkn
      refine g_loc (ls' := [some (.ref 46), some (.int (115)), some (.ref 57), some (.int (nI f0)), some (.int (nI 4)), none, none]) (fun i v h => by rcases i with _|_|_|_|_|_|_|_ <;> first | exact h | cases h) ?_
      exact hE
    · have hlt : k < 4 := by have := lit_nle (n := 4) (by decide) (by omega) c_7; omega
      refine g_aload_n dX11_items_10 rfl rfl ?_
      refine g_iload_n dX11_items_11 rfl rfl ?_
      refine g_iload dX11_items_12 rfl ?_
      refine g_iadd dX11_items_14 ?_
      refine g_iload_n dX11_items_15 rfl rfl ?_
      refine g_iload dX11_items_16 rfl ?_
      refine g_callS dX11_items_18 cs_X11_225 (as := [_, _]) (e_usual (Or.inl rfl)) (by decide) rfl rfl (Nat.le_of_ble_eq_true rfl) ?_
      rintro _ _ ⟨rfl, rfl⟩
      try simp (disch := omega) only [up_at, up_up, up_ne]
      refine g_wa dX11_items_21 hp_57 (k := f0 + k) (nk_add (show nI (f0) = nI (f0) from rfl) (show nI (k) = nI (k) from rfl)) (by omega) (by decide) ?_
      rw [hq_57]
      try simp (disch := omega) only [up_at, up_up, up_ne]
      refine g_iinc1 dX11_items_22 rfl (by decide) ?_
      refine g_goto (tgt := 3) dX11_items_25 (by decide) ?_
      rw [nI_1, usA_s]
      exact ih (k + 1) (by omega) (by omega)

set_option maxHeartbeats 800000 in
set_option maxRecDepth 100000 in
theorem e_items0 {A : Nat → Nat → Int32} {L : Nat → Nat → Int64} {I : Nat → Nat → Int32} {X : Nat → Int64} {n f0 p0 b : Nat} {D : ROW} {ff : Int32} (tp : tpM A I n) (hff : ff = nI f0) (hf : f0 + 4 ≤ 4) (hp0 : p0 + 4 ≤ 143) (h3 : I 46 3 = nI b) (hb : b ≤ n) (w1 : I 46 4 = (-1)) : Con 4 yX11_items cX11_items 7 none [.ref 46, .int 115, .ref 57, .int ff, .int 4] (hp A L I X) (fun r_ H_ => r_ = none ∧ ∃ A9 I9, ITQ (A 47) n 57 0 f0 p0 4 D A I (itL (A 47) n (nI 0) (nI p0) 6 (sk (A 47) n b) 0 (usP D (nI 0) (nI p0))) A9 I9 ∧ H_ = hp A9 L I9 X) := by
  refine m_con (by decide) (Nat.le_of_ble_eq_true rfl) ?_
  subst hff
  refine g_ic_0 dX11_items_0 ?_
  refine g_istore dX11_items_1 (by decide) ?_
  have h := e_itu0 (A := A) (L := L) (I := I) (X := X) (Q := (fun r_ H_ => r_ = none ∧ ∃ A9 I9, ITQ (A 47) n 57 0 f0 p0 4 D A I (itL (A 47) n (nI 0) (nI p0) 6 (sk (A 47) n b) 0 (usP D (nI 0) (nI p0))) A9 I9 ∧ H_ = hp A9 L I9 X)) hf ?_ 5 0 (by decide) (by decide)
  · rw [usA_0, up_self] at h
    refine g_loc (ls' := [some (.ref 46), some (.int (115)), some (.ref 57), some (.int (nI f0)), some (.int (nI 4)), some (.int (nI 0)), none]) (fun i v h => by rcases i with _|_|_|_|_|_|_|_ <;> first | exact h | cases h) ?_
    exact h
  · refine g_ic_0 dX11_items_28 ?_
    refine g_istore dX11_items_29 (by decide) ?_
    refine g_iload_n dX11_items_31 rfl rfl ?_
    refine g_aload_n dX11_items_32 rfl rfl ?_
    refine g_callV dX11_items_33 cv_X11_135 (as' := []) hp_46 rfl (e_look tp.1 tp.2.1 h3 hb) (by decide) rfl rfl (Nat.le_of_ble_eq_true rfl) ?_
    rintro _ _ ⟨rfl, rfl⟩
    rw [show (up A 57 (usA 115 (A 57) f0 (4))) 47 = A 47 from up_ne (by decide)]
    refine g_callS dX11_items_36 cs_X11_229 (as := [_, _]) (e_item (Or.inl rfl)) (by decide) rfl rfl (Nat.le_of_ble_eq_true rfl) ?_
    rintro _ _ ⟨rfl, rfl⟩
    refine g_istore dX11_items_39 (by decide) ?_
    obtain ⟨us1, us2⟩ := usF_at (D := D) (kd := 0) hp0 4 (Nat.le_refl _)
    refine e_it0 (A0 := A) (I0 := I) (D0 := D) tp hf hp0 6 0 (sk (A 47) n b) (usP D (nI 0) (nI p0)) _ _ ⟨fun i hi => up_ne hi, fun j hj => ?_⟩ (sI_u sI_rf (Or.inl rfl)) us1 (fun k hk => ?_) (by decide) (by decide) ((up2_ne (by decide)).trans w1) up2_at (sk_le hb) sk_sk (fun A9 I9 z => ⟨rfl, A9, I9, z, rfl⟩)
    · rw [up_at]
      exact if_neg (by omega)
    · rw [up_at, show usP D (nI 0) (nI p0) (p0 + k) = _ from us2 k hk, (it_us0 k hk).1]
      refine ⟨?_, (it_us0 k hk).2⟩
      unfold usA
      rw [if_pos (by omega), show f0 + k - f0 = k by omega]

theorem it_lf1 : ∀ v, v < 256 → lfS 1 (nI v) = itZ 109 (nI v) := by decide +kernel
theorem it_bt1 {A0 I0 : Nat → Nat → Int32} {n a : Nat} (tp : tpM A0 I0 n) : lfS (txI (nI 1)) (bt (A0 47) n a) = itZ 109 (bt (A0 47) n a) := by
  show lfS 1 _ = _
  by_cases c : a < n
  · obtain ⟨v, v0, v1, v2⟩ := tp.2.2 a c
    rw [bt_in c, v2]
    exact it_lf1 v v1
  · rw [bt_out (by omega)]
    decide
theorem it_v1 : ∀ v, v < 256 → itZ 109 (nI v) = (-1) ∨ ∃ l, l < 5 ∧ itZ 109 (nI v) = nI l := by decide +kernel
theorem it_b1 {A0 I0 : Nat → Nat → Int32} {n a : Nat} (tp : tpM A0 I0 n) (h : ¬ itZ 109 (bt (A0 47) n a) = (-1)) : ∃ l, l < 5 ∧ itZ 109 (bt (A0 47) n a) = nI l := by
  by_cases c : a < n
  · obtain ⟨v, v0, v1, v2⟩ := tp.2.2 a c
    rw [bt_in c, v2] at h ⊢
    exact (it_v1 v v1).resolve_left h
  · rw [bt_out (by omega)] at h
    exact absurd (by decide) h
theorem it_lo1 : ∀ l, l < 5 → gt 15 m_lo (nI 1 * 5 + nI l) = lwZ 109 (nI l) ∧ gt 15 m_hi (nI 1 * 5 + nI l) = hiZ 109 (nI l) := by decide +kernel
theorem it_us1 : ∀ l, l < 5 → gt 15 m_us (nI 1 * 5 + nI l) = usZ 109 (nI l) ∧ LH 1 l (usZ 109 (nI l)) := by unfold LH; decide +kernel
set_option maxHeartbeats 800000 in
set_option maxRecDepth 100000 in
theorem e_itf1 {A I : Nat → Nat → Int32} {L : Nat → Nat → Int64} {X : Nat → Int64} {f0 : Nat} {Q : Option Value → m_H → Prop} {g k : Option Value} (hw : ¬ I 46 4 = (-1)) (hQ : Q none (hp A L I X)) : G 4 RX11 cX11_items 7 none Q 41 [some (.ref 46), some (.int (109)), some (.ref 58), some (.int (nI f0)), some (.int (nI 5)), g, k] [] (hp A L I X) := by
  refine g_aload_n dX11_items_41 rfl rfl ?_
  refine g_get dX11_items_42 fl_X11_123 hp_46 rfl ?_
  refine g_ic_m1 dX11_items_45 ?_
  refine g_icmp_ne (tgt := 131) dX11_items_46 (by decide) (fun c_46 => ?_) (fun c_46 => ?_)
  · exact g_vret dX11_items_131 hQ
  · exact absurd c_46 hw

theorem it_59_1 : ∀ l, l < 5 → ¬ itZ 109 59 = nI l := by decide +kernel
theorem it_m1_1 : ∀ l, l < 5 → ¬ itZ 109 (-1) = nI l := by decide +kernel
set_option maxHeartbeats 800000 in
set_option maxRecDepth 100000 in
theorem e_it1 {A0 I0 : Nat → Nat → Int32} {L : Nat → Nat → Int64} {X : Nat → Int64} {n f0 p0 : Nat} {D0 : ROW} {Q : Option Value → m_H → Prop} (tp : tpM A0 I0 n) (hf : f0 + 5 ≤ 40) (hp0 : p0 + 5 ≤ 143) : ∀ f h a D A1 I1, AX 58 f0 5 A0 A1 → sI I0 I1 → DX p0 5 D0 D → IR 58 1 f0 p0 5 D A1 → h < 32 → pcnt h + f = 6 → I1 46 4 = (-1) → I1 46 3 = nI a → a ≤ n → sk (A0 47) n a = a → (∀ A9 I9, ITQ (A0 47) n 58 1 f0 p0 5 D0 A0 I0 (itL (A0 47) n (nI 1) (nI p0) f a (nI h) D) A9 I9 → Q none (hp A9 L I9 X)) → G 4 RX11 cX11_items 7 none Q 41 [some (.ref 46), some (.int (109)), some (.ref 58), some (.int (nI f0)), some (.int (nI 5)), some (.int (nI h)), some (.int (itZ 109 (bt (A0 47) n a)))] [] (hp A1 L I1 X) := by
  intro f
  induction f using Nat.strongRecOn with
  | ind f ih =>
    intro h a D A1 I1 hA hI hD hR h32 hpc w1 h3 ha hs hQ
    refine g_aload_n dX11_items_41 rfl rfl ?_
    refine g_get dX11_items_42 fl_X11_123 hp_46 rfl ?_
    try simp (disch := omega) only [up_at, up_up, up_ne]
    refine g_ic_m1 dX11_items_45 ?_
    refine g_icmp_ne (tgt := 131) dX11_items_46 (by decide) (fun c_46 => ?_) (fun c_46 => ?_)
    · exact absurd w1 c_46
    · have e47 : A1 47 = A0 47 := hA.1 47 (by decide)
      have k2 : I1 46 2 = nI n := (hI 46 2 (by decide)).trans tp.1
      have hn := tp.2.1
      refine g_iload dX11_items_49 rfl ?_
      refine g_ic_m1 dX11_items_51 ?_
      refine g_icmp_eq (tgt := 131) dX11_items_52 (by decide) (fun c_52 => ?_) (fun c_52 => ?_)
      · exact g_vret dX11_items_131 (hQ _ _ ⟨hA, hI, Or.inr ⟨w1, a, h3, ha, hs, by obtain ⟨f2, rfl⟩ : ∃ f2, f = f2 + 1 := ⟨f - 1, by have := pc_le h h32; omega⟩; by_cases c : (bt (A0 47) n a) = 59 ∨ (bt (A0 47) n a) = (-1); exact Or.inr ⟨D, itL_ok hs c, c, hD, hR⟩; exact Or.inl ⟨itL_no hs c (Or.inl (by rw [it_bt1 tp, c_52]; decide)), c⟩⟩⟩)
      · obtain ⟨l, hlw, hl⟩ := it_b1 tp c_52
        have hlf : (lfS (txI (nI 1)) (bt (A0 47) n a)) = nI l := (it_bt1 tp).trans hl
        have hne : ¬ ((bt (A0 47) n a) = 59 ∨ (bt (A0 47) n a) = (-1)) := fun z => by
          rcases z with z | z
          · rw [z] at hl; exact absurd hl (it_59_1 l hlw)
          · rw [z] at hl; exact absurd hl (it_m1_1 l hlw)
        have hlt : a < n := bt_lt (fun z => hne (Or.inr z))
        rw [hl]
        refine g_iload dX11_items_55 rfl ?_
        refine g_iload dX11_items_57 rfl ?_
        refine g_callS dX11_items_59 cs_X11_232 (as := [_, _]) e_has (by decide) rfl rfl (Nat.le_of_ble_eq_true rfl) ?_
        rintro _ _ ⟨rfl, rfl⟩
        try simp (disch := omega) only [up_at, up_up, up_ne]
        refine g_if_ne (tgt := 131) dX11_items_62 (by decide) (fun c_62 => ?_) (fun c_62 => ?_)
        · exact g_vret dX11_items_131 (hQ _ _ ⟨hA, hI, Or.inr ⟨w1, a, h3, ha, hs, by obtain ⟨f2, rfl⟩ : ∃ f2, f = f2 + 1 := ⟨f - 1, by have := pc_le h h32; omega⟩; exact Or.inl ⟨itL_no hs hne (Or.inr (by rw [hlf]; exact Decidable.byContradiction (fun z => c_62 (ha_b.mpr z)))), hne⟩⟩⟩)
        · refine g_iload dX11_items_65 rfl ?_
          refine g_ic_1 dX11_items_67 ?_
          refine g_iload dX11_items_68 rfl ?_
          refine g_ishl dX11_items_70 ?_
          refine g_ior dX11_items_71 ?_
          refine g_istore dX11_items_72 (by decide) ?_
          refine g_aload_n dX11_items_74 rfl rfl ?_
          refine g_dup dX11_items_75 rfl ?_
          refine g_get dX11_items_76 fl_X11_116 hp_46 rfl ?_
          try simp (disch := omega) only [up_at, up_up, up_ne]
          refine g_ic_1 dX11_items_79 ?_
          refine g_iadd dX11_items_80 ?_
          refine g_puti dX11_items_81 fw_X11_116 hp_46 (Nat.le_of_ble_eq_true rfl) ?_
          rw [hq_46_3]
          try simp (disch := omega) only [up_at, up_up, up_ne]
          refine g_aload_n dX11_items_84 rfl rfl ?_
          refine g_iload_n dX11_items_85 rfl rfl ?_
          refine g_iload dX11_items_86 rfl ?_
          refine g_iadd dX11_items_88 ?_
          refine g_aload_n dX11_items_89 rfl rfl ?_
          refine g_iload_n dX11_items_90 rfl rfl ?_
          refine g_iload dX11_items_91 rfl ?_
          refine g_callS dX11_items_93 cs_X11_236 (as := [_, _]) (e_low (Or.inr (Or.inl rfl))) (by decide) rfl rfl (Nat.le_of_ble_eq_true rfl) ?_
          rintro _ _ ⟨rfl, rfl⟩
          try simp (disch := omega) only [up_at, up_up, up_ne]
          refine g_iload_n dX11_items_96 rfl rfl ?_
          refine g_iload dX11_items_97 rfl ?_
          refine g_callS dX11_items_99 cs_X11_239 (as := [_, _]) (e_high (Or.inr (Or.inl rfl))) (by decide) rfl rfl (Nat.le_of_ble_eq_true rfl) ?_
          rintro _ _ ⟨rfl, rfl⟩
          try simp (disch := omega) only [up_at, up_up, up_ne]
          refine g_callV dX11_items_102 cv_X11_242 (as' := [_, _]) hp_46 rfl (e_number (b := a + 1) ((up2_ne (by decide)).trans k2) hn (by rw [up2_at, h3, nI_1]) hlt ((up2_ne (by decide)).trans w1)) (by decide) rfl rfl (Nat.le_of_ble_eq_true rfl) ?_
          rw [e47]
          rintro _ _ ⟨v, I2, rfl, rfl, hnb⟩
          have k22 : I2 46 2 = nI n := (hnb.1 46 2 (by decide)).trans ((up2_ne (by decide)).trans k2)
          try simp (disch := omega) only [up_at, up_up, up_ne]
          refine g_wa dX11_items_105 hp_58 (k := f0 + l) (nk_add (show nI (f0) = nI (f0) from rfl) (show nI (l) = nI (l) from rfl)) (by omega) (by decide) ?_
          rw [hq_58]
          try simp (disch := omega) only [up_at, up_up, up_ne]
          refine g_aload_n dX11_items_106 rfl rfl ?_
          refine g_get dX11_items_107 fl_X11_123 hp_46 rfl ?_
          try simp (disch := omega) only [up_at, up_up, up_ne]
          refine g_ic_m1 dX11_items_110 ?_
          refine g_icmp_ne (tgt := 125) dX11_items_111 (by decide) (fun c_111 => ?_) (fun c_111 => ?_)
          · refine g_ic_m1 dX11_items_125 ?_
            refine g_istore dX11_items_126 (by decide) ?_
            refine g_goto (tgt := 41) dX11_items_128 (by decide) ?_
            obtain ⟨p, np, nw, npn⟩ := nb_ne hnb c_111
            refine e_itf1 c_111 (hQ _ _ ⟨AX_up hA hlw, sI_tr hI (sI_tr (sI_u sI_rf (Or.inl rfl)) hnb.1), Or.inl ⟨p, ?_, nw, npn⟩⟩)
            obtain ⟨f2, rfl⟩ : ∃ f2, f = f2 + 1 := ⟨f - 1, by have := pc_le h h32; omega⟩
            exact itL_l hs hne (fun z => z.elim (fun w => absurd w (by rw [hlf]; exact le_no (by omega))) (fun w => ha_b.mp c_62 (by rw [hlf] at w; exact w))) (by rw [hlf, (it_lo1 l hlw).1, (it_lo1 l hlw).2]; exact np)
          · refine g_iload_n dX11_items_114 rfl rfl ?_
            refine g_aload_n dX11_items_115 rfl rfl ?_
            obtain ⟨d, np, nd3, nd⟩ := nb_eq hn hnb c_111
            refine g_callV dX11_items_116 cv_X11_135 (as' := []) hp_46 rfl (e_look k22 hn nd3 nd) (by decide) rfl rfl (Nat.le_of_ble_eq_true rfl) ?_
            rintro _ _ ⟨rfl, rfl⟩
            have e47b : (up A1 58 (upd (A1 58) (f0 + l) v)) 47 = A0 47 := (up_ne (by decide)).trans e47
            rw [e47b]
            try simp (disch := omega) only [up_at, up_up, up_ne]
            refine g_callS dX11_items_119 cs_X11_229 (as := [_, _]) (e_item (Or.inr (Or.inl rfl))) (by decide) rfl rfl (Nat.le_of_ble_eq_true rfl) ?_
            rintro _ _ ⟨rfl, rfl⟩
            try simp (disch := omega) only [up_at, up_up, up_ne]
            refine g_goto (tgt := 126) dX11_items_122 (by decide) ?_
            refine g_istore dX11_items_126 (by decide) ?_
            refine g_goto (tgt := 41) dX11_items_128 (by decide) ?_
            obtain ⟨f2, rfl⟩ : ∃ f2, f = f2 + 1 := ⟨f - 1, by have := pc_le h h32; omega⟩
            obtain ⟨u1, u2, u3⟩ := pc_up h h32 l (by omega) c_62
            rw [u1]
            have hlh : LH 1 l v := by
              obtain ⟨z1, z2⟩ := numP_in np
              rw [← (it_lo1 l hlw).1] at z1
              rw [← (it_lo1 l hlw).2] at z2
              exact ⟨z1, z2⟩
            refine ih f2 (Nat.lt_succ_self f2) (h + 2 ^ l) (sk (A0 47) n d) (upd D (p0 + l) v) _ _ (AX_up hA hlw) (sI_tr hI (sI_tr (sI_tr (sI_u sI_rf (Or.inl rfl)) hnb.1) (sI_u sI_rf (Or.inl rfl)))) (DX_up hD hlw) (IR_up hR hlw hlh) u2 (by omega) ((up2_ne (by decide)).trans c_111) up2_at (sk_le nd) sk_sk ?_
            intro A9 I9 z
            refine hQ A9 I9 ?_
            obtain ⟨f3, rfl⟩ : ∃ f3, f2 = f3 + 1 := ⟨f2 - 1, by have := pc_le (h + 2 ^ l) u2; omega⟩
            rw [itL_r hs hne (fun z => z.elim (fun w => absurd w (by rw [hlf]; exact le_no (by omega))) (fun w => ha_b.mp c_62 (by rw [hlf] at w; exact w))) (by rw [hlf, (it_lo1 l hlw).1, (it_lo1 l hlw).2]; exact np), hlf, u1, nI_add, pt_nI (by omega) (by decide), ← itL_sk]
            exact z

set_option maxHeartbeats 800000 in
set_option maxRecDepth 100000 in
theorem e_itu1 {A : Nat → Nat → Int32} {L : Nat → Nat → Int64} {I : Nat → Nat → Int32} {X : Nat → Int64} {f0 : Nat} {Q : Option Value → m_H → Prop} (hf : f0 + 5 ≤ 40) (hE : G 4 RX11 cX11_items 7 none Q 28 [some (.ref 46), some (.int (109)), some (.ref 58), some (.int (nI f0)), some (.int (nI 5)), none, none] [] (hp (up A 58 (usA 109 (A 58) f0 (5))) L I X)) : ∀ f k, k ≤ 5 → 5 - k < f → G 4 RX11 cX11_items 7 none Q 3 [some (.ref 46), some (.int (109)), some (.ref 58), some (.int (nI f0)), some (.int (nI 5)), some (.int (nI k)), none] [] (hp (up A 58 (usA 109 (A 58) f0 (k))) L I X) := by
  intro f
  induction f with
  | zero => intro k h1 h2; omega
  | succ f ih =>
    intro k h1 h2
    refine g_iload dX11_items_3 rfl ?_
    refine g_iload dX11_items_5 rfl ?_
    refine g_icmp_ge (tgt := 28) dX11_items_7 (by decide) (fun c_7 => ?_) (fun c_7 => ?_)
    · have h6 : 5 ≤ k := lit_le (n := 5) (by decide) (by omega) c_7
      have hkn : k = 5 := by omega
      subst hkn
      refine g_loc (ls' := [some (.ref 46), some (.int (109)), some (.ref 58), some (.int (nI f0)), some (.int (nI 5)), none, none]) (fun i v h => by rcases i with _|_|_|_|_|_|_|_ <;> first | exact h | cases h) ?_
      exact hE
    · have hlt : k < 5 := by have := lit_nle (n := 5) (by decide) (by omega) c_7; omega
      refine g_aload_n dX11_items_10 rfl rfl ?_
      refine g_iload_n dX11_items_11 rfl rfl ?_
      refine g_iload dX11_items_12 rfl ?_
      refine g_iadd dX11_items_14 ?_
      refine g_iload_n dX11_items_15 rfl rfl ?_
      refine g_iload dX11_items_16 rfl ?_
      refine g_callS dX11_items_18 cs_X11_225 (as := [_, _]) (e_usual (Or.inr (Or.inl rfl))) (by decide) rfl rfl (Nat.le_of_ble_eq_true rfl) ?_
      rintro _ _ ⟨rfl, rfl⟩
      try simp (disch := omega) only [up_at, up_up, up_ne]
      refine g_wa dX11_items_21 hp_58 (k := f0 + k) (nk_add (show nI (f0) = nI (f0) from rfl) (show nI (k) = nI (k) from rfl)) (by omega) (by decide) ?_
      rw [hq_58]
      try simp (disch := omega) only [up_at, up_up, up_ne]
      refine g_iinc1 dX11_items_22 rfl (by decide) ?_
      refine g_goto (tgt := 3) dX11_items_25 (by decide) ?_
      rw [nI_1, usA_s]
      exact ih (k + 1) (by omega) (by omega)

set_option maxHeartbeats 800000 in
set_option maxRecDepth 100000 in
theorem e_items1 {A : Nat → Nat → Int32} {L : Nat → Nat → Int64} {I : Nat → Nat → Int32} {X : Nat → Int64} {n f0 p0 b : Nat} {D : ROW} {ff : Int32} (tp : tpM A I n) (hff : ff = nI f0) (hf : f0 + 5 ≤ 40) (hp0 : p0 + 5 ≤ 143) (h3 : I 46 3 = nI b) (hb : b ≤ n) (w1 : I 46 4 = (-1)) : Con 4 yX11_items cX11_items 7 none [.ref 46, .int 109, .ref 58, .int ff, .int 5] (hp A L I X) (fun r_ H_ => r_ = none ∧ ∃ A9 I9, ITQ (A 47) n 58 1 f0 p0 5 D A I (itL (A 47) n (nI 1) (nI p0) 6 (sk (A 47) n b) 0 (usP D (nI 1) (nI p0))) A9 I9 ∧ H_ = hp A9 L I9 X) := by
  refine m_con (by decide) (Nat.le_of_ble_eq_true rfl) ?_
  subst hff
  refine g_ic_0 dX11_items_0 ?_
  refine g_istore dX11_items_1 (by decide) ?_
  have h := e_itu1 (A := A) (L := L) (I := I) (X := X) (Q := (fun r_ H_ => r_ = none ∧ ∃ A9 I9, ITQ (A 47) n 58 1 f0 p0 5 D A I (itL (A 47) n (nI 1) (nI p0) 6 (sk (A 47) n b) 0 (usP D (nI 1) (nI p0))) A9 I9 ∧ H_ = hp A9 L I9 X)) hf ?_ 6 0 (by decide) (by decide)
  · rw [usA_0, up_self] at h
    refine g_loc (ls' := [some (.ref 46), some (.int (109)), some (.ref 58), some (.int (nI f0)), some (.int (nI 5)), some (.int (nI 0)), none]) (fun i v h => by rcases i with _|_|_|_|_|_|_|_ <;> first | exact h | cases h) ?_
    exact h
  · refine g_ic_0 dX11_items_28 ?_
    refine g_istore dX11_items_29 (by decide) ?_
    refine g_iload_n dX11_items_31 rfl rfl ?_
    refine g_aload_n dX11_items_32 rfl rfl ?_
    refine g_callV dX11_items_33 cv_X11_135 (as' := []) hp_46 rfl (e_look tp.1 tp.2.1 h3 hb) (by decide) rfl rfl (Nat.le_of_ble_eq_true rfl) ?_
    rintro _ _ ⟨rfl, rfl⟩
    rw [show (up A 58 (usA 109 (A 58) f0 (5))) 47 = A 47 from up_ne (by decide)]
    refine g_callS dX11_items_36 cs_X11_229 (as := [_, _]) (e_item (Or.inr (Or.inl rfl))) (by decide) rfl rfl (Nat.le_of_ble_eq_true rfl) ?_
    rintro _ _ ⟨rfl, rfl⟩
    refine g_istore dX11_items_39 (by decide) ?_
    obtain ⟨us1, us2⟩ := usF_at (D := D) (kd := 1) hp0 5 (Nat.le_refl _)
    refine e_it1 (A0 := A) (I0 := I) (D0 := D) tp hf hp0 6 0 (sk (A 47) n b) (usP D (nI 1) (nI p0)) _ _ ⟨fun i hi => up_ne hi, fun j hj => ?_⟩ (sI_u sI_rf (Or.inl rfl)) us1 (fun k hk => ?_) (by decide) (by decide) ((up2_ne (by decide)).trans w1) up2_at (sk_le hb) sk_sk (fun A9 I9 z => ⟨rfl, A9, I9, z, rfl⟩)
    · rw [up_at]
      exact if_neg (by omega)
    · rw [up_at, show usP D (nI 1) (nI p0) (p0 + k) = _ from us2 k hk, (it_us1 k hk).1]
      refine ⟨?_, (it_us1 k hk).2⟩
      unfold usA
      rw [if_pos (by omega), show f0 + k - f0 = k by omega]

theorem it_lf2 : ∀ v, v < 256 → lfS 2 (nI v) = itZ 99 (nI v) := by decide +kernel
theorem it_bt2 {A0 I0 : Nat → Nat → Int32} {n a : Nat} (tp : tpM A0 I0 n) : lfS (txI (nI 2)) (bt (A0 47) n a) = itZ 99 (bt (A0 47) n a) := by
  show lfS 2 _ = _
  by_cases c : a < n
  · obtain ⟨v, v0, v1, v2⟩ := tp.2.2 a c
    rw [bt_in c, v2]
    exact it_lf2 v v1
  · rw [bt_out (by omega)]
    decide
theorem it_v2 : ∀ v, v < 256 → itZ 99 (nI v) = (-1) ∨ ∃ l, l < 3 ∧ itZ 99 (nI v) = nI l := by decide +kernel
theorem it_b2 {A0 I0 : Nat → Nat → Int32} {n a : Nat} (tp : tpM A0 I0 n) (h : ¬ itZ 99 (bt (A0 47) n a) = (-1)) : ∃ l, l < 3 ∧ itZ 99 (bt (A0 47) n a) = nI l := by
  by_cases c : a < n
  · obtain ⟨v, v0, v1, v2⟩ := tp.2.2 a c
    rw [bt_in c, v2] at h ⊢
    exact (it_v2 v v1).resolve_left h
  · rw [bt_out (by omega)] at h
    exact absurd (by decide) h
theorem it_lo2 : ∀ l, l < 3 → gt 15 m_lo (nI 2 * 5 + nI l) = lwZ 99 (nI l) ∧ gt 15 m_hi (nI 2 * 5 + nI l) = hiZ 99 (nI l) := by decide +kernel
theorem it_us2 : ∀ l, l < 3 → gt 15 m_us (nI 2 * 5 + nI l) = usZ 99 (nI l) ∧ LH 2 l (usZ 99 (nI l)) := by unfold LH; decide +kernel
set_option maxHeartbeats 800000 in
set_option maxRecDepth 100000 in
theorem e_itf2 {A I : Nat → Nat → Int32} {L : Nat → Nat → Int64} {X : Nat → Int64} {f0 : Nat} {Q : Option Value → m_H → Prop} {g k : Option Value} (hw : ¬ I 46 4 = (-1)) (hQ : Q none (hp A L I X)) : G 4 RX11 cX11_items 7 none Q 41 [some (.ref 46), some (.int (99)), some (.ref 59), some (.int (nI f0)), some (.int (nI 3)), g, k] [] (hp A L I X) := by
  refine g_aload_n dX11_items_41 rfl rfl ?_
  refine g_get dX11_items_42 fl_X11_123 hp_46 rfl ?_
  refine g_ic_m1 dX11_items_45 ?_
  refine g_icmp_ne (tgt := 131) dX11_items_46 (by decide) (fun c_46 => ?_) (fun c_46 => ?_)
  · exact g_vret dX11_items_131 hQ
  · exact absurd c_46 hw

theorem it_59_2 : ∀ l, l < 3 → ¬ itZ 99 59 = nI l := by decide +kernel
theorem it_m1_2 : ∀ l, l < 3 → ¬ itZ 99 (-1) = nI l := by decide +kernel
set_option maxHeartbeats 800000 in
set_option maxRecDepth 100000 in
theorem e_it2 {A0 I0 : Nat → Nat → Int32} {L : Nat → Nat → Int64} {X : Nat → Int64} {n f0 p0 : Nat} {D0 : ROW} {Q : Option Value → m_H → Prop} (tp : tpM A0 I0 n) (hf : f0 + 3 ≤ 15) (hp0 : p0 + 3 ≤ 143) : ∀ f h a D A1 I1, AX 59 f0 3 A0 A1 → sI I0 I1 → DX p0 3 D0 D → IR 59 2 f0 p0 3 D A1 → h < 32 → pcnt h + f = 6 → I1 46 4 = (-1) → I1 46 3 = nI a → a ≤ n → sk (A0 47) n a = a → (∀ A9 I9, ITQ (A0 47) n 59 2 f0 p0 3 D0 A0 I0 (itL (A0 47) n (nI 2) (nI p0) f a (nI h) D) A9 I9 → Q none (hp A9 L I9 X)) → G 4 RX11 cX11_items 7 none Q 41 [some (.ref 46), some (.int (99)), some (.ref 59), some (.int (nI f0)), some (.int (nI 3)), some (.int (nI h)), some (.int (itZ 99 (bt (A0 47) n a)))] [] (hp A1 L I1 X) := by
  intro f
  induction f using Nat.strongRecOn with
  | ind f ih =>
    intro h a D A1 I1 hA hI hD hR h32 hpc w1 h3 ha hs hQ
    refine g_aload_n dX11_items_41 rfl rfl ?_
    refine g_get dX11_items_42 fl_X11_123 hp_46 rfl ?_
    try simp (disch := omega) only [up_at, up_up, up_ne]
    refine g_ic_m1 dX11_items_45 ?_
    refine g_icmp_ne (tgt := 131) dX11_items_46 (by decide) (fun c_46 => ?_) (fun c_46 => ?_)
    · exact absurd w1 c_46
    · have e47 : A1 47 = A0 47 := hA.1 47 (by decide)
      have k2 : I1 46 2 = nI n := (hI 46 2 (by decide)).trans tp.1
      have hn := tp.2.1
      refine g_iload dX11_items_49 rfl ?_
      refine g_ic_m1 dX11_items_51 ?_
      refine g_icmp_eq (tgt := 131) dX11_items_52 (by decide) (fun c_52 => ?_) (fun c_52 => ?_)
      · exact g_vret dX11_items_131 (hQ _ _ ⟨hA, hI, Or.inr ⟨w1, a, h3, ha, hs, by obtain ⟨f2, rfl⟩ : ∃ f2, f = f2 + 1 := ⟨f - 1, by have := pc_le h h32; omega⟩; by_cases c : (bt (A0 47) n a) = 59 ∨ (bt (A0 47) n a) = (-1); exact Or.inr ⟨D, itL_ok hs c, c, hD, hR⟩; exact Or.inl ⟨itL_no hs c (Or.inl (by rw [it_bt2 tp, c_52]; decide)), c⟩⟩⟩)
      · obtain ⟨l, hlw, hl⟩ := it_b2 tp c_52
        have hlf : (lfS (txI (nI 2)) (bt (A0 47) n a)) = nI l := (it_bt2 tp).trans hl
        have hne : ¬ ((bt (A0 47) n a) = 59 ∨ (bt (A0 47) n a) = (-1)) := fun z => by
          rcases z with z | z
          · rw [z] at hl; exact absurd hl (it_59_2 l hlw)
          · rw [z] at hl; exact absurd hl (it_m1_2 l hlw)
        have hlt : a < n := bt_lt (fun z => hne (Or.inr z))
        rw [hl]
        refine g_iload dX11_items_55 rfl ?_
        refine g_iload dX11_items_57 rfl ?_
        refine g_callS dX11_items_59 cs_X11_232 (as := [_, _]) e_has (by decide) rfl rfl (Nat.le_of_ble_eq_true rfl) ?_
        rintro _ _ ⟨rfl, rfl⟩
        try simp (disch := omega) only [up_at, up_up, up_ne]
        refine g_if_ne (tgt := 131) dX11_items_62 (by decide) (fun c_62 => ?_) (fun c_62 => ?_)
        · exact g_vret dX11_items_131 (hQ _ _ ⟨hA, hI, Or.inr ⟨w1, a, h3, ha, hs, by obtain ⟨f2, rfl⟩ : ∃ f2, f = f2 + 1 := ⟨f - 1, by have := pc_le h h32; omega⟩; exact Or.inl ⟨itL_no hs hne (Or.inr (by rw [hlf]; exact Decidable.byContradiction (fun z => c_62 (ha_b.mpr z)))), hne⟩⟩⟩)
        · refine g_iload dX11_items_65 rfl ?_
          refine g_ic_1 dX11_items_67 ?_
          refine g_iload dX11_items_68 rfl ?_
          refine g_ishl dX11_items_70 ?_
          refine g_ior dX11_items_71 ?_
          refine g_istore dX11_items_72 (by decide) ?_
          refine g_aload_n dX11_items_74 rfl rfl ?_
          refine g_dup dX11_items_75 rfl ?_
          refine g_get dX11_items_76 fl_X11_116 hp_46 rfl ?_
          try simp (disch := omega) only [up_at, up_up, up_ne]
          refine g_ic_1 dX11_items_79 ?_
          refine g_iadd dX11_items_80 ?_
          refine g_puti dX11_items_81 fw_X11_116 hp_46 (Nat.le_of_ble_eq_true rfl) ?_
          rw [hq_46_3]
          try simp (disch := omega) only [up_at, up_up, up_ne]
          refine g_aload_n dX11_items_84 rfl rfl ?_
          refine g_iload_n dX11_items_85 rfl rfl ?_
          refine g_iload dX11_items_86 rfl ?_
          refine g_iadd dX11_items_88 ?_
          refine g_aload_n dX11_items_89 rfl rfl ?_
          refine g_iload_n dX11_items_90 rfl rfl ?_
          refine g_iload dX11_items_91 rfl ?_
          refine g_callS dX11_items_93 cs_X11_236 (as := [_, _]) (e_low (Or.inr (Or.inr rfl))) (by decide) rfl rfl (Nat.le_of_ble_eq_true rfl) ?_
          rintro _ _ ⟨rfl, rfl⟩
          try simp (disch := omega) only [up_at, up_up, up_ne]
          refine g_iload_n dX11_items_96 rfl rfl ?_
          refine g_iload dX11_items_97 rfl ?_
          refine g_callS dX11_items_99 cs_X11_239 (as := [_, _]) (e_high (Or.inr (Or.inr rfl))) (by decide) rfl rfl (Nat.le_of_ble_eq_true rfl) ?_
          rintro _ _ ⟨rfl, rfl⟩
          try simp (disch := omega) only [up_at, up_up, up_ne]
          refine g_callV dX11_items_102 cv_X11_242 (as' := [_, _]) hp_46 rfl (e_number (b := a + 1) ((up2_ne (by decide)).trans k2) hn (by rw [up2_at, h3, nI_1]) hlt ((up2_ne (by decide)).trans w1)) (by decide) rfl rfl (Nat.le_of_ble_eq_true rfl) ?_
          rw [e47]
          rintro _ _ ⟨v, I2, rfl, rfl, hnb⟩
          have k22 : I2 46 2 = nI n := (hnb.1 46 2 (by decide)).trans ((up2_ne (by decide)).trans k2)
          try simp (disch := omega) only [up_at, up_up, up_ne]
          refine g_wa dX11_items_105 hp_59 (k := f0 + l) (nk_add (show nI (f0) = nI (f0) from rfl) (show nI (l) = nI (l) from rfl)) (by omega) (by decide) ?_
          rw [hq_59]
          try simp (disch := omega) only [up_at, up_up, up_ne]
          refine g_aload_n dX11_items_106 rfl rfl ?_
          refine g_get dX11_items_107 fl_X11_123 hp_46 rfl ?_
          try simp (disch := omega) only [up_at, up_up, up_ne]
          refine g_ic_m1 dX11_items_110 ?_
          refine g_icmp_ne (tgt := 125) dX11_items_111 (by decide) (fun c_111 => ?_) (fun c_111 => ?_)
          · refine g_ic_m1 dX11_items_125 ?_
            refine g_istore dX11_items_126 (by decide) ?_
            refine g_goto (tgt := 41) dX11_items_128 (by decide) ?_
            obtain ⟨p, np, nw, npn⟩ := nb_ne hnb c_111
            refine e_itf2 c_111 (hQ _ _ ⟨AX_up hA hlw, sI_tr hI (sI_tr (sI_u sI_rf (Or.inl rfl)) hnb.1), Or.inl ⟨p, ?_, nw, npn⟩⟩)
            obtain ⟨f2, rfl⟩ : ∃ f2, f = f2 + 1 := ⟨f - 1, by have := pc_le h h32; omega⟩
            exact itL_l hs hne (fun z => z.elim (fun w => absurd w (by rw [hlf]; exact le_no (by omega))) (fun w => ha_b.mp c_62 (by rw [hlf] at w; exact w))) (by rw [hlf, (it_lo2 l hlw).1, (it_lo2 l hlw).2]; exact np)
          · refine g_iload_n dX11_items_114 rfl rfl ?_
            refine g_aload_n dX11_items_115 rfl rfl ?_
            obtain ⟨d, np, nd3, nd⟩ := nb_eq hn hnb c_111
            refine g_callV dX11_items_116 cv_X11_135 (as' := []) hp_46 rfl (e_look k22 hn nd3 nd) (by decide) rfl rfl (Nat.le_of_ble_eq_true rfl) ?_
            rintro _ _ ⟨rfl, rfl⟩
            have e47b : (up A1 59 (upd (A1 59) (f0 + l) v)) 47 = A0 47 := (up_ne (by decide)).trans e47
            rw [e47b]
            try simp (disch := omega) only [up_at, up_up, up_ne]
            refine g_callS dX11_items_119 cs_X11_229 (as := [_, _]) (e_item (Or.inr (Or.inr rfl))) (by decide) rfl rfl (Nat.le_of_ble_eq_true rfl) ?_
            rintro _ _ ⟨rfl, rfl⟩
            try simp (disch := omega) only [up_at, up_up, up_ne]
            refine g_goto (tgt := 126) dX11_items_122 (by decide) ?_
            refine g_istore dX11_items_126 (by decide) ?_
            refine g_goto (tgt := 41) dX11_items_128 (by decide) ?_
            obtain ⟨f2, rfl⟩ : ∃ f2, f = f2 + 1 := ⟨f - 1, by have := pc_le h h32; omega⟩
            obtain ⟨u1, u2, u3⟩ := pc_up h h32 l (by omega) c_62
            rw [u1]
            have hlh : LH 2 l v := by
              obtain ⟨z1, z2⟩ := numP_in np
              rw [← (it_lo2 l hlw).1] at z1
              rw [← (it_lo2 l hlw).2] at z2
              exact ⟨z1, z2⟩
            refine ih f2 (Nat.lt_succ_self f2) (h + 2 ^ l) (sk (A0 47) n d) (upd D (p0 + l) v) _ _ (AX_up hA hlw) (sI_tr hI (sI_tr (sI_tr (sI_u sI_rf (Or.inl rfl)) hnb.1) (sI_u sI_rf (Or.inl rfl)))) (DX_up hD hlw) (IR_up hR hlw hlh) u2 (by omega) ((up2_ne (by decide)).trans c_111) up2_at (sk_le nd) sk_sk ?_
            intro A9 I9 z
            refine hQ A9 I9 ?_
            obtain ⟨f3, rfl⟩ : ∃ f3, f2 = f3 + 1 := ⟨f2 - 1, by have := pc_le (h + 2 ^ l) u2; omega⟩
            rw [itL_r hs hne (fun z => z.elim (fun w => absurd w (by rw [hlf]; exact le_no (by omega))) (fun w => ha_b.mp c_62 (by rw [hlf] at w; exact w))) (by rw [hlf, (it_lo2 l hlw).1, (it_lo2 l hlw).2]; exact np), hlf, u1, nI_add, pt_nI (by omega) (by decide), ← itL_sk]
            exact z

set_option maxHeartbeats 800000 in
set_option maxRecDepth 100000 in
theorem e_itu2 {A : Nat → Nat → Int32} {L : Nat → Nat → Int64} {I : Nat → Nat → Int32} {X : Nat → Int64} {f0 : Nat} {Q : Option Value → m_H → Prop} (hf : f0 + 3 ≤ 15) (hE : G 4 RX11 cX11_items 7 none Q 28 [some (.ref 46), some (.int (99)), some (.ref 59), some (.int (nI f0)), some (.int (nI 3)), none, none] [] (hp (up A 59 (usA 99 (A 59) f0 (3))) L I X)) : ∀ f k, k ≤ 3 → 3 - k < f → G 4 RX11 cX11_items 7 none Q 3 [some (.ref 46), some (.int (99)), some (.ref 59), some (.int (nI f0)), some (.int (nI 3)), some (.int (nI k)), none] [] (hp (up A 59 (usA 99 (A 59) f0 (k))) L I X) := by
  intro f
  induction f with
  | zero => intro k h1 h2; omega
  | succ f ih =>
    intro k h1 h2
    refine g_iload dX11_items_3 rfl ?_
    refine g_iload dX11_items_5 rfl ?_
    refine g_icmp_ge (tgt := 28) dX11_items_7 (by decide) (fun c_7 => ?_) (fun c_7 => ?_)
    · have h6 : 3 ≤ k := lit_le (n := 3) (by decide) (by omega) c_7
      have hkn : k = 3 := by omega
      subst hkn
      refine g_loc (ls' := [some (.ref 46), some (.int (99)), some (.ref 59), some (.int (nI f0)), some (.int (nI 3)), none, none]) (fun i v h => by rcases i with _|_|_|_|_|_|_|_ <;> first | exact h | cases h) ?_
      exact hE
    · have hlt : k < 3 := by have := lit_nle (n := 3) (by decide) (by omega) c_7; omega
      refine g_aload_n dX11_items_10 rfl rfl ?_
      refine g_iload_n dX11_items_11 rfl rfl ?_
      refine g_iload dX11_items_12 rfl ?_
      refine g_iadd dX11_items_14 ?_
      refine g_iload_n dX11_items_15 rfl rfl ?_
      refine g_iload dX11_items_16 rfl ?_
      refine g_callS dX11_items_18 cs_X11_225 (as := [_, _]) (e_usual (Or.inr (Or.inr rfl))) (by decide) rfl rfl (Nat.le_of_ble_eq_true rfl) ?_
      rintro _ _ ⟨rfl, rfl⟩
      try simp (disch := omega) only [up_at, up_up, up_ne]
      refine g_wa dX11_items_21 hp_59 (k := f0 + k) (nk_add (show nI (f0) = nI (f0) from rfl) (show nI (k) = nI (k) from rfl)) (by omega) (by decide) ?_
      rw [hq_59]
      try simp (disch := omega) only [up_at, up_up, up_ne]
      refine g_iinc1 dX11_items_22 rfl (by decide) ?_
      refine g_goto (tgt := 3) dX11_items_25 (by decide) ?_
      rw [nI_1, usA_s]
      exact ih (k + 1) (by omega) (by omega)

set_option maxHeartbeats 800000 in
set_option maxRecDepth 100000 in
theorem e_items2 {A : Nat → Nat → Int32} {L : Nat → Nat → Int64} {I : Nat → Nat → Int32} {X : Nat → Int64} {n f0 p0 b : Nat} {D : ROW} {ff : Int32} (tp : tpM A I n) (hff : ff = nI f0) (hf : f0 + 3 ≤ 15) (hp0 : p0 + 3 ≤ 143) (h3 : I 46 3 = nI b) (hb : b ≤ n) (w1 : I 46 4 = (-1)) : Con 4 yX11_items cX11_items 7 none [.ref 46, .int 99, .ref 59, .int ff, .int 3] (hp A L I X) (fun r_ H_ => r_ = none ∧ ∃ A9 I9, ITQ (A 47) n 59 2 f0 p0 3 D A I (itL (A 47) n (nI 2) (nI p0) 6 (sk (A 47) n b) 0 (usP D (nI 2) (nI p0))) A9 I9 ∧ H_ = hp A9 L I9 X) := by
  refine m_con (by decide) (Nat.le_of_ble_eq_true rfl) ?_
  subst hff
  refine g_ic_0 dX11_items_0 ?_
  refine g_istore dX11_items_1 (by decide) ?_
  have h := e_itu2 (A := A) (L := L) (I := I) (X := X) (Q := (fun r_ H_ => r_ = none ∧ ∃ A9 I9, ITQ (A 47) n 59 2 f0 p0 3 D A I (itL (A 47) n (nI 2) (nI p0) 6 (sk (A 47) n b) 0 (usP D (nI 2) (nI p0))) A9 I9 ∧ H_ = hp A9 L I9 X)) hf ?_ 4 0 (by decide) (by decide)
  · rw [usA_0, up_self] at h
    refine g_loc (ls' := [some (.ref 46), some (.int (99)), some (.ref 59), some (.int (nI f0)), some (.int (nI 3)), some (.int (nI 0)), none]) (fun i v h => by rcases i with _|_|_|_|_|_|_|_ <;> first | exact h | cases h) ?_
    exact h
  · refine g_ic_0 dX11_items_28 ?_
    refine g_istore dX11_items_29 (by decide) ?_
    refine g_iload_n dX11_items_31 rfl rfl ?_
    refine g_aload_n dX11_items_32 rfl rfl ?_
    refine g_callV dX11_items_33 cv_X11_135 (as' := []) hp_46 rfl (e_look tp.1 tp.2.1 h3 hb) (by decide) rfl rfl (Nat.le_of_ble_eq_true rfl) ?_
    rintro _ _ ⟨rfl, rfl⟩
    rw [show (up A 59 (usA 99 (A 59) f0 (3))) 47 = A 47 from up_ne (by decide)]
    refine g_callS dX11_items_36 cs_X11_229 (as := [_, _]) (e_item (Or.inr (Or.inr rfl))) (by decide) rfl rfl (Nat.le_of_ble_eq_true rfl) ?_
    rintro _ _ ⟨rfl, rfl⟩
    refine g_istore dX11_items_39 (by decide) ?_
    obtain ⟨us1, us2⟩ := usF_at (D := D) (kd := 2) hp0 3 (Nat.le_refl _)
    refine e_it2 (A0 := A) (I0 := I) (D0 := D) tp hf hp0 6 0 (sk (A 47) n b) (usP D (nI 2) (nI p0)) _ _ ⟨fun i hi => up_ne hi, fun j hj => ?_⟩ (sI_u sI_rf (Or.inl rfl)) us1 (fun k hk => ?_) (by decide) (by decide) ((up2_ne (by decide)).trans w1) up2_at (sk_le hb) sk_sk (fun A9 I9 z => ⟨rfl, A9, I9, z, rfl⟩)
    · rw [up_at]
      exact if_neg (by omega)
    · rw [up_at, show usP D (nI 2) (nI p0) (p0 + k) = _ from us2 k hk, (it_us2 k hk).1]
      refine ⟨?_, (it_us2 k hk).2⟩
      unfold usA
      rw [if_pos (by omega), show f0 + k - f0 = k by omega]
