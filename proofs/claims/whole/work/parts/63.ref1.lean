/-! THE REFERENCE: small methods of the object -/
theorem in_01 (v a b : Int32) : inZ v a b = 0 ∨ inZ v a b = 1 := by
  unfold inZ
  split
  · exact Or.inl rfl
  · split
    · exact Or.inl rfl
    · exact Or.inr rfl
theorem has_01 (s k : Int32) : haZ s k = 0 ∨ haZ s k = 1 := by
  unfold haZ
  split
  · exact Or.inr rfl
  · exact Or.inl rfl
theorem m1_ne {x : Int32} {k N : Nat} (hx : x = nI k) (hk : k < N) (hN : N < 100000) : ¬ x = -1 := by
  rintro rfl
  have h2 := nI_pos' (n := k) (by omega)
  rw [← hx] at h2
  exact absurd h2 (by decide)
set_option maxHeartbeats 4000000 in
set_option maxRecDepth 100000 in
theorem e_of {A : Nat → Nat → Int32} {L : Nat → Nat → Int64} {I : Nat → Nat → Int32} {X : Nat → Int64} {x y : Int32} {a b : Nat} (hx : x = nI a) (hy : y = nI b) (hl : 5 * a + b < 40) : Con 1 yX11_of cX11_of 3 (some .int) [.ref 46, .int x, .int y] (hp A L I X) (fun r_ H_ => r_ = some (.int (A 61 (5 * a + b))) ∧ H_ = hp A L I X) := by
  refine m_con (by decide) (Nat.le_of_ble_eq_true rfl) ?_
  refine g_aload_n dX11_of_0 rfl rfl ?_
  refine g_get dX11_of_1 fl_X11_52 hp_46 rfl ?_
  refine g_ic_5 dX11_of_4 ?_
  refine g_iload_n dX11_of_5 rfl rfl ?_
  refine g_imul dX11_of_6 ?_
  refine g_iload_n dX11_of_7 rfl rfl ?_
  refine g_iadd dX11_of_8 ?_
  refine g_ra dX11_of_9 hp_61 (k := (5 * a) + b) (nk_add (nk_mul (show (5 : Int32) = nI 5 from rfl) hx) hy) (by omega) (by decide) ?_
  exact g_iret dX11_of_10 ⟨rfl, rfl⟩

set_option maxHeartbeats 4000000 in
set_option maxRecDepth 100000 in
theorem e_ofCrop {A : Nat → Nat → Int32} {L : Nat → Nat → Int64} {I : Nat → Nat → Int32} {X : Nat → Int64} {x y : Int32} {a b : Nat} (hx : x = nI a) (hy : y = nI b) (hl : 3 * a + b < 15) : Con 1 yX11_ofCrop cX11_ofCrop 3 (some .int) [.ref 46, .int x, .int y] (hp A L I X) (fun r_ H_ => r_ = some (.int (A 62 (3 * a + b))) ∧ H_ = hp A L I X) := by
  refine m_con (by decide) (Nat.le_of_ble_eq_true rfl) ?_
  refine g_aload_n dX11_ofCrop_0 rfl rfl ?_
  refine g_get dX11_ofCrop_1 fl_X11_55 hp_46 rfl ?_
  refine g_ic_3 dX11_ofCrop_4 ?_
  refine g_iload_n dX11_ofCrop_5 rfl rfl ?_
  refine g_imul dX11_ofCrop_6 ?_
  refine g_iload_n dX11_ofCrop_7 rfl rfl ?_
  refine g_iadd dX11_ofCrop_8 ?_
  refine g_ra dX11_ofCrop_9 hp_62 (k := (3 * a) + b) (nk_add (nk_mul (show (3 : Int32) = nI 3 from rfl) hx) hy) (by omega) (by decide) ?_
  exact g_iret dX11_ofCrop_10 ⟨rfl, rfl⟩

set_option maxHeartbeats 4000000 in
set_option maxRecDepth 100000 in
theorem e_isMonth {A : Nat → Nat → Int32} {L : Nat → Nat → Int64} {I : Nat → Nat → Int32} {X : Nat → Int64} {x : Int32}  : Con 2 yX11_isMonth cX11_isMonth 2 (some .boolean) [.ref 46, .int x] (hp A L I X) (fun r_ H_ => r_ = some (.int (inZ x 0 (I 46 25 - 1))) ∧ H_ = hp A L I X) := by
  refine m_con (by decide) (Nat.le_of_ble_eq_true rfl) ?_
  refine g_iload_n dX11_isMonth_0 rfl rfl ?_
  refine g_ic_0 dX11_isMonth_1 ?_
  refine g_aload_n dX11_isMonth_2 rfl rfl ?_
  refine g_get dX11_isMonth_3 fl_X11_261 hp_46 rfl ?_
  refine g_ic_1 dX11_isMonth_6 ?_
  refine g_isub dX11_isMonth_7 ?_
  refine g_callS dX11_isMonth_8 cs_X11_221 (as := [_, _, _]) e_in (by decide) rfl rfl (Nat.le_of_ble_eq_true rfl) ?_
  rintro _ _ ⟨rfl, rfl⟩
  exact g_zret (in_01 _ _ _) dX11_isMonth_11 ⟨rfl, rfl⟩

set_option maxHeartbeats 4000000 in
set_option maxRecDepth 100000 in
theorem e_isCrop {A : Nat → Nat → Int32} {L : Nat → Nat → Int64} {I : Nat → Nat → Int32} {X : Nat → Int64} {x : Int32}  : Con 2 yX11_isCrop cX11_isCrop 2 (some .boolean) [.ref 46, .int x] (hp A L I X) (fun r_ H_ => r_ = some (.int (inZ x 0 (I 46 26 - 1))) ∧ H_ = hp A L I X) := by
  refine m_con (by decide) (Nat.le_of_ble_eq_true rfl) ?_
  refine g_iload_n dX11_isCrop_0 rfl rfl ?_
  refine g_ic_0 dX11_isCrop_1 ?_
  refine g_aload_n dX11_isCrop_2 rfl rfl ?_
  refine g_get dX11_isCrop_3 fl_X11_267 hp_46 rfl ?_
  refine g_ic_1 dX11_isCrop_6 ?_
  refine g_isub dX11_isCrop_7 ?_
  refine g_callS dX11_isCrop_8 cs_X11_221 (as := [_, _, _]) e_in (by decide) rfl rfl (Nat.le_of_ble_eq_true rfl) ?_
  rintro _ _ ⟨rfl, rfl⟩
  exact g_zret (in_01 _ _ _) dX11_isCrop_11 ⟨rfl, rfl⟩

set_option maxHeartbeats 4000000 in
set_option maxRecDepth 100000 in
theorem e_isRipe {A : Nat → Nat → Int32} {L : Nat → Nat → Int64} {I : Nat → Nat → Int32} {X : Nat → Int64} {x : Int32}  : Con 2 yX11_isRipe cX11_isRipe 2 (some .boolean) [.ref 46, .int x] (hp A L I X) (fun r_ H_ => r_ = some (.int (haZ (A 63 34) x)) ∧ H_ = hp A L I X) := by
  refine m_con (by decide) (Nat.le_of_ble_eq_true rfl) ?_
  refine g_aload_n dX11_isRipe_0 rfl rfl ?_
  refine g_get dX11_isRipe_1 fl_X11_58 hp_46 rfl ?_
  refine g_bipush (v := 34) dX11_isRipe_4 (by decide) ?_
  refine g_ra dX11_isRipe_6 hp_63 (k := 34) rfl (by decide) (by decide) ?_
  refine g_iload_n dX11_isRipe_7 rfl rfl ?_
  refine g_callS dX11_isRipe_8 cs_X11_232 (as := [_, _]) e_has (by decide) rfl rfl (Nat.le_of_ble_eq_true rfl) ?_
  rintro _ _ ⟨rfl, rfl⟩
  exact g_zret (has_01 _ _) dX11_isRipe_11 ⟨rfl, rfl⟩

def atZ (N : ROW) (n : Int32) : Int32 := if inZ n 1 60 = 0 then 0 else if 9999 < N 42 + n then 0 else 1
set_option maxHeartbeats 4000000 in
set_option maxRecDepth 100000 in
theorem e_areTurns {A : Nat → Nat → Int32} {L : Nat → Nat → Int64} {I : Nat → Nat → Int32} {X : Nat → Int64} {n : Int32}  : Con 2 yX11_areTurns cX11_areTurns 2 (some .boolean) [.ref 46, .int n] (hp A L I X) (fun r_ H_ => r_ = some (.int (atZ (A 63) n)) ∧ H_ = hp A L I X) := by
  refine m_con (by decide) (Nat.le_of_ble_eq_true rfl) ?_
  refine g_iload_n dX11_areTurns_0 rfl rfl ?_
  refine g_ic_1 dX11_areTurns_1 ?_
  refine g_bipush (v := 60) dX11_areTurns_2 (by decide) ?_
  refine g_callS dX11_areTurns_4 cs_X11_221 (as := [_, _, _]) e_in (by decide) rfl rfl (Nat.le_of_ble_eq_true rfl) ?_
  rintro _ _ ⟨rfl, rfl⟩
  refine g_if_eq (tgt := 29) dX11_areTurns_7 (by decide) (fun c_7 => ?_) (fun c_7 => ?_)
  · refine g_ic_0 dX11_areTurns_29 ?_
    exact g_zret (by first | exact Or.inl rfl | exact Or.inr rfl) dX11_areTurns_30 ⟨congrArg (fun z => some (Value.int z)) (by simp [atZ, c_7]), rfl⟩
  · refine g_aload_n dX11_areTurns_10 rfl rfl ?_
    refine g_get dX11_areTurns_11 fl_X11_58 hp_46 rfl ?_
    refine g_bipush (v := 42) dX11_areTurns_14 (by decide) ?_
    refine g_ra dX11_areTurns_16 hp_63 (k := 42) rfl (by decide) (by decide) ?_
    refine g_iload_n dX11_areTurns_17 rfl rfl ?_
    refine g_iadd dX11_areTurns_18 ?_
    refine g_sipush (v := 9999) dX11_areTurns_19 (by decide) ?_
    refine g_icmp_gt (tgt := 29) dX11_areTurns_22 (by decide) (fun c_22 => ?_) (fun c_22 => ?_)
    · refine g_ic_0 dX11_areTurns_29 ?_
      exact g_zret (by first | exact Or.inl rfl | exact Or.inr rfl) dX11_areTurns_30 ⟨congrArg (fun z => some (Value.int z)) (by simp [atZ, c_7, c_22]), rfl⟩
    · refine g_ic_1 dX11_areTurns_25 ?_
      refine g_goto (tgt := 30) dX11_areTurns_26 (by decide) ?_
      exact g_zret (by first | exact Or.inl rfl | exact Or.inr rfl) dX11_areTurns_30 ⟨congrArg (fun z => some (Value.int z)) (by simp [atZ, c_7, c_22]), rfl⟩

set_option maxHeartbeats 4000000 in
set_option maxRecDepth 100000 in
theorem e_ref1 {A : Nat → Nat → Int32} {L : Nat → Nat → Int64} {I : Nat → Nat → Int32} {X : Nat → Int64}   : Con 1 yX11_isRefused cX11_isRefused 2 (some .boolean) [.ref 46, .int (-1)] (hp A L I X) (fun r_ H_ => r_ = some (.int 0) ∧ H_ = hp A L I X) := by
  refine m_con (by decide) (Nat.le_of_ble_eq_true rfl) ?_
  refine g_iload_n dX11_isRefused_0 rfl rfl ?_
  refine g_ic_m1 dX11_isRefused_1 ?_
  refine g_icmp_eq (tgt := 15) dX11_isRefused_2 (by decide) (fun c_2 => ?_) (fun c_2 => ?_)
  · refine g_iload_n dX11_isRefused_15 rfl rfl ?_
    refine g_ic_m1 dX11_isRefused_16 ?_
    refine g_icmp_eq (tgt := 24) dX11_isRefused_17 (by decide) (fun c_17 => ?_) (fun c_17 => ?_)
    · refine g_ic_0 dX11_isRefused_24 ?_
      exact g_zret (by first | exact Or.inl rfl | exact Or.inr rfl) dX11_isRefused_25 ⟨rfl, rfl⟩
    · exact absurd rfl c_17
  · exact absurd rfl c_2

set_option maxHeartbeats 4000000 in
set_option maxRecDepth 100000 in
theorem e_ref0 {A : Nat → Nat → Int32} {L : Nat → Nat → Int64} {I : Nat → Nat → Int32} {X : Nat → Int64} {x : Int32} {k : Nat} (hx : x = nI k) (hk : k < 5) : Con 1 yX11_isRefused cX11_isRefused 2 (some .boolean) [.ref 46, .int x] (hp A L I X) (fun r_ H_ => r_ = some (.int 1) ∧ H_ = hp (up A 64 (upd (A 64) k (A 64 k + 1))) L I X) := by
  refine m_con (by decide) (Nat.le_of_ble_eq_true rfl) ?_
  refine g_iload_n dX11_isRefused_0 rfl rfl ?_
  refine g_ic_m1 dX11_isRefused_1 ?_
  refine g_icmp_eq (tgt := 15) dX11_isRefused_2 (by decide) (fun c_2 => ?_) (fun c_2 => ?_)
  · exact absurd c_2 (m1_ne hx hk (by decide))
  · refine g_aload_n dX11_isRefused_5 rfl rfl ?_
    refine g_get dX11_isRefused_6 fl_X11_61 hp_46 rfl ?_
    refine g_iload_n dX11_isRefused_9 rfl rfl ?_
    refine g_dup2 dX11_isRefused_10 rfl rfl ?_
    refine g_ra dX11_isRefused_11 hp_64 (k := k) hx (by omega) (by decide) ?_
    refine g_ic_1 dX11_isRefused_12 ?_
    refine g_iadd dX11_isRefused_13 ?_
    refine g_wa dX11_isRefused_14 hp_64 (k := k) hx (by omega) (by decide) ?_
    rw [hq_64]
    try simp (disch := omega) only [up_at, up_up, up_ne, up2_at, up2_up2, up2_ne, ud_at, ud_ne]
    refine g_iload_n dX11_isRefused_15 rfl rfl ?_
    refine g_ic_m1 dX11_isRefused_16 ?_
    refine g_icmp_eq (tgt := 24) dX11_isRefused_17 (by decide) (fun c_17 => ?_) (fun c_17 => ?_)
    · exact absurd c_17 (m1_ne hx hk (by decide))
    · refine g_ic_1 dX11_isRefused_20 ?_
      refine g_goto (tgt := 25) dX11_isRefused_21 (by decide) ?_
      exact g_zret (by first | exact Or.inl rfl | exact Or.inr rfl) dX11_isRefused_25 ⟨rfl, rfl⟩

def chN (N : ROW) (m : Nat) : ROW := upd (upd N (8 + m) (N (8 + m) - 1)) (16 + m) (mn 9 (N (16 + m) + 1))
set_option maxHeartbeats 4000000 in
set_option maxRecDepth 100000 in
theorem e_chipNow {A : Nat → Nat → Int32} {L : Nat → Nat → Int64} {I : Nat → Nat → Int32} {X : Nat → Int64} {x : Int32} {m : Nat} (hx : x = nI m) (hm : m < 8) : Con 2 yX11_chipNow cX11_chipNow 2 none [.ref 46, .int x] (hp A L I X) (fun r_ H_ => r_ = none ∧ H_ = hp (up A 63 (chN (A 63) m)) L I X) := by
  refine m_con (by decide) (Nat.le_of_ble_eq_true rfl) ?_
  refine g_aload_n dX11_chipNow_0 rfl rfl ?_
  refine g_get dX11_chipNow_1 fl_X11_58 hp_46 rfl ?_
  refine g_bipush (v := 8) dX11_chipNow_4 (by decide) ?_
  refine g_iload_n dX11_chipNow_6 rfl rfl ?_
  refine g_iadd dX11_chipNow_7 ?_
  refine g_dup2 dX11_chipNow_8 rfl rfl ?_
  refine g_ra dX11_chipNow_9 hp_63 (k := 8 + m) (nk_add (show (8 : Int32) = nI 8 from rfl) hx) (by omega) (by decide) ?_
  refine g_ic_1 dX11_chipNow_10 ?_
  refine g_isub dX11_chipNow_11 ?_
  refine g_wa dX11_chipNow_12 hp_63 (k := 8 + m) (nk_add (show (8 : Int32) = nI 8 from rfl) hx) (by omega) (by decide) ?_
  rw [hq_63]
  try simp (disch := omega) only [up_at, up_up, up_ne, up2_at, up2_up2, up2_ne, ud_at, ud_ne]
  refine g_aload_n dX11_chipNow_13 rfl rfl ?_
  refine g_get dX11_chipNow_14 fl_X11_58 hp_46 rfl ?_
  refine g_bipush (v := 16) dX11_chipNow_17 (by decide) ?_
  refine g_iload_n dX11_chipNow_19 rfl rfl ?_
  refine g_iadd dX11_chipNow_20 ?_
  refine g_bipush (v := 9) dX11_chipNow_21 (by decide) ?_
  refine g_aload_n dX11_chipNow_23 rfl rfl ?_
  refine g_get dX11_chipNow_24 fl_X11_58 hp_46 rfl ?_
  refine g_bipush (v := 16) dX11_chipNow_27 (by decide) ?_
  refine g_iload_n dX11_chipNow_29 rfl rfl ?_
  refine g_iadd dX11_chipNow_30 ?_
  refine g_ra dX11_chipNow_31 hp_63 (k := 16 + m) (nk_add (show (16 : Int32) = nI 16 from rfl) hx) (by omega) (by decide) ?_
  try simp (disch := omega) only [up_at, up_up, up_ne, up2_at, up2_up2, up2_ne, ud_at, ud_ne]
  refine g_ic_1 dX11_chipNow_32 ?_
  refine g_iadd dX11_chipNow_33 ?_
  refine g_min dX11_chipNow_34 ml_X11_292 ms_min mi_math mc_min (by decide) (Nat.le_of_ble_eq_true rfl) ?_
  refine g_wa dX11_chipNow_37 hp_63 (k := 16 + m) (nk_add (show (16 : Int32) = nI 16 from rfl) hx) (by omega) (by decide) ?_
  rw [hq_63]
  try simp (disch := omega) only [up_at, up_up, up_ne, up2_at, up2_up2, up2_ne, ud_at, ud_ne]
  exact g_vret dX11_chipNow_38 ⟨rfl, rfl⟩

theorem fl_upd {F f : ROW} {k : Nat} : upd (fl F f k) k (F k) = fl F f (k + 1) := by
  funext j
  unfold fl upd
  by_cases h : j = k
  · subst h
    rw [if_pos rfl, if_pos (by omega)]
  · rw [if_neg h]
    show (if j < k then F j else f j) = if j < k + 1 then F j else f j
    by_cases h2 : j < k
    · rw [if_pos h2, if_pos (by omega)]
    · rw [if_neg h2, if_neg (by omega)]
theorem fl_lt {F f : ROW} {k j : Nat} (h : j < k) : fl F f k j = F j := if_pos h
theorem fl_ge {F f : ROW} {k j : Nat} (h : k ≤ j) : fl F f k j = f j := if_neg (by omega)
set_option maxHeartbeats 4000000 in
set_option maxRecDepth 100000 in
theorem e_put2 {A : Nat → Nat → Int32} {L : Nat → Nat → Int64} {I : Nat → Nat → Int32} {X : Nat → Int64} {Q : Option Value → m_H → Prop} (hE : G 1 RX11 cX11_putAside 2 none Q 47 [some (.ref 46), some (.int (nI 8))] [] (hp (up A 65 (fl (fun _ => 0) (A 65) 8)) L I X)) : ∀ n k, k ≤ 8 → 8 - k < n → G 1 RX11 cX11_putAside 2 none Q 28 [some (.ref 46), some (.int (nI k))] [] (hp (up A 65 (fl (fun _ => 0) (A 65) k)) L I X) := by
  intro n
  induction n with
  | zero => intro k h1 h2; omega
  | succ n ih =>
    intro k h1 h2
    refine g_iload_n dX11_putAside_28 rfl rfl ?_
    refine g_bipush (v := 8) dX11_putAside_29 (by decide) ?_
    refine g_icmp_ge (tgt := 47) dX11_putAside_31 (by decide) (fun c_31 => ?_) (fun c_31 => ?_)
    · have h6 : 8 ≤ k := lit_le (n := 8) (by decide) (by omega) c_31
      have hkn : k = 8 := by omega
      subst hkn
      exact hE
    · have hlt : k < 8 := lit_nle (n := 8) (by decide) (by omega) c_31
      refine g_aload_n dX11_putAside_34 rfl rfl ?_
      refine g_get dX11_putAside_35 fl_X11_68 hp_46 rfl ?_
      refine g_iload_n dX11_putAside_38 rfl rfl ?_
      refine g_ic_0 dX11_putAside_39 ?_
      refine g_wa dX11_putAside_40 hp_65 (k := k) rfl (by omega) (by decide) ?_
      rw [hq_65]
      try simp (disch := omega) only [up_at, up_up, up_ne, up2_at, up2_up2, up2_ne, ud_at, ud_ne]
      refine g_iinc1 dX11_putAside_41 rfl (by decide) ?_
      refine g_goto (tgt := 28) dX11_putAside_44 (by decide) ?_
      rw [fl_upd (F := fun _ => 0), nI_1]
      exact ih (k + 1) (by omega) (by omega)

set_option maxHeartbeats 4000000 in
set_option maxRecDepth 100000 in
theorem e_put1 {A : Nat → Nat → Int32} {L : Nat → Nat → Int64} {I : Nat → Nat → Int32} {X : Nat → Int64} {Q : Option Value → m_H → Prop} (hE : G 1 RX11 cX11_putAside 2 none Q 26 [some (.ref 46), some (.int (nI 43))] [] (hp (up A 67 (fl (A 63) (A 67) 43)) L I X)) : ∀ n k, k ≤ 43 → 43 - k < n → G 1 RX11 cX11_putAside 2 none Q 2 [some (.ref 46), some (.int (nI k))] [] (hp (up A 67 (fl (A 63) (A 67) k)) L I X) := by
  intro n
  induction n with
  | zero => intro k h1 h2; omega
  | succ n ih =>
    intro k h1 h2
    refine g_iload_n dX11_putAside_2 rfl rfl ?_
    refine g_bipush (v := 43) dX11_putAside_3 (by decide) ?_
    refine g_icmp_ge (tgt := 26) dX11_putAside_5 (by decide) (fun c_5 => ?_) (fun c_5 => ?_)
    · have h6 : 43 ≤ k := lit_le (n := 43) (by decide) (by omega) c_5
      have hkn : k = 43 := by omega
      subst hkn
      exact hE
    · have hlt : k < 43 := lit_nle (n := 43) (by decide) (by omega) c_5
      refine g_aload_n dX11_putAside_8 rfl rfl ?_
      refine g_get dX11_putAside_9 fl_X11_74 hp_46 rfl ?_
      refine g_iload_n dX11_putAside_12 rfl rfl ?_
      refine g_aload_n dX11_putAside_13 rfl rfl ?_
      refine g_get dX11_putAside_14 fl_X11_58 hp_46 rfl ?_
      refine g_iload_n dX11_putAside_17 rfl rfl ?_
      refine g_ra dX11_putAside_18 hp_63 (k := k) rfl (by omega) (by decide) ?_
      refine g_wa dX11_putAside_19 hp_67 (k := k) rfl (by omega) (by decide) ?_
      rw [hq_67]
      try simp (disch := omega) only [up_at, up_up, up_ne, up2_at, up2_up2, up2_ne, ud_at, ud_ne]
      refine g_iinc1 dX11_putAside_20 rfl (by decide) ?_
      refine g_goto (tgt := 2) dX11_putAside_23 (by decide) ?_
      rw [fl_upd, nI_1]
      exact ih (k + 1) (by omega) (by omega)

set_option maxHeartbeats 4000000 in
set_option maxRecDepth 100000 in
theorem e_putAside {A : Nat → Nat → Int32} {L : Nat → Nat → Int64} {I : Nat → Nat → Int32} {X : Nat → Int64} : Con 1 yX11_putAside cX11_putAside 2 none [.ref 46] (hp A L I X) (fun r_ H_ => r_ = none ∧ H_ = hp (up (up A 67 (A 63)) 65 (fun _ => 0)) L (up2 I 46 33 0) X) := by
  refine m_con (by decide) (Nat.le_of_ble_eq_true rfl) ?_
  refine g_ic_0 dX11_putAside_0 ?_
  refine g_istore_n dX11_putAside_1 rfl (by decide) ?_
  refine g_eq (Hp2 := hp (up A 67 (fl (A 63) (A 67) 0)) L I X) (by rw [fl_0, up_self]) ?_
  refine e_put1 ?_ 44 0 (by omega) (by omega)
  refine g_ext (A 63) hp_67 (fun j hj => (by rw [up_at]; exact fl_lt hj)) ?_
  rw [hq_67]
  try simp (disch := omega) only [up_at, up_up, up_ne, up2_at, up2_up2, up2_ne, ud_at, ud_ne]
  refine g_ic_0 dX11_putAside_26 ?_
  refine g_istore_n dX11_putAside_27 rfl (by decide) ?_
  refine g_eq (Hp2 := hp (up (up A 67 (A 63)) 65 (fl (fun _ => 0) ((up A 67 (A 63)) 65) 0)) L I X) (by rw [fl_0, up_self]) ?_
  refine e_put2 ?_ 9 0 (by omega) (by omega)
  refine g_ext (fun _ => 0) hp_65 (fun j hj => (by rw [up_at]; exact fl_lt hj)) ?_
  rw [hq_65]
  try simp (disch := omega) only [up_at, up_up, up_ne, up2_at, up2_up2, up2_ne, ud_at, ud_ne]
  refine g_aload_n dX11_putAside_47 rfl rfl ?_
  refine g_ic_0 dX11_putAside_48 ?_
  refine g_puti dX11_putAside_49 fw_X11_299 hp_46 (Nat.le_of_ble_eq_true rfl) ?_
  rw [hq_46_33]
  try simp (disch := omega) only [up_at, up_up, up_ne, up2_at, up2_up2, up2_ne, ud_at, ud_ne]
  exact g_vret dX11_putAside_52 ⟨rfl, rfl⟩

set_option maxHeartbeats 4000000 in
set_option maxRecDepth 100000 in
theorem e_back1 {A : Nat → Nat → Int32} {L : Nat → Nat → Int64} {I : Nat → Nat → Int32} {X : Nat → Int64} : ∀ n k, k ≤ 43 → 43 - k < n → G 1 RX11 cX11_takeBack 2 none (fun r_ H_ => r_ = none ∧ H_ = hp (up A 63 (fl (A 67) (A 63) 43)) L I X) 2 [some (.ref 46), some (.int (nI k))] [] (hp (up A 63 (fl (A 67) (A 63) k)) L I X) := by
  intro n
  induction n with
  | zero => intro k h1 h2; omega
  | succ n ih =>
    intro k h1 h2
    refine g_iload_n dX11_takeBack_2 rfl rfl ?_
    refine g_bipush (v := 43) dX11_takeBack_3 (by decide) ?_
    refine g_icmp_ge (tgt := 26) dX11_takeBack_5 (by decide) (fun c_5 => ?_) (fun c_5 => ?_)
    · have h6 : 43 ≤ k := lit_le (n := 43) (by decide) (by omega) c_5
      have hkn : k = 43 := by omega
      subst hkn
      exact g_vret dX11_takeBack_26 ⟨rfl, rfl⟩
    · have hlt : k < 43 := lit_nle (n := 43) (by decide) (by omega) c_5
      refine g_aload_n dX11_takeBack_8 rfl rfl ?_
      refine g_get dX11_takeBack_9 fl_X11_58 hp_46 rfl ?_
      refine g_iload_n dX11_takeBack_12 rfl rfl ?_
      refine g_aload_n dX11_takeBack_13 rfl rfl ?_
      refine g_get dX11_takeBack_14 fl_X11_74 hp_46 rfl ?_
      refine g_iload_n dX11_takeBack_17 rfl rfl ?_
      refine g_ra dX11_takeBack_18 hp_67 (k := k) rfl (by omega) (by decide) ?_
      refine g_wa dX11_takeBack_19 hp_63 (k := k) rfl (by omega) (by decide) ?_
      rw [hq_63]
      try simp (disch := omega) only [up_at, up_up, up_ne, up2_at, up2_up2, up2_ne, ud_at, ud_ne]
      refine g_iinc1 dX11_takeBack_20 rfl (by decide) ?_
      refine g_goto (tgt := 2) dX11_takeBack_23 (by decide) ?_
      rw [fl_upd, nI_1]
      exact ih (k + 1) (by omega) (by omega)

set_option maxHeartbeats 4000000 in
set_option maxRecDepth 100000 in
theorem e_takeBack {A : Nat → Nat → Int32} {L : Nat → Nat → Int64} {I : Nat → Nat → Int32} {X : Nat → Int64} : Con 1 yX11_takeBack cX11_takeBack 2 none [.ref 46] (hp A L I X) (fun r_ H_ => r_ = none ∧ H_ = hp (up A 63 (fl (A 67) (A 63) 43)) L I X) := by
  refine m_con (by decide) (Nat.le_of_ble_eq_true rfl) ?_
  refine g_ic_0 dX11_takeBack_0 ?_
  refine g_istore_n dX11_takeBack_1 rfl (by decide) ?_
  refine g_eq (Hp2 := hp (up A 63 (fl (A 67) (A 63) 0)) L I X) (by rw [fl_0, up_self]) ?_
  exact e_back1 44 0 (by omega) (by omega)
