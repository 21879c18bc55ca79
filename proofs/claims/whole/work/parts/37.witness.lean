/-! WITNESS: when 38, where 39, isSo 40, paths 41, fits 42, tellers 43; many I 34 9; told 16 (17, 18), trial 35 (36, 37) -/
def paS (P : Nat → Int32) (s n : Int32) : Int32 := gt 369 P (s * 41 + n)
def gsW (A : Nat → Nat → Int32) (s g : Int32) : Nat → Int32 := if s = 8 then A 17 else gsM (A 17) s g
/-- the paths' row behind the walk of a suspect: k turns laid -/
def waP (A I : Nat → Nat → Int32) (s g : Int32) (P : Nat → Int32) : Nat → Nat → Int32
  | 0 => P
  | k + 1 => pt 369 (waP A I s g P k) (s * 41 + nI (k + 1)) (gt 143 (tnsS (A 12) (A 13) (I 11 5) (k + 1) (gsW A s g, fun _ => 0)).1 5)
set_option maxHeartbeats 4000000 in
set_option maxRecDepth 100000 in
theorem v_path {A : Nat → Nat → Int32} {L : Nat → Nat → Int64} {I : Nat → Nat → Int32} {X : Nat → Int64} {s n : Int32}  : Con 2 yX9_pathAt cX9_pathAt 3 (some .int) [.ref 34, .int s, .int n] (hp A L I X) (fun r_ H_ => r_ = some (.int (paS (A 41) s n)) ∧ H_ = hp A L I X) := by
  refine m_con (by decide) (Nat.le_of_ble_eq_true rfl) ?_
  refine g_aload_n dX9_pathAt_0 rfl rfl ?_
  refine g_get dX9_pathAt_1 fl_X9_28 hp_34 rfl ?_
  refine g_iload_n dX9_pathAt_4 rfl rfl ?_
  refine g_bipush (v := 41) dX9_pathAt_5 (by decide) ?_
  refine g_imul dX9_pathAt_7 ?_
  refine g_iload_n dX9_pathAt_8 rfl rfl ?_
  refine g_iadd dX9_pathAt_9 ?_
  refine g_callS dX9_pathAt_10 cs_X9_52 (as := [_, _]) (k_cell (Hp := _) (q := 41) ha_41 (by decide)) (by decide) rfl rfl (Nat.le_of_ble_eq_true rfl) ?_
  rintro _ _ ⟨rfl, rfl⟩
  exact g_iret dX9_pathAt_13 ⟨rfl, rfl⟩

set_option maxHeartbeats 4000000 in
set_option maxRecDepth 100000 in
theorem v_add {A : Nat → Nat → Int32} {L : Nat → Nat → Int64} {I : Nat → Nat → Int32} {X : Nat → Int64} {n m w : Int32}  : Con 2 yX9_addSeen cX9_addSeen 4 (some .int) [.ref 34, .int n, .int m, .int w] (hp A L I X) (fun r_ H_ => r_ = some (.int (I 34 9 + 1)) ∧ H_ = hp (up (up (up A 38 (pt 10 (A 38) (I 34 9) n)) 39 (pt 10 (A 39) (I 34 9) m)) 40 (pt 10 (A 40) (I 34 9) (if w = 0 then 0 else 1))) L (up2 I 34 9 (I 34 9 + 1)) X) := by
  refine m_con (by decide) (Nat.le_of_ble_eq_true rfl) ?_
  refine g_aload_n dX9_addSeen_0 rfl rfl ?_
  refine g_get dX9_addSeen_1 fl_X9_18 hp_34 rfl ?_
  refine g_aload_n dX9_addSeen_4 rfl rfl ?_
  refine g_get dX9_addSeen_5 fl_X9_44 hp_34 rfl ?_
  refine g_iload_n dX9_addSeen_8 rfl rfl ?_
  refine g_callS dX9_addSeen_9 cs_X9_48 (as := [_, _, _]) (k_setCell hp_38 (by decide)) (by decide) rfl rfl (Nat.le_of_ble_eq_true rfl) ?_
  rintro _ _ ⟨rfl, rfl⟩
  rw [hq_38]
  refine g_aload_n dX9_addSeen_12 rfl rfl ?_
  refine g_get dX9_addSeen_13 fl_X9_22 hp_34 rfl ?_
  refine g_aload_n dX9_addSeen_16 rfl rfl ?_
  refine g_get dX9_addSeen_17 fl_X9_44 hp_34 rfl ?_
  refine g_iload_n dX9_addSeen_20 rfl rfl ?_
  refine g_callS dX9_addSeen_21 cs_X9_48 (as := [_, _, _]) (k_setCell hp_39 (by decide)) (by decide) rfl rfl (Nat.le_of_ble_eq_true rfl) ?_
  rintro _ _ ⟨rfl, rfl⟩
  rw [hq_39]
  refine g_aload_n dX9_addSeen_24 rfl rfl ?_
  refine g_get dX9_addSeen_25 fl_X9_25 hp_34 rfl ?_
  refine g_aload_n dX9_addSeen_28 rfl rfl ?_
  refine g_get dX9_addSeen_29 fl_X9_44 hp_34 rfl ?_
  refine g_iload_n dX9_addSeen_32 rfl rfl ?_
  refine g_if_eq (tgt := 40) dX9_addSeen_33 (by decide) (fun c_33 => ?_) (fun c_33 => ?_)
  · refine g_ic_0 dX9_addSeen_40 ?_
    refine g_callS dX9_addSeen_41 cs_X9_48 (as := [_, _, _]) (k_setCell hp_40 (by decide)) (by decide) rfl rfl (Nat.le_of_ble_eq_true rfl) ?_
    rintro _ _ ⟨rfl, rfl⟩
    rw [hq_40]
    refine g_aload_n dX9_addSeen_44 rfl rfl ?_
    refine g_dup dX9_addSeen_45 rfl ?_
    refine g_get dX9_addSeen_46 fl_X9_44 hp_34 rfl ?_
    refine g_ic_1 dX9_addSeen_49 ?_
    refine g_iadd dX9_addSeen_50 ?_
    refine g_puti dX9_addSeen_51 fw_X9_44 hp_34 (Nat.le_of_ble_eq_true rfl) ?_
    rw [hq_34_9]
    refine g_aload_n dX9_addSeen_54 rfl rfl ?_
    refine g_get dX9_addSeen_55 fl_X9_44 hp_34 rfl ?_
    exact g_iret dX9_addSeen_58 ⟨by rw [up2_at], by first | (rw [if_pos c_33]; rfl) | (rw [if_neg c_33]; rfl)⟩
  · refine g_ic_1 dX9_addSeen_36 ?_
    refine g_goto (tgt := 41) dX9_addSeen_37 (by decide) ?_
    refine g_callS dX9_addSeen_41 cs_X9_48 (as := [_, _, _]) (k_setCell hp_40 (by decide)) (by decide) rfl rfl (Nat.le_of_ble_eq_true rfl) ?_
    rintro _ _ ⟨rfl, rfl⟩
    rw [hq_40]
    refine g_aload_n dX9_addSeen_44 rfl rfl ?_
    refine g_dup dX9_addSeen_45 rfl ?_
    refine g_get dX9_addSeen_46 fl_X9_44 hp_34 rfl ?_
    refine g_ic_1 dX9_addSeen_49 ?_
    refine g_iadd dX9_addSeen_50 ?_
    refine g_puti dX9_addSeen_51 fw_X9_44 hp_34 (Nat.le_of_ble_eq_true rfl) ?_
    rw [hq_34_9]
    refine g_aload_n dX9_addSeen_54 rfl rfl ?_
    refine g_get dX9_addSeen_55 fl_X9_44 hp_34 rfl ?_
    exact g_iret dX9_addSeen_58 ⟨by rw [up2_at], by first | (rw [if_pos c_33]; rfl) | (rw [if_neg c_33]; rfl)⟩

def smW (A I A' I' : Nat → Nat → Int32) : Prop := (∀ i, ns1 i = true → i ≠ 41 → A' i = A i) ∧ ∀ i k, ¬ (i = 11 ∧ k = 6) → I' i k = I i k
theorem smW_tr {A A1 A2 I I1 I2 : Nat → Nat → Int32} (h : smW A I A1 I1) (k : smW A1 I1 A2 I2) : smW A I A2 I2 :=
  ⟨fun i z a => (k.1 i z a).trans (h.1 i z a), fun i l z => (k.2 i l z).trans (h.2 i l z)⟩
theorem smW_1 {A A1 I I1 : Nat → Nat → Int32} (h : sm1 A I A1 I1) : smW A I A1 I1 := ⟨fun i z _ => h.1 i z, h.2⟩
theorem smW_up {A I : Nat → Nat → Int32} {f : Nat → Int32} : smW A I (up A 41 f) I := ⟨fun i _ a => up_ne a, fun _ _ _ => rfl⟩
theorem smW_sm {A A1 I I1 : Nat → Nat → Int32} {L : Nat → Nat → Int64} (h : smW A I A1 I1) : sm A L I A1 L I1 :=
  ⟨fun i z => h.1 i (ns1_sc z) (by rintro rfl; revert z; decide), fun i k z => h.2 i k (by rintro ⟨rfl, rfl⟩; revert z; decide), fun _ _ => rfl⟩
set_option maxHeartbeats 4000000 in
set_option maxRecDepth 100000 in
theorem v_walk_loop {A : Nat → Nat → Int32} {L : Nat → Nat → Int64} {I : Nat → Nat → Int32} {X : Nat → Int64} {s g : Int32} {Q : Option Value → m_H → Prop} (hE : ∀ A2 I2, (smW A I A2 I2 ∧ A2 41 = waP A I s g (A 41) 40) → G 6 RX9 cX9_walk 4 none Q 73 [some (.ref 34), some (.int s), some (.int g), some (.int (nI (40 + 1)))] [] (hp A2 L I2 X)) : ∀ n k A2 I2, (smW A I A2 I2 ∧ A2 41 = waP A I s g (A 41) k) → (A2 36, A2 37) = tnsS (A 12) (A 13) (I 11 5) k (gsW A s g, fun _ => 0) → k ≤ 40 → 40 - k < n → G 6 RX9 cX9_walk 4 none Q 28 [some (.ref 34), some (.int s), some (.int g), some (.int (nI (k + 1)))] [] (hp A2 L I2 X) := by
  intro n
  induction n with
  | zero => intro k A2 I2 hm h36 h1 h2; omega
  | succ n ih =>
    intro k A2 I2 hm h36 h1 h2
    refine g_iload_n dX9_walk_28 rfl rfl ?_
    refine g_bipush (v := 40) dX9_walk_29 (by decide) ?_
    refine g_icmp_gt (tgt := 73) dX9_walk_31 (by decide) (fun c_31 => ?_) (fun c_31 => ?_)
    · have h6 : 40 < k + 1 := lit_lt (n := 40) (by decide) (by omega) c_31
      have hkn : k = 40 := by omega
      subst hkn
      exact hE A2 I2 hm
    · have hlt : k + 1 ≤ 40 := lit_nlt (n := 40) (by decide) (by omega) c_31
      refine g_aload_n dX9_walk_34 rfl rfl ?_
      refine g_get dX9_walk_35 fl_X9_12 hp_34 rfl ?_
      refine g_ic_1 dX9_walk_38 ?_
      refine g_aload_n dX9_walk_39 rfl rfl ?_
      refine g_get dX9_walk_40 fl_X9_40 hp_34 rfl ?_
      refine g_callV dX9_walk_43 cv_X9_64 (as' := [_, _]) hp_35 rfl f_turnsB35 (by decide) rfl rfl (Nat.le_of_ble_eq_true rfl) ?_
      rintro _ _ ⟨rfl, A1, I1, m1, e1, rfl⟩
      have e2 : (A1 36, A1 37) = tnsS (A 12) (A 13) (I 11 5) (k + 1) (gsW A s g, fun _ => 0) := by rw [e1, h36, hm.1.1 12 (by decide) (by decide), hm.1.1 13 (by decide) (by decide), hm.1.2 11 5 (by decide)]; rfl
      have e3 : A1 36 = (tnsS (A 12) (A 13) (I 11 5) (k + 1) (gsW A s g, fun _ => 0)).1 := congrArg Prod.fst e2
      refine g_aload_n dX9_walk_46 rfl rfl ?_
      refine g_get dX9_walk_47 fl_X9_28 hp_34 rfl ?_
      refine g_iload_n dX9_walk_50 rfl rfl ?_
      refine g_bipush (v := 41) dX9_walk_51 (by decide) ?_
      refine g_imul dX9_walk_53 ?_
      refine g_iload_n dX9_walk_54 rfl rfl ?_
      refine g_iadd dX9_walk_55 ?_
      refine g_aload_n dX9_walk_56 rfl rfl ?_
      refine g_get dX9_walk_57 fl_X9_12 hp_34 rfl ?_
      refine g_ic_5 dX9_walk_60 ?_
      refine g_callV dX9_walk_61 cv_X9_68 (as' := [_]) hp_35 rfl (h_get isS_35) (by decide) rfl rfl (Nat.le_of_ble_eq_true rfl) ?_
      rintro _ _ ⟨rfl, rfl⟩
      rw [e3]
      refine g_callS dX9_walk_64 cs_X9_48 (as := [_, _, _]) (k_setCell hp_41 (by decide)) (by decide) rfl rfl (Nat.le_of_ble_eq_true rfl) ?_
      rintro _ _ ⟨rfl, rfl⟩
      rw [hq_41]
      refine g_iinc1 dX9_walk_67 rfl (by decide) ?_
      refine g_goto (tgt := 28) dX9_walk_70 (by decide) ?_
      rw [nI_1]
      exact ih (k + 1) _ I1 ⟨smW_tr hm.1 (smW_tr (smW_1 m1) smW_up), by rw [up_at, m1.1 41 (by decide), hm.2]; rfl⟩ (by rw [up_ne (show (36 : Nat) ≠ 41 by decide), up_ne (show (37 : Nat) ≠ 41 by decide)]; exact e2) (by omega) (by omega)

set_option maxHeartbeats 4000000 in
set_option maxRecDepth 100000 in
theorem v_walk {A : Nat → Nat → Int32} {L : Nat → Nat → Int64} {I : Nat → Nat → Int32} {X : Nat → Int64} {s g : Int32}  : Con 6 yX9_walk cX9_walk 4 none [.ref 34, .int s, .int g] (hp A L I X) (fun r_ H_ => r_ = none ∧ ∃ A9 I9, smW A I A9 I9 ∧ A9 41 = waP A I s g (A 41) 40 ∧ H_ = hp A9 L I9 X) := by
  refine m_con (by decide) (Nat.le_of_ble_eq_true rfl) ?_
  refine g_aload_n dX9_walk_0 rfl rfl ?_
  refine g_get dX9_walk_1 fl_X9_12 hp_34 rfl ?_
  refine g_aload_n dX9_walk_4 rfl rfl ?_
  refine g_get dX9_walk_5 fl_X9_37 hp_34 rfl ?_
  refine g_callV dX9_walk_8 cv_X9_56 (as' := [_]) hp_35 rfl (f_becomeB35 isS_16 (by decide)) (by decide) rfl rfl (Nat.le_of_ble_eq_true rfl) ?_
  rintro _ _ ⟨rfl, A0, m0, b1, b2, rfl⟩
  refine g_iload_n dX9_walk_11 rfl rfl ?_
  refine g_bipush (v := 8) dX9_walk_12 (by decide) ?_
  refine g_icmp_eq (tgt := 26) dX9_walk_14 (by decide) (fun c_14 => ?_) (fun c_14 => ?_)
  · refine g_ic_1 dX9_walk_26 ?_
    refine g_istore_n dX9_walk_27 rfl (by decide) ?_
    refine v_walk_loop (A := A) (L := L) (I := I) (fun A2 I2 hm => ?_) 41 0 A0 I ⟨smW_1 m0, m0.1 41 (by decide)⟩ (by rw [b1, b2]; unfold gsW; rw [if_pos c_14]; rfl) (by omega) (by omega)
    exact g_vret dX9_walk_73 ⟨rfl, A2, I2, hm.1, hm.2, rfl⟩
  · refine g_aload_n dX9_walk_17 rfl rfl ?_
    refine g_get dX9_walk_18 fl_X9_12 hp_34 rfl ?_
    refine g_iload_n dX9_walk_21 rfl rfl ?_
    refine g_iload_n dX9_walk_22 rfl rfl ?_
    refine g_callV dX9_walk_23 cv_X9_60 (as' := [_, _]) hp_35 rfl (h_grease isS_35) (by decide) rfl rfl (Nat.le_of_ble_eq_true rfl) ?_
    rintro _ _ ⟨rfl, rfl⟩
    refine g_ic_1 dX9_walk_26 ?_
    refine g_istore_n dX9_walk_27 rfl (by decide) ?_
    refine v_walk_loop (A := A) (L := L) (I := I) (fun A2 I2 hm => ?_) 41 0 _ I ⟨smW_tr (smW_1 m0) (smW_1 (sm1_upS (by decide) (by decide))), m0.1 41 (by decide)⟩ (by rw [upS_r (by decide), upS_c, b1, b2]; unfold gsW; rw [if_neg c_14]; rfl) (by omega) (by omega)
    exact g_vret dX9_walk_73 ⟨rfl, A2, I2, hm.1, hm.2, rfl⟩

def faP (A : Nat → Nat → Int32) (I : Nat → Nat → Int32) (s : Int32) (k : Nat) : Bool := decide ((if paS (A 41) s (gt 10 (A 38) (nI k)) = gt 10 (A 39) (nI k) then (1 : Int32) else 0) = (if gt 10 (A 40) (nI k) = 1 then 1 else 0))
def faL (A I : Nat → Nat → Int32) (s : Int32) : Nat → Nat → Int32
  | 0, _ => 1
  | n + 1, k => if faP A I s k = true then faL A I s n (k + 1) else 0
def faS (A I : Nat → Nat → Int32) (s : Int32) : Int32 := faL A I s (I 34 9).toNatClampNeg 0
theorem faL_01 {A I : Nat → Nat → Int32} {s : Int32} : ∀ n k, faL A I s n k = 0 ∨ faL A I s n k = 1
  | 0, _ => Or.inr rfl
  | n + 1, k => by
    unfold faL
    split
    · exact faL_01 n (k + 1)
    · exact Or.inl rfl
set_option maxHeartbeats 4000000 in
set_option maxRecDepth 100000 in
theorem v_fits_loop {A : Nat → Nat → Int32} {L : Nat → Nat → Int64} {I : Nat → Nat → Int32} {X : Nat → Int64} {s : Int32} {Q : Option Value → m_H → Prop} : ∀ n k, n + k = (I 34 9).toNatClampNeg → Q (some (.int (faL A I s n k))) (hp A L I X) → G 4 RX9 cX9_fitsAll 4 (some .boolean) Q 2 [some (.ref 34), some (.int s), some (.int (nI k)), none] [] (hp A L I X) := by
  have hb := clamp_lt (I 34 9)
  intro n
  induction n with
  | zero =>
    intro k hk hQ
    refine g_iload_n dX9_fitsAll_2 rfl rfl ?_
    refine g_aload_n dX9_fitsAll_3 rfl rfl ?_
    refine g_get dX9_fitsAll_4 fl_X9_44 hp_34 rfl ?_
    refine g_icmp_ge (tgt := 69) dX9_fitsAll_7 (by decide) (fun c_7 => ?_) (fun c_7 => ?_)
    · refine g_ic_1 dX9_fitsAll_69 ?_
      exact g_zret (by first | exact Or.inl rfl | exact Or.inr rfl) dX9_fitsAll_70 hQ
    · exact absurd ((nI_gen (k := k) (by omega)).mpr (by omega)) c_7
  | succ n ih =>
    intro k hk hQ
    have j58 : ∀ v : Int32, v = (if gt 10 (A 40) (nI k) = 1 then (1 : Int32) else 0) → G 4 RX9 cX9_fitsAll 4 (some .boolean) Q 58 [some (.ref 34), some (.int s), some (.int (nI k)), some (.int ((if paS (A 41) s (gt 10 (A 38) (nI k)) = gt 10 (A 39) (nI k) then (1 : Int32) else 0)))] [.int v, .int (if paS (A 41) s (gt 10 (A 38) (nI k)) = gt 10 (A 39) (nI k) then (1 : Int32) else 0)] (hp A L I X) := by
      rintro _ rfl
      refine g_icmp_eq (tgt := 63) dX9_fitsAll_58 (by decide) (fun c_58 => ?_) (fun c_58 => ?_)
      · refine g_iinc1 dX9_fitsAll_63 rfl (by decide) ?_
        refine g_goto (tgt := 2) dX9_fitsAll_66 (by decide) ?_
        refine g_loc (ls' := [some (.ref 34), some (.int s), some (.int (nI k + 1)), none]) (fun i v h => by rcases i with _|_|_|_|_ <;> first | exact h | cases h) ?_
        rw [nI_1]
        exact ih (k + 1) (by omega) (Eq.mp (congrArg (fun z => Q (some (Value.int z)) (hp A L I X)) (if_pos (decide_eq_true c_58))) hQ)
      · refine g_ic_0 dX9_fitsAll_61 ?_
        exact g_zret (by first | exact Or.inl rfl | exact Or.inr rfl) dX9_fitsAll_62 (Eq.mp (congrArg (fun z => Q (some (Value.int z)) (hp A L I X)) (if_neg (fun z => c_58 (of_decide_eq_true z)))) hQ)
    have j39 : ∀ v : Int32, v = (if paS (A 41) s (gt 10 (A 38) (nI k)) = gt 10 (A 39) (nI k) then (1 : Int32) else 0) → G 4 RX9 cX9_fitsAll 4 (some .boolean) Q 39 [some (.ref 34), some (.int s), some (.int (nI k)), none] [.int v] (hp A L I X) := by
      rintro _ rfl
      refine g_istore_n dX9_fitsAll_39 rfl (by decide) ?_
      refine g_iload_n dX9_fitsAll_40 rfl rfl ?_
      refine g_aload_n dX9_fitsAll_41 rfl rfl ?_
      refine g_get dX9_fitsAll_42 fl_X9_25 hp_34 rfl ?_
      refine g_iload_n dX9_fitsAll_45 rfl rfl ?_
      refine g_callS dX9_fitsAll_46 cs_X9_52 (as := [_, _]) (k_cell (Hp := _) (q := 40) ha_40 (by decide)) (by decide) rfl rfl (Nat.le_of_ble_eq_true rfl) ?_
      rintro _ _ ⟨rfl, rfl⟩
      refine g_ic_1 dX9_fitsAll_49 ?_
      refine g_icmp_ne (tgt := 57) dX9_fitsAll_50 (by decide) (fun c_50 => ?_) (fun c_50 => ?_)
      · refine g_ic_0 dX9_fitsAll_57 ?_
        exact j58 _ (by first | rw [if_neg c_50] | rw [if_pos c_50])
      · refine g_ic_1 dX9_fitsAll_53 ?_
        refine g_goto (tgt := 58) dX9_fitsAll_54 (by decide) ?_
        exact j58 _ (by first | rw [if_neg c_50] | rw [if_pos c_50])
    refine g_iload_n dX9_fitsAll_2 rfl rfl ?_
    refine g_aload_n dX9_fitsAll_3 rfl rfl ?_
    refine g_get dX9_fitsAll_4 fl_X9_44 hp_34 rfl ?_
    refine g_icmp_ge (tgt := 69) dX9_fitsAll_7 (by decide) (fun c_7 => ?_) (fun c_7 => ?_)
    · exact absurd ((nI_gen (k := k) (by omega)).mp c_7) (by omega)
    · refine g_aload_n dX9_fitsAll_10 rfl rfl ?_
      refine g_iload_n dX9_fitsAll_11 rfl rfl ?_
      refine g_aload_n dX9_fitsAll_12 rfl rfl ?_
      refine g_get dX9_fitsAll_13 fl_X9_18 hp_34 rfl ?_
      refine g_iload_n dX9_fitsAll_16 rfl rfl ?_
      refine g_callS dX9_fitsAll_17 cs_X9_52 (as := [_, _]) (k_cell (Hp := _) (q := 38) ha_38 (by decide)) (by decide) rfl rfl (Nat.le_of_ble_eq_true rfl) ?_
      rintro _ _ ⟨rfl, rfl⟩
      refine g_callV dX9_fitsAll_20 cv_X9_72 (as' := [_, _]) hp_34 rfl v_path (by decide) rfl rfl (Nat.le_of_ble_eq_true rfl) ?_
      rintro _ _ ⟨rfl, rfl⟩
      refine g_aload_n dX9_fitsAll_23 rfl rfl ?_
      refine g_get dX9_fitsAll_24 fl_X9_22 hp_34 rfl ?_
      refine g_iload_n dX9_fitsAll_27 rfl rfl ?_
      refine g_callS dX9_fitsAll_28 cs_X9_52 (as := [_, _]) (k_cell (Hp := _) (q := 39) ha_39 (by decide)) (by decide) rfl rfl (Nat.le_of_ble_eq_true rfl) ?_
      rintro _ _ ⟨rfl, rfl⟩
      refine g_icmp_ne (tgt := 38) dX9_fitsAll_31 (by decide) (fun c_31 => ?_) (fun c_31 => ?_)
      · refine g_ic_0 dX9_fitsAll_38 ?_
        exact j39 _ (by first | rw [if_neg c_31] | rw [if_pos c_31])
      · refine g_ic_1 dX9_fitsAll_34 ?_
        refine g_goto (tgt := 39) dX9_fitsAll_35 (by decide) ?_
        exact j39 _ (by first | rw [if_neg c_31] | rw [if_pos c_31])

set_option maxHeartbeats 4000000 in
set_option maxRecDepth 100000 in
theorem v_fits {A : Nat → Nat → Int32} {L : Nat → Nat → Int64} {I : Nat → Nat → Int32} {X : Nat → Int64} {s : Int32}  : Con 4 yX9_fitsAll cX9_fitsAll 4 (some .boolean) [.ref 34, .int s] (hp A L I X) (fun r_ H_ => r_ = some (.int (faS A I s)) ∧ H_ = hp A L I X) := by
  refine m_con (by decide) (Nat.le_of_ble_eq_true rfl) ?_
  refine g_ic_0 dX9_fitsAll_0 ?_
  refine g_istore_n dX9_fitsAll_1 rfl (by decide) ?_
  exact v_fits_loop (I 34 9).toNatClampNeg 0 rfl ⟨rfl, rfl⟩

def spL (F : Nat → Int32) (i : Int32) : Nat → Nat → Int32 → Int32
  | 0, _, fd => if i = (-1) then fd else (-1)
  | n + 1, k, fd => if gt 9 F (nI k) = 1 then (if fd = i then (if k = 8 then 9 else nI k) else spL F i n (k + 1) (fd + 1)) else spL F i n (k + 1) fd
set_option maxHeartbeats 4000000 in
set_option maxRecDepth 100000 in
theorem v_susp_loop {A : Nat → Nat → Int32} {L : Nat → Nat → Int64} {I : Nat → Nat → Int32} {X : Nat → Int64} {i : Int32} {Q : Option Value → m_H → Prop} : ∀ n k fd, n + k = 9 → Q (some (.int (spL (A 42) i n k fd))) (hp A L I X) → G 3 RX9 cX9_suspectAt 4 (some .int) Q 4 [some (.ref 34), some (.int i), some (.int (fd)), some (.int (nI k))] [] (hp A L I X) := by
  intro n
  induction n with
  | zero =>
    intro k fd hk hQ
    refine g_iload_n dX9_suspectAt_4 rfl rfl ?_
    refine g_bipush (v := 9) dX9_suspectAt_5 (by decide) ?_
    refine g_icmp_ge (tgt := 49) dX9_suspectAt_7 (by decide) (fun c_7 => ?_) (fun c_7 => ?_)
    · refine g_iload_n dX9_suspectAt_49 rfl rfl ?_
      refine g_ic_m1 dX9_suspectAt_50 ?_
      refine g_icmp_ne (tgt := 58) dX9_suspectAt_51 (by decide) (fun c_51 => ?_) (fun c_51 => ?_)
      · refine g_ic_m1 dX9_suspectAt_58 ?_
        exact g_iret dX9_suspectAt_59 (Eq.mp (congrArg (fun z => Q (some (Value.int z)) (hp A L I X)) (if_neg c_51)) hQ)
      · refine g_iload_n dX9_suspectAt_54 rfl rfl ?_
        refine g_goto (tgt := 59) dX9_suspectAt_55 (by decide) ?_
        exact g_iret dX9_suspectAt_59 (Eq.mp (congrArg (fun z => Q (some (Value.int z)) (hp A L I X)) (if_pos c_51)) hQ)
    · exact absurd (lit_nle (n := 9) (by decide) (by omega) c_7) (by omega)
  | succ n ih =>
    intro k fd hk hQ
    refine g_iload_n dX9_suspectAt_4 rfl rfl ?_
    refine g_bipush (v := 9) dX9_suspectAt_5 (by decide) ?_
    refine g_icmp_ge (tgt := 49) dX9_suspectAt_7 (by decide) (fun c_7 => ?_) (fun c_7 => ?_)
    · exact absurd (lit_le (n := 9) (by decide) (by omega) c_7) (by omega)
    · refine g_aload_n dX9_suspectAt_10 rfl rfl ?_
      refine g_get dX9_suspectAt_11 fl_X9_31 hp_34 rfl ?_
      refine g_iload_n dX9_suspectAt_14 rfl rfl ?_
      refine g_callS dX9_suspectAt_15 cs_X9_52 (as := [_, _]) (k_cell (Hp := _) (q := 42) ha_42 (by decide)) (by decide) rfl rfl (Nat.le_of_ble_eq_true rfl) ?_
      rintro _ _ ⟨rfl, rfl⟩
      refine g_ic_1 dX9_suspectAt_18 ?_
      refine g_icmp_ne (tgt := 43) dX9_suspectAt_19 (by decide) (fun c_19 => ?_) (fun c_19 => ?_)
      · refine g_iinc1 dX9_suspectAt_43 rfl (by decide) ?_
        refine g_goto (tgt := 4) dX9_suspectAt_46 (by decide) ?_
        rw [nI_1]
        exact ih (k + 1) fd (by omega) (Eq.mp (congrArg (fun z => Q (some (Value.int z)) (hp A L I X)) (if_neg c_19)) hQ)
      · refine g_iload_n dX9_suspectAt_22 rfl rfl ?_
        refine g_iload_n dX9_suspectAt_23 rfl rfl ?_
        refine g_icmp_ne (tgt := 40) dX9_suspectAt_24 (by decide) (fun c_24 => ?_) (fun c_24 => ?_)
        · refine g_iinc1 dX9_suspectAt_40 rfl (by decide) ?_
          refine g_iinc1 dX9_suspectAt_43 rfl (by decide) ?_
          refine g_goto (tgt := 4) dX9_suspectAt_46 (by decide) ?_
          rw [nI_1]
          exact ih (k + 1) (fd + 1) (by omega) (Eq.mp (congrArg (fun z => Q (some (Value.int z)) (hp A L I X)) ((if_pos c_19).trans (if_neg c_24))) hQ)
        · refine g_iload_n dX9_suspectAt_27 rfl rfl ?_
          refine g_bipush (v := 8) dX9_suspectAt_28 (by decide) ?_
          refine g_icmp_ne (tgt := 38) dX9_suspectAt_30 (by decide) (fun c_30 => ?_) (fun c_30 => ?_)
          · refine g_iload_n dX9_suspectAt_38 rfl rfl ?_
            exact g_iret dX9_suspectAt_39 (Eq.mp (congrArg (fun z => Q (some (Value.int z)) (hp A L I X)) ((if_pos c_19).trans ((if_pos c_24).trans (if_neg (fun z => c_30 (by rw [z]; rfl)))))) hQ)
          · refine g_bipush (v := 9) dX9_suspectAt_33 (by decide) ?_
            refine g_goto (tgt := 39) dX9_suspectAt_35 (by decide) ?_
            exact g_iret dX9_suspectAt_39 (Eq.mp (congrArg (fun z => Q (some (Value.int z)) (hp A L I X)) ((if_pos c_19).trans ((if_pos c_24).trans (if_pos ((nI_eq (a := k) (b := 8) (by omega) (by decide)).mp c_30))))) hQ)

set_option maxHeartbeats 4000000 in
set_option maxRecDepth 100000 in
theorem v_susp {A : Nat → Nat → Int32} {L : Nat → Nat → Int64} {I : Nat → Nat → Int32} {X : Nat → Int64} {i : Int32}  : Con 3 yX9_suspectAt cX9_suspectAt 4 (some .int) [.ref 34, .int i] (hp A L I X) (fun r_ H_ => r_ = some (.int (spL (A 42) i 9 0 0)) ∧ H_ = hp A L I X) := by
  refine m_con (by decide) (Nat.le_of_ble_eq_true rfl) ?_
  refine g_ic_0 dX9_suspectAt_0 ?_
  refine g_istore_n dX9_suspectAt_1 rfl (by decide) ?_
  refine g_ic_0 dX9_suspectAt_2 ?_
  refine g_istore_n dX9_suspectAt_3 rfl (by decide) ?_
  exact v_susp_loop 9 0 0 rfl ⟨rfl, rfl⟩
