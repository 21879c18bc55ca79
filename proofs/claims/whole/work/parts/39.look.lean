def maC (P F : Nat → Int32) (n : Int32) (k : Nat) (s : (Nat → Int32) × Int32) : (Nat → Int32) × Int32 :=
  if gt 9 F (nI k) = 1 then (pt 8 s.1 (paS P (nI k) n) (gt 8 s.1 (paS P (nI k) n) + 1), mx s.2 (gt 8 (pt 8 s.1 (paS P (nI k) n) (gt 8 s.1 (paS P (nI k) n) + 1)) (paS P (nI k) n))) else s
def maS (P F : Nat → Int32) (n : Int32) : Int32 := (itn (maC P F n) 9 (fun _ => 0, 0)).2
set_option maxHeartbeats 4000000 in
set_option maxRecDepth 100000 in
theorem v_most1 {A : Nat → Nat → Int32} {L : Nat → Nat → Int64} {I : Nat → Nat → Int32} {X : Nat → Int64} {n0 : Int32} {Q : Option Value → m_H → Prop} (hE : G 3 RX9 cX9_mostAlike 5 (some .int) Q 25 [some (.ref 34), some (.int n0), some (.int (0)), some (.int (nI 8)), none] [] (hp (up A 43 (fun _ => 0)) L I X)) : ∀ n k, k ≤ 8 → 8 - k < n → G 3 RX9 cX9_mostAlike 5 (some .int) Q 4 [some (.ref 34), some (.int n0), some (.int (0)), some (.int (nI k)), none] [] (hp (up A 43 (fl (fun _ => 0) (A 43) k)) L I X) := by
  intro n
  induction n with
  | zero => intro k h1 h2; omega
  | succ n ih =>
    intro k h1 h2
    refine g_iload_n dX9_mostAlike_4 rfl rfl ?_
    refine g_bipush (v := 8) dX9_mostAlike_5 (by decide) ?_
    refine g_icmp_ge (tgt := 25) dX9_mostAlike_7 (by decide) (fun c_7 => ?_) (fun c_7 => ?_)
    · have h6 : 8 ≤ k := lit_le (n := 8) (by decide) (by omega) c_7
      have hkn : k = 8 := by omega
      subst hkn
      refine g_ext (fun _ => 0) hp_43 (by rw [up_at]; exact fl_end) ?_
      rw [hq_43, up_up]
      exact hE
    · have hlt : k < 8 := lit_nle (n := 8) (by decide) (by omega) c_7
      refine g_aload_n dX9_mostAlike_10 rfl rfl ?_
      refine g_get dX9_mostAlike_11 fl_X9_34 hp_34 rfl ?_
      refine g_iload_n dX9_mostAlike_14 rfl rfl ?_
      refine g_ic_0 dX9_mostAlike_15 ?_
      refine g_callS dX9_mostAlike_16 cs_X9_48 (as := [_, _, _]) (k_setCell hp_43 (by decide)) (by decide) rfl rfl (Nat.le_of_ble_eq_true rfl) ?_
      rintro _ _ ⟨rfl, rfl⟩
      rw [hq_43, up_up, up_at, fl_step (F := fun _ => 0) hlt (by decide) rfl]
      refine g_iinc1 dX9_mostAlike_19 rfl (by decide) ?_
      refine g_goto (tgt := 4) dX9_mostAlike_22 (by decide) ?_
      rw [nI_1]
      exact ih (k + 1) (by omega) (by omega)

set_option maxHeartbeats 4000000 in
set_option maxRecDepth 100000 in
theorem v_most2 {A : Nat → Nat → Int32} {L : Nat → Nat → Int64} {I : Nat → Nat → Int32} {X : Nat → Int64} {n0 : Int32} {Q : Option Value → m_H → Prop} (hE : ∀ s, s = itn (maC (A 41) (A 42) n0) 9 (fun _ => 0, 0) → G 3 RX9 cX9_mostAlike 5 (some .int) Q 93 [some (.ref 34), some (.int n0), some (.int (s.2)), some (.int (nI 9)), none] [] (hp (up A 43 s.1) L I X)) : ∀ n k s, s = itn (maC (A 41) (A 42) n0) k (fun _ => 0, 0) → k ≤ 9 → 9 - k < n → G 3 RX9 cX9_mostAlike 5 (some .int) Q 27 [some (.ref 34), some (.int n0), some (.int (s.2)), some (.int (nI k)), none] [] (hp (up A 43 s.1) L I X) := by
  intro n
  induction n with
  | zero => intro k s hs1 h1 h2; omega
  | succ n ih =>
    intro k s hs1 h1 h2
    refine g_iload_n dX9_mostAlike_27 rfl rfl ?_
    refine g_bipush (v := 9) dX9_mostAlike_28 (by decide) ?_
    refine g_icmp_ge (tgt := 93) dX9_mostAlike_30 (by decide) (fun c_30 => ?_) (fun c_30 => ?_)
    · have h6 : 9 ≤ k := lit_le (n := 9) (by decide) (by omega) c_30
      have hkn : k = 9 := by omega
      subst hkn
      exact hE s hs1
    · have hlt : k < 9 := lit_nle (n := 9) (by decide) (by omega) c_30
      refine g_aload_n dX9_mostAlike_33 rfl rfl ?_
      refine g_get dX9_mostAlike_34 fl_X9_31 hp_34 rfl ?_
      refine g_iload_n dX9_mostAlike_37 rfl rfl ?_
      refine g_callS dX9_mostAlike_38 cs_X9_52 (as := [_, _]) (k_cell (f := A 42) ha_42 (by decide)) (by decide) rfl rfl (Nat.le_of_ble_eq_true rfl) ?_
      rintro _ _ ⟨rfl, rfl⟩
      refine g_ic_1 dX9_mostAlike_41 ?_
      refine g_icmp_ne (tgt := 87) dX9_mostAlike_42 (by decide) (fun c_42 => ?_) (fun c_42 => ?_)
      · refine g_iinc1 dX9_mostAlike_87 rfl (by decide) ?_
        refine g_goto (tgt := 27) dX9_mostAlike_90 (by decide) ?_
        refine g_loc (ls' := [some (.ref 34), some (.int n0), some (.int (s.2)), some (.int (nI k + 1)), none]) (fun i v h => by rcases i with _|_|_|_|_|_ <;> first | exact h | cases h) ?_
        rw [nI_1]
        exact ih (k + 1) s (by rw [show itn (maC (A 41) (A 42) n0) (k + 1) (fun _ => 0, 0) = maC (A 41) (A 42) n0 k s by rw [hs1]; rfl]; exact (if_neg c_42).symm) (by omega) (by omega)
      · refine g_aload_n dX9_mostAlike_45 rfl rfl ?_
        refine g_iload_n dX9_mostAlike_46 rfl rfl ?_
        refine g_iload_n dX9_mostAlike_47 rfl rfl ?_
        refine g_callV dX9_mostAlike_48 cv_X9_72 (as' := [_, _]) hp_34 rfl v_path (by decide) rfl rfl (Nat.le_of_ble_eq_true rfl) ?_
        rintro _ _ ⟨rfl, rfl⟩
        rw [up_ne (show (41 : Nat) ≠ 43 by decide)]
        refine g_istore dX9_mostAlike_51 (by decide) ?_
        refine g_aload_n dX9_mostAlike_53 rfl rfl ?_
        refine g_get dX9_mostAlike_54 fl_X9_34 hp_34 rfl ?_
        refine g_iload dX9_mostAlike_57 rfl ?_
        refine g_aload_n dX9_mostAlike_59 rfl rfl ?_
        refine g_get dX9_mostAlike_60 fl_X9_34 hp_34 rfl ?_
        refine g_iload dX9_mostAlike_63 rfl ?_
        refine g_callS dX9_mostAlike_65 cs_X9_52 (as := [_, _]) (k_cell (f := s.1) (by rw [ha_43, up_at]) (by decide)) (by decide) rfl rfl (Nat.le_of_ble_eq_true rfl) ?_
        rintro _ _ ⟨rfl, rfl⟩
        refine g_ic_1 dX9_mostAlike_68 ?_
        refine g_iadd dX9_mostAlike_69 ?_
        refine g_callS dX9_mostAlike_70 cs_X9_48 (as := [_, _, _]) (k_setCell hp_43 (by decide)) (by decide) rfl rfl (Nat.le_of_ble_eq_true rfl) ?_
        rintro _ _ ⟨rfl, rfl⟩
        rw [hq_43, up_up, up_at]
        refine g_iload_n dX9_mostAlike_73 rfl rfl ?_
        refine g_aload_n dX9_mostAlike_74 rfl rfl ?_
        refine g_get dX9_mostAlike_75 fl_X9_34 hp_34 rfl ?_
        refine g_iload dX9_mostAlike_78 rfl ?_
        refine g_callS dX9_mostAlike_80 cs_X9_52 (as := [_, _]) (k_cell (f := pt 8 s.1 (paS (A 41) (nI k) n0) (gt 8 s.1 (paS (A 41) (nI k) n0) + 1)) (by rw [ha_43, up_at]) (by decide)) (by decide) rfl rfl (Nat.le_of_ble_eq_true rfl) ?_
        rintro _ _ ⟨rfl, rfl⟩
        refine g_max dX9_mostAlike_83 ml_X9_89 ms_max mi_math mc_max (by decide) (Nat.le_of_ble_eq_true rfl) ?_
        refine g_istore_n dX9_mostAlike_86 rfl (by decide) ?_
        refine g_iinc1 dX9_mostAlike_87 rfl (by decide) ?_
        refine g_goto (tgt := 27) dX9_mostAlike_90 (by decide) ?_
        refine g_loc (ls' := [some (.ref 34), some (.int n0), some (.int (mx s.2 (gt 8 (pt 8 s.1 (paS (A 41) (nI k) n0) (gt 8 s.1 (paS (A 41) (nI k) n0) + 1)) (paS (A 41) (nI k) n0)))), some (.int (nI k + 1)), none]) (fun i v h => by rcases i with _|_|_|_|_|_ <;> first | exact h | cases h) ?_
        rw [nI_1]
        exact ih (k + 1) (_, _) (by rw [show itn (maC (A 41) (A 42) n0) (k + 1) (fun _ => 0, 0) = maC (A 41) (A 42) n0 k s by rw [hs1]; rfl]; exact (if_pos c_42).symm) (by omega) (by omega)

set_option maxHeartbeats 4000000 in
set_option maxRecDepth 100000 in
theorem v_most {A : Nat → Nat → Int32} {L : Nat → Nat → Int64} {I : Nat → Nat → Int32} {X : Nat → Int64} {n : Int32}  : Con 3 yX9_mostAlike cX9_mostAlike 5 (some .int) [.ref 34, .int n] (hp A L I X) (fun r_ H_ => r_ = some (.int (maS (A 41) (A 42) n)) ∧ ∃ T, H_ = hp (up A 43 T) L I X) := by
  refine m_con (by decide) (Nat.le_of_ble_eq_true rfl) ?_
  refine g_ic_0 dX9_mostAlike_0 ?_
  refine g_istore_n dX9_mostAlike_1 rfl (by decide) ?_
  refine g_ic_0 dX9_mostAlike_2 ?_
  refine g_istore_n dX9_mostAlike_3 rfl (by decide) ?_
  refine (fun h => ?_) (v_most1 (A := A) (L := L) (I := I) (X := X) (n0 := n) (Q := (fun r_ H_ => r_ = some (.int (maS (A 41) (A 42) n)) ∧ ∃ T, H_ = hp (up A 43 T) L I X)) ?_ 9 0 (by omega) (by omega))
  · rw [fl_0, up_self] at h
    exact g_loc (fun i v h => by rcases i with _|_|_|_|_|_ <;> first | exact h | cases h) h
  · refine g_ic_0 dX9_mostAlike_25 ?_
    refine g_istore_n dX9_mostAlike_26 rfl (by decide) ?_
    refine v_most2 (A := A) (L := L) (I := I) (fun s hs => ?_) 10 0 (fun _ => 0, 0) rfl (by omega) (by omega)
    refine g_iload_n dX9_mostAlike_93 rfl rfl ?_
    exact g_iret dX9_mostAlike_94 ⟨by rw [hs]; rfl, s.1, rfl⟩

def loC (P F : Nat → Int32) (k : Nat) (s : Int32 × Int32) : Int32 × Int32 := if maS P F (nI (k + 1)) ≤ 0 then s else if s.2 ≤ maS P F (nI (k + 1)) then s else (nI (k + 1), maS P F (nI (k + 1)))
def loS (P F : Nat → Int32) : Int32 := (itn (loC P F) 40 ((-1), 10)).1
set_option maxHeartbeats 4000000 in
set_option maxRecDepth 100000 in
theorem v_look_loop {A : Nat → Nat → Int32} {L : Nat → Nat → Int64} {I : Nat → Nat → Int32} {X : Nat → Int64} {Q : Option Value → m_H → Prop} (hE : ∀ s T, s = itn (loC (A 41) (A 42)) 40 ((-1), 10) → G 4 RX9 cX9_whenToLook 5 (some .int) Q 42 [some (.ref 34), some (.int (s.1)), some (.int (s.2)), some (.int (nI (40 + 1))), none] [] (hp (up A 43 T) L I X)) : ∀ n k s T, s = itn (loC (A 41) (A 42)) k ((-1), 10) → k ≤ 40 → 40 - k < n → G 4 RX9 cX9_whenToLook 5 (some .int) Q 7 [some (.ref 34), some (.int (s.1)), some (.int (s.2)), some (.int (nI (k + 1))), none] [] (hp (up A 43 T) L I X) := by
  intro n
  induction n with
  | zero => intro k s T hs1 h1 h2; omega
  | succ n ih =>
    intro k s T hs1 h1 h2
    refine g_iload_n dX9_whenToLook_7 rfl rfl ?_
    refine g_bipush (v := 40) dX9_whenToLook_8 (by decide) ?_
    refine g_icmp_gt (tgt := 42) dX9_whenToLook_10 (by decide) (fun c_10 => ?_) (fun c_10 => ?_)
    · have h6 : 40 < k + 1 := lit_lt (n := 40) (by decide) (by omega) c_10
      have hkn : k = 40 := by omega
      subst hkn
      exact hE s T hs1
    · have hlt : k + 1 ≤ 40 := lit_nlt (n := 40) (by decide) (by omega) c_10
      refine g_aload_n dX9_whenToLook_13 rfl rfl ?_
      refine g_iload_n dX9_whenToLook_14 rfl rfl ?_
      refine g_callV dX9_whenToLook_15 cv_X9_86 (as' := [_]) hp_34 rfl v_most (by decide) rfl rfl (Nat.le_of_ble_eq_true rfl) ?_
      rintro _ _ ⟨rfl, T2, rfl⟩
      rw [up_up, up_ne (show (41 : Nat) ≠ 43 by decide), up_ne (show (42 : Nat) ≠ 43 by decide)]
      refine g_istore dX9_whenToLook_18 (by decide) ?_
      refine g_iload dX9_whenToLook_20 rfl ?_
      refine g_if_le (tgt := 36) dX9_whenToLook_22 (by decide) (fun c_22 => ?_) (fun c_22 => ?_)
      · refine g_iinc1 dX9_whenToLook_36 rfl (by decide) ?_
        refine g_goto (tgt := 7) dX9_whenToLook_39 (by decide) ?_
        refine g_loc (ls' := [some (.ref 34), some (.int (s.1)), some (.int (s.2)), some (.int (nI (k + 1) + 1)), none]) (fun i v h => by rcases i with _|_|_|_|_|_ <;> first | exact h | cases h) ?_
        rw [nI_1]
        exact ih (k + 1) s _ (by rw [show itn (loC (A 41) (A 42)) (k + 1) ((-1), 10) = loC (A 41) (A 42) k s by rw [hs1]; rfl]; exact (if_pos c_22).symm) (by omega) (by omega)
      · refine g_iload dX9_whenToLook_25 rfl ?_
        refine g_iload_n dX9_whenToLook_27 rfl rfl ?_
        refine g_icmp_ge (tgt := 36) dX9_whenToLook_28 (by decide) (fun c_28 => ?_) (fun c_28 => ?_)
        · refine g_iinc1 dX9_whenToLook_36 rfl (by decide) ?_
          refine g_goto (tgt := 7) dX9_whenToLook_39 (by decide) ?_
          refine g_loc (ls' := [some (.ref 34), some (.int (s.1)), some (.int (s.2)), some (.int (nI (k + 1) + 1)), none]) (fun i v h => by rcases i with _|_|_|_|_|_ <;> first | exact h | cases h) ?_
          rw [nI_1]
          exact ih (k + 1) s _ (by rw [show itn (loC (A 41) (A 42)) (k + 1) ((-1), 10) = loC (A 41) (A 42) k s by rw [hs1]; rfl]; exact ((if_neg c_22).trans (if_pos c_28)).symm) (by omega) (by omega)
        · refine g_iload dX9_whenToLook_31 rfl ?_
          refine g_istore_n dX9_whenToLook_33 rfl (by decide) ?_
          refine g_iload_n dX9_whenToLook_34 rfl rfl ?_
          refine g_istore_n dX9_whenToLook_35 rfl (by decide) ?_
          refine g_iinc1 dX9_whenToLook_36 rfl (by decide) ?_
          refine g_goto (tgt := 7) dX9_whenToLook_39 (by decide) ?_
          refine g_loc (ls' := [some (.ref 34), some (.int (nI (k + 1))), some (.int (maS (A 41) (A 42) (nI (k + 1)))), some (.int (nI (k + 1) + 1)), none]) (fun i v h => by rcases i with _|_|_|_|_|_ <;> first | exact h | cases h) ?_
          rw [nI_1]
          exact ih (k + 1) (_, _) _ (by rw [show itn (loC (A 41) (A 42)) (k + 1) ((-1), 10) = loC (A 41) (A 42) k s by rw [hs1]; rfl]; exact ((if_neg c_22).trans (if_neg c_28)).symm) (by omega) (by omega)

set_option maxHeartbeats 4000000 in
set_option maxRecDepth 100000 in
theorem v_look {A : Nat → Nat → Int32} {L : Nat → Nat → Int64} {I : Nat → Nat → Int32} {X : Nat → Int64}   : Con 4 yX9_whenToLook cX9_whenToLook 5 (some .int) [.ref 34] (hp A L I X) (fun r_ H_ => r_ = some (.int (loS (A 41) (A 42))) ∧ ∃ T, H_ = hp (up A 43 T) L I X) := by
  refine m_con (by decide) (Nat.le_of_ble_eq_true rfl) ?_
  refine g_ic_m1 dX9_whenToLook_0 ?_
  refine g_istore_n dX9_whenToLook_1 rfl (by decide) ?_
  refine g_bipush (v := 10) dX9_whenToLook_2 (by decide) ?_
  refine g_istore_n dX9_whenToLook_4 rfl (by decide) ?_
  refine g_ic_1 dX9_whenToLook_5 ?_
  refine g_istore_n dX9_whenToLook_6 rfl (by decide) ?_
  refine (fun h => ?_) (v_look_loop (A := A) (L := L) (I := I) (X := X) (Q := (fun r_ H_ => r_ = some (.int (loS (A 41) (A 42))) ∧ ∃ T, H_ = hp (up A 43 T) L I X)) (fun s T hs => ?_) 41 0 ((-1), 10) (A 43) rfl (by omega) (by omega))
  · rw [up_self] at h
    exact h
  · refine g_iload_n dX9_whenToLook_42 rfl rfl ?_
    exact g_iret dX9_whenToLook_43 ⟨by rw [hs]; rfl, T, rfl⟩
