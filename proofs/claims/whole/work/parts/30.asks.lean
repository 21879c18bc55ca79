def daysS (f : Nat → Int32) : Int32 := itn (fun k s => s + oM f (nI k) 0) (gt 143 f 9).toNatClampNeg 0
set_option maxHeartbeats 4000000 in
set_option maxRecDepth 100000 in
theorem q_days_loop {Hp : m_H} {q r c : Nat} {f g : Nat → Int32} {Q : Option Value → m_H → Prop} (hk : sK Hp q r c)  (hQ : ∀ s, s = itn (fun k s => s + oM f (nI k) 0) (gt 143 f 9).toNatClampNeg (0) → Q (some (.int (s))) (sH Hp r c f g)) : ∀ n k (s : Int32), s = itn (fun k s => s + oM f (nI k) 0) k (0) → k ≤ (gt 143 f 9).toNatClampNeg → (gt 143 f 9).toNatClampNeg - k < n → G 3 RX7 cX7_daysOfYear 3 (some .int) Q 4 [some (.ref q), some (.int (s)), some (.int (nI k))] [] (sH Hp r c f g) := by
  intro n
  induction n with
  | zero => intro k s hs1 h1 h2; omega
  | succ n ih =>
    intro k s hs1 h1 h2
    have hb := clamp_lt (gt 143 f 9)
    refine g_iload_n dX7_daysOfYear_4 rfl rfl ?_
    refine g_aload_n dX7_daysOfYear_5 rfl rfl ?_
    refine g_bipush (v := 9) dX7_daysOfYear_6 (by decide) ?_
    refine g_callV dX7_daysOfYear_8 cv_X7_30 (as' := [_]) (sH_q hk) rfl (s_get hk) (by decide) rfl rfl (Nat.le_of_ble_eq_true rfl) ?_
    rintro _ _ ⟨rfl, rfl⟩
    refine g_icmp_ge (tgt := 29) dX7_daysOfYear_11 (by decide) (fun c_11 => ?_) (fun c_11 => ?_)
    · have h6 := (nI_gen (k := k) (by omega)).mp c_11
      have hkn : k = (gt 143 f 9).toNatClampNeg := by omega
      subst hkn
      refine g_iload_n dX7_daysOfYear_29 rfl rfl ?_
      exact g_iret dX7_daysOfYear_30 (hQ _ hs1)
    · have hlt : k < (gt 143 f 9).toNatClampNeg := Nat.not_le.mp (fun z => c_11 ((nI_gen (by omega)).mpr z))
      refine g_iload_n dX7_daysOfYear_14 rfl rfl ?_
      refine g_aload_n dX7_daysOfYear_15 rfl rfl ?_
      refine g_iload_n dX7_daysOfYear_16 rfl rfl ?_
      refine g_ic_0 dX7_daysOfYear_17 ?_
      refine g_callV dX7_daysOfYear_18 cv_X7_41 (as' := [_, _]) (sH_q hk) rfl (s_oM hk) (by decide) rfl rfl (Nat.le_of_ble_eq_true rfl) ?_
      rintro _ _ ⟨rfl, rfl⟩
      refine g_iadd dX7_daysOfYear_21 ?_
      refine g_istore_n dX7_daysOfYear_22 rfl (by decide) ?_
      refine g_iinc1 dX7_daysOfYear_23 rfl (by decide) ?_
      refine g_goto (tgt := 4) dX7_daysOfYear_26 (by decide) ?_
      refine g_loc (ls' := [some (.ref q), some (.int ((s + oM f (nI k) 0))), some (.int (nI k + 1))]) (fun i v h => by rcases i with _|_|_|_ <;> first | exact h | cases h) ?_
      rw [nI_1]
      exact ih (k + 1) (s + oM f (nI k) 0) (by rw [show itn (fun k s => s + oM f (nI k) 0) (k + 1) (0) = (fun k s => s + oM f (nI k) 0) k s from by rw [hs1]; rfl]) (by omega) (by omega)

set_option maxHeartbeats 4000000 in
set_option maxRecDepth 100000 in
theorem s_days {Hp : m_H} {q r c : Nat} {f g : Nat → Int32}  (hk : sK Hp q r c) : Con 3 yX7_daysOfYear cX7_daysOfYear 3 (some .int) [.ref q] (sH Hp r c f g) (fun r_ H_ => r_ = some (.int (daysS f)) ∧ H_ = (sH Hp r c f g)) := by
  refine m_con (by decide) (Nat.le_of_ble_eq_true rfl) ?_
  refine g_ic_0 dX7_daysOfYear_0 ?_
  refine g_istore_n dX7_daysOfYear_1 rfl (by decide) ?_
  refine g_ic_0 dX7_daysOfYear_2 ?_
  refine g_istore_n dX7_daysOfYear_3 rfl (by decide) ?_
  exact q_days_loop (f := f) (g := g) hk (fun s e => ⟨by rw [e]; rfl, rfl⟩) _ 0 (0) rfl (Nat.zero_le _) (Nat.lt_succ_self _)

theorem h_days {A : Nat → Nat → Int32} {L : Nat → Nat → Int64} {I : Nat → Nat → Int32} {X : Nat → Int64} {q r c : Nat} (hs : isS q r c) : Con 3 yX7_daysOfYear cX7_daysOfYear 3 (some .int) [.ref q] (hp A L I X) (fun r_ H_ => r_ = some (.int (daysS (A r))) ∧ H_ = hp A L I X) := by
  have h := s_days (f := A r) (g := A c) (isS_k (A := A) (L := L) (I := I) (X := X) hs)
  rw [isS_in hs] at h
  exact h

def ripeS (f : Nat → Int32) : Int32 := itn (fun k s => s ||| (oC f (nI k) 5 <<< (nI k &&& 31))) (gt 143 f 10).toNatClampNeg 0
set_option maxHeartbeats 4000000 in
set_option maxRecDepth 100000 in
theorem q_ripe_loop {Hp : m_H} {q r c : Nat} {f g : Nat → Int32} {Q : Option Value → m_H → Prop} (hk : sK Hp q r c)  (hQ : ∀ s, s = itn (fun k s => s ||| (oC f (nI k) 5 <<< (nI k &&& 31))) (gt 143 f 10).toNatClampNeg (0) → Q (some (.int (s))) (sH Hp r c f g)) : ∀ n k (s : Int32), s = itn (fun k s => s ||| (oC f (nI k) 5 <<< (nI k &&& 31))) k (0) → k ≤ (gt 143 f 10).toNatClampNeg → (gt 143 f 10).toNatClampNeg - k < n → G 3 RX7 cX7_ripeBits 3 (some .int) Q 4 [some (.ref q), some (.int (s)), some (.int (nI k))] [] (sH Hp r c f g) := by
  intro n
  induction n with
  | zero => intro k s hs1 h1 h2; omega
  | succ n ih =>
    intro k s hs1 h1 h2
    have hb := clamp_lt (gt 143 f 10)
    refine g_iload_n dX7_ripeBits_4 rfl rfl ?_
    refine g_aload_n dX7_ripeBits_5 rfl rfl ?_
    refine g_bipush (v := 10) dX7_ripeBits_6 (by decide) ?_
    refine g_callV dX7_ripeBits_8 cv_X7_30 (as' := [_]) (sH_q hk) rfl (s_get hk) (by decide) rfl rfl (Nat.le_of_ble_eq_true rfl) ?_
    rintro _ _ ⟨rfl, rfl⟩
    refine g_icmp_ge (tgt := 31) dX7_ripeBits_11 (by decide) (fun c_11 => ?_) (fun c_11 => ?_)
    · have h6 := (nI_gen (k := k) (by omega)).mp c_11
      have hkn : k = (gt 143 f 10).toNatClampNeg := by omega
      subst hkn
      refine g_iload_n dX7_ripeBits_31 rfl rfl ?_
      exact g_iret dX7_ripeBits_32 (hQ _ hs1)
    · have hlt : k < (gt 143 f 10).toNatClampNeg := Nat.not_le.mp (fun z => c_11 ((nI_gen (by omega)).mpr z))
      refine g_iload_n dX7_ripeBits_14 rfl rfl ?_
      refine g_aload_n dX7_ripeBits_15 rfl rfl ?_
      refine g_iload_n dX7_ripeBits_16 rfl rfl ?_
      refine g_ic_5 dX7_ripeBits_17 ?_
      refine g_callV dX7_ripeBits_18 cv_X7_70 (as' := [_, _]) (sH_q hk) rfl (s_oC hk) (by decide) rfl rfl (Nat.le_of_ble_eq_true rfl) ?_
      rintro _ _ ⟨rfl, rfl⟩
      refine g_iload_n dX7_ripeBits_21 rfl rfl ?_
      refine g_ishl dX7_ripeBits_22 ?_
      refine g_ior dX7_ripeBits_23 ?_
      refine g_istore_n dX7_ripeBits_24 rfl (by decide) ?_
      refine g_iinc1 dX7_ripeBits_25 rfl (by decide) ?_
      refine g_goto (tgt := 4) dX7_ripeBits_28 (by decide) ?_
      refine g_loc (ls' := [some (.ref q), some (.int ((s ||| (oC f (nI k) 5 <<< (nI k &&& 31))))), some (.int (nI k + 1))]) (fun i v h => by rcases i with _|_|_|_ <;> first | exact h | cases h) ?_
      rw [nI_1]
      exact ih (k + 1) (s ||| (oC f (nI k) 5 <<< (nI k &&& 31))) (by rw [show itn (fun k s => s ||| (oC f (nI k) 5 <<< (nI k &&& 31))) (k + 1) (0) = (fun k s => s ||| (oC f (nI k) 5 <<< (nI k &&& 31))) k s from by rw [hs1]; rfl]) (by omega) (by omega)

set_option maxHeartbeats 4000000 in
set_option maxRecDepth 100000 in
theorem s_ripe {Hp : m_H} {q r c : Nat} {f g : Nat → Int32}  (hk : sK Hp q r c) : Con 3 yX7_ripeBits cX7_ripeBits 3 (some .int) [.ref q] (sH Hp r c f g) (fun r_ H_ => r_ = some (.int (ripeS f)) ∧ H_ = (sH Hp r c f g)) := by
  refine m_con (by decide) (Nat.le_of_ble_eq_true rfl) ?_
  refine g_ic_0 dX7_ripeBits_0 ?_
  refine g_istore_n dX7_ripeBits_1 rfl (by decide) ?_
  refine g_ic_0 dX7_ripeBits_2 ?_
  refine g_istore_n dX7_ripeBits_3 rfl (by decide) ?_
  exact q_ripe_loop (f := f) (g := g) hk (fun s e => ⟨by rw [e]; rfl, rfl⟩) _ 0 (0) rfl (Nat.zero_le _) (Nat.lt_succ_self _)

theorem h_ripe {A : Nat → Nat → Int32} {L : Nat → Nat → Int64} {I : Nat → Nat → Int32} {X : Nat → Int64} {q r c : Nat} (hs : isS q r c) : Con 3 yX7_ripeBits cX7_ripeBits 3 (some .int) [.ref q] (hp A L I X) (fun r_ H_ => r_ = some (.int (ripeS (A r))) ∧ H_ = hp A L I X) := by
  have h := s_ripe (f := A r) (g := A c) (isS_k (A := A) (L := L) (I := I) (X := X) hs)
  rw [isS_in hs] at h
  exact h

def unrS (f : Nat → Int32) : Int32 := itn (fun k s => s + (if oC f (nI k) 5 = 0 then oC f (nI k) 2 else 0)) (gt 143 f 10).toNatClampNeg 0
set_option maxHeartbeats 4000000 in
set_option maxRecDepth 100000 in
theorem q_unr_loop {Hp : m_H} {q r c : Nat} {f g : Nat → Int32} {Q : Option Value → m_H → Prop} (hk : sK Hp q r c)  (hQ : ∀ s, s = itn (fun k s => s + (if oC f (nI k) 5 = 0 then oC f (nI k) 2 else 0)) (gt 143 f 10).toNatClampNeg (0) → Q (some (.int (s))) (sH Hp r c f g)) : ∀ n k (s : Int32), s = itn (fun k s => s + (if oC f (nI k) 5 = 0 then oC f (nI k) 2 else 0)) k (0) → k ≤ (gt 143 f 10).toNatClampNeg → (gt 143 f 10).toNatClampNeg - k < n → G 3 RX7 cX7_unripeValue 3 (some .int) Q 4 [some (.ref q), some (.int (s)), some (.int (nI k))] [] (sH Hp r c f g) := by
  intro n
  induction n with
  | zero => intro k s hs1 h1 h2; omega
  | succ n ih =>
    intro k s hs1 h1 h2
    have hb := clamp_lt (gt 143 f 10)
    refine g_iload_n dX7_unripeValue_4 rfl rfl ?_
    refine g_aload_n dX7_unripeValue_5 rfl rfl ?_
    refine g_bipush (v := 10) dX7_unripeValue_6 (by decide) ?_
    refine g_callV dX7_unripeValue_8 cv_X7_30 (as' := [_]) (sH_q hk) rfl (s_get hk) (by decide) rfl rfl (Nat.le_of_ble_eq_true rfl) ?_
    rintro _ _ ⟨rfl, rfl⟩
    refine g_icmp_ge (tgt := 42) dX7_unripeValue_11 (by decide) (fun c_11 => ?_) (fun c_11 => ?_)
    · have h6 := (nI_gen (k := k) (by omega)).mp c_11
      have hkn : k = (gt 143 f 10).toNatClampNeg := by omega
      subst hkn
      refine g_iload_n dX7_unripeValue_42 rfl rfl ?_
      exact g_iret dX7_unripeValue_43 (hQ _ hs1)
    · have hlt : k < (gt 143 f 10).toNatClampNeg := Nat.not_le.mp (fun z => c_11 ((nI_gen (by omega)).mpr z))
      refine g_iload_n dX7_unripeValue_14 rfl rfl ?_
      refine g_aload_n dX7_unripeValue_15 rfl rfl ?_
      refine g_iload_n dX7_unripeValue_16 rfl rfl ?_
      refine g_ic_5 dX7_unripeValue_17 ?_
      refine g_callV dX7_unripeValue_18 cv_X7_70 (as' := [_, _]) (sH_q hk) rfl (s_oC hk) (by decide) rfl rfl (Nat.le_of_ble_eq_true rfl) ?_
      rintro _ _ ⟨rfl, rfl⟩
      refine g_if_ne (tgt := 33) dX7_unripeValue_21 (by decide) (fun c_21 => ?_) (fun c_21 => ?_)
      · refine g_ic_0 dX7_unripeValue_33 ?_
        refine g_iadd dX7_unripeValue_34 ?_
        refine g_istore_n dX7_unripeValue_35 rfl (by decide) ?_
        refine g_iinc1 dX7_unripeValue_36 rfl (by decide) ?_
        refine g_goto (tgt := 4) dX7_unripeValue_39 (by decide) ?_
        refine g_loc (ls' := [some (.ref q), some (.int ((s + 0))), some (.int (nI k + 1))]) (fun i v h => by rcases i with _|_|_|_ <;> first | exact h | cases h) ?_
        rw [nI_1]
        exact ih (k + 1) (s + 0) (by rw [show itn (fun k s => s + (if oC f (nI k) 5 = 0 then oC f (nI k) 2 else 0)) (k + 1) (0) = (fun k s => s + (if oC f (nI k) 5 = 0 then oC f (nI k) 2 else 0)) k s from by rw [hs1]; rfl]; exact congrArg (fun z => s + z) (if_neg c_21).symm) (by omega) (by omega)
      · refine g_aload_n dX7_unripeValue_24 rfl rfl ?_
        refine g_iload_n dX7_unripeValue_25 rfl rfl ?_
        refine g_ic_2 dX7_unripeValue_26 ?_
        refine g_callV dX7_unripeValue_27 cv_X7_70 (as' := [_, _]) (sH_q hk) rfl (s_oC hk) (by decide) rfl rfl (Nat.le_of_ble_eq_true rfl) ?_
        rintro _ _ ⟨rfl, rfl⟩
        refine g_goto (tgt := 34) dX7_unripeValue_30 (by decide) ?_
        refine g_iadd dX7_unripeValue_34 ?_
        refine g_istore_n dX7_unripeValue_35 rfl (by decide) ?_
        refine g_iinc1 dX7_unripeValue_36 rfl (by decide) ?_
        refine g_goto (tgt := 4) dX7_unripeValue_39 (by decide) ?_
        refine g_loc (ls' := [some (.ref q), some (.int ((s + oC f (nI k) 2))), some (.int (nI k + 1))]) (fun i v h => by rcases i with _|_|_|_ <;> first | exact h | cases h) ?_
        rw [nI_1]
        exact ih (k + 1) (s + oC f (nI k) 2) (by rw [show itn (fun k s => s + (if oC f (nI k) 5 = 0 then oC f (nI k) 2 else 0)) (k + 1) (0) = (fun k s => s + (if oC f (nI k) 5 = 0 then oC f (nI k) 2 else 0)) k s from by rw [hs1]; rfl]; exact congrArg (fun z => s + z) (if_pos c_21).symm) (by omega) (by omega)

set_option maxHeartbeats 4000000 in
set_option maxRecDepth 100000 in
theorem s_unr {Hp : m_H} {q r c : Nat} {f g : Nat → Int32}  (hk : sK Hp q r c) : Con 3 yX7_unripeValue cX7_unripeValue 3 (some .int) [.ref q] (sH Hp r c f g) (fun r_ H_ => r_ = some (.int (unrS f)) ∧ H_ = (sH Hp r c f g)) := by
  refine m_con (by decide) (Nat.le_of_ble_eq_true rfl) ?_
  refine g_ic_0 dX7_unripeValue_0 ?_
  refine g_istore_n dX7_unripeValue_1 rfl (by decide) ?_
  refine g_ic_0 dX7_unripeValue_2 ?_
  refine g_istore_n dX7_unripeValue_3 rfl (by decide) ?_
  exact q_unr_loop (f := f) (g := g) hk (fun s e => ⟨by rw [e]; rfl, rfl⟩) _ 0 (0) rfl (Nat.zero_le _) (Nat.lt_succ_self _)

theorem h_unr {A : Nat → Nat → Int32} {L : Nat → Nat → Int64} {I : Nat → Nat → Int32} {X : Nat → Int64} {q r c : Nat} (hs : isS q r c) : Con 3 yX7_unripeValue cX7_unripeValue 3 (some .int) [.ref q] (hp A L I X) (fun r_ H_ => r_ = some (.int (unrS (A r))) ∧ H_ = hp A L I X) := by
  have h := s_unr (f := A r) (g := A c) (isS_k (A := A) (L := L) (I := I) (X := X) hs)
  rw [isS_in hs] at h
  exact h

def richS (f : Nat → Int32) : Int32 := (itn (fun k (s : Int32 × Int32) => if oM f (nI k) 2 + oM f (nI k) 3 ≤ s.2 then s else (nI k, oM f (nI k) 2 + oM f (nI k) 3)) (gt 143 f 9).toNatClampNeg ((-1), (-1))).1
set_option maxHeartbeats 4000000 in
set_option maxRecDepth 100000 in
theorem q_rich_loop {Hp : m_H} {q r c : Nat} {f g : Nat → Int32} {Q : Option Value → m_H → Prop} (hk : sK Hp q r c)  (hQ : ∀ s, s = itn (fun k s => if oM f (nI k) 2 + oM f (nI k) 3 ≤ s.2 then s else (nI k, oM f (nI k) 2 + oM f (nI k) 3)) (gt 143 f 9).toNatClampNeg (((-1), (-1))) → Q (some (.int (s.1))) (sH Hp r c f g)) : ∀ n k (s : Int32 × Int32), s = itn (fun k s => if oM f (nI k) 2 + oM f (nI k) 3 ≤ s.2 then s else (nI k, oM f (nI k) 2 + oM f (nI k) 3)) k (((-1), (-1))) → k ≤ (gt 143 f 9).toNatClampNeg → (gt 143 f 9).toNatClampNeg - k < n → G 3 RX7 cX7_richest 5 (some .int) Q 6 [some (.ref q), some (.int (s.1)), some (.int (s.2)), some (.int (nI k)), none] [] (sH Hp r c f g) := by
  intro n
  induction n with
  | zero => intro k s hs1 h1 h2; omega
  | succ n ih =>
    intro k s hs1 h1 h2
    have hb := clamp_lt (gt 143 f 9)
    refine g_iload_n dX7_richest_6 rfl rfl ?_
    refine g_aload_n dX7_richest_7 rfl rfl ?_
    refine g_bipush (v := 9) dX7_richest_8 (by decide) ?_
    refine g_callV dX7_richest_10 cv_X7_30 (as' := [_]) (sH_q hk) rfl (s_get hk) (by decide) rfl rfl (Nat.le_of_ble_eq_true rfl) ?_
    rintro _ _ ⟨rfl, rfl⟩
    refine g_icmp_ge (tgt := 48) dX7_richest_13 (by decide) (fun c_13 => ?_) (fun c_13 => ?_)
    · have h6 := (nI_gen (k := k) (by omega)).mp c_13
      have hkn : k = (gt 143 f 9).toNatClampNeg := by omega
      subst hkn
      refine g_iload_n dX7_richest_48 rfl rfl ?_
      exact g_iret dX7_richest_49 (hQ _ hs1)
    · have hlt : k < (gt 143 f 9).toNatClampNeg := Nat.not_le.mp (fun z => c_13 ((nI_gen (by omega)).mpr z))
      refine g_aload_n dX7_richest_16 rfl rfl ?_
      refine g_iload_n dX7_richest_17 rfl rfl ?_
      refine g_ic_2 dX7_richest_18 ?_
      refine g_callV dX7_richest_19 cv_X7_41 (as' := [_, _]) (sH_q hk) rfl (s_oM hk) (by decide) rfl rfl (Nat.le_of_ble_eq_true rfl) ?_
      rintro _ _ ⟨rfl, rfl⟩
      refine g_aload_n dX7_richest_22 rfl rfl ?_
      refine g_iload_n dX7_richest_23 rfl rfl ?_
      refine g_ic_3 dX7_richest_24 ?_
      refine g_callV dX7_richest_25 cv_X7_41 (as' := [_, _]) (sH_q hk) rfl (s_oM hk) (by decide) rfl rfl (Nat.le_of_ble_eq_true rfl) ?_
      rintro _ _ ⟨rfl, rfl⟩
      refine g_iadd dX7_richest_28 ?_
      refine g_istore dX7_richest_29 (by decide) ?_
      refine g_iload dX7_richest_31 rfl ?_
      refine g_iload_n dX7_richest_33 rfl rfl ?_
      refine g_icmp_le (tgt := 42) dX7_richest_34 (by decide) (fun c_34 => ?_) (fun c_34 => ?_)
      · refine g_iinc1 dX7_richest_42 rfl (by decide) ?_
        refine g_goto (tgt := 6) dX7_richest_45 (by decide) ?_
        refine g_loc (ls' := [some (.ref q), some (.int (s.1)), some (.int (s.2)), some (.int (nI k + 1)), none]) (fun i v h => by rcases i with _|_|_|_|_|_ <;> first | exact h | cases h) ?_
        rw [nI_1]
        exact ih (k + 1) s (by rw [show itn (fun k s => if oM f (nI k) 2 + oM f (nI k) 3 ≤ s.2 then s else (nI k, oM f (nI k) 2 + oM f (nI k) 3)) (k + 1) (((-1), (-1))) = (fun k s => if oM f (nI k) 2 + oM f (nI k) 3 ≤ s.2 then s else (nI k, oM f (nI k) 2 + oM f (nI k) 3)) k s from by rw [hs1]; rfl]; exact (if_pos (c_34)).symm) (by omega) (by omega)
      · refine g_iload dX7_richest_37 rfl ?_
        refine g_istore_n dX7_richest_39 rfl (by decide) ?_
        refine g_iload_n dX7_richest_40 rfl rfl ?_
        refine g_istore_n dX7_richest_41 rfl (by decide) ?_
        refine g_iinc1 dX7_richest_42 rfl (by decide) ?_
        refine g_goto (tgt := 6) dX7_richest_45 (by decide) ?_
        refine g_loc (ls' := [some (.ref q), some (.int ((nI k, oM f (nI k) 2 + oM f (nI k) 3).1)), some (.int ((nI k, oM f (nI k) 2 + oM f (nI k) 3).2)), some (.int (nI k + 1)), none]) (fun i v h => by rcases i with _|_|_|_|_|_ <;> first | exact h | cases h) ?_
        rw [nI_1]
        exact ih (k + 1) (nI k, oM f (nI k) 2 + oM f (nI k) 3) (by rw [show itn (fun k s => if oM f (nI k) 2 + oM f (nI k) 3 ≤ s.2 then s else (nI k, oM f (nI k) 2 + oM f (nI k) 3)) (k + 1) (((-1), (-1))) = (fun k s => if oM f (nI k) 2 + oM f (nI k) 3 ≤ s.2 then s else (nI k, oM f (nI k) 2 + oM f (nI k) 3)) k s from by rw [hs1]; rfl]; exact (if_neg (c_34)).symm) (by omega) (by omega)

set_option maxHeartbeats 4000000 in
set_option maxRecDepth 100000 in
theorem s_rich {Hp : m_H} {q r c : Nat} {f g : Nat → Int32}  (hk : sK Hp q r c) : Con 3 yX7_richest cX7_richest 5 (some .int) [.ref q] (sH Hp r c f g) (fun r_ H_ => r_ = some (.int (richS f)) ∧ H_ = (sH Hp r c f g)) := by
  refine m_con (by decide) (Nat.le_of_ble_eq_true rfl) ?_
  refine g_ic_m1 dX7_richest_0 ?_
  refine g_istore_n dX7_richest_1 rfl (by decide) ?_
  refine g_ic_m1 dX7_richest_2 ?_
  refine g_istore_n dX7_richest_3 rfl (by decide) ?_
  refine g_ic_0 dX7_richest_4 ?_
  refine g_istore_n dX7_richest_5 rfl (by decide) ?_
  exact q_rich_loop (f := f) (g := g) hk (fun s e => ⟨by rw [e]; rfl, rfl⟩) _ 0 (((-1), (-1))) rfl (Nat.zero_le _) (Nat.lt_succ_self _)

theorem h_rich {A : Nat → Nat → Int32} {L : Nat → Nat → Int64} {I : Nat → Nat → Int32} {X : Nat → Int64} {q r c : Nat} (hs : isS q r c) : Con 3 yX7_richest cX7_richest 5 (some .int) [.ref q] (hp A L I X) (fun r_ H_ => r_ = some (.int (richS (A r))) ∧ H_ = hp A L I X) := by
  have h := s_rich (f := A r) (g := A c) (isS_k (A := A) (L := L) (I := I) (X := X) hs)
  rw [isS_in hs] at h
  exact h

def dryS (f : Nat → Int32) : Int32 := (itn (fun k (s : Int32 × Int32) => if s.2 ≤ oM f (nI k) 3 then s else (nI k, oM f (nI k) 3)) (gt 143 f 9).toNatClampNeg ((-1), 10)).1
set_option maxHeartbeats 4000000 in
set_option maxRecDepth 100000 in
theorem q_dry_loop {Hp : m_H} {q r c : Nat} {f g : Nat → Int32} {Q : Option Value → m_H → Prop} (hk : sK Hp q r c)  (hQ : ∀ s, s = itn (fun k s => if s.2 ≤ oM f (nI k) 3 then s else (nI k, oM f (nI k) 3)) (gt 143 f 9).toNatClampNeg (((-1), 10)) → Q (some (.int (s.1))) (sH Hp r c f g)) : ∀ n k (s : Int32 × Int32), s = itn (fun k s => if s.2 ≤ oM f (nI k) 3 then s else (nI k, oM f (nI k) 3)) k (((-1), 10)) → k ≤ (gt 143 f 9).toNatClampNeg → (gt 143 f 9).toNatClampNeg - k < n → G 3 RX7 cX7_driest 4 (some .int) Q 7 [some (.ref q), some (.int (s.1)), some (.int (s.2)), some (.int (nI k))] [] (sH Hp r c f g) := by
  intro n
  induction n with
  | zero => intro k s hs1 h1 h2; omega
  | succ n ih =>
    intro k s hs1 h1 h2
    have hb := clamp_lt (gt 143 f 9)
    refine g_iload_n dX7_driest_7 rfl rfl ?_
    refine g_aload_n dX7_driest_8 rfl rfl ?_
    refine g_bipush (v := 9) dX7_driest_9 (by decide) ?_
    refine g_callV dX7_driest_11 cv_X7_30 (as' := [_]) (sH_q hk) rfl (s_get hk) (by decide) rfl rfl (Nat.le_of_ble_eq_true rfl) ?_
    rintro _ _ ⟨rfl, rfl⟩
    refine g_icmp_ge (tgt := 42) dX7_driest_14 (by decide) (fun c_14 => ?_) (fun c_14 => ?_)
    · have h6 := (nI_gen (k := k) (by omega)).mp c_14
      have hkn : k = (gt 143 f 9).toNatClampNeg := by omega
      subst hkn
      refine g_iload_n dX7_driest_42 rfl rfl ?_
      exact g_iret dX7_driest_43 (hQ _ hs1)
    · have hlt : k < (gt 143 f 9).toNatClampNeg := Nat.not_le.mp (fun z => c_14 ((nI_gen (by omega)).mpr z))
      refine g_aload_n dX7_driest_17 rfl rfl ?_
      refine g_iload_n dX7_driest_18 rfl rfl ?_
      refine g_ic_3 dX7_driest_19 ?_
      refine g_callV dX7_driest_20 cv_X7_41 (as' := [_, _]) (sH_q hk) rfl (s_oM hk) (by decide) rfl rfl (Nat.le_of_ble_eq_true rfl) ?_
      rintro _ _ ⟨rfl, rfl⟩
      refine g_iload_n dX7_driest_23 rfl rfl ?_
      refine g_icmp_ge (tgt := 36) dX7_driest_24 (by decide) (fun c_24 => ?_) (fun c_24 => ?_)
      · refine g_iinc1 dX7_driest_36 rfl (by decide) ?_
        refine g_goto (tgt := 7) dX7_driest_39 (by decide) ?_
        refine g_loc (ls' := [some (.ref q), some (.int (s.1)), some (.int (s.2)), some (.int (nI k + 1))]) (fun i v h => by rcases i with _|_|_|_|_ <;> first | exact h | cases h) ?_
        rw [nI_1]
        exact ih (k + 1) s (by rw [show itn (fun k s => if s.2 ≤ oM f (nI k) 3 then s else (nI k, oM f (nI k) 3)) (k + 1) (((-1), 10)) = (fun k s => if s.2 ≤ oM f (nI k) 3 then s else (nI k, oM f (nI k) 3)) k s from by rw [hs1]; rfl]; exact (if_pos (c_24)).symm) (by omega) (by omega)
      · refine g_aload_n dX7_driest_27 rfl rfl ?_
        refine g_iload_n dX7_driest_28 rfl rfl ?_
        refine g_ic_3 dX7_driest_29 ?_
        refine g_callV dX7_driest_30 cv_X7_41 (as' := [_, _]) (sH_q hk) rfl (s_oM hk) (by decide) rfl rfl (Nat.le_of_ble_eq_true rfl) ?_
        rintro _ _ ⟨rfl, rfl⟩
        refine g_istore_n dX7_driest_33 rfl (by decide) ?_
        refine g_iload_n dX7_driest_34 rfl rfl ?_
        refine g_istore_n dX7_driest_35 rfl (by decide) ?_
        refine g_iinc1 dX7_driest_36 rfl (by decide) ?_
        refine g_goto (tgt := 7) dX7_driest_39 (by decide) ?_
        refine g_loc (ls' := [some (.ref q), some (.int ((nI k, oM f (nI k) 3).1)), some (.int ((nI k, oM f (nI k) 3).2)), some (.int (nI k + 1))]) (fun i v h => by rcases i with _|_|_|_|_ <;> first | exact h | cases h) ?_
        rw [nI_1]
        exact ih (k + 1) (nI k, oM f (nI k) 3) (by rw [show itn (fun k s => if s.2 ≤ oM f (nI k) 3 then s else (nI k, oM f (nI k) 3)) (k + 1) (((-1), 10)) = (fun k s => if s.2 ≤ oM f (nI k) 3 then s else (nI k, oM f (nI k) 3)) k s from by rw [hs1]; rfl]; exact (if_neg (c_24)).symm) (by omega) (by omega)

set_option maxHeartbeats 4000000 in
set_option maxRecDepth 100000 in
theorem s_dry {Hp : m_H} {q r c : Nat} {f g : Nat → Int32}  (hk : sK Hp q r c) : Con 3 yX7_driest cX7_driest 4 (some .int) [.ref q] (sH Hp r c f g) (fun r_ H_ => r_ = some (.int (dryS f)) ∧ H_ = (sH Hp r c f g)) := by
  refine m_con (by decide) (Nat.le_of_ble_eq_true rfl) ?_
  refine g_ic_m1 dX7_driest_0 ?_
  refine g_istore_n dX7_driest_1 rfl (by decide) ?_
  refine g_bipush (v := 10) dX7_driest_2 (by decide) ?_
  refine g_istore_n dX7_driest_4 rfl (by decide) ?_
  refine g_ic_0 dX7_driest_5 ?_
  refine g_istore_n dX7_driest_6 rfl (by decide) ?_
  exact q_dry_loop (f := f) (g := g) hk (fun s e => ⟨by rw [e]; rfl, rfl⟩) _ 0 (((-1), 10)) rfl (Nat.zero_le _) (Nat.lt_succ_self _)

theorem h_dry {A : Nat → Nat → Int32} {L : Nat → Nat → Int64} {I : Nat → Nat → Int32} {X : Nat → Int64} {q r c : Nat} (hs : isS q r c) : Con 3 yX7_driest cX7_driest 4 (some .int) [.ref q] (hp A L I X) (fun r_ H_ => r_ = some (.int (dryS (A r))) ∧ H_ = hp A L I X) := by
  have h := s_dry (f := A r) (g := A c) (isS_k (A := A) (L := L) (I := I) (X := X) hs)
  rw [isS_in hs] at h
  exact h

def lckS (f : Nat → Int32) (k : Nat) : Int32 := mx 0 (oC f (nI k) 0 - oC f (nI k) 3) + mx 0 (oC f (nI k) 1 - oC f (nI k) 4)
def needS (f : Nat → Int32) : Int32 := (itn (fun k (s : Int32 × Int32) => if oC f (nI k) 5 = 0 then (if lckS f k ≤ s.2 then s else (nI k, lckS f k)) else s) (gt 143 f 10).toNatClampNeg ((-1), (-1))).1
set_option maxHeartbeats 4000000 in
set_option maxRecDepth 100000 in
theorem q_need_loop {Hp : m_H} {q r c : Nat} {f g : Nat → Int32} {Q : Option Value → m_H → Prop} (hk : sK Hp q r c)  (hQ : ∀ s, s = itn (fun k s => if oC f (nI k) 5 = 0 then (if lckS f k ≤ s.2 then s else (nI k, lckS f k)) else s) (gt 143 f 10).toNatClampNeg (((-1), (-1))) → Q (some (.int (s.1))) (sH Hp r c f g)) : ∀ n k (s : Int32 × Int32), s = itn (fun k s => if oC f (nI k) 5 = 0 then (if lckS f k ≤ s.2 then s else (nI k, lckS f k)) else s) k (((-1), (-1))) → k ≤ (gt 143 f 10).toNatClampNeg → (gt 143 f 10).toNatClampNeg - k < n → G 3 RX7 cX7_neediest 6 (some .int) Q 6 [some (.ref q), some (.int (s.1)), some (.int (s.2)), some (.int (nI k)), none, none] [] (sH Hp r c f g) := by
  intro n
  induction n with
  | zero => intro k s hs1 h1 h2; omega
  | succ n ih =>
    intro k s hs1 h1 h2
    have hb := clamp_lt (gt 143 f 10)
    refine g_iload_n dX7_neediest_6 rfl rfl ?_
    refine g_aload_n dX7_neediest_7 rfl rfl ?_
    refine g_bipush (v := 10) dX7_neediest_8 (by decide) ?_
    refine g_callV dX7_neediest_10 cv_X7_30 (as' := [_]) (sH_q hk) rfl (s_get hk) (by decide) rfl rfl (Nat.le_of_ble_eq_true rfl) ?_
    rintro _ _ ⟨rfl, rfl⟩
    refine g_icmp_ge (tgt := 86) dX7_neediest_13 (by decide) (fun c_13 => ?_) (fun c_13 => ?_)
    · have h6 := (nI_gen (k := k) (by omega)).mp c_13
      have hkn : k = (gt 143 f 10).toNatClampNeg := by omega
      subst hkn
      refine g_iload_n dX7_neediest_86 rfl rfl ?_
      exact g_iret dX7_neediest_87 (hQ _ hs1)
    · have hlt : k < (gt 143 f 10).toNatClampNeg := Nat.not_le.mp (fun z => c_13 ((nI_gen (by omega)).mpr z))
      refine g_ic_0 dX7_neediest_16 ?_
      refine g_aload_n dX7_neediest_17 rfl rfl ?_
      refine g_iload_n dX7_neediest_18 rfl rfl ?_
      refine g_ic_0 dX7_neediest_19 ?_
      refine g_callV dX7_neediest_20 cv_X7_70 (as' := [_, _]) (sH_q hk) rfl (s_oC hk) (by decide) rfl rfl (Nat.le_of_ble_eq_true rfl) ?_
      rintro _ _ ⟨rfl, rfl⟩
      refine g_aload_n dX7_neediest_23 rfl rfl ?_
      refine g_iload_n dX7_neediest_24 rfl rfl ?_
      refine g_ic_3 dX7_neediest_25 ?_
      refine g_callV dX7_neediest_26 cv_X7_70 (as' := [_, _]) (sH_q hk) rfl (s_oC hk) (by decide) rfl rfl (Nat.le_of_ble_eq_true rfl) ?_
      rintro _ _ ⟨rfl, rfl⟩
      refine g_isub dX7_neediest_29 ?_
      refine g_max dX7_neediest_30 ml_X7_73 ms_max mi_math mc_max (by decide) (Nat.le_of_ble_eq_true rfl) ?_
      refine g_istore dX7_neediest_33 (by decide) ?_
      refine g_ic_0 dX7_neediest_35 ?_
      refine g_aload_n dX7_neediest_36 rfl rfl ?_
      refine g_iload_n dX7_neediest_37 rfl rfl ?_
      refine g_ic_1 dX7_neediest_38 ?_
      refine g_callV dX7_neediest_39 cv_X7_70 (as' := [_, _]) (sH_q hk) rfl (s_oC hk) (by decide) rfl rfl (Nat.le_of_ble_eq_true rfl) ?_
      rintro _ _ ⟨rfl, rfl⟩
      refine g_aload_n dX7_neediest_42 rfl rfl ?_
      refine g_iload_n dX7_neediest_43 rfl rfl ?_
      refine g_ic_4 dX7_neediest_44 ?_
      refine g_callV dX7_neediest_45 cv_X7_70 (as' := [_, _]) (sH_q hk) rfl (s_oC hk) (by decide) rfl rfl (Nat.le_of_ble_eq_true rfl) ?_
      rintro _ _ ⟨rfl, rfl⟩
      refine g_isub dX7_neediest_48 ?_
      refine g_max dX7_neediest_49 ml_X7_73 ms_max mi_math mc_max (by decide) (Nat.le_of_ble_eq_true rfl) ?_
      refine g_istore dX7_neediest_52 (by decide) ?_
      refine g_aload_n dX7_neediest_54 rfl rfl ?_
      refine g_iload_n dX7_neediest_55 rfl rfl ?_
      refine g_ic_5 dX7_neediest_56 ?_
      refine g_callV dX7_neediest_57 cv_X7_70 (as' := [_, _]) (sH_q hk) rfl (s_oC hk) (by decide) rfl rfl (Nat.le_of_ble_eq_true rfl) ?_
      rintro _ _ ⟨rfl, rfl⟩
      refine g_if_ne (tgt := 80) dX7_neediest_60 (by decide) (fun c_60 => ?_) (fun c_60 => ?_)
      · refine g_iinc1 dX7_neediest_80 rfl (by decide) ?_
        refine g_goto (tgt := 6) dX7_neediest_83 (by decide) ?_
        refine g_loc (ls' := [some (.ref q), some (.int (s.1)), some (.int (s.2)), some (.int (nI k + 1)), none, none]) (fun i v h => by rcases i with _|_|_|_|_|_|_ <;> first | exact h | cases h) ?_
        rw [nI_1]
        exact ih (k + 1) s (by rw [show itn (fun k s => if oC f (nI k) 5 = 0 then (if lckS f k ≤ s.2 then s else (nI k, lckS f k)) else s) (k + 1) (((-1), (-1))) = (fun k s => if oC f (nI k) 5 = 0 then (if lckS f k ≤ s.2 then s else (nI k, lckS f k)) else s) k s from by rw [hs1]; rfl]; exact (if_neg c_60).symm) (by omega) (by omega)
      · refine g_iload dX7_neediest_63 rfl ?_
        refine g_iload dX7_neediest_65 rfl ?_
        refine g_iadd dX7_neediest_67 ?_
        refine g_iload_n dX7_neediest_68 rfl rfl ?_
        refine g_icmp_le (tgt := 80) dX7_neediest_69 (by decide) (fun c_69 => ?_) (fun c_69 => ?_)
        · refine g_iinc1 dX7_neediest_80 rfl (by decide) ?_
          refine g_goto (tgt := 6) dX7_neediest_83 (by decide) ?_
          refine g_loc (ls' := [some (.ref q), some (.int (s.1)), some (.int (s.2)), some (.int (nI k + 1)), none, none]) (fun i v h => by rcases i with _|_|_|_|_|_|_ <;> first | exact h | cases h) ?_
          rw [nI_1]
          exact ih (k + 1) s (by rw [show itn (fun k s => if oC f (nI k) 5 = 0 then (if lckS f k ≤ s.2 then s else (nI k, lckS f k)) else s) (k + 1) (((-1), (-1))) = (fun k s => if oC f (nI k) 5 = 0 then (if lckS f k ≤ s.2 then s else (nI k, lckS f k)) else s) k s from by rw [hs1]; rfl]; exact ((if_pos c_60).trans (if_pos (c_69))).symm) (by omega) (by omega)
        · refine g_iload dX7_neediest_72 rfl ?_
          refine g_iload dX7_neediest_74 rfl ?_
          refine g_iadd dX7_neediest_76 ?_
          refine g_istore_n dX7_neediest_77 rfl (by decide) ?_
          refine g_iload_n dX7_neediest_78 rfl rfl ?_
          refine g_istore_n dX7_neediest_79 rfl (by decide) ?_
          refine g_iinc1 dX7_neediest_80 rfl (by decide) ?_
          refine g_goto (tgt := 6) dX7_neediest_83 (by decide) ?_
          refine g_loc (ls' := [some (.ref q), some (.int ((nI k, lckS f k).1)), some (.int ((nI k, lckS f k).2)), some (.int (nI k + 1)), none, none]) (fun i v h => by rcases i with _|_|_|_|_|_|_ <;> first | exact h | cases h) ?_
          rw [nI_1]
          exact ih (k + 1) (nI k, lckS f k) (by rw [show itn (fun k s => if oC f (nI k) 5 = 0 then (if lckS f k ≤ s.2 then s else (nI k, lckS f k)) else s) (k + 1) (((-1), (-1))) = (fun k s => if oC f (nI k) 5 = 0 then (if lckS f k ≤ s.2 then s else (nI k, lckS f k)) else s) k s from by rw [hs1]; rfl]; exact ((if_pos c_60).trans (if_neg (c_69))).symm) (by omega) (by omega)

set_option maxHeartbeats 4000000 in
set_option maxRecDepth 100000 in
theorem s_need {Hp : m_H} {q r c : Nat} {f g : Nat → Int32}  (hk : sK Hp q r c) : Con 3 yX7_neediest cX7_neediest 6 (some .int) [.ref q] (sH Hp r c f g) (fun r_ H_ => r_ = some (.int (needS f)) ∧ H_ = (sH Hp r c f g)) := by
  refine m_con (by decide) (Nat.le_of_ble_eq_true rfl) ?_
  refine g_ic_m1 dX7_neediest_0 ?_
  refine g_istore_n dX7_neediest_1 rfl (by decide) ?_
  refine g_ic_m1 dX7_neediest_2 ?_
  refine g_istore_n dX7_neediest_3 rfl (by decide) ?_
  refine g_ic_0 dX7_neediest_4 ?_
  refine g_istore_n dX7_neediest_5 rfl (by decide) ?_
  exact q_need_loop (f := f) (g := g) hk (fun s e => ⟨by rw [e]; rfl, rfl⟩) _ 0 (((-1), (-1))) rfl (Nat.zero_le _) (Nat.lt_succ_self _)

theorem h_need {A : Nat → Nat → Int32} {L : Nat → Nat → Int64} {I : Nat → Nat → Int32} {X : Nat → Int64} {q r c : Nat} (hs : isS q r c) : Con 3 yX7_neediest cX7_neediest 6 (some .int) [.ref q] (hp A L I X) (fun r_ H_ => r_ = some (.int (needS (A r))) ∧ H_ = hp A L I X) := by
  have h := s_need (f := A r) (g := A c) (isS_k (A := A) (L := L) (I := I) (X := X) hs)
  rw [isS_in hs] at h
  exact h

def allS (f : Nat → Int32) : Int32 := if ripeS f = (1 <<< (gt 143 f 10 &&& 31)) - 1 then 1 else 0
set_option maxHeartbeats 4000000 in
set_option maxRecDepth 100000 in
theorem s_all {Hp : m_H} {q r c : Nat} {f g : Nat → Int32} (hk : sK Hp q r c) : Con 4 yX7_allRipe cX7_allRipe 1 (some .boolean) [.ref q] (sH Hp r c f g) (fun r_ H_ => r_ = some (.int (allS f)) ∧ H_ = (sH Hp r c f g)) := by
  refine m_con (by decide) (Nat.le_of_ble_eq_true rfl) ?_
  refine g_aload_n dX7_allRipe_0 rfl rfl ?_
  refine g_callV dX7_allRipe_1 cv_X7_76 (as' := []) (sH_q hk) rfl (s_ripe hk) (by decide) rfl rfl (Nat.le_of_ble_eq_true rfl) ?_
  rintro _ _ ⟨rfl, rfl⟩
  refine g_ic_1 dX7_allRipe_4 ?_
  refine g_aload_n dX7_allRipe_5 rfl rfl ?_
  refine g_bipush (v := 10) dX7_allRipe_6 (by decide) ?_
  refine g_callV dX7_allRipe_8 cv_X7_30 (as' := [_]) (sH_q hk) rfl (s_get hk) (by decide) rfl rfl (Nat.le_of_ble_eq_true rfl) ?_
  rintro _ _ ⟨rfl, rfl⟩
  refine g_ishl dX7_allRipe_11 ?_
  refine g_ic_1 dX7_allRipe_12 ?_
  refine g_isub dX7_allRipe_13 ?_
  refine g_icmp_ne (tgt := 21) dX7_allRipe_14 (by decide) (fun c_14 => ?_) (fun c_14 => ?_)
  · refine g_ic_0 dX7_allRipe_21 ?_
    exact g_zret (by first | exact Or.inl rfl | exact Or.inr rfl) dX7_allRipe_22 ⟨by first | (unfold allS; rw [if_pos c_14]) | (unfold allS; rw [if_neg c_14]), rfl⟩
  · refine g_ic_1 dX7_allRipe_17 ?_
    refine g_goto (tgt := 22) dX7_allRipe_18 (by decide) ?_
    exact g_zret (by first | exact Or.inl rfl | exact Or.inr rfl) dX7_allRipe_22 ⟨by first | (unfold allS; rw [if_pos c_14]) | (unfold allS; rw [if_neg c_14]), rfl⟩

theorem h_all {A : Nat → Nat → Int32} {L : Nat → Nat → Int64} {I : Nat → Nat → Int32} {X : Nat → Int64} {q r c : Nat} (hs : isS q r c) : Con 4 yX7_allRipe cX7_allRipe 1 (some .boolean) [.ref q] (hp A L I X) (fun r_ H_ => r_ = some (.int (allS (A r))) ∧ H_ = hp A L I X) := by
  have h := s_all (f := A r) (g := A c) (isS_k (A := A) (L := L) (I := I) (X := X) hs)
  rw [isS_in hs] at h
  exact h

def lvlS (f : Nat → Int32) (a b : Int32) : Nat → Nat → Int32
  | 0, _ => (-1)
  | n + 1, k => if rm (gt 143 f 7 + nI k) a = 0 then (if rm (gt 143 f 7 + nI k) b = 0 then nI k else lvlS f a b n (k + 1)) else lvlS f a b n (k + 1)
def levelS (f : Nat → Int32) (i j : Int32) : Int32 := if oM f i 4 < 1 then (-1) else if 1 ≤ oM f j 4 then lvlS f (oM f i 4) (oM f j 4) 100 0 else (-1)
set_option maxHeartbeats 4000000 in
set_option maxRecDepth 100000 in
theorem q_level_loop {Hp : m_H} {q r c : Nat} {f g : Nat → Int32} {Q : Option Value → m_H → Prop} (hk : sK Hp q r c) {i j : Int32} (h3 : ¬ oM f i 4 = 0) (h4 : ¬ oM f j 4 = 0) : ∀ n k, n + k = 100 → Q (some (.int (lvlS f (oM f i 4) (oM f j 4) n k))) (sH Hp r c f g) → G 3 RX7 cX7_firstLevel 7 (some .int) Q 31 [some (.ref q), some (.int i), some (.int j), some (.int (oM f i 4)), some (.int (oM f j 4)), some (.int (nI k)), none] [] (sH Hp r c f g) := by
  intro n
  induction n with
  | zero =>
    intro k hk1 hQ
    refine g_iload dX7_firstLevel_31 rfl ?_
    refine g_bipush (v := 100) dX7_firstLevel_33 (by decide) ?_
    refine g_icmp_ge (tgt := 73) dX7_firstLevel_35 (by decide) (fun c_35 => ?_) (fun c_35 => ?_)
    · refine g_ic_m1 dX7_firstLevel_73 ?_
      exact g_iret dX7_firstLevel_74 hQ
    · exact absurd (lit_nle (n := 100) (by decide) (by omega) c_35) (by omega)
  | succ n ih =>
    intro k hk1 hQ
    refine g_iload dX7_firstLevel_31 rfl ?_
    refine g_bipush (v := 100) dX7_firstLevel_33 (by decide) ?_
    refine g_icmp_ge (tgt := 73) dX7_firstLevel_35 (by decide) (fun c_35 => ?_) (fun c_35 => ?_)
    · exact absurd (lit_le (n := 100) (by decide) (by omega) c_35) (by omega)
    · refine g_aload_n dX7_firstLevel_38 rfl rfl ?_
      refine g_bipush (v := 7) dX7_firstLevel_39 (by decide) ?_
      refine g_callV dX7_firstLevel_41 cv_X7_30 (as' := [_]) (sH_q hk) rfl (s_get hk) (by decide) rfl rfl (Nat.le_of_ble_eq_true rfl) ?_
      rintro _ _ ⟨rfl, rfl⟩
      refine g_iload dX7_firstLevel_44 rfl ?_
      refine g_iadd dX7_firstLevel_46 ?_
      refine g_istore dX7_firstLevel_47 (by decide) ?_
      refine g_iload dX7_firstLevel_49 rfl ?_
      refine g_iload_n dX7_firstLevel_51 rfl rfl ?_
      refine g_irem dX7_firstLevel_52 h3 ?_
      refine g_if_ne (tgt := 67) dX7_firstLevel_53 (by decide) (fun c_53 => ?_) (fun c_53 => ?_)
      · refine g_iinc1 dX7_firstLevel_67 rfl (by decide) ?_
        refine g_goto (tgt := 31) dX7_firstLevel_70 (by decide) ?_
        refine g_loc (ls' := [some (.ref q), some (.int i), some (.int j), some (.int (oM f i 4)), some (.int (oM f j 4)), some (.int (nI k + 1)), none]) (fun i v h => by rcases i with _|_|_|_|_|_|_|_ <;> first | exact h | cases h) ?_
        rw [nI_1]
        exact ih (k + 1) (by omega) (Eq.mp (congrArg (fun z => Q (some (Value.int z)) (sH Hp r c f g)) (if_neg c_53)) hQ)
      · refine g_iload dX7_firstLevel_56 rfl ?_
        refine g_iload dX7_firstLevel_58 rfl ?_
        refine g_irem dX7_firstLevel_60 h4 ?_
        refine g_if_ne (tgt := 67) dX7_firstLevel_61 (by decide) (fun c_61 => ?_) (fun c_61 => ?_)
        · refine g_iinc1 dX7_firstLevel_67 rfl (by decide) ?_
          refine g_goto (tgt := 31) dX7_firstLevel_70 (by decide) ?_
          refine g_loc (ls' := [some (.ref q), some (.int i), some (.int j), some (.int (oM f i 4)), some (.int (oM f j 4)), some (.int (nI k + 1)), none]) (fun i v h => by rcases i with _|_|_|_|_|_|_|_ <;> first | exact h | cases h) ?_
          rw [nI_1]
          exact ih (k + 1) (by omega) (Eq.mp (congrArg (fun z => Q (some (Value.int z)) (sH Hp r c f g)) ((if_pos c_53).trans (if_neg c_61))) hQ)
        · refine g_iload dX7_firstLevel_64 rfl ?_
          exact g_iret dX7_firstLevel_66 (Eq.mp (congrArg (fun z => Q (some (Value.int z)) (sH Hp r c f g)) ((if_pos c_53).trans (if_pos c_61))) hQ)

theorem ne0_of {x : Int32} (h : ¬ x < 1) : ¬ x = 0 := by rintro rfl; exact h (by decide)
theorem ne0_of' {x : Int32} (h : 1 ≤ x) : ¬ x = 0 := by rintro rfl; exact absurd h (by decide)
set_option maxHeartbeats 4000000 in
set_option maxRecDepth 100000 in
theorem s_level {Hp : m_H} {q r c : Nat} {f g : Nat → Int32} {i j : Int32} (hk : sK Hp q r c) : Con 3 yX7_firstLevel cX7_firstLevel 7 (some .int) [.ref q, .int i, .int j] (sH Hp r c f g) (fun r_ H_ => r_ = some (.int (levelS f i j)) ∧ H_ = (sH Hp r c f g)) := by
  refine m_con (by decide) (Nat.le_of_ble_eq_true rfl) ?_
  refine g_aload_n dX7_firstLevel_0 rfl rfl ?_
  refine g_iload_n dX7_firstLevel_1 rfl rfl ?_
  refine g_ic_4 dX7_firstLevel_2 ?_
  refine g_callV dX7_firstLevel_3 cv_X7_41 (as' := [_, _]) (sH_q hk) rfl (s_oM hk) (by decide) rfl rfl (Nat.le_of_ble_eq_true rfl) ?_
  rintro _ _ ⟨rfl, rfl⟩
  refine g_istore_n dX7_firstLevel_6 rfl (by decide) ?_
  refine g_aload_n dX7_firstLevel_7 rfl rfl ?_
  refine g_iload_n dX7_firstLevel_8 rfl rfl ?_
  refine g_ic_4 dX7_firstLevel_9 ?_
  refine g_callV dX7_firstLevel_10 cv_X7_41 (as' := [_, _]) (sH_q hk) rfl (s_oM hk) (by decide) rfl rfl (Nat.le_of_ble_eq_true rfl) ?_
  rintro _ _ ⟨rfl, rfl⟩
  refine g_istore dX7_firstLevel_13 (by decide) ?_
  refine g_iload_n dX7_firstLevel_15 rfl rfl ?_
  refine g_ic_1 dX7_firstLevel_16 ?_
  refine g_icmp_lt (tgt := 26) dX7_firstLevel_17 (by decide) (fun c_17 => ?_) (fun c_17 => ?_)
  · refine g_ic_m1 dX7_firstLevel_26 ?_
    exact g_iret dX7_firstLevel_27 ⟨by first | (unfold levelS; rw [if_pos c_17]) | (unfold levelS; rw [if_neg c_17, if_neg c_23]), rfl⟩
  · refine g_iload dX7_firstLevel_20 rfl ?_
    refine g_ic_1 dX7_firstLevel_22 ?_
    refine g_icmp_ge (tgt := 28) dX7_firstLevel_23 (by decide) (fun c_23 => ?_) (fun c_23 => ?_)
    · refine g_ic_0 dX7_firstLevel_28 ?_
      refine g_istore dX7_firstLevel_29 (by decide) ?_
      refine g_loc (ls' := [some (.ref q), some (.int i), some (.int j), some (.int (oM f i 4)), some (.int (oM f j 4)), some (.int (nI 0)), none]) (fun i v h => by rcases i with _|_|_|_|_|_|_|_ <;> first | exact h | cases h) ?_
      exact q_level_loop hk (ne0_of c_17) (ne0_of' c_23) 100 0 rfl ⟨by unfold levelS; rw [if_neg c_17, if_pos c_23], rfl⟩
    · refine g_ic_m1 dX7_firstLevel_26 ?_
      exact g_iret dX7_firstLevel_27 ⟨by first | (unfold levelS; rw [if_pos c_17]) | (unfold levelS; rw [if_neg c_17, if_neg c_23]), rfl⟩

theorem h_level {A : Nat → Nat → Int32} {L : Nat → Nat → Int64} {I : Nat → Nat → Int32} {X : Nat → Int64} {q r c : Nat} {i j : Int32} (hs : isS q r c) : Con 3 yX7_firstLevel cX7_firstLevel 7 (some .int) [.ref q, .int i, .int j] (hp A L I X) (fun r_ H_ => r_ = some (.int (levelS (A r) i j)) ∧ H_ = hp A L I X) := by
  have h := s_level (i := i) (j := j) (f := A r) (g := A c) (isS_k (A := A) (L := L) (I := I) (X := X) hs)
  rw [isS_in hs] at h
  exact h
