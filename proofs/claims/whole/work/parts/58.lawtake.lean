/-! READING A LAW: the whole; a law is taken -/
def flW (cs : List CLA) : TL := cs.foldl (fun acc c => acc ++ clW acc.length c) []
theorem flW_app {cs : List CLA} {c : CLA} : flW (cs ++ [c]) = flW cs ++ clW (flW cs).length c := by
  unfold flW
  rw [List.foldl_append]
  rfl
def nxt (cs : List CLA) (q : PR CLA) : PR (List CLA) := match q with
  | .inl p => .inl p
  | .inr (d, c) => .inr (d, cs ++ [c])
def lawL (T : Nat → Int32) (n : Nat) : Nat → PR (List CLA) → PR (List CLA)
  | 0, s => s
  | f + 1, s => match s with
    | .inl p => .inl p
    | .inr (b, cs) => if bt T n (sk T n b) = 59 then lawL T n f (nxt cs (clP T n (sk T n b + 1))) else .inr (sk T n b, cs)
def lawE (T : Nat → Int32) (n : Nat) (s : PR (List CLA)) : PR (List CLA) := match s with
  | .inl p => .inl p
  | .inr (b, cs) => if bt T n (sk T n b) = (-1) then .inr (sk T n b, cs) else .inl (sk T n b)
def lawP (T : Nat → Int32) (n : Nat) : PR (List CLA) := lawE T n (lawL T n 240 (nxt [] (clP T n 0)))
def lwW (s : PR (List CLA)) : PR TL := match s with
  | .inl p => .inl p
  | .inr (b, cs) => .inr (b, flW cs)
def lawV {α : Type} (s : PR α) : Int32 := match s with
  | .inl p => nI p
  | .inr _ => (-1)
section RD
variable {A0 I0 A I : Nat → Nat → Int32} {L : Nat → Nat → Int64} {X : Nat → Int64} {n : Nat} {k : Nat}
theorem toW_inr {m e : Nat} {c : CLA} : toW m (.inr (e, c)) = .inr (e, clW m c) := rfl
theorem law_next {cs : List CLA} {a : Nat} (h : SS A0 I0 n ([] ++ flW cs) k (toW ([] ++ flW cs).length (clP (A0 2) n a)) A I) : SS A0 I0 n [] k (lwW (nxt cs (clP (A0 2) n a))) A I := by
  cases hc : clP (A0 2) n a with
  | inl p =>
    rw [hc] at h
    exact h
  | inr q =>
    obtain ⟨d, c⟩ := q
    rw [hc, toW_inr] at h
    have h2 := SS_base.mp h
    have e : lwW (nxt cs (.inr (d, c))) = .inr (d, flW cs ++ clW (flW cs).length c) := by rw [← flW_app]; rfl
    rw [e]
    refine SS_base.mpr ?_
    exact h2
theorem law_v {s : PR (List CLA)} (h : SS A0 I0 n [] k (lwW s) A I) : I 9 2 = lawV s := by
  cases s with
  | inl p => exact h.2.1
  | inr q => exact h.2.2.1
theorem law_begin (tp : tpS A I n) : SS A I n [] 0 (.inr (0, [])) A (up2 (up2 (up2 I 9 1 0) 9 2 (-1)) 8 2 0) := by
  refine ⟨⟨fun _ _ => rfl, fun i k z1 z2 => ?_⟩, ?_, ?_, ?_, fun i x hi => ?_, Nat.zero_le _, Nat.le_refl _⟩
  · rw [up2_ne z2, up2_ne (by omega), up2_ne (by omega)]
  · rw [up2_ne (by omega), up2_ne (by omega), up2_at]; rfl
  · rw [up2_ne (by omega), up2_at]
  · rw [up2_at]; rfl
  · simp at hi
end RD
set_option maxHeartbeats 4000000 in
set_option maxRecDepth 100000 in
theorem r_law64 {A0 I0 : Nat → Nat → Int32} {L : Nat → Nat → Int64} {X : Nat → Int64} {n : Nat} {A I : Nat → Nat → Int32} {i : Option Value} {s : PR (List CLA)} {Q : Option Value → m_H → Prop} (tp : tpS A0 I0 n) (h : SS A0 I0 n [] 0 (lwW s) A I) (hQ : ∀ A1 I1, SS A0 I0 n [] 0 (lwW (lawE (A0 2) n s)) A1 I1 → Q (some (.int (lawV (lawE (A0 2) n s)))) (hp A1 L I1 X)) : G 38 RX4 cX4_readLaw 2 (some .int) Q 64 [some (.ref 8), i] [] (hp A L I X) := by
  rcases s with p | ⟨b, cs⟩
  · skip
    have h : SS A0 I0 n [] 0 (.inl p) A I := h
    refine g_aload_n dX4_readLaw_64 rfl rfl ?_
    refine g_get dX4_readLaw_65 fl_X4_20 hp_8 rfl ?_
    refine g_callV dX4_readLaw_68 cv_X4_38 (as' := []) hp_9 rfl (r_look tp h) (by omega) rfl rfl (Nat.le_of_ble_eq_true rfl) ?_
    rintro _ _ ⟨v68, rfl, A1, I1, h, hv, rfl⟩
    refine g_ic_m1 dX4_readLaw_71 ?_
    refine g_icmp_eq (tgt := 82) dX4_readLaw_72 (by decide) (fun c_72 => ?_) (fun c_72 => ?_)
    · refine g_aload_n dX4_readLaw_82 rfl rfl ?_
      refine g_get dX4_readLaw_83 fl_X4_20 hp_8 rfl ?_
      refine g_get dX4_readLaw_86 fl_X4_50 hp_9 rfl ?_
      exact g_iret dX4_readLaw_89 (by rw [show I1 9 2 = nI p from h.2.1]; exact hQ _ _ h)
    · refine g_aload_n dX4_readLaw_75 rfl rfl ?_
      refine g_get dX4_readLaw_76 fl_X4_20 hp_8 rfl ?_
      refine g_callV dX4_readLaw_79 cv_X4_47 (as' := []) hp_9 rfl (r_fail tp h) (by omega) rfl rfl (Nat.le_of_ble_eq_true rfl) ?_
      rintro _ _ ⟨rfl, A1, I1, h, rfl⟩
      refine g_aload_n dX4_readLaw_82 rfl rfl ?_
      refine g_get dX4_readLaw_83 fl_X4_20 hp_8 rfl ?_
      refine g_get dX4_readLaw_86 fl_X4_50 hp_9 rfl ?_
      exact g_iret dX4_readLaw_89 (by rw [show I1 9 2 = nI p from h.2.1]; exact hQ _ _ h)
  · skip
    have h : SS A0 I0 n [] 0 (.inr (b, flW cs)) A I := h
    refine g_aload_n dX4_readLaw_64 rfl rfl ?_
    refine g_get dX4_readLaw_65 fl_X4_20 hp_8 rfl ?_
    refine g_callV dX4_readLaw_68 cv_X4_38 (as' := []) hp_9 rfl (r_look tp h) (by omega) rfl rfl (Nat.le_of_ble_eq_true rfl) ?_
    rintro _ _ ⟨v68, rfl, A1, I1, h, hv, rfl⟩
    obtain rfl := hv _ _ rfl
    refine g_ic_m1 dX4_readLaw_71 ?_
    refine g_icmp_eq (tgt := 82) dX4_readLaw_72 (by decide) (fun c_72 => ?_) (fun c_72 => ?_)
    · refine g_aload_n dX4_readLaw_82 rfl rfl ?_
      refine g_get dX4_readLaw_83 fl_X4_20 hp_8 rfl ?_
      refine g_get dX4_readLaw_86 fl_X4_50 hp_9 rfl ?_
      exact g_iret dX4_readLaw_89 (by have e : lawE (A0 2) n (.inr (b, cs)) = .inr (sk (A0 2) n b, cs) := if_pos c_72; rw [e] at hQ; rw [show I1 9 2 = -1 from h.2.2.1]; exact hQ _ _ h)
    · refine g_aload_n dX4_readLaw_75 rfl rfl ?_
      refine g_get dX4_readLaw_76 fl_X4_20 hp_8 rfl ?_
      refine g_callV dX4_readLaw_79 cv_X4_47 (as' := []) hp_9 rfl (r_fail tp h) (by omega) rfl rfl (Nat.le_of_ble_eq_true rfl) ?_
      rintro _ _ ⟨rfl, A1, I1, h, rfl⟩
      refine g_aload_n dX4_readLaw_82 rfl rfl ?_
      refine g_get dX4_readLaw_83 fl_X4_20 hp_8 rfl ?_
      refine g_get dX4_readLaw_86 fl_X4_50 hp_9 rfl ?_
      exact g_iret dX4_readLaw_89 (by have e : lawE (A0 2) n (.inr (b, cs)) = .inl (sk (A0 2) n b) := if_neg c_72; rw [e] at hQ; rw [show I1 9 2 = nI (sk (A0 2) n b) from h.2.1]; exact hQ _ _ h)

set_option maxHeartbeats 4000000 in
set_option maxRecDepth 100000 in
theorem r_law18 {A0 I0 : Nat → Nat → Int32} {L : Nat → Nat → Int64} {X : Nat → Int64} {n : Nat} {Q : Option Value → m_H → Prop} (tp : tpS A0 I0 n) : ∀ f i (s : PR (List CLA)) A I, f + i = 240 → SS A0 I0 n [] 0 (lwW s) A I → (∀ A1 I1, SS A0 I0 n [] 0 (lwW (lawE (A0 2) n (lawL (A0 2) n f s))) A1 I1 → Q (some (.int (lawV (lawE (A0 2) n (lawL (A0 2) n f s))))) (hp A1 L I1 X)) → G 38 RX4 cX4_readLaw 2 (some .int) Q 18 [some (.ref 8), some (.int (nI i))] [] (hp A L I X) := by
  intro f
  induction f with
  | zero =>
    intro i s A I hf h hQ
    refine g_iload_n dX4_readLaw_18 rfl rfl ?_
    refine g_sipush (v := 240) dX4_readLaw_19 (by decide) ?_
    refine g_icmp_ge (tgt := 64) dX4_readLaw_22 (by decide) (fun c_22 => ?_) (fun c_22 => ?_)
    · exact r_law64 tp h hQ
    · exact absurd (nI_le (a := 240) (b := i) (by omega) (by omega)) c_22
  | succ f ih =>
    intro i s A I hf h hQ
    rcases s with p | ⟨b, cs⟩
    · skip
      have h : SS A0 I0 n [] 0 (.inl p) A I := h
      refine g_iload_n dX4_readLaw_18 rfl rfl ?_
      refine g_sipush (v := 240) dX4_readLaw_19 (by decide) ?_
      refine g_icmp_ge (tgt := 64) dX4_readLaw_22 (by decide) (fun c_22 => ?_) (fun c_22 => ?_)
      · exact r_law64 (s := .inl p) tp h hQ
      · refine g_aload_n dX4_readLaw_25 rfl rfl ?_
        refine g_get dX4_readLaw_26 fl_X4_20 hp_8 rfl ?_
        refine g_callV dX4_readLaw_29 cv_X4_34 (as' := []) hp_9 rfl (r_failed tp h) (by omega) rfl rfl (Nat.le_of_ble_eq_true rfl) ?_
        rintro _ _ ⟨rfl, rfl⟩
        refine g_if_ne (tgt := 64) dX4_readLaw_32 (by decide) (fun c_32 => ?_) (fun c_32 => ?_)
        · exact r_law64 (s := .inl p) tp h hQ
        · exact absurd (show (1 : Int32) = 0 from c_32) (by decide)
    · skip
      have h : SS A0 I0 n [] 0 (.inr (b, flW cs)) A I := h
      refine g_iload_n dX4_readLaw_18 rfl rfl ?_
      refine g_sipush (v := 240) dX4_readLaw_19 (by decide) ?_
      refine g_icmp_ge (tgt := 64) dX4_readLaw_22 (by decide) (fun c_22 => ?_) (fun c_22 => ?_)
      · exact absurd ((nI_leI (a := 240) (b := i) (by omega) (by omega)).mp c_22) (by omega)
      · refine g_aload_n dX4_readLaw_25 rfl rfl ?_
        refine g_get dX4_readLaw_26 fl_X4_20 hp_8 rfl ?_
        refine g_callV dX4_readLaw_29 cv_X4_34 (as' := []) hp_9 rfl (r_failed tp h) (by omega) rfl rfl (Nat.le_of_ble_eq_true rfl) ?_
        rintro _ _ ⟨rfl, rfl⟩
        refine g_if_ne (tgt := 64) dX4_readLaw_32 (by decide) (fun c_32 => ?_) (fun c_32 => ?_)
        · exact absurd rfl c_32
        · refine g_aload_n dX4_readLaw_35 rfl rfl ?_
          refine g_get dX4_readLaw_36 fl_X4_20 hp_8 rfl ?_
          refine g_callV dX4_readLaw_39 cv_X4_38 (as' := []) hp_9 rfl (r_look tp h) (by omega) rfl rfl (Nat.le_of_ble_eq_true rfl) ?_
          rintro _ _ ⟨v39, rfl, A1, I1, h, hv, rfl⟩
          obtain rfl := hv _ _ rfl
          refine g_bipush (v := 59) dX4_readLaw_42 (by decide) ?_
          refine g_icmp_ne (tgt := 64) dX4_readLaw_44 (by decide) (fun c_44 => ?_) (fun c_44 => ?_)
          · rw [show lawL (A0 2) n (f + 1) (.inr (b, cs)) = .inr (sk (A0 2) n b, cs) from if_neg c_44] at hQ
            exact r_law64 (s := .inr (sk (A0 2) n b, cs)) tp h hQ
          · refine g_aload_n dX4_readLaw_47 rfl rfl ?_
            refine g_get dX4_readLaw_48 fl_X4_20 hp_8 rfl ?_
            refine g_callV dX4_readLaw_51 cv_X4_42 (as' := []) hp_9 rfl (r_step tp (fun b u z => by cases z; exact bt_lt (by rw [c_44]; decide)) h) (by omega) rfl rfl (Nat.le_of_ble_eq_true rfl) ?_
            rintro _ _ ⟨rfl, A1, I1, h, rfl⟩
            refine g_aload_n dX4_readLaw_54 rfl rfl ?_
            refine g_callV dX4_readLaw_55 cv_X4_31 (as' := []) hp_8 rfl (r_clause tp (SS_base.mp h)) (by omega) rfl rfl (Nat.le_of_ble_eq_true rfl) ?_
            rintro _ _ ⟨rfl, A1, I1, h, rfl⟩
            refine g_iinc1 dX4_readLaw_58 rfl (by decide) ?_
            refine g_goto (tgt := 18) dX4_readLaw_61 (by decide) ?_
            rw [show lawL (A0 2) n (f + 1) (.inr (b, cs)) = lawL (A0 2) n f (nxt cs (clP (A0 2) n (sk (A0 2) n b + 1))) from if_pos c_44] at hQ
            rw [nI_1]
            exact ih (i + 1) _ _ _ (by omega) (law_next (SS_less (by omega) h)) hQ

set_option maxHeartbeats 4000000 in
set_option maxRecDepth 100000 in
theorem r_law {A : Nat → Nat → Int32} {L : Nat → Nat → Int64} {I : Nat → Nat → Int32} {X : Nat → Int64} {n : Nat} (tp : tpS A I n) : Con 38 yX4_readLaw cX4_readLaw 2 (some .int) [.ref 8] (hp A L I X) (fun r_ H_ => r_ = some (.int (lawV (lawP (A 2) n))) ∧ ∃ A1 I1, SS A I n [] 0 (lwW (lawP (A 2) n)) A1 I1 ∧ H_ = hp A1 L I1 X) := by
  refine m_con (by decide) (Nat.le_of_ble_eq_true rfl) ?_
  refine g_aload_n dX4_readLaw_0 rfl rfl ?_
  refine g_get dX4_readLaw_1 fl_X4_20 hp_8 rfl ?_
  refine g_callV dX4_readLaw_4 cv_X4_24 (as' := []) hp_9 rfl (u_begin isC_9) (by decide) rfl rfl (Nat.le_of_ble_eq_true rfl) ?_
  rintro _ _ ⟨rfl, rfl⟩
  refine g_aload_n dX4_readLaw_7 rfl rfl ?_
  refine g_ic_0 dX4_readLaw_8 ?_
  refine g_puti dX4_readLaw_9 fw_X4_27 hp_8 (Nat.le_of_ble_eq_true rfl) ?_
  rw [hq_8_2]
  refine g_aload_n dX4_readLaw_12 rfl rfl ?_
  refine g_callV dX4_readLaw_13 cv_X4_31 (as' := []) hp_8 rfl (r_clause tp (law_begin tp)) (by omega) rfl rfl (Nat.le_of_ble_eq_true rfl) ?_
  rintro _ _ ⟨rfl, A1, I1, h, rfl⟩
  refine g_ic_0 dX4_readLaw_16 ?_
  refine g_istore_n dX4_readLaw_17 rfl (by decide) ?_
  exact r_law18 tp 240 0 (nxt [] (clP (A 2) n 0)) _ _ rfl (law_next (cs := []) h) (fun A8 I8 h8 => ⟨rfl, A8, I8, h8, rfl⟩)

def adC (C W : Nat → Int32) (m : Int32) : Nat → Nat → Int32
  | 0 => C
  | k + 1 => pt 960 (adC C W m k) (m * 240 + nI k) (gt 240 W (nI k))
set_option maxHeartbeats 4000000 in
set_option maxRecDepth 100000 in
theorem l_add_loop {A : Nat → Nat → Int32} {L : Nat → Nat → Int64} {I : Nat → Nat → Int32} {X : Nat → Int64} {z : Nat} {Q : Option Value → m_H → Prop} (hz : z ≤ 240) (hQ : Q (some (.int (up2 I 11 4 (I 11 4 + 1) 11 4 - 1))) (hp (up (up A 12 (adC (A 12) (A 10) (I 11 4) z)) 13 (pt 4 (A 13) (I 11 4) (nI z))) L (up2 I 11 4 (I 11 4 + 1)) X)) : ∀ f k, k ≤ z → z - k < f → G 2 RX5 cX5_addLaw 4 (some .int) Q 2 [some (.ref 11), some (.ref 10), some (.int (nI z)), some (.int (nI k))] [] (hp (up A 12 (adC (A 12) (A 10) (I 11 4) k)) L I X) := by
  intro f
  induction f with
  | zero => intro k h1 h2; omega
  | succ f ih =>
    intro k h1 h2
    refine g_iload_n dX5_addLaw_2 rfl rfl ?_
    refine g_iload_n dX5_addLaw_3 rfl rfl ?_
    refine g_icmp_ge (tgt := 42) dX5_addLaw_4 (by decide) (fun c_4 => ?_) (fun c_4 => ?_)
    · have h6 := (nI_leI (a := z) (b := k) (by omega) (by omega)).mp c_4
      have hkn : k = z := by omega
      subst hkn
      refine g_aload_n dX5_addLaw_42 rfl rfl ?_
      refine g_get dX5_addLaw_43 fl_X5_15 hp_11 rfl ?_
      refine g_aload_n dX5_addLaw_46 rfl rfl ?_
      refine g_get dX5_addLaw_47 fl_X5_28 hp_11 rfl ?_
      refine g_iload_n dX5_addLaw_50 rfl rfl ?_
      refine g_callS dX5_addLaw_51 cs_X5_35 (as := [_, _, _]) (k_setCell hp_13 (by decide)) (by decide) rfl rfl (Nat.le_of_ble_eq_true rfl) ?_
      rintro _ _ ⟨rfl, rfl⟩
      rw [hq_13, up_ne (show (13 : Nat) ≠ 12 by decide)]
      refine g_aload_n dX5_addLaw_54 rfl rfl ?_
      refine g_dup dX5_addLaw_55 rfl ?_
      refine g_get dX5_addLaw_56 fl_X5_28 hp_11 rfl ?_
      refine g_ic_1 dX5_addLaw_59 ?_
      refine g_iadd dX5_addLaw_60 ?_
      refine g_puti dX5_addLaw_61 fw_X5_28 hp_11 (Nat.le_of_ble_eq_true rfl) ?_
      rw [hq_11_4]
      refine g_aload_n dX5_addLaw_64 rfl rfl ?_
      refine g_get dX5_addLaw_65 fl_X5_28 hp_11 rfl ?_
      refine g_ic_1 dX5_addLaw_68 ?_
      refine g_isub dX5_addLaw_69 ?_
      exact g_iret dX5_addLaw_70 hQ
    · refine g_iload_n dX5_addLaw_7 rfl rfl ?_
      refine g_sipush (v := 240) dX5_addLaw_8 (by decide) ?_
      refine g_icmp_ge (tgt := 42) dX5_addLaw_11 (by decide) (fun c_11 => ?_) (fun c_11 => ?_)
      · exact absurd ((nI_leI (a := 240) (b := k) (by omega) (by omega)).mp c_11) (by have := Nat.not_le.mp (fun z2 => c_4 (nI_le (a := z) (b := k) z2 (by omega))); omega)
      · refine g_aload_n dX5_addLaw_14 rfl rfl ?_
        refine g_get dX5_addLaw_15 fl_X5_9 hp_11 rfl ?_
        refine g_aload_n dX5_addLaw_18 rfl rfl ?_
        refine g_get dX5_addLaw_19 fl_X5_28 hp_11 rfl ?_
        refine g_sipush (v := 240) dX5_addLaw_22 (by decide) ?_
        refine g_imul dX5_addLaw_25 ?_
        refine g_iload_n dX5_addLaw_26 rfl rfl ?_
        refine g_iadd dX5_addLaw_27 ?_
        refine g_aload_n dX5_addLaw_28 rfl rfl ?_
        refine g_iload_n dX5_addLaw_29 rfl rfl ?_
        refine g_callS dX5_addLaw_30 cs_X5_31 (as := [_, _]) (k_cell ha_10 (by decide)) (by decide) rfl rfl (Nat.le_of_ble_eq_true rfl) ?_
        rintro _ _ ⟨rfl, rfl⟩
        rw [up_ne (show (10 : Nat) ≠ 12 by decide)]
        refine g_callS dX5_addLaw_33 cs_X5_35 (as := [_, _, _]) (k_setCell hp_12 (by decide)) (by decide) rfl rfl (Nat.le_of_ble_eq_true rfl) ?_
        rintro _ _ ⟨rfl, rfl⟩
        rw [hq_12, up_up, up_at]
        refine g_iinc1 dX5_addLaw_36 rfl (by decide) ?_
        refine g_goto (tgt := 2) dX5_addLaw_39 (by decide) ?_
        rw [nI_1]
        exact ih (k + 1) (by have := Nat.not_le.mp (fun z2 => c_4 (nI_le (a := z) (b := k) z2 (by omega))); omega) (by have := Nat.not_le.mp (fun z2 => c_4 (nI_le (a := z) (b := k) z2 (by omega))); omega)

set_option maxHeartbeats 4000000 in
set_option maxRecDepth 100000 in
theorem l_add {A : Nat → Nat → Int32} {L : Nat → Nat → Int64} {I : Nat → Nat → Int32} {X : Nat → Int64} {z : Nat} (hz : z ≤ 240) : Con 2 yX5_addLaw cX5_addLaw 4 (some .int) [.ref 11, .ref 10, .int (nI z)] (hp A L I X) (fun r_ H_ => r_ = some (.int (I 11 4 + 1 - 1)) ∧ H_ = hp (up (up A 12 (adC (A 12) (A 10) (I 11 4) z)) 13 (pt 4 (A 13) (I 11 4) (nI z))) L (up2 I 11 4 (I 11 4 + 1)) X) := by
  refine m_con (by decide) (Nat.le_of_ble_eq_true rfl) ?_
  refine g_ic_0 dX5_addLaw_0 ?_
  refine g_istore_n dX5_addLaw_1 rfl (by decide) ?_
  have h := l_add_loop (A := A) (L := L) (I := I) (X := X) (Q := (fun r_ H_ => r_ = some (.int (I 11 4 + 1 - 1)) ∧ H_ = (hp (up (up A 12 (adC (A 12) (A 10) (I 11 4) z)) 13 (pt 4 (A 13) (I 11 4) (nI z))) L (up2 I 11 4 (I 11 4 + 1)) X))) hz ⟨by rw [up2_at], rfl⟩ (z + 1) 0 (Nat.zero_le _) (by omega)
  rw [show adC (A 12) (A 10) (I 11 4) 0 = A 12 from rfl, up_self] at h
  exact h

set_option maxHeartbeats 4000000 in
set_option maxRecDepth 100000 in
theorem m_takeLaw {A : Nat → Nat → Int32} {L : Nat → Nat → Int64} {I : Nat → Nat → Int32} {X : Nat → Int64} {z : Nat} (hz : z ≤ 240) (hs : I 8 2 = nI z) : Con 3 yX10_takeLaw cX10_takeLaw 2 (some .int) [.ref 0] (hp A L I X) (fun r_ H_ => r_ = some (.int (I 11 4 + 1 - 1)) ∧ H_ = hp (up (up A 12 (adC (A 12) (A 10) (I 11 4) z)) 13 (pt 4 (A 13) (I 11 4) (nI z))) L (up2 (up2 I 11 4 (I 11 4 + 1)) 1 1 0) X) := by
  refine m_con (by decide) (Nat.le_of_ble_eq_true rfl) ?_
  refine g_aload_n dX10_takeLaw_0 rfl rfl ?_
  refine g_get dX10_takeLaw_1 fl_X10_35 hp_0 rfl ?_
  refine g_aload_n dX10_takeLaw_4 rfl rfl ?_
  refine g_get dX10_takeLaw_5 fl_X10_28 hp_0 rfl ?_
  refine g_get dX10_takeLaw_8 fl_X10_138 hp_8 rfl ?_
  refine g_aload_n dX10_takeLaw_11 rfl rfl ?_
  refine g_get dX10_takeLaw_12 fl_X10_28 hp_0 rfl ?_
  refine g_get dX10_takeLaw_15 fl_X10_141 hp_8 rfl ?_
  rw [hs]
  refine g_callV dX10_takeLaw_18 cv_X10_143 (as' := [_, _]) hp_11 rfl (l_add hz) (by decide) rfl rfl (Nat.le_of_ble_eq_true rfl) ?_
  rintro _ _ ⟨rfl, rfl⟩
  refine g_istore_n dX10_takeLaw_21 rfl (by decide) ?_
  refine g_aload_n dX10_takeLaw_22 rfl rfl ?_
  refine g_get dX10_takeLaw_23 fl_X10_12 hp_0 rfl ?_
  refine g_ic_0 dX10_takeLaw_26 ?_
  refine g_callV dX10_takeLaw_27 cv_X10_98 (as' := [_]) hp_1 rfl u_cut (by decide) rfl rfl (Nat.le_of_ble_eq_true rfl) ?_
  rintro _ _ ⟨rfl, rfl⟩
  refine g_iload_n dX10_takeLaw_30 rfl rfl ?_
  exact g_iret dX10_takeLaw_31 ⟨rfl, rfl⟩
