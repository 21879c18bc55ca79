/-! SEASON: loops -/
def fl (F f : Nat → Int32) (k : Nat) : Nat → Int32 := fun j => if j < k then F j else f j
theorem fl_0 (F f : Nat → Int32) : fl F f 0 = f := by
  funext j; exact if_neg (Nat.not_lt_zero j)
theorem pt_nI {N k : Nat} {f : Nat → Int32} {v : Int32} (h : k < N) (hN : N < 2 ^ 31) : pt N f (nI k) v = upd f k v := by
  rw [pt_in (vp_in_nI h hN), nI_clamp (by omega)]
theorem gt_nI {N k : Nat} {f : Nat → Int32} (h : k < N) (hN : N < 2 ^ 31) : gt N f (nI k) = f k := by
  rw [gt_in (vp_in_nI h hN), nI_clamp (by omega)]
theorem fl_step {N k : Nat} {F f : Nat → Int32} {v : Int32} (h : k < N) (hN : N < 2 ^ 31) (hv : v = F k) : pt N (fl F f k) (nI k) v = fl F f (k + 1) := by
  rw [pt_nI h hN, hv]
  funext j
  unfold upd fl
  by_cases h1 : j = k
  · subst h1; rw [if_pos rfl, if_pos (Nat.lt_succ_self j)]
  · rw [if_neg h1]
    by_cases h2 : j < k
    · rw [if_pos h2, if_pos (by omega)]
    · rw [if_neg h2, if_neg (by omega)]
theorem fl_end {N : Nat} {F f : Nat → Int32} : ∀ j, j < N → fl F f N j = F j := fun j h => if_pos h
theorem lit_le {n k : Nat} (hn : n < 2 ^ 31) (hk : k < 2 ^ 31) (h : nI n ≤ nI k) : n ≤ k := (nI_leI hn hk).mp h
theorem lit_nle {n k : Nat} (hn : n < 2 ^ 31) (hk : k < 2 ^ 31) (h : ¬ nI n ≤ nI k) : k < n := Nat.not_le.mp fun z => h ((nI_leI hn hk).mpr z)
/-- n rounds of a loop that counts from 0 -/
def itn {σ : Type} (F : Nat → σ → σ) : Nat → σ → σ
  | 0, s => s
  | n + 1, s => F n (itn F n s)

set_option maxHeartbeats 4000000 in
set_option maxRecDepth 100000 in
theorem k_get {Hp : m_H} {q r c : Nat} {f : Nat → Int32} {i : Int32} (h0 : Hp q = ob 7 [.ref r, .ref c]) (h1 : Hp r = ia 143 f) : Con 2 yX7_get cX7_get 2 (some .int) [.ref q, .int i] Hp (fun r_ H_ => r_ = some (.int (gt 143 f i)) ∧ H_ = Hp) := by
  refine m_con (by decide) (Nat.le_of_ble_eq_true rfl) ?_
  refine g_jk (fun hJ => ?_)
  refine g_aload_n dX7_get_0 rfl rfl ?_
  refine g_get dX7_get_1 fl_X7_9 h0 rfl ?_
  refine g_iload_n dX7_get_4 rfl rfl ?_
  refine g_callS dX7_get_5 cs_X7_18 (as := [_, _]) (k_cell (m_ar_of hJ h1) (by decide)) (by decide) rfl rfl (Nat.le_of_ble_eq_true rfl) ?_
  rintro _ _ ⟨rfl, rfl⟩
  exact g_iret dX7_get_8 ⟨rfl, rfl⟩

set_option maxHeartbeats 4000000 in
set_option maxRecDepth 100000 in
theorem s_clear_loop {Hp : m_H} {q r c : Nat} {f g : Nat → Int32} {Q : Option Value → m_H → Prop} (hk : sK Hp q r c) (hQ : Q none (sH Hp r c (fun _ => 0) g)) : ∀ n k, k ≤ 143 → 143 - k < n → G 3 RX7 cX7_clear 2 none Q 2 [some (.ref q), some (.int (nI k))] [] (sH Hp r c (fl (fun _ => 0) f k) g) := by
  intro n
  induction n with
  | zero => intro k h1 h2; omega
  | succ n ih =>
    intro k h1 h2
    refine g_iload_n dX7_clear_2 rfl rfl ?_
    refine g_sipush (v := 143) dX7_clear_3 (by decide) ?_
    refine g_icmp_ge (tgt := 21) dX7_clear_6 (by decide) (fun c_6 => ?_) (fun c_6 => ?_)
    · have h6 : 143 ≤ k := lit_le (n := 143) (by decide) (by omega) c_6
      have hkn : k = 143 := by omega
      subst hkn
      refine g_ext (fun _ => 0) (sH_r hk) fl_end ?_
      rw [sH_setr hk]
      exact g_vret dX7_clear_21 hQ
    · have hlt : k < 143 := lit_nle (n := 143) (by decide) (by omega) c_6
      refine g_aload_n dX7_clear_9 rfl rfl ?_
      refine g_iload_n dX7_clear_10 rfl rfl ?_
      refine g_ic_0 dX7_clear_11 ?_
      refine g_callV dX7_clear_12 cv_X7_26 (as' := [_, _]) (sH_q hk) rfl (s_put hk) (by decide) rfl rfl (Nat.le_of_ble_eq_true rfl) ?_
      rintro _ _ ⟨rfl, rfl⟩
      rw [fl_step (F := fun _ => 0) hlt (by decide) rfl]
      refine g_iinc1 dX7_clear_15 rfl (by decide) ?_
      refine g_goto (tgt := 2) dX7_clear_18 (by decide) ?_
      rw [nI_1]
      exact ih (k + 1) (by omega) (by omega)

set_option maxHeartbeats 4000000 in
set_option maxRecDepth 100000 in
theorem s_clear {Hp : m_H} {q r c : Nat} {f g : Nat → Int32} (hk : sK Hp q r c) : Con 3 yX7_clear cX7_clear 2 none [.ref q] (sH Hp r c f g) (fun r_ H_ => r_ = none ∧ H_ = sH Hp r c (fun _ => 0) g) := by
  refine m_con (by decide) (Nat.le_of_ble_eq_true rfl) ?_
  refine g_ic_0 dX7_clear_0 ?_
  refine g_istore_n dX7_clear_1 rfl (by decide) ?_
  have h := s_clear_loop (f := f) (g := g) (Q := (fun r_ H_ => r_ = none ∧ H_ = sH Hp r c (fun _ => 0) g)) hk ⟨rfl, rfl⟩ 144 0 (by omega) (by omega)
  rw [fl_0] at h
  exact h

set_option maxHeartbeats 4000000 in
set_option maxRecDepth 100000 in
theorem s_become_loop2 {Hp : m_H} {q r c : Nat} {f g : Nat → Int32} {Q : Option Value → m_H → Prop} (hk : sK Hp q r c) (q2 : Nat) {f2 : Nat → Int32} (hQ : Q none (sH Hp r c f2 (fun _ => 0))) : ∀ n k, k ≤ 8 → 8 - k < n → G 3 RX7 cX7_become 3 none Q 27 [some (.ref q), some (.ref q2), some (.int (nI k))] [] (sH Hp r c f2 (fl (fun _ => 0) g k)) := by
  intro n
  induction n with
  | zero => intro k h1 h2; omega
  | succ n ih =>
    intro k h1 h2
    refine g_iload_n dX7_become_27 rfl rfl ?_
    refine g_bipush (v := 8) dX7_become_28 (by decide) ?_
    refine g_icmp_ge (tgt := 48) dX7_become_30 (by decide) (fun c_30 => ?_) (fun c_30 => ?_)
    · have h30 : 8 ≤ k := lit_le (n := 8) (by decide) (by omega) c_30
      have hkn : k = 8 := by omega
      subst hkn
      refine g_ext (fun _ => 0) sH_c fl_end ?_
      rw [sH_setc]
      exact g_vret dX7_become_48 hQ
    · have hlt : k < 8 := lit_nle (n := 8) (by decide) (by omega) c_30
      refine g_aload_n dX7_become_33 rfl rfl ?_
      refine g_get dX7_become_34 fl_X7_15 (sH_q hk) rfl ?_
      refine g_iload_n dX7_become_37 rfl rfl ?_
      refine g_ic_0 dX7_become_38 ?_
      refine g_callS dX7_become_39 cs_X7_22 (as := [_, _, _]) (k_setCell sH_c (by decide)) (by decide) rfl rfl (Nat.le_of_ble_eq_true rfl) ?_
      rintro _ _ ⟨rfl, rfl⟩
      rw [sH_setc, fl_step (F := fun _ => 0) hlt (by decide) rfl]
      refine g_iinc1 dX7_become_42 rfl (by decide) ?_
      refine g_goto (tgt := 27) dX7_become_45 (by decide) ?_
      rw [nI_1]
      exact ih (k + 1) (by omega) (by omega)
theorem s_become_loop1 {Hp : m_H} {q r c : Nat} {f g : Nat → Int32} {Q : Option Value → m_H → Prop} (hk : sK Hp q r c) (q2 r2 c2 : Nat) (f2 : Nat → Int32) (h0 : Hp q2 = ob 7 [.ref r2, .ref c2]) (h1 : Hp r2 = ia 143 f2) (a1 : q2 ≠ r) (a2 : q2 ≠ c) (a3 : r2 ≠ r) (a4 : r2 ≠ c) (hQ : Q none (sH Hp r c f2 (fun _ => 0))) : ∀ n k, k ≤ 143 → 143 - k < n → G 3 RX7 cX7_become 3 none Q 2 [some (.ref q), some (.ref q2), some (.int (nI k))] [] (sH Hp r c (fl f2 f k) g) := by
  intro n
  induction n with
  | zero => intro k h1 h2; omega
  | succ n ih =>
    intro k h2 h3
    refine g_iload_n dX7_become_2 rfl rfl ?_
    refine g_sipush (v := 143) dX7_become_3 (by decide) ?_
    refine g_icmp_ge (tgt := 25) dX7_become_6 (by decide) (fun c_6 => ?_) (fun c_6 => ?_)
    · have h6 : 143 ≤ k := lit_le (n := 143) (by decide) (by omega) c_6
      have hkn : k = 143 := by omega
      subst hkn
      refine g_ext f2 (sH_r hk) fl_end ?_
      rw [sH_setr hk]
      refine g_ic_0 dX7_become_25 ?_
      refine g_istore_n dX7_become_26 rfl (by decide) ?_
      have h := s_become_loop2 (f := f) (g := g) hk q2 hQ 9 0 (by omega) (by omega)
      rw [fl_0] at h
      exact h
    · have hlt : k < 143 := lit_nle (n := 143) (by decide) (by omega) c_6
      refine g_aload_n dX7_become_9 rfl rfl ?_
      refine g_iload_n dX7_become_10 rfl rfl ?_
      refine g_aload_n dX7_become_11 rfl rfl ?_
      refine g_iload_n dX7_become_12 rfl rfl ?_
      refine g_callV dX7_become_13 cv_X7_30 (as' := [_]) ((sH_ne a1 a2).trans h0) rfl (k_get ((sH_ne a1 a2).trans h0) ((sH_ne a3 a4).trans h1)) (by decide) rfl rfl (Nat.le_of_ble_eq_true rfl) ?_
      rintro _ _ ⟨rfl, rfl⟩
      refine g_callV dX7_become_16 cv_X7_26 (as' := [_, _]) (sH_q hk) rfl (s_put hk) (by decide) rfl rfl (Nat.le_of_ble_eq_true rfl) ?_
      rintro _ _ ⟨rfl, rfl⟩
      rw [fl_step hlt (by decide) (gt_nI hlt (by decide))]
      refine g_iinc1 dX7_become_19 rfl (by decide) ?_
      refine g_goto (tgt := 2) dX7_become_22 (by decide) ?_
      rw [nI_1]
      exact ih (k + 1) (by omega) (by omega)

set_option maxHeartbeats 4000000 in
set_option maxRecDepth 100000 in
theorem s_become {Hp : m_H} {q r c : Nat} {f g : Nat → Int32} (hk : sK Hp q r c) (q2 r2 c2 : Nat) (f2 : Nat → Int32) (h0 : Hp q2 = ob 7 [.ref r2, .ref c2]) (h1 : Hp r2 = ia 143 f2) (a1 : q2 ≠ r) (a2 : q2 ≠ c) (a3 : r2 ≠ r) (a4 : r2 ≠ c) : Con 3 yX7_become cX7_become 3 none [.ref q, .ref q2] (sH Hp r c f g) (fun r_ H_ => r_ = none ∧ H_ = sH Hp r c f2 (fun _ => 0)) := by
  refine m_con (by decide) (Nat.le_of_ble_eq_true rfl) ?_
  refine g_ic_0 dX7_become_0 ?_
  refine g_istore_n dX7_become_1 rfl (by decide) ?_
  have h := s_become_loop1 (f := f) (g := g) (Q := (fun r_ H_ => r_ = none ∧ H_ = sH Hp r c f2 (fun _ => 0))) hk q2 r2 c2 f2 h0 h1 a1 a2 a3 a4 ⟨rfl, rfl⟩ 144 0 (by omega) (by omega)
  rw [fl_0] at h
  exact h
