/-! SEASON: q the object, r its row (f), c its days (g); sH: a heap in which these two stand -/
def sH (Hp : m_H) (r c : Nat) (f g : Nat → Int32) : m_H := m_set (m_set Hp r (ia 143 f)) c (ia 8 g)
def sK (Hp : m_H) (q r c : Nat) : Prop := Hp q = ob 7 [.ref r, .ref c] ∧ r ≠ c ∧ q ≠ r ∧ q ≠ c ∧ r < 100 ∧ c < 100
section SH
variable {Hp : m_H} {q r c : Nat} {f g f' g' : Nat → Int32}
theorem sH_q (h : sK Hp q r c) : sH Hp r c f g q = ob 7 [.ref r, .ref c] := by
  unfold sH; rw [m_set_ne h.2.2.2.1, m_set_ne h.2.2.1]; exact h.1
theorem sH_r (h : sK Hp q r c) : sH Hp r c f g r = ia 143 f := by
  unfold sH; rw [m_set_ne h.2.1, m_set_at]
theorem sH_c : sH Hp r c f g c = ia 8 g := by
  unfold sH; rw [m_set_at]
theorem sH_ne {x : Nat} (h1 : x ≠ r) (h2 : x ≠ c) : sH Hp r c f g x = Hp x := by
  unfold sH; rw [m_set_ne h2, m_set_ne h1]
theorem sH_setr (h : sK Hp q r c) : m_set (sH Hp r c f g) r (ia 143 f') = sH Hp r c f' g := by
  unfold sH; rw [m_set_comm (Ne.symm h.2.1), m_set_set]
theorem sH_setc : m_set (sH Hp r c f g) c (ia 8 g') = sH Hp r c f g' := by
  unfold sH; rw [m_set_set]
theorem sH_ar (h : sK Hp q r c) : m_ar (sH Hp r c f g) r = some (143, f) := by
  have h1 := h.2.2.2.2.1
  unfold m_ar
  rw [if_neg (by omega), if_neg (by omega), if_neg (by omega), sH_r h]
theorem sH_ac (h : sK Hp q r c) : m_ar (sH Hp r c f g) c = some (8, g) := by
  have h1 := h.2.2.2.2.2
  unfold m_ar
  rw [if_neg (by omega), if_neg (by omega), if_neg (by omega), sH_c]
theorem sH_self (h1 : Hp r = ia 143 f) (h2 : Hp c = ia 8 g) : sH Hp r c f g = Hp := by
  unfold sH
  rw [m_set_self h1, m_set_self h2]
theorem sH_sH (h : r ≠ c) : sH (sH Hp r c f g) r c f' g' = sH Hp r c f' g' := by
  unfold sH
  rw [m_set_comm (i := c) (j := r) (Ne.symm h), m_set_set, m_set_set]
end SH
def oM (f : Nat → Int32) (m w : Int32) : Int32 := gt 143 f (13 + m * 5 + w)
def oC (f : Nat → Int32) (m w : Int32) : Int32 := gt 143 f (53 + m * 6 + w)
def pM (f : Nat → Int32) (m w v : Int32) : Nat → Int32 := pt 143 f (13 + m * 5 + w) v
def pC (f : Nat → Int32) (m w v : Int32) : Nat → Int32 := pt 143 f (53 + m * 6 + w) v
def mn (x y : Int32) : Int32 := if y < x then y else x
def mx (x y : Int32) : Int32 := if x < y then y else x
def rm (x y : Int32) : Int32 := x - x / y * y

set_option maxHeartbeats 4000000 in
set_option maxRecDepth 100000 in
theorem k_pM {Hp : m_H} {i v : Int32}  : Con 1 yX7_placeOfMonth cX7_placeOfMonth 2 (some .int) [.int i, .int v] Hp (fun r_ H_ => r_ = some (.int (13 + i * 5 + v)) ∧ H_ = Hp) := by
  refine m_con (by decide) (Nat.le_of_ble_eq_true rfl) ?_
  refine g_bipush (v := 13) dX7_placeOfMonth_0 (by decide) ?_
  refine g_iload_n dX7_placeOfMonth_2 rfl rfl ?_
  refine g_ic_5 dX7_placeOfMonth_3 ?_
  refine g_imul dX7_placeOfMonth_4 ?_
  refine g_iadd dX7_placeOfMonth_5 ?_
  refine g_iload_n dX7_placeOfMonth_6 rfl rfl ?_
  refine g_iadd dX7_placeOfMonth_7 ?_
  exact g_iret dX7_placeOfMonth_8 ⟨rfl, rfl⟩

set_option maxHeartbeats 4000000 in
set_option maxRecDepth 100000 in
theorem k_pC {Hp : m_H} {i v : Int32}  : Con 1 yX7_placeOfCrop cX7_placeOfCrop 2 (some .int) [.int i, .int v] Hp (fun r_ H_ => r_ = some (.int (53 + i * 6 + v)) ∧ H_ = Hp) := by
  refine m_con (by decide) (Nat.le_of_ble_eq_true rfl) ?_
  refine g_bipush (v := 53) dX7_placeOfCrop_0 (by decide) ?_
  refine g_iload_n dX7_placeOfCrop_2 rfl rfl ?_
  refine g_bipush (v := 6) dX7_placeOfCrop_3 (by decide) ?_
  refine g_imul dX7_placeOfCrop_5 ?_
  refine g_iadd dX7_placeOfCrop_6 ?_
  refine g_iload_n dX7_placeOfCrop_7 rfl rfl ?_
  refine g_iadd dX7_placeOfCrop_8 ?_
  exact g_iret dX7_placeOfCrop_9 ⟨rfl, rfl⟩

set_option maxHeartbeats 4000000 in
set_option maxRecDepth 100000 in
theorem s_get {Hp : m_H} {q r c : Nat} {f g : Nat → Int32} {i : Int32} (hk : sK Hp q r c) : Con 2 yX7_get cX7_get 2 (some .int) [.ref q, .int i] (sH Hp r c f g) (fun r_ H_ => r_ = some (.int (gt 143 f i)) ∧ H_ = (sH Hp r c f g)) := by
  refine m_con (by decide) (Nat.le_of_ble_eq_true rfl) ?_
  refine g_aload_n dX7_get_0 rfl rfl ?_
  refine g_get dX7_get_1 fl_X7_9 (sH_q hk) rfl ?_
  refine g_iload_n dX7_get_4 rfl rfl ?_
  refine g_callS dX7_get_5 cs_X7_18 (as := [_, _]) (k_cell (sH_ar hk) (by decide)) (by decide) rfl rfl (Nat.le_of_ble_eq_true rfl) ?_
  rintro _ _ ⟨rfl, rfl⟩
  exact g_iret dX7_get_8 ⟨rfl, rfl⟩

set_option maxHeartbeats 4000000 in
set_option maxRecDepth 100000 in
theorem s_put {Hp : m_H} {q r c : Nat} {f g : Nat → Int32} {i v : Int32} (hk : sK Hp q r c) : Con 2 yX7_put cX7_put 3 none [.ref q, .int i, .int v] (sH Hp r c f g) (fun r_ H_ => r_ = none ∧ H_ = (sH Hp r c (pt 143 f i v) (g))) := by
  refine m_con (by decide) (Nat.le_of_ble_eq_true rfl) ?_
  refine g_aload_n dX7_put_0 rfl rfl ?_
  refine g_get dX7_put_1 fl_X7_9 (sH_q hk) rfl ?_
  refine g_iload_n dX7_put_4 rfl rfl ?_
  refine g_iload_n dX7_put_5 rfl rfl ?_
  refine g_callS dX7_put_6 cs_X7_22 (as := [_, _, _]) (k_setCell (sH_r hk) (by decide)) (by decide) rfl rfl (Nat.le_of_ble_eq_true rfl) ?_
  rintro _ _ ⟨rfl, rfl⟩
  rw [sH_setr hk]
  exact g_vret dX7_put_9 ⟨rfl, rfl⟩

set_option maxHeartbeats 4000000 in
set_option maxRecDepth 100000 in
theorem s_add {Hp : m_H} {q r c : Nat} {f g : Nat → Int32} {i v : Int32} (hk : sK Hp q r c) : Con 2 yX7_add cX7_add 3 none [.ref q, .int i, .int v] (sH Hp r c f g) (fun r_ H_ => r_ = none ∧ H_ = (sH Hp r c (pt 143 f i (gt 143 f i + v)) (g))) := by
  refine m_con (by decide) (Nat.le_of_ble_eq_true rfl) ?_
  refine g_aload_n dX7_add_0 rfl rfl ?_
  refine g_get dX7_add_1 fl_X7_9 (sH_q hk) rfl ?_
  refine g_iload_n dX7_add_4 rfl rfl ?_
  refine g_aload_n dX7_add_5 rfl rfl ?_
  refine g_get dX7_add_6 fl_X7_9 (sH_q hk) rfl ?_
  refine g_iload_n dX7_add_9 rfl rfl ?_
  refine g_callS dX7_add_10 cs_X7_18 (as := [_, _]) (k_cell (sH_ar hk) (by decide)) (by decide) rfl rfl (Nat.le_of_ble_eq_true rfl) ?_
  rintro _ _ ⟨rfl, rfl⟩
  refine g_iload_n dX7_add_13 rfl rfl ?_
  refine g_iadd dX7_add_14 ?_
  refine g_callS dX7_add_15 cs_X7_22 (as := [_, _, _]) (k_setCell (sH_r hk) (by decide)) (by decide) rfl rfl (Nat.le_of_ble_eq_true rfl) ?_
  rintro _ _ ⟨rfl, rfl⟩
  rw [sH_setr hk]
  exact g_vret dX7_add_18 ⟨rfl, rfl⟩

set_option maxHeartbeats 4000000 in
set_option maxRecDepth 100000 in
theorem s_oM {Hp : m_H} {q r c : Nat} {f g : Nat → Int32} {i v : Int32} (hk : sK Hp q r c) : Con 2 yX7_ofMonth cX7_ofMonth 3 (some .int) [.ref q, .int i, .int v] (sH Hp r c f g) (fun r_ H_ => r_ = some (.int (oM f i v)) ∧ H_ = (sH Hp r c f g)) := by
  refine m_con (by decide) (Nat.le_of_ble_eq_true rfl) ?_
  refine g_aload_n dX7_ofMonth_0 rfl rfl ?_
  refine g_get dX7_ofMonth_1 fl_X7_9 (sH_q hk) rfl ?_
  refine g_iload_n dX7_ofMonth_4 rfl rfl ?_
  refine g_iload_n dX7_ofMonth_5 rfl rfl ?_
  refine g_callS dX7_ofMonth_6 cs_X7_34 (as := [_, _]) k_pM (by decide) rfl rfl (Nat.le_of_ble_eq_true rfl) ?_
  rintro _ _ ⟨rfl, rfl⟩
  refine g_callS dX7_ofMonth_9 cs_X7_18 (as := [_, _]) (k_cell (sH_ar hk) (by decide)) (by decide) rfl rfl (Nat.le_of_ble_eq_true rfl) ?_
  rintro _ _ ⟨rfl, rfl⟩
  exact g_iret dX7_ofMonth_12 ⟨rfl, rfl⟩

set_option maxHeartbeats 4000000 in
set_option maxRecDepth 100000 in
theorem s_oC {Hp : m_H} {q r c : Nat} {f g : Nat → Int32} {i v : Int32} (hk : sK Hp q r c) : Con 2 yX7_ofCrop cX7_ofCrop 3 (some .int) [.ref q, .int i, .int v] (sH Hp r c f g) (fun r_ H_ => r_ = some (.int (oC f i v)) ∧ H_ = (sH Hp r c f g)) := by
  refine m_con (by decide) (Nat.le_of_ble_eq_true rfl) ?_
  refine g_aload_n dX7_ofCrop_0 rfl rfl ?_
  refine g_get dX7_ofCrop_1 fl_X7_9 (sH_q hk) rfl ?_
  refine g_iload_n dX7_ofCrop_4 rfl rfl ?_
  refine g_iload_n dX7_ofCrop_5 rfl rfl ?_
  refine g_callS dX7_ofCrop_6 cs_X7_38 (as := [_, _]) k_pC (by decide) rfl rfl (Nat.le_of_ble_eq_true rfl) ?_
  rintro _ _ ⟨rfl, rfl⟩
  refine g_callS dX7_ofCrop_9 cs_X7_18 (as := [_, _]) (k_cell (sH_ar hk) (by decide)) (by decide) rfl rfl (Nat.le_of_ble_eq_true rfl) ?_
  rintro _ _ ⟨rfl, rfl⟩
  exact g_iret dX7_ofCrop_12 ⟨rfl, rfl⟩

def gsM (f : Nat → Int32) (m k : Int32) : Nat → Int32 := pM f m 1 (mn 9 (oM f m 1 + k))
def chM (f : Nat → Int32) (m : Int32) : Nat → Int32 := pM (pM f m 2 (oM f m 2 + (-1))) m 3 (mn 9 (oM (pM f m 2 (oM f m 2 + (-1))) m 3 + 1))
def trn (f : Nat → Int32) : Nat → Int32 := pt 143 f 4 (if gt 143 f 4 = 0 then 1 else 0)
def swC (f : Nat → Int32) (k : Int32) : Nat → Int32 := pC (pC (pC f k 3 0) k 4 0) k 5 0
set_option maxHeartbeats 4000000 in
set_option maxRecDepth 100000 in
theorem s_grease {Hp : m_H} {q r c : Nat} {f g : Nat → Int32} {i v : Int32} (hk : sK Hp q r c) : Con 3 yX7_greaseMonth cX7_greaseMonth 3 none [.ref q, .int i, .int v] (sH Hp r c f g) (fun r_ H_ => r_ = none ∧ H_ = (sH Hp r c (gsM f i v) (g))) := by
  refine m_con (by decide) (Nat.le_of_ble_eq_true rfl) ?_
  refine g_aload_n dX7_greaseMonth_0 rfl rfl ?_
  refine g_iload_n dX7_greaseMonth_1 rfl rfl ?_
  refine g_ic_1 dX7_greaseMonth_2 ?_
  refine g_callS dX7_greaseMonth_3 cs_X7_34 (as := [_, _]) k_pM (by decide) rfl rfl (Nat.le_of_ble_eq_true rfl) ?_
  rintro _ _ ⟨rfl, rfl⟩
  refine g_bipush (v := 9) dX7_greaseMonth_6 (by decide) ?_
  refine g_aload_n dX7_greaseMonth_8 rfl rfl ?_
  refine g_iload_n dX7_greaseMonth_9 rfl rfl ?_
  refine g_ic_1 dX7_greaseMonth_10 ?_
  refine g_callV dX7_greaseMonth_11 cv_X7_41 (as' := [_, _]) (sH_q hk) rfl (s_oM hk) (by decide) rfl rfl (Nat.le_of_ble_eq_true rfl) ?_
  rintro _ _ ⟨rfl, rfl⟩
  refine g_iload_n dX7_greaseMonth_14 rfl rfl ?_
  refine g_iadd dX7_greaseMonth_15 ?_
  refine g_min dX7_greaseMonth_16 ml_X7_44 ms_min mi_math mc_min (by decide) (Nat.le_of_ble_eq_true rfl) ?_
  refine g_callV dX7_greaseMonth_19 cv_X7_26 (as' := [_, _]) (sH_q hk) rfl (s_put hk) (by decide) rfl rfl (Nat.le_of_ble_eq_true rfl) ?_
  rintro _ _ ⟨rfl, rfl⟩
  exact g_vret dX7_greaseMonth_22 ⟨rfl, rfl⟩

set_option maxHeartbeats 4000000 in
set_option maxRecDepth 100000 in
theorem s_chip {Hp : m_H} {q r c : Nat} {f g : Nat → Int32} {i : Int32} (hk : sK Hp q r c) : Con 3 yX7_chipMonth cX7_chipMonth 2 none [.ref q, .int i] (sH Hp r c f g) (fun r_ H_ => r_ = none ∧ H_ = (sH Hp r c (chM f i) (g))) := by
  refine m_con (by decide) (Nat.le_of_ble_eq_true rfl) ?_
  refine g_aload_n dX7_chipMonth_0 rfl rfl ?_
  refine g_iload_n dX7_chipMonth_1 rfl rfl ?_
  refine g_ic_2 dX7_chipMonth_2 ?_
  refine g_callS dX7_chipMonth_3 cs_X7_34 (as := [_, _]) k_pM (by decide) rfl rfl (Nat.le_of_ble_eq_true rfl) ?_
  rintro _ _ ⟨rfl, rfl⟩
  refine g_ic_m1 dX7_chipMonth_6 ?_
  refine g_callV dX7_chipMonth_7 cv_X7_49 (as' := [_, _]) (sH_q hk) rfl (s_add hk) (by decide) rfl rfl (Nat.le_of_ble_eq_true rfl) ?_
  rintro _ _ ⟨rfl, rfl⟩
  refine g_aload_n dX7_chipMonth_10 rfl rfl ?_
  refine g_iload_n dX7_chipMonth_11 rfl rfl ?_
  refine g_ic_3 dX7_chipMonth_12 ?_
  refine g_callS dX7_chipMonth_13 cs_X7_34 (as := [_, _]) k_pM (by decide) rfl rfl (Nat.le_of_ble_eq_true rfl) ?_
  rintro _ _ ⟨rfl, rfl⟩
  refine g_bipush (v := 9) dX7_chipMonth_16 (by decide) ?_
  refine g_aload_n dX7_chipMonth_18 rfl rfl ?_
  refine g_iload_n dX7_chipMonth_19 rfl rfl ?_
  refine g_ic_3 dX7_chipMonth_20 ?_
  refine g_callV dX7_chipMonth_21 cv_X7_41 (as' := [_, _]) (sH_q hk) rfl (s_oM hk) (by decide) rfl rfl (Nat.le_of_ble_eq_true rfl) ?_
  rintro _ _ ⟨rfl, rfl⟩
  refine g_ic_1 dX7_chipMonth_24 ?_
  refine g_iadd dX7_chipMonth_25 ?_
  refine g_min dX7_chipMonth_26 ml_X7_44 ms_min mi_math mc_min (by decide) (Nat.le_of_ble_eq_true rfl) ?_
  refine g_callV dX7_chipMonth_29 cv_X7_26 (as' := [_, _]) (sH_q hk) rfl (s_put hk) (by decide) rfl rfl (Nat.le_of_ble_eq_true rfl) ?_
  rintro _ _ ⟨rfl, rfl⟩
  exact g_vret dX7_chipMonth_32 ⟨rfl, rfl⟩

set_option maxHeartbeats 4000000 in
set_option maxRecDepth 100000 in
theorem s_turnRound {Hp : m_H} {q r c : Nat} {f g : Nat → Int32}  (hk : sK Hp q r c) : Con 3 yX7_turnRound cX7_turnRound 1 none [.ref q] (sH Hp r c f g) (fun r_ H_ => r_ = none ∧ H_ = (sH Hp r c (trn f) (g))) := by
  refine m_con (by decide) (Nat.le_of_ble_eq_true rfl) ?_
  refine g_aload_n dX7_turnRound_0 rfl rfl ?_
  refine g_ic_4 dX7_turnRound_1 ?_
  refine g_aload_n dX7_turnRound_2 rfl rfl ?_
  refine g_ic_4 dX7_turnRound_3 ?_
  refine g_callV dX7_turnRound_4 cv_X7_30 (as' := [_]) (sH_q hk) rfl (s_get hk) (by decide) rfl rfl (Nat.le_of_ble_eq_true rfl) ?_
  rintro _ _ ⟨rfl, rfl⟩
  refine g_if_ne (tgt := 14) dX7_turnRound_7 (by decide) (fun c_7 => ?_) (fun c_7 => ?_)
  · refine g_ic_0 dX7_turnRound_14 ?_
    refine g_callV dX7_turnRound_15 cv_X7_26 (as' := [_, _]) (sH_q hk) rfl (s_put hk) (by decide) rfl rfl (Nat.le_of_ble_eq_true rfl) ?_
    rintro _ _ ⟨rfl, rfl⟩
    exact g_vret dX7_turnRound_18 ⟨rfl, by first | rw [trn, if_pos c_7] | rw [trn, if_neg c_7]⟩
  · refine g_ic_1 dX7_turnRound_10 ?_
    refine g_goto (tgt := 15) dX7_turnRound_11 (by decide) ?_
    refine g_callV dX7_turnRound_15 cv_X7_26 (as' := [_, _]) (sH_q hk) rfl (s_put hk) (by decide) rfl rfl (Nat.le_of_ble_eq_true rfl) ?_
    rintro _ _ ⟨rfl, rfl⟩
    exact g_vret dX7_turnRound_18 ⟨rfl, by first | rw [trn, if_pos c_7] | rw [trn, if_neg c_7]⟩

set_option maxHeartbeats 4000000 in
set_option maxRecDepth 100000 in
theorem s_sow {Hp : m_H} {q r c : Nat} {f g : Nat → Int32} {i : Int32} (hk : sK Hp q r c) : Con 3 yX7_sowCrop cX7_sowCrop 2 none [.ref q, .int i] (sH Hp r c f g) (fun r_ H_ => r_ = none ∧ H_ = (sH Hp r c (swC f i) (g))) := by
  refine m_con (by decide) (Nat.le_of_ble_eq_true rfl) ?_
  refine g_aload_n dX7_sowCrop_0 rfl rfl ?_
  refine g_iload_n dX7_sowCrop_1 rfl rfl ?_
  refine g_ic_3 dX7_sowCrop_2 ?_
  refine g_callS dX7_sowCrop_3 cs_X7_38 (as := [_, _]) k_pC (by decide) rfl rfl (Nat.le_of_ble_eq_true rfl) ?_
  rintro _ _ ⟨rfl, rfl⟩
  refine g_ic_0 dX7_sowCrop_6 ?_
  refine g_callV dX7_sowCrop_7 cv_X7_26 (as' := [_, _]) (sH_q hk) rfl (s_put hk) (by decide) rfl rfl (Nat.le_of_ble_eq_true rfl) ?_
  rintro _ _ ⟨rfl, rfl⟩
  refine g_aload_n dX7_sowCrop_10 rfl rfl ?_
  refine g_iload_n dX7_sowCrop_11 rfl rfl ?_
  refine g_ic_4 dX7_sowCrop_12 ?_
  refine g_callS dX7_sowCrop_13 cs_X7_38 (as := [_, _]) k_pC (by decide) rfl rfl (Nat.le_of_ble_eq_true rfl) ?_
  rintro _ _ ⟨rfl, rfl⟩
  refine g_ic_0 dX7_sowCrop_16 ?_
  refine g_callV dX7_sowCrop_17 cv_X7_26 (as' := [_, _]) (sH_q hk) rfl (s_put hk) (by decide) rfl rfl (Nat.le_of_ble_eq_true rfl) ?_
  rintro _ _ ⟨rfl, rfl⟩
  refine g_aload_n dX7_sowCrop_20 rfl rfl ?_
  refine g_iload_n dX7_sowCrop_21 rfl rfl ?_
  refine g_ic_5 dX7_sowCrop_22 ?_
  refine g_callS dX7_sowCrop_23 cs_X7_38 (as := [_, _]) k_pC (by decide) rfl rfl (Nat.le_of_ble_eq_true rfl) ?_
  rintro _ _ ⟨rfl, rfl⟩
  refine g_ic_0 dX7_sowCrop_26 ?_
  refine g_callV dX7_sowCrop_27 cv_X7_26 (as' := [_, _]) (sH_q hk) rfl (s_put hk) (by decide) rfl rfl (Nat.le_of_ble_eq_true rfl) ?_
  rintro _ _ ⟨rfl, rfl⟩
  exact g_vret dX7_sowCrop_30 ⟨rfl, rfl⟩

def hasM (f : Nat → Int32) (i : Int32) : Int32 := if i < 0 then 0 else if gt 143 f 9 ≤ i then 0 else 1
def hasC (f : Nat → Int32) (i : Int32) : Int32 := if i < 0 then 0 else if gt 143 f 10 ≤ i then 0 else 1
set_option maxHeartbeats 4000000 in
set_option maxRecDepth 100000 in
theorem s_hasMonth {Hp : m_H} {q r c : Nat} {f g : Nat → Int32} {i : Int32} (hk : sK Hp q r c) : Con 3 yX7_hasMonth cX7_hasMonth 2 (some .boolean) [.ref q, .int i] (sH Hp r c f g) (fun r_ H_ => r_ = some (.int (hasM f i)) ∧ H_ = (sH Hp r c f g)) := by
  refine m_con (by decide) (Nat.le_of_ble_eq_true rfl) ?_
  refine g_iload_n dX7_hasMonth_0 rfl rfl ?_
  refine g_if_lt (tgt := 18) dX7_hasMonth_1 (by decide) (fun c_1 => ?_) (fun c_1 => ?_)
  · refine g_ic_0 dX7_hasMonth_18 ?_
    exact g_zret (by first | exact Or.inl rfl | exact Or.inr rfl) dX7_hasMonth_19 ⟨by first | rw [hasM, if_neg c_1, if_neg c_11] | rw [hasM, if_neg c_1, if_pos c_11] | rw [hasM, if_pos c_1], rfl⟩
  · refine g_iload_n dX7_hasMonth_4 rfl rfl ?_
    refine g_aload_n dX7_hasMonth_5 rfl rfl ?_
    refine g_bipush (v := 9) dX7_hasMonth_6 (by decide) ?_
    refine g_callV dX7_hasMonth_8 cv_X7_30 (as' := [_]) (sH_q hk) rfl (s_get hk) (by decide) rfl rfl (Nat.le_of_ble_eq_true rfl) ?_
    rintro _ _ ⟨rfl, rfl⟩
    refine g_icmp_ge (tgt := 18) dX7_hasMonth_11 (by decide) (fun c_11 => ?_) (fun c_11 => ?_)
    · refine g_ic_0 dX7_hasMonth_18 ?_
      exact g_zret (by first | exact Or.inl rfl | exact Or.inr rfl) dX7_hasMonth_19 ⟨by first | rw [hasM, if_neg c_1, if_neg c_11] | rw [hasM, if_neg c_1, if_pos c_11] | rw [hasM, if_pos c_1], rfl⟩
    · refine g_ic_1 dX7_hasMonth_14 ?_
      refine g_goto (tgt := 19) dX7_hasMonth_15 (by decide) ?_
      exact g_zret (by first | exact Or.inl rfl | exact Or.inr rfl) dX7_hasMonth_19 ⟨by first | rw [hasM, if_neg c_1, if_neg c_11] | rw [hasM, if_neg c_1, if_pos c_11] | rw [hasM, if_pos c_1], rfl⟩

set_option maxHeartbeats 4000000 in
set_option maxRecDepth 100000 in
theorem s_hasCrop {Hp : m_H} {q r c : Nat} {f g : Nat → Int32} {i : Int32} (hk : sK Hp q r c) : Con 3 yX7_hasCrop cX7_hasCrop 2 (some .boolean) [.ref q, .int i] (sH Hp r c f g) (fun r_ H_ => r_ = some (.int (hasC f i)) ∧ H_ = (sH Hp r c f g)) := by
  refine m_con (by decide) (Nat.le_of_ble_eq_true rfl) ?_
  refine g_iload_n dX7_hasCrop_0 rfl rfl ?_
  refine g_if_lt (tgt := 18) dX7_hasCrop_1 (by decide) (fun c_1 => ?_) (fun c_1 => ?_)
  · refine g_ic_0 dX7_hasCrop_18 ?_
    exact g_zret (by first | exact Or.inl rfl | exact Or.inr rfl) dX7_hasCrop_19 ⟨by first | rw [hasC, if_neg c_1, if_neg c_11] | rw [hasC, if_neg c_1, if_pos c_11] | rw [hasC, if_pos c_1], rfl⟩
  · refine g_iload_n dX7_hasCrop_4 rfl rfl ?_
    refine g_aload_n dX7_hasCrop_5 rfl rfl ?_
    refine g_bipush (v := 10) dX7_hasCrop_6 (by decide) ?_
    refine g_callV dX7_hasCrop_8 cv_X7_30 (as' := [_]) (sH_q hk) rfl (s_get hk) (by decide) rfl rfl (Nat.le_of_ble_eq_true rfl) ?_
    rintro _ _ ⟨rfl, rfl⟩
    refine g_icmp_ge (tgt := 18) dX7_hasCrop_11 (by decide) (fun c_11 => ?_) (fun c_11 => ?_)
    · refine g_ic_0 dX7_hasCrop_18 ?_
      exact g_zret (by first | exact Or.inl rfl | exact Or.inr rfl) dX7_hasCrop_19 ⟨by first | rw [hasC, if_neg c_1, if_neg c_11] | rw [hasC, if_neg c_1, if_pos c_11] | rw [hasC, if_pos c_1], rfl⟩
    · refine g_ic_1 dX7_hasCrop_14 ?_
      refine g_goto (tgt := 19) dX7_hasCrop_15 (by decide) ?_
      exact g_zret (by first | exact Or.inl rfl | exact Or.inr rfl) dX7_hasCrop_19 ⟨by first | rw [hasC, if_neg c_1, if_neg c_11] | rw [hasC, if_neg c_1, if_pos c_11] | rw [hasC, if_pos c_1], rfl⟩

set_option maxHeartbeats 4000000 in
set_option maxRecDepth 100000 in
theorem s_came {Hp : m_H} {q r c : Nat} {f g : Nat → Int32} {i : Int32} (hk : sK Hp q r c) : Con 2 yX7_came cX7_came 2 (some .int) [.ref q, .int i] (sH Hp r c f g) (fun r_ H_ => r_ = some (.int (gt 8 g i)) ∧ H_ = (sH Hp r c f g)) := by
  refine m_con (by decide) (Nat.le_of_ble_eq_true rfl) ?_
  refine g_aload_n dX7_came_0 rfl rfl ?_
  refine g_get dX7_came_1 fl_X7_15 (sH_q hk) rfl ?_
  refine g_iload_n dX7_came_4 rfl rfl ?_
  refine g_callS dX7_came_5 cs_X7_18 (as := [_, _]) (k_cell (sH_ac hk) (by decide)) (by decide) rfl rfl (Nat.le_of_ble_eq_true rfl) ?_
  rintro _ _ ⟨rfl, rfl⟩
  exact g_iret dX7_came_8 ⟨rfl, rfl⟩

def tdW (f : Nat → Int32) : Int32 := gt 143 f 6 + (if gt 143 f 4 = 0 then 1 else (-1))
def tdM (f : Nat → Int32) : Int32 := if 0 ≤ tdW f then (if tdW f < oM f (gt 143 f 5) 0 then gt 143 f 5 else (if gt 143 f 9 - 1 ≤ gt 143 f 5 then 0 else gt 143 f 5 + 1)) else (if gt 143 f 5 ≤ 0 then gt 143 f 9 - 1 else gt 143 f 5 - 1)
def tdD (f : Nat → Int32) : Int32 := if 0 ≤ tdW f then (if tdW f < oM f (gt 143 f 5) 0 then tdW f else 0) else oM f (tdM f) 0 - 1
def tdF (f : Nat → Int32) : Nat → Int32 := pt 143 (pt 143 (pt 143 f 5 (tdM f)) 6 (tdD f)) 7 (rm (gt 143 (pt 143 (pt 143 f 5 (tdM f)) 6 (tdD f)) 7 + 1) 2520)
def tdG (f g : Nat → Int32) : Nat → Int32 := pt 8 g (tdM f) (gt 8 g (tdM f) + 1)
set_option maxHeartbeats 4000000 in
set_option maxRecDepth 100000 in
theorem s_takeDay {Hp : m_H} {q r c : Nat} {f g : Nat → Int32} (hk : sK Hp q r c) : Con 3 yX7_takeDay cX7_takeDay 4 none [.ref q] (sH Hp r c f g) (fun r_ H_ => r_ = none ∧ H_ = sH Hp r c (tdF f) (tdG f g)) := by
  refine m_con (by decide) (Nat.le_of_ble_eq_true rfl) ?_
  have j91 : ∀ m d : Int32, m = tdM f → d = tdD f → G 3 RX7 cX7_takeDay 4 none (fun r_ H_ => r_ = none ∧ H_ = sH Hp r c (tdF f) (tdG f g)) 91 [some (.ref q), some (.int (gt 143 f 9)), some (.int (m)), some (.int (d))] [] (sH Hp r c f g) := by
    rintro _ _ rfl rfl
    refine g_aload_n dX7_takeDay_91 rfl rfl ?_
    refine g_ic_5 dX7_takeDay_92 ?_
    refine g_iload_n dX7_takeDay_93 rfl rfl ?_
    refine g_callV dX7_takeDay_94 cv_X7_26 (as' := [_, _]) (sH_q hk) rfl (s_put hk) (by decide) rfl rfl (Nat.le_of_ble_eq_true rfl) ?_
    rintro _ _ ⟨rfl, rfl⟩
    refine g_aload_n dX7_takeDay_97 rfl rfl ?_
    refine g_bipush (v := 6) dX7_takeDay_98 (by decide) ?_
    refine g_iload_n dX7_takeDay_100 rfl rfl ?_
    refine g_callV dX7_takeDay_101 cv_X7_26 (as' := [_, _]) (sH_q hk) rfl (s_put hk) (by decide) rfl rfl (Nat.le_of_ble_eq_true rfl) ?_
    rintro _ _ ⟨rfl, rfl⟩
    refine g_aload_n dX7_takeDay_104 rfl rfl ?_
    refine g_bipush (v := 7) dX7_takeDay_105 (by decide) ?_
    refine g_aload_n dX7_takeDay_107 rfl rfl ?_
    refine g_bipush (v := 7) dX7_takeDay_108 (by decide) ?_
    refine g_callV dX7_takeDay_110 cv_X7_30 (as' := [_]) (sH_q hk) rfl (s_get hk) (by decide) rfl rfl (Nat.le_of_ble_eq_true rfl) ?_
    rintro _ _ ⟨rfl, rfl⟩
    refine g_ic_1 dX7_takeDay_113 ?_
    refine g_iadd dX7_takeDay_114 ?_
    refine g_sipush (v := 2520) dX7_takeDay_115 (by decide) ?_
    refine g_irem dX7_takeDay_118 (by decide) ?_
    refine g_callV dX7_takeDay_119 cv_X7_26 (as' := [_, _]) (sH_q hk) rfl (s_put hk) (by decide) rfl rfl (Nat.le_of_ble_eq_true rfl) ?_
    rintro _ _ ⟨rfl, rfl⟩
    refine g_aload_n dX7_takeDay_122 rfl rfl ?_
    refine g_get dX7_takeDay_123 fl_X7_15 (sH_q hk) rfl ?_
    refine g_iload_n dX7_takeDay_126 rfl rfl ?_
    refine g_aload_n dX7_takeDay_127 rfl rfl ?_
    refine g_get dX7_takeDay_128 fl_X7_15 (sH_q hk) rfl ?_
    refine g_iload_n dX7_takeDay_131 rfl rfl ?_
    refine g_callS dX7_takeDay_132 cs_X7_18 (as := [_, _]) (k_cell (sH_ac hk) (by decide)) (by decide) rfl rfl (Nat.le_of_ble_eq_true rfl) ?_
    rintro _ _ ⟨rfl, rfl⟩
    refine g_ic_1 dX7_takeDay_135 ?_
    refine g_iadd dX7_takeDay_136 ?_
    refine g_callS dX7_takeDay_137 cs_X7_22 (as := [_, _, _]) (k_setCell sH_c (by decide)) (by decide) rfl rfl (Nat.le_of_ble_eq_true rfl) ?_
    rintro _ _ ⟨rfl, rfl⟩
    rw [sH_setc]
    exact g_vret dX7_takeDay_140 ⟨rfl, rfl⟩
  have j88 : ∀ m : Int32, ¬ tdW f < oM f (gt 143 f 5) 0 → 0 ≤ tdW f → m = (if gt 143 f 9 - 1 ≤ gt 143 f 5 then 0 else gt 143 f 5 + 1) → G 3 RX7 cX7_takeDay 4 none (fun r_ H_ => r_ = none ∧ H_ = sH Hp r c (tdF f) (tdG f g)) 88 [some (.ref q), some (.int (gt 143 f 9)), some (.int (gt 143 f 5)), some (.int (tdW f))] [.int m] (sH Hp r c f g) := by
    intro m c1 c0 hm
    refine g_istore_n dX7_takeDay_88 rfl (by decide) ?_
    refine g_ic_0 dX7_takeDay_89 ?_
    refine g_istore_n dX7_takeDay_90 rfl (by decide) ?_
    exact j91 _ _ (by rw [tdM, if_pos c0, if_neg c1]; exact hm) (by rw [tdD, if_pos c0, if_neg c1])
  have j51 : ∀ m : Int32, ¬ 0 ≤ tdW f → m = (if gt 143 f 5 ≤ 0 then gt 143 f 9 - 1 else gt 143 f 5 - 1) → G 3 RX7 cX7_takeDay 4 none (fun r_ H_ => r_ = none ∧ H_ = sH Hp r c (tdF f) (tdG f g)) 51 [some (.ref q), some (.int (gt 143 f 9)), some (.int (gt 143 f 5)), some (.int (tdW f))] [.int m] (sH Hp r c f g) := by
    intro m c0 hm
    have hm : m = tdM f := by rw [tdM, if_neg c0]; exact hm
    subst hm
    refine g_istore_n dX7_takeDay_51 rfl (by decide) ?_
    refine g_aload_n dX7_takeDay_52 rfl rfl ?_
    refine g_iload_n dX7_takeDay_53 rfl rfl ?_
    refine g_ic_0 dX7_takeDay_54 ?_
    refine g_callV dX7_takeDay_55 cv_X7_41 (as' := [_, _]) (sH_q hk) rfl (s_oM hk) (by decide) rfl rfl (Nat.le_of_ble_eq_true rfl) ?_
    rintro _ _ ⟨rfl, rfl⟩
    refine g_ic_1 dX7_takeDay_58 ?_
    refine g_isub dX7_takeDay_59 ?_
    refine g_istore_n dX7_takeDay_60 rfl (by decide) ?_
    refine g_goto (tgt := 91) dX7_takeDay_61 (by decide) ?_
    exact j91 _ _ rfl (by rw [tdD, if_neg c0])
  have j32 : ∀ w : Int32, w = (if gt 143 f 4 = 0 then 1 else (-1)) → G 3 RX7 cX7_takeDay 4 none (fun r_ H_ => r_ = none ∧ H_ = sH Hp r c (tdF f) (tdG f g)) 32 [some (.ref q), some (.int (gt 143 f 9)), some (.int (gt 143 f 5)), none] [.int w, .int (gt 143 f 6)] (sH Hp r c f g) := by
    rintro _ rfl
    refine g_iadd dX7_takeDay_32 ?_
    refine g_istore_n dX7_takeDay_33 rfl (by decide) ?_
    refine g_iload_n dX7_takeDay_34 rfl rfl ?_
    refine g_if_ge (tgt := 64) dX7_takeDay_35 (by decide) (fun c_35 => ?_) (fun c_35 => ?_)
    · refine g_iload_n dX7_takeDay_64 rfl rfl ?_
      refine g_aload_n dX7_takeDay_65 rfl rfl ?_
      refine g_iload_n dX7_takeDay_66 rfl rfl ?_
      refine g_ic_0 dX7_takeDay_67 ?_
      refine g_callV dX7_takeDay_68 cv_X7_41 (as' := [_, _]) (sH_q hk) rfl (s_oM hk) (by decide) rfl rfl (Nat.le_of_ble_eq_true rfl) ?_
      rintro _ _ ⟨rfl, rfl⟩
      refine g_icmp_lt (tgt := 91) dX7_takeDay_71 (by decide) (fun c_71 => ?_) (fun c_71 => ?_)
      · exact j91 _ _ ((if_pos c_35).trans (if_pos c_71)).symm ((if_pos c_35).trans (if_pos c_71)).symm
      · refine g_iload_n dX7_takeDay_74 rfl rfl ?_
        refine g_iload_n dX7_takeDay_75 rfl rfl ?_
        refine g_ic_1 dX7_takeDay_76 ?_
        refine g_isub dX7_takeDay_77 ?_
        refine g_icmp_ge (tgt := 87) dX7_takeDay_78 (by decide) (fun c_78 => ?_) (fun c_78 => ?_)
        · refine g_ic_0 dX7_takeDay_87 ?_
          exact j88 _ c_71 c_35 (by first | rw [if_pos c_78] | rw [if_neg c_78])
        · refine g_iload_n dX7_takeDay_81 rfl rfl ?_
          refine g_ic_1 dX7_takeDay_82 ?_
          refine g_iadd dX7_takeDay_83 ?_
          refine g_goto (tgt := 88) dX7_takeDay_84 (by decide) ?_
          exact j88 _ c_71 c_35 (by first | rw [if_pos c_78] | rw [if_neg c_78])
    · refine g_iload_n dX7_takeDay_38 rfl rfl ?_
      refine g_if_le (tgt := 48) dX7_takeDay_39 (by decide) (fun c_39 => ?_) (fun c_39 => ?_)
      · refine g_iload_n dX7_takeDay_48 rfl rfl ?_
        refine g_ic_1 dX7_takeDay_49 ?_
        refine g_isub dX7_takeDay_50 ?_
        exact j51 _ c_35 (by first | rw [if_pos c_39] | rw [if_neg c_39])
      · refine g_iload_n dX7_takeDay_42 rfl rfl ?_
        refine g_ic_1 dX7_takeDay_43 ?_
        refine g_isub dX7_takeDay_44 ?_
        refine g_goto (tgt := 51) dX7_takeDay_45 (by decide) ?_
        exact j51 _ c_35 (by first | rw [if_pos c_39] | rw [if_neg c_39])
  refine g_aload_n dX7_takeDay_0 rfl rfl ?_
  refine g_bipush (v := 9) dX7_takeDay_1 (by decide) ?_
  refine g_callV dX7_takeDay_3 cv_X7_30 (as' := [_]) (sH_q hk) rfl (s_get hk) (by decide) rfl rfl (Nat.le_of_ble_eq_true rfl) ?_
  rintro _ _ ⟨rfl, rfl⟩
  refine g_istore_n dX7_takeDay_6 rfl (by decide) ?_
  refine g_aload_n dX7_takeDay_7 rfl rfl ?_
  refine g_ic_5 dX7_takeDay_8 ?_
  refine g_callV dX7_takeDay_9 cv_X7_30 (as' := [_]) (sH_q hk) rfl (s_get hk) (by decide) rfl rfl (Nat.le_of_ble_eq_true rfl) ?_
  rintro _ _ ⟨rfl, rfl⟩
  refine g_istore_n dX7_takeDay_12 rfl (by decide) ?_
  refine g_aload_n dX7_takeDay_13 rfl rfl ?_
  refine g_bipush (v := 6) dX7_takeDay_14 (by decide) ?_
  refine g_callV dX7_takeDay_16 cv_X7_30 (as' := [_]) (sH_q hk) rfl (s_get hk) (by decide) rfl rfl (Nat.le_of_ble_eq_true rfl) ?_
  rintro _ _ ⟨rfl, rfl⟩
  refine g_aload_n dX7_takeDay_19 rfl rfl ?_
  refine g_ic_4 dX7_takeDay_20 ?_
  refine g_callV dX7_takeDay_21 cv_X7_30 (as' := [_]) (sH_q hk) rfl (s_get hk) (by decide) rfl rfl (Nat.le_of_ble_eq_true rfl) ?_
  rintro _ _ ⟨rfl, rfl⟩
  refine g_if_ne (tgt := 31) dX7_takeDay_24 (by decide) (fun c_24 => ?_) (fun c_24 => ?_)
  · refine g_ic_m1 dX7_takeDay_31 ?_
    exact j32 _ (by first | rw [if_pos c_24] | rw [if_neg c_24])
  · refine g_ic_1 dX7_takeDay_27 ?_
    refine g_goto (tgt := 32) dX7_takeDay_28 (by decide) ?_
    exact j32 _ (by first | rw [if_pos c_24] | rw [if_neg c_24])

def ehL (f : Nat → Int32) : Int32 := gt 143 f 1 - gt 143 f 2
def ehF (f : Nat → Int32) : Nat → Int32 := if 1 ≤ gt 143 f 0 then (if 0 ≤ ehL f then pt 143 f 1 (mx 0 (ehL f)) else pt 143 (pt 143 f 1 (mx 0 (ehL f))) 0 (gt 143 (pt 143 f 1 (mx 0 (ehL f))) 0 + (-1))) else f
def wlF (f : Nat → Int32) (p b : Int32) : Nat → Int32 := let f1 := pt 143 f (83 + gt 143 f 12) ((((gt 143 f 5 <<< (15 &&& 31)) ||| (gt 143 f 6 <<< (10 &&& 31))) ||| (p <<< (5 &&& 31))) ||| b); let f2 := pt 143 f1 12 (rm (gt 143 f 12 + 1) 60); pt 143 f2 11 (mn 60 (gt 143 f2 11 + 1))
def lgF (f : Nat → Int32) (i w : Int32) : Int32 := (gt 143 f (83 + rm (gt 143 f 12 + 60 - 1 - i) 60) >>> (((3 - w) * 5) &&& 31)) &&& 31
set_option maxHeartbeats 4000000 in
set_option maxRecDepth 100000 in
theorem s_eatHay {Hp : m_H} {q r c : Nat} {f g : Nat → Int32}  (hk : sK Hp q r c) : Con 3 yX7_eatHay cX7_eatHay 2 none [.ref q] (sH Hp r c f g) (fun r_ H_ => r_ = none ∧ H_ = (sH Hp r c (ehF f) (g))) := by
  refine m_con (by decide) (Nat.le_of_ble_eq_true rfl) ?_
  refine g_aload_n dX7_eatHay_0 rfl rfl ?_
  refine g_ic_1 dX7_eatHay_1 ?_
  refine g_callV dX7_eatHay_2 cv_X7_30 (as' := [_]) (sH_q hk) rfl (s_get hk) (by decide) rfl rfl (Nat.le_of_ble_eq_true rfl) ?_
  rintro _ _ ⟨rfl, rfl⟩
  refine g_aload_n dX7_eatHay_5 rfl rfl ?_
  refine g_ic_2 dX7_eatHay_6 ?_
  refine g_callV dX7_eatHay_7 cv_X7_30 (as' := [_]) (sH_q hk) rfl (s_get hk) (by decide) rfl rfl (Nat.le_of_ble_eq_true rfl) ?_
  rintro _ _ ⟨rfl, rfl⟩
  refine g_isub dX7_eatHay_10 ?_
  refine g_istore_n dX7_eatHay_11 rfl (by decide) ?_
  refine g_aload_n dX7_eatHay_12 rfl rfl ?_
  refine g_ic_0 dX7_eatHay_13 ?_
  refine g_callV dX7_eatHay_14 cv_X7_30 (as' := [_]) (sH_q hk) rfl (s_get hk) (by decide) rfl rfl (Nat.le_of_ble_eq_true rfl) ?_
  rintro _ _ ⟨rfl, rfl⟩
  refine g_ic_1 dX7_eatHay_17 ?_
  refine g_icmp_ge (tgt := 22) dX7_eatHay_18 (by decide) (fun c_18 => ?_) (fun c_18 => ?_)
  · refine g_aload_n dX7_eatHay_22 rfl rfl ?_
    refine g_ic_1 dX7_eatHay_23 ?_
    refine g_ic_0 dX7_eatHay_24 ?_
    refine g_iload_n dX7_eatHay_25 rfl rfl ?_
    refine g_max dX7_eatHay_26 ml_X7_73 ms_max mi_math mc_max (by decide) (Nat.le_of_ble_eq_true rfl) ?_
    refine g_callV dX7_eatHay_29 cv_X7_26 (as' := [_, _]) (sH_q hk) rfl (s_put hk) (by decide) rfl rfl (Nat.le_of_ble_eq_true rfl) ?_
    rintro _ _ ⟨rfl, rfl⟩
    refine g_iload_n dX7_eatHay_32 rfl rfl ?_
    refine g_if_ge (tgt := 42) dX7_eatHay_33 (by decide) (fun c_33 => ?_) (fun c_33 => ?_)
    · exact g_vret dX7_eatHay_42 ⟨rfl, by first | exact congrArg (fun z => sH Hp r c z g) ((if_pos c_18).trans (if_pos c_33)).symm | exact congrArg (fun z => sH Hp r c z g) ((if_pos c_18).trans (if_neg c_33)).symm | exact congrArg (fun z => sH Hp r c z g) (if_neg c_18).symm⟩
    · refine g_aload_n dX7_eatHay_36 rfl rfl ?_
      refine g_ic_0 dX7_eatHay_37 ?_
      refine g_ic_m1 dX7_eatHay_38 ?_
      refine g_callV dX7_eatHay_39 cv_X7_49 (as' := [_, _]) (sH_q hk) rfl (s_add hk) (by decide) rfl rfl (Nat.le_of_ble_eq_true rfl) ?_
      rintro _ _ ⟨rfl, rfl⟩
      exact g_vret dX7_eatHay_42 ⟨rfl, by first | exact congrArg (fun z => sH Hp r c z g) ((if_pos c_18).trans (if_pos c_33)).symm | exact congrArg (fun z => sH Hp r c z g) ((if_pos c_18).trans (if_neg c_33)).symm | exact congrArg (fun z => sH Hp r c z g) (if_neg c_18).symm⟩
  · exact g_vret dX7_eatHay_21 ⟨rfl, by first | exact congrArg (fun z => sH Hp r c z g) ((if_pos c_18).trans (if_pos c_33)).symm | exact congrArg (fun z => sH Hp r c z g) ((if_pos c_18).trans (if_neg c_33)).symm | exact congrArg (fun z => sH Hp r c z g) (if_neg c_18).symm⟩

set_option maxHeartbeats 4000000 in
set_option maxRecDepth 100000 in
theorem s_writeLog {Hp : m_H} {q r c : Nat} {f g : Nat → Int32} {p b : Int32} (hk : sK Hp q r c) : Con 3 yX7_writeLog cX7_writeLog 4 none [.ref q, .int p, .int b] (sH Hp r c f g) (fun r_ H_ => r_ = none ∧ H_ = (sH Hp r c (wlF f p b) (g))) := by
  refine m_con (by decide) (Nat.le_of_ble_eq_true rfl) ?_
  refine g_aload_n dX7_writeLog_0 rfl rfl ?_
  refine g_bipush (v := 12) dX7_writeLog_1 (by decide) ?_
  refine g_callV dX7_writeLog_3 cv_X7_30 (as' := [_]) (sH_q hk) rfl (s_get hk) (by decide) rfl rfl (Nat.le_of_ble_eq_true rfl) ?_
  rintro _ _ ⟨rfl, rfl⟩
  refine g_istore_n dX7_writeLog_6 rfl (by decide) ?_
  refine g_aload_n dX7_writeLog_7 rfl rfl ?_
  refine g_bipush (v := 83) dX7_writeLog_8 (by decide) ?_
  refine g_iload_n dX7_writeLog_10 rfl rfl ?_
  refine g_iadd dX7_writeLog_11 ?_
  refine g_aload_n dX7_writeLog_12 rfl rfl ?_
  refine g_ic_5 dX7_writeLog_13 ?_
  refine g_callV dX7_writeLog_14 cv_X7_30 (as' := [_]) (sH_q hk) rfl (s_get hk) (by decide) rfl rfl (Nat.le_of_ble_eq_true rfl) ?_
  rintro _ _ ⟨rfl, rfl⟩
  refine g_bipush (v := 15) dX7_writeLog_17 (by decide) ?_
  refine g_ishl dX7_writeLog_19 ?_
  refine g_aload_n dX7_writeLog_20 rfl rfl ?_
  refine g_bipush (v := 6) dX7_writeLog_21 (by decide) ?_
  refine g_callV dX7_writeLog_23 cv_X7_30 (as' := [_]) (sH_q hk) rfl (s_get hk) (by decide) rfl rfl (Nat.le_of_ble_eq_true rfl) ?_
  rintro _ _ ⟨rfl, rfl⟩
  refine g_bipush (v := 10) dX7_writeLog_26 (by decide) ?_
  refine g_ishl dX7_writeLog_28 ?_
  refine g_ior dX7_writeLog_29 ?_
  refine g_iload_n dX7_writeLog_30 rfl rfl ?_
  refine g_ic_5 dX7_writeLog_31 ?_
  refine g_ishl dX7_writeLog_32 ?_
  refine g_ior dX7_writeLog_33 ?_
  refine g_iload_n dX7_writeLog_34 rfl rfl ?_
  refine g_ior dX7_writeLog_35 ?_
  refine g_callV dX7_writeLog_36 cv_X7_26 (as' := [_, _]) (sH_q hk) rfl (s_put hk) (by decide) rfl rfl (Nat.le_of_ble_eq_true rfl) ?_
  rintro _ _ ⟨rfl, rfl⟩
  refine g_aload_n dX7_writeLog_39 rfl rfl ?_
  refine g_bipush (v := 12) dX7_writeLog_40 (by decide) ?_
  refine g_iload_n dX7_writeLog_42 rfl rfl ?_
  refine g_ic_1 dX7_writeLog_43 ?_
  refine g_iadd dX7_writeLog_44 ?_
  refine g_bipush (v := 60) dX7_writeLog_45 (by decide) ?_
  refine g_irem dX7_writeLog_47 (by decide) ?_
  refine g_callV dX7_writeLog_48 cv_X7_26 (as' := [_, _]) (sH_q hk) rfl (s_put hk) (by decide) rfl rfl (Nat.le_of_ble_eq_true rfl) ?_
  rintro _ _ ⟨rfl, rfl⟩
  refine g_aload_n dX7_writeLog_51 rfl rfl ?_
  refine g_bipush (v := 11) dX7_writeLog_52 (by decide) ?_
  refine g_bipush (v := 60) dX7_writeLog_54 (by decide) ?_
  refine g_aload_n dX7_writeLog_56 rfl rfl ?_
  refine g_bipush (v := 11) dX7_writeLog_57 (by decide) ?_
  refine g_callV dX7_writeLog_59 cv_X7_30 (as' := [_]) (sH_q hk) rfl (s_get hk) (by decide) rfl rfl (Nat.le_of_ble_eq_true rfl) ?_
  rintro _ _ ⟨rfl, rfl⟩
  refine g_ic_1 dX7_writeLog_62 ?_
  refine g_iadd dX7_writeLog_63 ?_
  refine g_min dX7_writeLog_64 ml_X7_44 ms_min mi_math mc_min (by decide) (Nat.le_of_ble_eq_true rfl) ?_
  refine g_callV dX7_writeLog_67 cv_X7_26 (as' := [_, _]) (sH_q hk) rfl (s_put hk) (by decide) rfl rfl (Nat.le_of_ble_eq_true rfl) ?_
  rintro _ _ ⟨rfl, rfl⟩
  exact g_vret dX7_writeLog_70 ⟨rfl, rfl⟩

set_option maxHeartbeats 4000000 in
set_option maxRecDepth 100000 in
theorem s_logged {Hp : m_H} {q r c : Nat} {f g : Nat → Int32} {i w : Int32} (hk : sK Hp q r c) : Con 3 yX7_logged cX7_logged 4 (some .int) [.ref q, .int i, .int w] (sH Hp r c f g) (fun r_ H_ => r_ = some (.int (lgF f i w)) ∧ H_ = (sH Hp r c f g)) := by
  refine m_con (by decide) (Nat.le_of_ble_eq_true rfl) ?_
  refine g_aload_n dX7_logged_0 rfl rfl ?_
  refine g_bipush (v := 83) dX7_logged_1 (by decide) ?_
  refine g_aload_n dX7_logged_3 rfl rfl ?_
  refine g_bipush (v := 12) dX7_logged_4 (by decide) ?_
  refine g_callV dX7_logged_6 cv_X7_30 (as' := [_]) (sH_q hk) rfl (s_get hk) (by decide) rfl rfl (Nat.le_of_ble_eq_true rfl) ?_
  rintro _ _ ⟨rfl, rfl⟩
  refine g_bipush (v := 60) dX7_logged_9 (by decide) ?_
  refine g_iadd dX7_logged_11 ?_
  refine g_ic_1 dX7_logged_12 ?_
  refine g_isub dX7_logged_13 ?_
  refine g_iload_n dX7_logged_14 rfl rfl ?_
  refine g_isub dX7_logged_15 ?_
  refine g_bipush (v := 60) dX7_logged_16 (by decide) ?_
  refine g_irem dX7_logged_18 (by decide) ?_
  refine g_iadd dX7_logged_19 ?_
  refine g_callV dX7_logged_20 cv_X7_30 (as' := [_]) (sH_q hk) rfl (s_get hk) (by decide) rfl rfl (Nat.le_of_ble_eq_true rfl) ?_
  rintro _ _ ⟨rfl, rfl⟩
  refine g_istore_n dX7_logged_23 rfl (by decide) ?_
  refine g_iload_n dX7_logged_24 rfl rfl ?_
  refine g_ic_3 dX7_logged_25 ?_
  refine g_iload_n dX7_logged_26 rfl rfl ?_
  refine g_isub dX7_logged_27 ?_
  refine g_ic_5 dX7_logged_28 ?_
  refine g_imul dX7_logged_29 ?_
  refine g_ishr dX7_logged_30 ?_
  refine g_bipush (v := 31) dX7_logged_31 (by decide) ?_
  refine g_iand dX7_logged_33 ?_
  exact g_iret dX7_logged_34 ⟨rfl, rfl⟩
