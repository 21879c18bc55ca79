/-! THE REFERENCE READS: its tape, its place, what it writes -/
/-- the reference's tape: n bytes -/
def tpM (A I : Nat → Nat → Int32) (n : Nat) : Prop := I 46 2 = nI n ∧ n ≤ 240 ∧ ∀ j, j < n → ∃ v, 0 < v ∧ v < 256 ∧ A 47 j = nI v
theorem bt_in {T : Nat → Int32} {n a : Nat} (h : a < n) : bt T n a = T a := if_pos h
theorem bt_out {T : Nat → Int32} {n a : Nat} (h : n ≤ a) : bt T n a = (-1) := if_neg (by omega)
theorem sk_out {T : Nat → Int32} {n a : Nat} (h : n ≤ a) : sk T n a = a := skp_id (by rw [bt_out h]; decide) _
theorem sk_32 {T : Nat → Int32} {n a : Nat} (h : bt T n a = 32) : sk T n (a + 1) = sk T n a := by
  have ha : a < n := bt_lt (by rw [h]; decide)
  have e : ∀ f g b, n < f + b → n < g + b → skp T n f b = skp T n g b := by
    intro f
    induction f with
    | zero => 
      intro g b h1 h2
      have hb : bt T n b ≠ 32 := by rw [bt_out (by omega)]; decide
      rw [skp_id hb, skp_id hb]
    | succ f ih =>
      intro g b h1 h2
      by_cases c : bt T n b = 32
      · cases g with
        | zero => exact absurd c (by rw [bt_out (by omega)]; decide)
        | succ g =>
          show (if bt T n b = 32 then skp T n f (b + 1) else b) = (if bt T n b = 32 then skp T n g (b + 1) else b)
          rw [if_pos c, if_pos c]
          exact ih g (b + 1) (by omega) (by omega)
      · rw [skp_id c, skp_id c]
  show skp T n (n + 1) (a + 1) = (if bt T n a = 32 then skp T n n (a + 1) else a)
  rw [if_pos h]
  exact e _ _ _ (by omega) (by omega)
set_option maxHeartbeats 800000 in
set_option maxRecDepth 100000 in
theorem e_here {A : Nat → Nat → Int32} {L : Nat → Nat → Int64} {I : Nat → Nat → Int32} {X : Nat → Int64} {n b : Nat} (h2 : I 46 2 = nI n) (hn : n ≤ 240) (h3 : I 46 3 = nI b) (hb : b < 2 ^ 31) : Con 1 yX11_here cX11_here 1 (some .int) [.ref 46] (hp A L I X) (fun r_ H_ => r_ = some (.int (bt (A 47) n b)) ∧ H_ = hp A L I X) := by
  refine m_con (by decide) (Nat.le_of_ble_eq_true rfl) ?_
  refine g_aload_n dX11_here_0 rfl rfl ?_
  refine g_get dX11_here_1 fl_X11_116 hp_46 rfl ?_
  refine g_aload_n dX11_here_4 rfl rfl ?_
  refine g_get dX11_here_5 fl_X11_113 hp_46 rfl ?_
  refine g_icmp_ge (tgt := 23) dX11_here_8 (by decide) (fun c_8 => ?_) (fun c_8 => ?_)
  · refine g_ic_m1 dX11_here_23 ?_
    exact g_iret dX11_here_24 ⟨by rw [bt_out (by rw [h2, h3] at c_8; exact (nI_leI (by omega) hb).mp c_8)], rfl⟩
  · have hlt : b < n := Nat.not_le.mp (fun z => c_8 (by rw [h2, h3]; exact (nI_leI (by omega) hb).mpr z))
    refine g_aload_n dX11_here_11 rfl rfl ?_
    refine g_get dX11_here_12 fl_X11_9 hp_46 rfl ?_
    refine g_aload_n dX11_here_15 rfl rfl ?_
    refine g_get dX11_here_16 fl_X11_116 hp_46 rfl ?_
    refine g_ra dX11_here_19 hp_47 (k := b) h3 (by omega) (by decide) ?_
    refine g_goto (tgt := 24) dX11_here_20 (by decide) ?_
    exact g_iret dX11_here_24 ⟨by rw [bt_in hlt], rfl⟩

set_option maxHeartbeats 800000 in
set_option maxRecDepth 100000 in
theorem e_look_loop {A : Nat → Nat → Int32} {L : Nat → Nat → Int64} {X : Nat → Int64} {n : Nat} {Q : Option Value → m_H → Prop} (hn : n ≤ 240) : ∀ f b (I : Nat → Nat → Int32), I 46 2 = nI n → I 46 3 = nI b → b ≤ n → n < f + b → Q (some (.int (bt (A 47) n (sk (A 47) n b)))) (hp A L (up2 I 46 3 (nI (sk (A 47) n b))) X) → G 2 RX11 cX11_look 1 (some .int) Q 0 [some (.ref 46)] [] (hp A L I X) := by
  intro f
  induction f with
  | zero => intro b I h2 h3 hb hf hQ; omega
  | succ f ih =>
    intro b I h2 h3 hb hf hQ
    refine g_aload_n dX11_look_0 rfl rfl ?_
    refine g_callV dX11_look_1 cv_X11_119 (as' := []) hp_46 rfl (e_here h2 hn h3 (by omega)) (by decide) rfl rfl (Nat.le_of_ble_eq_true rfl) ?_
    rintro _ _ ⟨rfl, rfl⟩
    refine g_bipush (v := 32) dX11_look_4 (by decide) ?_
    refine g_icmp_ne (tgt := 22) dX11_look_6 (by decide) (fun c_6 => ?_) (fun c_6 => ?_)
    · refine g_aload_n dX11_look_22 rfl rfl ?_
      refine g_callV dX11_look_23 cv_X11_119 (as' := []) hp_46 rfl (e_here h2 hn h3 (by omega)) (by decide) rfl rfl (Nat.le_of_ble_eq_true rfl) ?_
      rintro _ _ ⟨rfl, rfl⟩
      exact g_iret dX11_look_26 (by have e : sk (A 47) n b = b := skp_id c_6 _; rw [e] at hQ; rw [show up2 I 46 3 (nI b) = I from by rw [← h3]; exact up2_self] at hQ; exact hQ)
    · have hlt : b < n := bt_lt (by rw [c_6]; decide)
      refine g_aload_n dX11_look_9 rfl rfl ?_
      refine g_dup dX11_look_10 rfl ?_
      refine g_get dX11_look_11 fl_X11_116 hp_46 rfl ?_
      refine g_ic_1 dX11_look_14 ?_
      refine g_iadd dX11_look_15 ?_
      refine g_puti dX11_look_16 fw_X11_116 hp_46 (Nat.le_of_ble_eq_true rfl) ?_
      rw [hq_46_3]
      refine g_goto (tgt := 0) dX11_look_19 (by decide) ?_
      have hs := sk_32 c_6
      rw [h3, nI_1]
      refine ih (b + 1) (up2 I 46 3 (nI (b + 1))) ((up2_ne (by decide)).trans h2) up2_at (by omega) (by omega) ?_
      rw [hs, up2_up2]
      exact hQ

set_option maxHeartbeats 800000 in
set_option maxRecDepth 100000 in
theorem e_look {A : Nat → Nat → Int32} {L : Nat → Nat → Int64} {I : Nat → Nat → Int32} {X : Nat → Int64} {n b : Nat} (h2 : I 46 2 = nI n) (hn : n ≤ 240) (h3 : I 46 3 = nI b) (hb : b ≤ n) : Con 2 yX11_look cX11_look 1 (some .int) [.ref 46] (hp A L I X) (fun r_ H_ => r_ = some (.int (bt (A 47) n (sk (A 47) n b))) ∧ H_ = hp A L (up2 I 46 3 (nI (sk (A 47) n b))) X) := by
  refine m_con (by decide) (Nat.le_of_ble_eq_true rfl) ?_
  exact e_look_loop hn (n + 1) b I h2 h3 hb (by omega) ⟨rfl, rfl⟩

set_option maxHeartbeats 800000 in
set_option maxRecDepth 100000 in
theorem e_bad {A : Nat → Nat → Int32} {L : Nat → Nat → Int64} {I : Nat → Nat → Int32} {X : Nat → Int64}   : Con 1 yX11_bad cX11_bad 1 none [.ref 46] (hp A L I X) (fun r_ H_ => r_ = none ∧ H_ = hp A L (if I 46 4 = (-1) then up2 I 46 4 (I 46 3) else I) X) := by
  refine m_con (by decide) (Nat.le_of_ble_eq_true rfl) ?_
  refine g_aload_n dX11_bad_0 rfl rfl ?_
  refine g_aload_n dX11_bad_1 rfl rfl ?_
  refine g_get dX11_bad_2 fl_X11_123 hp_46 rfl ?_
  refine g_ic_m1 dX11_bad_5 ?_
  refine g_icmp_ne (tgt := 16) dX11_bad_6 (by decide) (fun c_6 => ?_) (fun c_6 => ?_)
  · refine g_aload_n dX11_bad_16 rfl rfl ?_
    refine g_get dX11_bad_17 fl_X11_123 hp_46 rfl ?_
    refine g_puti dX11_bad_20 fw_X11_123 hp_46 (Nat.le_of_ble_eq_true rfl) ?_
    rw [hq_46_4]
    exact g_vret dX11_bad_23 ⟨rfl, by rw [if_neg c_6, up2_self]⟩
  · refine g_aload_n dX11_bad_9 rfl rfl ?_
    refine g_get dX11_bad_10 fl_X11_116 hp_46 rfl ?_
    refine g_goto (tgt := 20) dX11_bad_13 (by decide) ?_
    refine g_puti dX11_bad_20 fw_X11_123 hp_46 (Nat.le_of_ble_eq_true rfl) ?_
    rw [hq_46_4]
    exact g_vret dX11_bad_23 ⟨rfl, by rw [if_pos c_6]⟩

set_option maxHeartbeats 800000 in
set_option maxRecDepth 100000 in
theorem e_put {A : Nat → Nat → Int32} {L : Nat → Nat → Int64} {I : Nat → Nat → Int32} {X : Nat → Int64} {q c : Nat} {x v : Int32} (hq : I 46 14 = nI q) (hq4 : q ≤ 4) (hc : A 50 q = nI c) (hc5 : c < 520) : Con 1 yX11_put cX11_put 3 none [.ref 46, .int x, .int v] (hp A L I X) (fun r_ H_ => r_ = none ∧ H_ = hp (up (up (up A 48 (upd (A 48) (520 * q + c) x)) 49 (upd (A 49) (520 * q + c) v)) 50 (upd (A 50) q (nI (c + 1)))) L I X) := by
  refine m_con (by decide) (Nat.le_of_ble_eq_true rfl) ?_
  refine g_aload_n dX11_put_0 rfl rfl ?_
  refine g_get dX11_put_1 fl_X11_13 hp_46 rfl ?_
  refine g_sipush (v := 520) dX11_put_4 (by decide) ?_
  refine g_aload_n dX11_put_7 rfl rfl ?_
  refine g_get dX11_put_8 fl_X11_126 hp_46 rfl ?_
  refine g_imul dX11_put_11 ?_
  refine g_aload_n dX11_put_12 rfl rfl ?_
  refine g_get dX11_put_13 fl_X11_19 hp_46 rfl ?_
  refine g_aload_n dX11_put_16 rfl rfl ?_
  refine g_get dX11_put_17 fl_X11_126 hp_46 rfl ?_
  refine g_ra dX11_put_20 hp_50 (k := q) hq (by omega) (by decide) ?_
  refine g_iadd dX11_put_21 ?_
  refine g_iload_n dX11_put_22 rfl rfl ?_
  refine g_wa dX11_put_23 hp_48 (k := (520 * q) + c) (nk_add (nk_mul (show (520 : Int32) = nI 520 from rfl) hq) hc) (by omega) (by decide) ?_
  rw [hq_48]
  try simp (disch := omega) only [up_at, up_up, up_ne]
  refine g_aload_n dX11_put_24 rfl rfl ?_
  refine g_get dX11_put_25 fl_X11_16 hp_46 rfl ?_
  refine g_sipush (v := 520) dX11_put_28 (by decide) ?_
  refine g_aload_n dX11_put_31 rfl rfl ?_
  refine g_get dX11_put_32 fl_X11_126 hp_46 rfl ?_
  try simp (disch := omega) only [up_at, up_up, up_ne]
  refine g_imul dX11_put_35 ?_
  refine g_aload_n dX11_put_36 rfl rfl ?_
  refine g_get dX11_put_37 fl_X11_19 hp_46 rfl ?_
  refine g_aload_n dX11_put_40 rfl rfl ?_
  refine g_get dX11_put_41 fl_X11_126 hp_46 rfl ?_
  try simp (disch := omega) only [up_at, up_up, up_ne]
  refine g_ra dX11_put_44 hp_50 (k := q) hq (by omega) (by decide) ?_
  try simp (disch := omega) only [up_at, up_up, up_ne]
  refine g_iadd dX11_put_45 ?_
  refine g_iload_n dX11_put_46 rfl rfl ?_
  refine g_wa dX11_put_47 hp_49 (k := (520 * q) + c) (nk_add (nk_mul (show (520 : Int32) = nI 520 from rfl) hq) hc) (by omega) (by decide) ?_
  rw [hq_49]
  try simp (disch := omega) only [up_at, up_up, up_ne]
  refine g_aload_n dX11_put_48 rfl rfl ?_
  refine g_get dX11_put_49 fl_X11_19 hp_46 rfl ?_
  refine g_aload_n dX11_put_52 rfl rfl ?_
  refine g_get dX11_put_53 fl_X11_126 hp_46 rfl ?_
  try simp (disch := omega) only [up_at, up_up, up_ne]
  refine g_dup2 dX11_put_56 rfl rfl ?_
  refine g_ra dX11_put_57 hp_50 (k := q) hq (by omega) (by decide) ?_
  try simp (disch := omega) only [up_at, up_up, up_ne]
  refine g_ic_1 dX11_put_58 ?_
  refine g_iadd dX11_put_59 ?_
  refine g_wa dX11_put_60 hp_50 (k := q) hq (by omega) (by decide) ?_
  rw [hq_50]
  try simp (disch := omega) only [up_at, up_up, up_ne]
  exact g_vret dX11_put_61 ⟨rfl, by rw [hc, nI_1]⟩
