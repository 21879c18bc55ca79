/-! THE REFERENCE READS: comparisons, units, conditions -/
def ZCmp (r : Nat) : Prop := ∀ {A0 I0 A I : Nat → Nat → Int32} {L : Nat → Nat → Int64} {X : Nat → Int64} {q n : Nat} {W : TL} {k e b : Nat} {u : TL}, tpM A0 I0 n → I0 46 14 = nI q → q ≤ 4 → MS A0 I0 q n (6 - r) W k e (.inr (b, u)) A I → Con (7 + 3 * r) yX11_compare cX11_compare 2 none [.ref 46] (hp A L I X) (RM A0 L I0 X q n (6 - r) W k (2 * r + 4) (bnd (.inr (b, u)) (cmpQ (A0 47) n r)))
def ZUnit (r : Nat) : Prop := ∀ {A0 I0 A I : Nat → Nat → Int32} {L : Nat → Nat → Int64} {X : Nat → Int64} {q n : Nat} {W : TL} {k e b : Nat} {u : TL}, tpM A0 I0 n → I0 46 14 = nI q → q ≤ 4 → MS A0 I0 q n (6 - r) W k e (.inr (b, u)) A I → Con (8 + 4 * r) yX11_unit cX11_unit 2 none [.ref 46] (hp A L I X) (RM A0 L I0 X q n (6 - r) W k (2 * r + 4) (bnd (.inr (b, u)) (unitP (A0 47) n r)))
def ZCond (r : Nat) : Prop := ∀ {A0 I0 A I : Nat → Nat → Int32} {L : Nat → Nat → Int64} {X : Nat → Int64} {q n : Nat} {W : TL} {k e b : Nat} {u : TL}, tpM A0 I0 n → I0 46 14 = nI q → q ≤ 4 → MS A0 I0 q n (6 - r) W k e (.inr (b, u)) A I → Con (11 + 4 * r) yX11_condition cX11_condition 1 none [.ref 46] (hp A L I X) (RM A0 L I0 X q n (6 - r) W k (2 * r + 6) (bnd (.inr (b, u)) ((fun a => condF (A0 47) n (unitP (A0 47) n r) ((unitP (A0 47) n r) a)))))
theorem op_Z {c : Int32} : opC c = true ↔ ¬ sgZ c = 0 := by
  unfold opC sgZ
  by_cases h1 : c = 61
  · subst h1; decide
  · by_cases h2 : c = 60
    · subst h2; decide
    · by_cases h3 : c = 62
      · subst h3; decide
      · rw [if_neg h1, if_neg h2, if_neg h3]
        simp [h1, h2, h3]
theorem op_3 {c : Int32} (h : opC c = true) (h1 : ¬ c = 61) (h2 : ¬ c = 60) : c = 62 := by
  unfold opC at h
  simp [h1, h2] at h
  exact h
theorem MS_dn {A0 I0 A I : Nat → Nat → Int32} {q n d : Nat} {W : TL} {k e : Nat} {s : PR TL} (hd : d < 6) (h : MS A0 I0 q n (d + 1) W k e s A I) : MS A0 I0 q n d W k e s A (up2 I 46 5 (I 46 5 - 1)) := by
  refine ⟨mR_I h.1 (Or.inr (Or.inr rfl)), ?_⟩
  have h2 := h.2
  cases s with
  | inl p => exact ⟨(up2_ne (by decide)).trans h2.1, h2.2⟩
  | inr x =>
    obtain ⟨a1, a2, a3, a4⟩ := h2
    refine ⟨(up2_ne (by decide)).trans a1, (up2_ne (by decide)).trans a2, ?_, a4⟩
    rw [up2_at, a3, show (1 : Int32) = nI 1 from rfl, pk_sub (by omega), show d + 1 - 1 = d by omega]
set_option maxHeartbeats 800000 in
set_option maxRecDepth 100000 in
theorem z_cmp {r : Nat} (hr : r ≤ 6) (hS : ZSum r) : ZCmp r := by
  intro A0 I0 A I L X q n W k e b u tp hq q4 h
  refine m_con (by decide) (by show (m_ent1 [Value.ref 46]).length ≤ 2; decide) ?_
  refine g_aload_n dX11_compare_0 rfl rfl ?_
  refine g_get dX11_compare_1 fl_X11_123 hp_46 rfl ?_
  refine g_ic_m1 dX11_compare_4 ?_
  refine g_icmp_ne (tgt := 15) dX11_compare_5 (by decide) (fun c_5 => ?_) (fun c_5 => ?_)
  · exact absurd h.2.2.1 c_5
  · refine g_aload_n dX11_compare_8 rfl rfl ?_
    refine g_callV dX11_compare_9 cv_X11_135 (as' := []) hp_46 rfl (z_look tp hq q4 (MS_0 (e' := 0) h)) (by omega) rfl rfl (Nat.le_of_ble_eq_true rfl) ?_
    rintro _ _ ⟨rfl, A1, I1, h1, rfl⟩
    refine g_goto (tgt := 16) dX11_compare_12 (by decide) ?_
    refine g_istore_n dX11_compare_16 rfl (by decide) ?_
    refine g_iload_n dX11_compare_17 rfl rfl ?_
    refine g_callS dX11_compare_18 cs_X11_169 (as := [_]) e_sign (by omega) rfl rfl (Nat.le_of_ble_eq_true rfl) ?_
    rintro _ _ ⟨rfl, rfl⟩
    refine g_if_ne (tgt := 29) dX11_compare_21 (by decide) (fun c_21 => ?_) (fun c_21 => ?_)
    · refine g_aload_n dX11_compare_29 rfl rfl ?_
      refine g_dup dX11_compare_30 rfl ?_
      refine g_get dX11_compare_31 fl_X11_116 hp_46 rfl ?_
      refine g_ic_1 dX11_compare_34 ?_
      refine g_iadd dX11_compare_35 ?_
      refine g_puti dX11_compare_36 fw_X11_116 hp_46 (Nat.le_of_ble_eq_true rfl) ?_
      rw [hq_46_3]
      refine g_aload_n dX11_compare_39 rfl rfl ?_
      have hop := op_Z.mpr c_21
      have h2 := MS_at h1 (bt_lt (fun z => by rw [z] at hop; exact absurd hop (by decide)))
      refine g_callV dX11_compare_40 cv_X11_156 (as' := []) hp_46 rfl (hS tp hq q4 h2) (by omega) rfl rfl (Nat.le_of_ble_eq_true rfl) ?_
      rintro _ _ ⟨rfl, A3, I3, h3, rfl⟩
      by_cases k1 : bt (A0 47) n (sk (A0 47) n b) = 61
      · have hkv := k1
        rw [k1]
        refine g_aload_n dX11_compare_43 rfl rfl ?_
        refine g_iload_n dX11_compare_44 rfl rfl ?_
        refine g_bipush (v := 61) dX11_compare_45 (by decide) ?_
        refine g_icmp_ne (tgt := 55) dX11_compare_47 (by decide) (fun c_47 => ?_) (fun c_47 => ?_)
        · exact absurd rfl c_47
        · refine g_bipush (v := 6) dX11_compare_50 (by decide) ?_
          refine g_goto (tgt := 68) dX11_compare_52 (by decide) ?_
          refine g_ic_0 dX11_compare_68 ?_
          refine g_callV dX11_compare_69 cv_X11_145 (as' := [_, _]) hp_46 rfl (z_put (x := wd 2 61) tp hq q4 h3 (by omega) (by decide) (by decide)) (by omega) rfl rfl (Nat.le_of_ble_eq_true rfl) ?_
          rintro _ _ ⟨rfl, A4, I4, h4, rfl⟩
          exact g_vret dX11_compare_72 ⟨rfl, A4, I4, by rw [bnd_eq (show cmpQ (A0 47) n r b = _ from if_pos hop), hkv, ← bnd_eq (f := fun a => wrS (wd 2 61) (sumP (A0 47) n r a)) (a := sk (A0 47) n b + 1) rfl, ← wrS_bnd]; exact h4, rfl⟩
      · by_cases k2 : bt (A0 47) n (sk (A0 47) n b) = 60
        · have hkv := k2
          rw [k2]
          refine g_aload_n dX11_compare_43 rfl rfl ?_
          refine g_iload_n dX11_compare_44 rfl rfl ?_
          refine g_bipush (v := 61) dX11_compare_45 (by decide) ?_
          refine g_icmp_ne (tgt := 55) dX11_compare_47 (by decide) (fun c_47 => ?_) (fun c_47 => ?_)
          · refine g_iload_n dX11_compare_55 rfl rfl ?_
            refine g_bipush (v := 60) dX11_compare_56 (by decide) ?_
            refine g_icmp_ne (tgt := 66) dX11_compare_58 (by decide) (fun c_58 => ?_) (fun c_58 => ?_)
            · exact absurd rfl c_58
            · refine g_bipush (v := 7) dX11_compare_61 (by decide) ?_
              refine g_goto (tgt := 68) dX11_compare_63 (by decide) ?_
              refine g_ic_0 dX11_compare_68 ?_
              refine g_callV dX11_compare_69 cv_X11_145 (as' := [_, _]) hp_46 rfl (z_put (x := wd 2 60) tp hq q4 h3 (by omega) (by decide) (by decide)) (by omega) rfl rfl (Nat.le_of_ble_eq_true rfl) ?_
              rintro _ _ ⟨rfl, A4, I4, h4, rfl⟩
              exact g_vret dX11_compare_72 ⟨rfl, A4, I4, by rw [bnd_eq (show cmpQ (A0 47) n r b = _ from if_pos hop), hkv, ← bnd_eq (f := fun a => wrS (wd 2 60) (sumP (A0 47) n r a)) (a := sk (A0 47) n b + 1) rfl, ← wrS_bnd]; exact h4, rfl⟩
          · exact absurd c_47 (by decide)
        · have hkv := op_3 hop k1 k2
          rw [hkv]
          refine g_aload_n dX11_compare_43 rfl rfl ?_
          refine g_iload_n dX11_compare_44 rfl rfl ?_
          refine g_bipush (v := 61) dX11_compare_45 (by decide) ?_
          refine g_icmp_ne (tgt := 55) dX11_compare_47 (by decide) (fun c_47 => ?_) (fun c_47 => ?_)
          · refine g_iload_n dX11_compare_55 rfl rfl ?_
            refine g_bipush (v := 60) dX11_compare_56 (by decide) ?_
            refine g_icmp_ne (tgt := 66) dX11_compare_58 (by decide) (fun c_58 => ?_) (fun c_58 => ?_)
            · refine g_bipush (v := 8) dX11_compare_66 (by decide) ?_
              refine g_ic_0 dX11_compare_68 ?_
              refine g_callV dX11_compare_69 cv_X11_145 (as' := [_, _]) hp_46 rfl (z_put (x := wd 2 62) tp hq q4 h3 (by omega) (by decide) (by decide)) (by omega) rfl rfl (Nat.le_of_ble_eq_true rfl) ?_
              rintro _ _ ⟨rfl, A4, I4, h4, rfl⟩
              exact g_vret dX11_compare_72 ⟨rfl, A4, I4, by rw [bnd_eq (show cmpQ (A0 47) n r b = _ from if_pos hop), hkv, ← bnd_eq (f := fun a => wrS (wd 2 62) (sumP (A0 47) n r a)) (a := sk (A0 47) n b + 1) rfl, ← wrS_bnd]; exact h4, rfl⟩
            · exact absurd c_58 (by decide)
          · exact absurd c_47 (by decide)
    · refine g_aload_n dX11_compare_24 rfl rfl ?_
      refine g_callV dX11_compare_25 cv_X11_132 (as' := []) hp_46 rfl (z_bad tp h1 (Nat.le_refl _)) (by omega) rfl rfl (Nat.le_of_ble_eq_true rfl) ?_
      rintro _ _ ⟨rfl, A2, I2, h2, rfl⟩
      exact g_vret dX11_compare_28 ⟨rfl, A2, I2, MS_e (by rw [bnd_eq (show cmpQ (A0 47) n r b = _ from if_neg (fun z => op_Z.mp z c_21))]; exact h2) (fun p _ => by omega), rfl⟩

set_option maxHeartbeats 800000 in
set_option maxRecDepth 100000 in
theorem z_unit0 (hS : ZSum 0) (hC : ZCmp 0) : ZUnit (0) := by
  intro A0 I0 A I L X q n W k e b u tp hq q4 h
  refine m_con (by decide) (by show (m_ent1 [Value.ref 46]).length ≤ 2; decide) ?_
  refine g_aload_n dX11_unit_0 rfl rfl ?_
  refine g_callV dX11_unit_1 cv_X11_135 (as' := []) hp_46 rfl (z_look tp hq q4 (MS_0 (e' := 0) h)) (by omega) rfl rfl (Nat.le_of_ble_eq_true rfl) ?_
  rintro _ _ ⟨rfl, A1, I1, h1, rfl⟩
  refine g_istore_n dX11_unit_4 rfl (by decide) ?_
  refine g_iload_n dX11_unit_5 rfl rfl ?_
  refine g_bipush (v := 33) dX11_unit_6 (by decide) ?_
  refine g_icmp_ne (tgt := 47) dX11_unit_8 (by decide) (fun c_8 => ?_) (fun c_8 => ?_)
  · refine g_iload_n dX11_unit_47 rfl rfl ?_
    refine g_bipush (v := 40) dX11_unit_48 (by decide) ?_
    refine g_icmp_ne (tgt := 78) dX11_unit_50 (by decide) (fun c_50 => ?_) (fun c_50 => ?_)
    · refine g_aload_n dX11_unit_78 rfl rfl ?_
      refine g_callV dX11_unit_79 cv_X11_156 (as' := []) hp_46 rfl (hS tp hq q4 h1) (by omega) rfl rfl (Nat.le_of_ble_eq_true rfl) ?_
      rintro _ _ ⟨rfl, A2, I2, h2, rfl⟩
      refine g_aload_n dX11_unit_82 rfl rfl ?_
      refine g_get dX11_unit_83 fl_X11_123 hp_46 rfl ?_
      refine g_ic_m1 dX11_unit_86 ?_
      refine g_icmp_ne (tgt := 94) dX11_unit_87 (by decide) (fun c_87 => ?_) (fun c_87 => ?_)
      · exact g_vret dX11_unit_94 (by obtain ⟨p5, e5⟩ := MS_ne h2 c_87; exact ⟨rfl, A2, I2, MS_e (by rw [bnd_eq (show unitP (A0 47) n (0) b = _ from (if_neg c_8).trans (if_neg c_50)), ← bnd_eq (f := fun a => bnd (sumP (A0 47) n (0) a) (cmpQ (A0 47) n (0))) (a := sk (A0 47) n b) rfl, ← bnd_bnd, e5]; rw [e5] at h2; exact h2) (fun p _ => by omega), rfl⟩)
      · refine g_aload_n dX11_unit_90 rfl rfl ?_
        obtain ⟨b5, u5, e5⟩ := MS_eq tp.2.1 h2 c_87
        have h4 := h2
        rw [e5] at h4
        refine g_callV dX11_unit_91 cv_X11_178 (as' := []) hp_46 rfl (hC tp hq q4 h4) (by omega) rfl rfl (Nat.le_of_ble_eq_true rfl) ?_
        rintro _ _ ⟨rfl, A3, I3, h3, rfl⟩
        exact g_vret dX11_unit_94 ⟨rfl, A3, I3, by rw [bnd_eq (show unitP (A0 47) n (0) b = _ from (if_neg c_8).trans (if_neg c_50)), ← bnd_eq (f := fun a => bnd (sumP (A0 47) n (0) a) (cmpQ (A0 47) n (0))) (a := sk (A0 47) n b) rfl, ← bnd_bnd, e5]; exact h3, rfl⟩
    · refine g_aload_n dX11_unit_53 rfl rfl ?_
      refine g_callV dX11_unit_54 cv_X11_153 (as' := []) hp_46 rfl (z_opens6 tp hq q4 h1 rfl) (by omega) rfl rfl (Nat.le_of_ble_eq_true rfl) ?_
      rintro _ _ ⟨rfl, A3, I3, h3, rfl⟩
      refine g_aload_n dX11_unit_57 rfl rfl ?_
      refine g_get dX11_unit_58 fl_X11_123 hp_46 rfl ?_
      refine g_ic_m1 dX11_unit_61 ?_
      refine g_icmp_ne (tgt := 94) dX11_unit_62 (by decide) (fun c_62 => ?_) (fun c_62 => ?_)
      · exact g_vret dX11_unit_94 ⟨rfl, A3, I3, MS_e (by rw [bnd_eq (show unitP (A0 47) n (0) b = _ from (if_neg c_8).trans (if_pos c_50))]; exact h3) (fun p _ => by omega), rfl⟩
      · exact absurd c_62 (MS_l tp.2.1 h3)
  · refine g_aload_n dX11_unit_11 rfl rfl ?_
    refine g_callV dX11_unit_12 cv_X11_153 (as' := []) hp_46 rfl (z_opens6 tp hq q4 h1 rfl) (by omega) rfl rfl (Nat.le_of_ble_eq_true rfl) ?_
    rintro _ _ ⟨rfl, A3, I3, h3, rfl⟩
    refine g_aload_n dX11_unit_15 rfl rfl ?_
    refine g_get dX11_unit_16 fl_X11_123 hp_46 rfl ?_
    refine g_ic_m1 dX11_unit_19 ?_
    refine g_icmp_ne (tgt := 94) dX11_unit_20 (by decide) (fun c_20 => ?_) (fun c_20 => ?_)
    · exact g_vret dX11_unit_94 ⟨rfl, A3, I3, MS_e (by rw [bnd_eq (show unitP (A0 47) n (0) b = _ from if_pos c_8)]; exact h3) (fun p _ => by omega), rfl⟩
    · exact absurd c_20 (MS_l tp.2.1 h3)

theorem UP_1 {T : Nat → Int32} {n : Nat} : ∀ r, (UP T n r).1 = unitP T n r
  | 0 => rfl
  | _ + 1 => rfl
theorem UP_2 {T : Nat → Int32} {n : Nat} : ∀ r, (UP T n r).2 = fun a => condF T n (unitP T n r) (unitP T n r a)
  | 0 => rfl
  | _ + 1 => rfl
set_option maxHeartbeats 800000 in
set_option maxRecDepth 100000 in
theorem z_unitS {r : Nat} (hr : r + 1 ≤ 6) (hS : ZSum (r + 1)) (hC : ZCmp (r + 1)) (hU : ZUnit r) (hK : ZCond r) : ZUnit (r + 1) := by
  intro A0 I0 A I L X q n W k e b u tp hq q4 h
  refine m_con (by decide) (by show (m_ent1 [Value.ref 46]).length ≤ 2; decide) ?_
  refine g_aload_n dX11_unit_0 rfl rfl ?_
  refine g_callV dX11_unit_1 cv_X11_135 (as' := []) hp_46 rfl (z_look tp hq q4 (MS_0 (e' := 0) h)) (by omega) rfl rfl (Nat.le_of_ble_eq_true rfl) ?_
  rintro _ _ ⟨rfl, A1, I1, h1, rfl⟩
  refine g_istore_n dX11_unit_4 rfl (by decide) ?_
  refine g_iload_n dX11_unit_5 rfl rfl ?_
  refine g_bipush (v := 33) dX11_unit_6 (by decide) ?_
  refine g_icmp_ne (tgt := 47) dX11_unit_8 (by decide) (fun c_8 => ?_) (fun c_8 => ?_)
  · refine g_iload_n dX11_unit_47 rfl rfl ?_
    refine g_bipush (v := 40) dX11_unit_48 (by decide) ?_
    refine g_icmp_ne (tgt := 78) dX11_unit_50 (by decide) (fun c_50 => ?_) (fun c_50 => ?_)
    · refine g_aload_n dX11_unit_78 rfl rfl ?_
      refine g_callV dX11_unit_79 cv_X11_156 (as' := []) hp_46 rfl (hS tp hq q4 h1) (by omega) rfl rfl (Nat.le_of_ble_eq_true rfl) ?_
      rintro _ _ ⟨rfl, A2, I2, h2, rfl⟩
      refine g_aload_n dX11_unit_82 rfl rfl ?_
      refine g_get dX11_unit_83 fl_X11_123 hp_46 rfl ?_
      refine g_ic_m1 dX11_unit_86 ?_
      refine g_icmp_ne (tgt := 94) dX11_unit_87 (by decide) (fun c_87 => ?_) (fun c_87 => ?_)
      · exact g_vret dX11_unit_94 (by obtain ⟨p5, e5⟩ := MS_ne h2 c_87; exact ⟨rfl, A2, I2, MS_e (by rw [bnd_eq (show unitP (A0 47) n (r + 1) b = _ from (if_neg c_8).trans (if_neg c_50)), ← bnd_eq (f := fun a => bnd (sumP (A0 47) n (r + 1) a) (cmpQ (A0 47) n (r + 1))) (a := sk (A0 47) n b) rfl, ← bnd_bnd, e5]; rw [e5] at h2; exact h2) (fun p _ => by omega), rfl⟩)
      · refine g_aload_n dX11_unit_90 rfl rfl ?_
        obtain ⟨b5, u5, e5⟩ := MS_eq tp.2.1 h2 c_87
        have h4 := h2
        rw [e5] at h4
        refine g_callV dX11_unit_91 cv_X11_178 (as' := []) hp_46 rfl (hC tp hq q4 h4) (by omega) rfl rfl (Nat.le_of_ble_eq_true rfl) ?_
        rintro _ _ ⟨rfl, A3, I3, h3, rfl⟩
        exact g_vret dX11_unit_94 ⟨rfl, A3, I3, by rw [bnd_eq (show unitP (A0 47) n (r + 1) b = _ from (if_neg c_8).trans (if_neg c_50)), ← bnd_eq (f := fun a => bnd (sumP (A0 47) n (r + 1) a) (cmpQ (A0 47) n (r + 1))) (a := sk (A0 47) n b) rfl, ← bnd_bnd, e5]; exact h3, rfl⟩
    · refine g_aload_n dX11_unit_53 rfl rfl ?_
      refine g_callV dX11_unit_54 cv_X11_153 (as' := []) hp_46 rfl (z_opens tp hq q4 h1 (by omega) (bt_lt (by rw [c_50]; decide))) (by omega) rfl rfl (Nat.le_of_ble_eq_true rfl) ?_
      rintro _ _ ⟨rfl, A2, I2, h2, rfl⟩
      refine g_aload_n dX11_unit_57 rfl rfl ?_
      refine g_get dX11_unit_58 fl_X11_123 hp_46 rfl ?_
      refine g_ic_m1 dX11_unit_61 ?_
      refine g_icmp_ne (tgt := 94) dX11_unit_62 (by decide) (fun c_62 => ?_) (fun c_62 => ?_)
      · exact absurd h2.2.2.1 c_62
      · refine g_aload_n dX11_unit_65 rfl rfl ?_
        refine g_callV dX11_unit_66 cv_X11_175 (as' := []) hp_46 rfl (hK tp hq q4 (MS_d (show 6 - (r + 1) + 1 = 6 - r by omega) h2)) (by omega) rfl rfl (Nat.le_of_ble_eq_true rfl) ?_
        rintro _ _ ⟨rfl, A4, I4, h4, rfl⟩
        refine g_aload_n dX11_unit_69 rfl rfl ?_
        refine g_bipush (v := 41) dX11_unit_70 (by decide) ?_
        refine g_callV dX11_unit_72 cv_X11_159 (as' := [_]) hp_46 rfl (z_closes tp hq q4 (by decide) (by omega) (MS_d (show 6 - r = 6 - (r + 1) + 1 by omega) h4)) (by omega) rfl rfl (Nat.le_of_ble_eq_true rfl) ?_
        rintro _ _ ⟨rfl, A5, I5, h5, rfl⟩
        refine g_goto (tgt := 94) dX11_unit_75 (by decide) ?_
        exact g_vret dX11_unit_94 ⟨rfl, A5, I5, MS_k (MS_e (by rw [bnd_eq (show unitP (A0 47) n (r + 1) b = exS (A0 47) n 41 ((UP (A0 47) n r).2 (sk (A0 47) n b + 1)) from (if_neg c_8).trans (if_pos c_50)), UP_2, ← bnd_eq (f := fun a => exS (A0 47) n 41 (condF (A0 47) n (unitP (A0 47) n r) (unitP (A0 47) n r a))) (a := sk (A0 47) n b + 1) rfl, ← exS_bnd]; exact h5) (fun p _ => by omega)) (by omega), rfl⟩
  · refine g_aload_n dX11_unit_11 rfl rfl ?_
    refine g_callV dX11_unit_12 cv_X11_153 (as' := []) hp_46 rfl (z_opens tp hq q4 h1 (by omega) (bt_lt (by rw [c_8]; decide))) (by omega) rfl rfl (Nat.le_of_ble_eq_true rfl) ?_
    rintro _ _ ⟨rfl, A2, I2, h2, rfl⟩
    refine g_aload_n dX11_unit_15 rfl rfl ?_
    refine g_get dX11_unit_16 fl_X11_123 hp_46 rfl ?_
    refine g_ic_m1 dX11_unit_19 ?_
    refine g_icmp_ne (tgt := 94) dX11_unit_20 (by decide) (fun c_20 => ?_) (fun c_20 => ?_)
    · exact absurd h2.2.2.1 c_20
    · refine g_aload_n dX11_unit_23 rfl rfl ?_
      refine g_callV dX11_unit_24 cv_X11_172 (as' := []) hp_46 rfl (hU tp hq q4 (MS_d (show 6 - (r + 1) + 1 = 6 - r by omega) h2)) (by omega) rfl rfl (Nat.le_of_ble_eq_true rfl) ?_
      rintro _ _ ⟨rfl, A4, I4, h4, rfl⟩
      refine g_aload_n dX11_unit_27 rfl rfl ?_
      refine g_bipush (v := 9) dX11_unit_28 (by decide) ?_
      refine g_ic_0 dX11_unit_30 ?_
      refine g_callV dX11_unit_31 cv_X11_145 (as' := [_, _]) hp_46 rfl (z_put (x := wd 2 33) tp hq q4 h4 (by omega) (by decide) (by decide)) (by omega) rfl rfl (Nat.le_of_ble_eq_true rfl) ?_
      rintro _ _ ⟨rfl, A5, I5, h5, rfl⟩
      refine g_aload_n dX11_unit_34 rfl rfl ?_
      refine g_dup dX11_unit_35 rfl ?_
      refine g_get dX11_unit_36 fl_X11_129 hp_46 rfl ?_
      refine g_ic_1 dX11_unit_39 ?_
      refine g_isub dX11_unit_40 ?_
      refine g_puti dX11_unit_41 fw_X11_129 hp_46 (Nat.le_of_ble_eq_true rfl) ?_
      rw [hq_46_5]
      refine g_goto (tgt := 94) dX11_unit_44 (by decide) ?_
      exact g_vret dX11_unit_94 ⟨rfl, A5, _, MS_k (MS_e (MS_dn (by omega) (MS_d (show 6 - r = 6 - (r + 1) + 1 by omega) (by rw [bnd_eq (show unitP (A0 47) n (r + 1) b = wrS (wd 2 33) ((UP (A0 47) n r).1 (sk (A0 47) n b + 1)) from if_pos c_8), UP_1, ← bnd_eq (f := fun a => wrS (wd 2 33) (unitP (A0 47) n r a)) (a := sk (A0 47) n b + 1) rfl, ← wrS_bnd]; exact h5))) (fun p _ => by omega)) (Nat.le_refl _), rfl⟩

theorem PG_cmp {T : Nat → Int32} {n r : Nat} (a : Nat) : PG (cmpQ T n r a) a := by
  have hk := sk_ge (T := T) (n := n) (a := a)
  unfold cmpQ
  split
  · intro d v hd
    have := PG_wr (PG_sum (T := T) (n := n) r (sk T n a + 1)) d v hd
    omega
  · intro d v hd
    cases hd
theorem PG_unitF {T : Nat → Int32} {n r : Nat} {sub : Option ((Nat → PR TL) × (Nat → PR TL))} (hs : ∀ g, sub = some g → (∀ a, PG (g.1 a) a) ∧ ∀ a, PG (g.2 a) a) (a : Nat) : PG (unitF T n r sub a) a := by
  have hk := sk_ge (T := T) (n := n) (a := a)
  unfold unitF
  split
  · cases sub with
    | none => intro d v hd; cases hd
    | some g =>
      intro d v hd
      have := PG_wr ((hs g rfl).1 (sk T n a + 1)) d v hd
      omega
  · split
    · cases sub with
      | none => intro d v hd; cases hd
      | some g =>
        intro d v hd
        have := PG_ex ((hs g rfl).2 (sk T n a + 1)) d v hd
        omega
    · intro d v hd
      have := PG_bnd (PG_sum (T := T) (n := n) r (sk T n a)) (fun b => PG_cmp b) d v hd
      omega
theorem PG_truth {T : Nat → Int32} {n : Nat} {u : Nat → PR TL} (hu : ∀ b, PG (u b) b) (a : Nat) : PG (truthF T n u (u a)) a := PG_lp hu 240 _ (hu a)
theorem PG_cond {T : Nat → Int32} {n : Nat} {u : Nat → PR TL} (hu : ∀ b, PG (u b) b) (a : Nat) : PG (condF T n u (u a)) a := PG_lp (PG_truth hu) 240 _ (PG_truth hu a)
theorem PG_UP {T : Nat → Int32} {n : Nat} : ∀ r, (∀ a, PG ((UP T n r).1 a) a) ∧ ∀ a, PG ((UP T n r).2 a) a
  | 0 => by
    have h : ∀ a, PG (unitF T n 0 none a) a := PG_unitF (fun g hg => by cases hg)
    exact ⟨h, PG_cond h⟩
  | r + 1 => by
    have i := PG_UP (T := T) (n := n) r
    have h : ∀ a, PG (unitF T n (r + 1) (some (UP T n r)) a) a := PG_unitF (fun g hg => by cases hg; exact i)
    exact ⟨h, PG_cond h⟩
theorem PG_unit {T : Nat → Int32} {n : Nat} (r a : Nat) : PG (unitP T n r a) a := by
  rw [← UP_1]
  exact (PG_UP r).1 a
set_option maxHeartbeats 800000 in
set_option maxRecDepth 100000 in
theorem z_and_loop {A0 I0 : Nat → Nat → Int32} {L : Nat → Nat → Int64} {X : Nat → Int64} {q n r : Nat} {W : TL} {k : Nat} {Q : Option Value → m_H → Prop} (tp : tpM A0 I0 n) (hq : I0 46 14 = nI q) (q4 : q ≤ 4) (hr : r ≤ 6) (hU : ZUnit r) : ∀ f (s : PR TL) A I, (∀ b u, s = .inr (b, u) → n ≤ b + f) → MS A0 I0 q n (6 - r) W k (2 * r + 5) s A I → (∀ A1 I1, MS A0 I0 q n (6 - r) W k (2 * r + 5) (lpB (A0 47) n (unitP (A0 47) n r) (op1 38) f s) A1 I1 → Q none (hp A1 L I1 X)) → G (9 + 4 * r) RX11 cX11_goOnAnd 1 none Q 0 [some (.ref 46)] [] (hp A L I X) := by
  intro f
  induction f using Nat.strongRecOn with
  | ind f ih =>
    intro s A I hf h hQ
    refine g_aload_n dX11_goOnAnd_0 rfl rfl ?_
    refine g_get dX11_goOnAnd_1 fl_X11_123 hp_46 rfl ?_
    refine g_ic_m1 dX11_goOnAnd_4 ?_
    refine g_icmp_ne (tgt := 41) dX11_goOnAnd_5 (by decide) (fun c_5 => ?_) (fun c_5 => ?_)
    · exact g_vret dX11_goOnAnd_41 (by obtain ⟨p, e1⟩ := MS_ne h c_5; subst e1; exact hQ _ _ (by cases f <;> exact h))
    · refine g_aload_n dX11_goOnAnd_8 rfl rfl ?_
      obtain ⟨b, u, e1⟩ := MS_eq tp.2.1 h c_5
      subst e1
      refine g_callV dX11_goOnAnd_9 cv_X11_135 (as' := []) hp_46 rfl (z_look tp hq q4 h) (by omega) rfl rfl (Nat.le_of_ble_eq_true rfl) ?_
      rintro _ _ ⟨rfl, A2, I2, h2, rfl⟩
      refine g_bipush (v := 38) dX11_goOnAnd_12 (by decide) ?_
      refine g_icmp_ne (tgt := 41) dX11_goOnAnd_14 (by decide) (fun c_14 => ?_) (fun c_14 => ?_)
      · exact g_vret dX11_goOnAnd_41 (hQ _ _ (by rw [lp_end (s := .inr (b, u)) (by decide) hf (fun z => c_14 (of_decide_eq_true z))]; exact h2))
      · have hop : (op1 38) (cV (A0 47) n (.inr (b, u))) = true := by show (op1 38) (bt (A0 47) n (sk (A0 47) n b)) = true; rw [c_14]; decide
        obtain ⟨b1, u1, f', e1, rfl, hlt, hlp⟩ := lp_go (item := (unitP (A0 47) n r)) (f := f) (by decide) hf hop
        cases e1
        rw [show cV (A0 47) n (.inr (b, u)) = 38 from c_14] at hlp
        have h3 := MS_at h2 hlt
        refine g_aload_n dX11_goOnAnd_17 rfl rfl ?_
        refine g_dup dX11_goOnAnd_18 rfl ?_
        refine g_get dX11_goOnAnd_19 fl_X11_116 hp_46 rfl ?_
        refine g_ic_1 dX11_goOnAnd_22 ?_
        refine g_iadd dX11_goOnAnd_23 ?_
        refine g_puti dX11_goOnAnd_24 fw_X11_116 hp_46 (Nat.le_of_ble_eq_true rfl) ?_
        rw [hq_46_3]
        refine g_aload_n dX11_goOnAnd_27 rfl rfl ?_
        refine g_callV dX11_goOnAnd_28 cv_X11_172 (as' := []) hp_46 rfl (hU tp hq q4 h3) (by omega) rfl rfl (Nat.le_of_ble_eq_true rfl) ?_
        rintro _ _ ⟨rfl, A4, I4, h4, rfl⟩
        refine g_aload_n dX11_goOnAnd_31 rfl rfl ?_
        refine g_bipush (v := 10) dX11_goOnAnd_32 (by decide) ?_
        refine g_ic_0 dX11_goOnAnd_34 ?_
        refine g_callV dX11_goOnAnd_35 cv_X11_145 (as' := [_, _]) hp_46 rfl (z_put (x := wd 2 38) tp hq q4 h4 (by omega) (by decide) (by decide)) (by omega) rfl rfl (Nat.le_of_ble_eq_true rfl) ?_
        rintro _ _ ⟨rfl, A5, I5, h9, rfl⟩
        refine g_goto (tgt := 0) dX11_goOnAnd_38 (by decide) ?_
        have hs5 : ∀ b' u', (wrS (wd 2 38) (bnd (.inr (sk (A0 47) n b + 1, u)) (unitP (A0 47) n r))) = .inr (b', u') → n ≤ b' + f' := fun b' u' z => by
          have g1 := PG_wr (PG_bnd (s := .inr (sk (A0 47) n b + 1, u)) (a := b + 1) (fun d v hd => by cases hd; have := sk_ge (T := A0 47) (n := n) (a := b); omega) (PG_unit r)) b' u' z
          have := hf b u rfl
          omega
        rw [hlp] at hQ
        exact ih f' (Nat.lt_succ_self f') (wrS (wd 2 38) (bnd (.inr (sk (A0 47) n b + 1, u)) (unitP (A0 47) n r))) _ _ hs5 (MS_e h9 (fun p _ => by omega)) hQ

theorem z_and {A0 I0 A I : Nat → Nat → Int32} {L : Nat → Nat → Int64} {X : Nat → Int64} {q n r : Nat} {W : TL} {k e : Nat} {s : PR TL} (tp : tpM A0 I0 n) (hq : I0 46 14 = nI q) (q4 : q ≤ 4) (hr : r ≤ 6) (hU : ZUnit r) (h : MS A0 I0 q n (6 - r) W k e s A I) (he : e ≤ 2 * r + 5) : Con (9 + 4 * r) yX11_goOnAnd cX11_goOnAnd 1 none [.ref 46] (hp A L I X) (RM A0 L I0 X q n (6 - r) W k (2 * r + 5) (lpB (A0 47) n (unitP (A0 47) n r) (op1 38) 240 s)) := by
  refine m_con (by decide) (by show (m_ent1 [Value.ref 46]).length ≤ 1; decide) ?_
  exact z_and_loop tp hq q4 hr hU 240 s A I (fun b u _ => by have := tp.2.1; omega) (MS_e h (fun _ _ => he)) (fun A1 I1 h1 => ⟨rfl, A1, I1, h1, rfl⟩)

set_option maxHeartbeats 800000 in
set_option maxRecDepth 100000 in
theorem z_or_loop {A0 I0 : Nat → Nat → Int32} {L : Nat → Nat → Int64} {X : Nat → Int64} {q n r : Nat} {W : TL} {k : Nat} {Q : Option Value → m_H → Prop} (tp : tpM A0 I0 n) (hq : I0 46 14 = nI q) (q4 : q ≤ 4) (hr : r ≤ 6) (hU : ZUnit r) : ∀ f (s : PR TL) A I, (∀ b u, s = .inr (b, u) → n ≤ b + f) → MS A0 I0 q n (6 - r) W k (2 * r + 6) s A I → (∀ A1 I1, MS A0 I0 q n (6 - r) W k (2 * r + 6) (lpB (A0 47) n (fun a => truthF (A0 47) n (unitP (A0 47) n r) ((unitP (A0 47) n r) a)) (op1 124) f s) A1 I1 → Q none (hp A1 L I1 X)) → G (10 + 4 * r) RX11 cX11_goOnOr 1 none Q 0 [some (.ref 46)] [] (hp A L I X) := by
  intro f
  induction f using Nat.strongRecOn with
  | ind f ih =>
    intro s A I hf h hQ
    refine g_aload_n dX11_goOnOr_0 rfl rfl ?_
    refine g_get dX11_goOnOr_1 fl_X11_123 hp_46 rfl ?_
    refine g_ic_m1 dX11_goOnOr_4 ?_
    refine g_icmp_ne (tgt := 45) dX11_goOnOr_5 (by decide) (fun c_5 => ?_) (fun c_5 => ?_)
    · exact g_vret dX11_goOnOr_45 (by obtain ⟨p, e1⟩ := MS_ne h c_5; subst e1; exact hQ _ _ (by cases f <;> exact h))
    · refine g_aload_n dX11_goOnOr_8 rfl rfl ?_
      obtain ⟨b, u, e1⟩ := MS_eq tp.2.1 h c_5
      subst e1
      refine g_callV dX11_goOnOr_9 cv_X11_135 (as' := []) hp_46 rfl (z_look tp hq q4 h) (by omega) rfl rfl (Nat.le_of_ble_eq_true rfl) ?_
      rintro _ _ ⟨rfl, A2, I2, h2, rfl⟩
      refine g_bipush (v := 124) dX11_goOnOr_12 (by decide) ?_
      refine g_icmp_ne (tgt := 45) dX11_goOnOr_14 (by decide) (fun c_14 => ?_) (fun c_14 => ?_)
      · exact g_vret dX11_goOnOr_45 (hQ _ _ (by rw [lp_end (s := .inr (b, u)) (by decide) hf (fun z => c_14 (of_decide_eq_true z))]; exact h2))
      · have hop : (op1 124) (cV (A0 47) n (.inr (b, u))) = true := by show (op1 124) (bt (A0 47) n (sk (A0 47) n b)) = true; rw [c_14]; decide
        obtain ⟨b1, u1, f', e1, rfl, hlt, hlp⟩ := lp_go (item := (fun a => truthF (A0 47) n (unitP (A0 47) n r) ((unitP (A0 47) n r) a))) (f := f) (by decide) hf hop
        cases e1
        rw [show cV (A0 47) n (.inr (b, u)) = 124 from c_14] at hlp
        have h3 := MS_at h2 hlt
        refine g_aload_n dX11_goOnOr_17 rfl rfl ?_
        refine g_dup dX11_goOnOr_18 rfl ?_
        refine g_get dX11_goOnOr_19 fl_X11_116 hp_46 rfl ?_
        refine g_ic_1 dX11_goOnOr_22 ?_
        refine g_iadd dX11_goOnOr_23 ?_
        refine g_puti dX11_goOnOr_24 fw_X11_116 hp_46 (Nat.le_of_ble_eq_true rfl) ?_
        rw [hq_46_3]
        refine g_aload_n dX11_goOnOr_27 rfl rfl ?_
        refine g_callV dX11_goOnOr_28 cv_X11_172 (as' := []) hp_46 rfl (hU tp hq q4 h3) (by omega) rfl rfl (Nat.le_of_ble_eq_true rfl) ?_
        rintro _ _ ⟨rfl, A4, I4, h4, rfl⟩
        refine g_aload_n dX11_goOnOr_31 rfl rfl ?_
        refine g_callV dX11_goOnOr_32 cv_X11_181 (as' := []) hp_46 rfl (z_and tp hq q4 hr hU h4 (by omega)) (by omega) rfl rfl (Nat.le_of_ble_eq_true rfl) ?_
        rintro _ _ ⟨rfl, A6, I6, h6, rfl⟩
        rw [lpB_bnd] at h6
        refine g_aload_n dX11_goOnOr_35 rfl rfl ?_
        refine g_bipush (v := 11) dX11_goOnOr_36 (by decide) ?_
        refine g_ic_0 dX11_goOnOr_38 ?_
        refine g_callV dX11_goOnOr_39 cv_X11_145 (as' := [_, _]) hp_46 rfl (z_put (x := wd 2 124) tp hq q4 h6 (by omega) (by decide) (by decide)) (by omega) rfl rfl (Nat.le_of_ble_eq_true rfl) ?_
        rintro _ _ ⟨rfl, A5, I5, h9, rfl⟩
        refine g_goto (tgt := 0) dX11_goOnOr_42 (by decide) ?_
        have hs5 : ∀ b' u', (wrS (wd 2 124) (bnd (.inr (sk (A0 47) n b + 1, u)) (fun a => truthF (A0 47) n (unitP (A0 47) n r) ((unitP (A0 47) n r) a)))) = .inr (b', u') → n ≤ b' + f' := fun b' u' z => by
          have g1 := PG_wr (PG_bnd (s := .inr (sk (A0 47) n b + 1, u)) (a := b + 1) (fun d v hd => by cases hd; have := sk_ge (T := A0 47) (n := n) (a := b); omega) (PG_truth (PG_unit r))) b' u' z
          have := hf b u rfl
          omega
        rw [hlp] at hQ
        exact ih f' (Nat.lt_succ_self f') (wrS (wd 2 124) (bnd (.inr (sk (A0 47) n b + 1, u)) (fun a => truthF (A0 47) n (unitP (A0 47) n r) ((unitP (A0 47) n r) a)))) _ _ hs5 (MS_e h9 (fun p _ => by omega)) hQ

theorem z_or {A0 I0 A I : Nat → Nat → Int32} {L : Nat → Nat → Int64} {X : Nat → Int64} {q n r : Nat} {W : TL} {k e : Nat} {s : PR TL} (tp : tpM A0 I0 n) (hq : I0 46 14 = nI q) (q4 : q ≤ 4) (hr : r ≤ 6) (hU : ZUnit r) (h : MS A0 I0 q n (6 - r) W k e s A I) (he : e ≤ 2 * r + 6) : Con (10 + 4 * r) yX11_goOnOr cX11_goOnOr 1 none [.ref 46] (hp A L I X) (RM A0 L I0 X q n (6 - r) W k (2 * r + 6) (lpB (A0 47) n (fun a => truthF (A0 47) n (unitP (A0 47) n r) ((unitP (A0 47) n r) a)) (op1 124) 240 s)) := by
  refine m_con (by decide) (by show (m_ent1 [Value.ref 46]).length ≤ 1; decide) ?_
  exact z_or_loop tp hq q4 hr hU 240 s A I (fun b u _ => by have := tp.2.1; omega) (MS_e h (fun _ _ => he)) (fun A1 I1 h1 => ⟨rfl, A1, I1, h1, rfl⟩)

set_option maxHeartbeats 800000 in
set_option maxRecDepth 100000 in
theorem z_cond {r : Nat} (hr : r ≤ 6) (hU : ZUnit r) : ZCond r := by
  intro A0 I0 A I L X q n W k e b u tp hq q4 h
  refine m_con (by decide) (by show (m_ent1 [Value.ref 46]).length ≤ 1; decide) ?_
  refine g_aload_n dX11_condition_0 rfl rfl ?_
  refine g_callV dX11_condition_1 cv_X11_172 (as' := []) hp_46 rfl (hU tp hq q4 h) (by omega) rfl rfl (Nat.le_of_ble_eq_true rfl) ?_
  rintro _ _ ⟨rfl, A1, I1, h1, rfl⟩
  refine g_aload_n dX11_condition_4 rfl rfl ?_
  refine g_callV dX11_condition_5 cv_X11_181 (as' := []) hp_46 rfl (z_and tp hq q4 hr hU h1 (by omega)) (by omega) rfl rfl (Nat.le_of_ble_eq_true rfl) ?_
  rintro _ _ ⟨rfl, A2, I2, h2, rfl⟩
  rw [lpB_bnd] at h2
  refine g_aload_n dX11_condition_8 rfl rfl ?_
  refine g_callV dX11_condition_9 cv_X11_184 (as' := []) hp_46 rfl (z_or tp hq q4 hr hU h2 (by omega)) (by omega) rfl rfl (Nat.le_of_ble_eq_true rfl) ?_
  rintro _ _ ⟨rfl, A3, I3, h3, rfl⟩
  rw [lpB_bnd] at h3
  exact g_vret dX11_condition_12 ⟨rfl, A3, I3, h3, rfl⟩

theorem z_allU : ∀ r, r ≤ 6 → ZCmp r ∧ ZUnit r ∧ ZCond r
  | 0, h => by
    have s : ZSum 0 := (z_all 0 h).2.2
    have c : ZCmp 0 := z_cmp h s
    have u : ZUnit 0 := z_unit0 s c
    exact ⟨c, u, z_cond h u⟩
  | r + 1, h => by
    obtain ⟨-, u0, k0⟩ := z_allU r (by omega)
    have s : ZSum (r + 1) := (z_all (r + 1) h).2.2
    have c : ZCmp (r + 1) := z_cmp h s
    have u : ZUnit (r + 1) := z_unitS h s c u0 k0
    exact ⟨c, u, z_cond h u⟩