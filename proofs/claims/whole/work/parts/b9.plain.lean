/-! THE REFERENCE READS A PLAIN -/
theorem IR_ext {ar kd f0 p0 w : Nat} {D D' : ROW} {A A' : Nat → Nat → Int32} (h : IR ar kd f0 p0 w D A) (eD : ∀ k, k < w → D' (p0 + k) = D (p0 + k)) (eA : ∀ k, k < w → A' ar (f0 + k) = A ar (f0 + k)) : IR ar kd f0 p0 w D' A' := fun k hk => by
  obtain ⟨h1, h2⟩ := h k hk
  rw [eD k hk, eA k hk]
  exact ⟨h1, h2⟩
/-- a draft and the reference's own rows -/
def PW (m c : Nat) (D : ROW) (A : Nat → Nat → Int32) : Prop := (m ≤ 8 ∧ c ≤ 5 ∧ D 9 = nI m ∧ D 10 = nI c) ∧ IR 57 0 0 0 4 D A ∧ (∀ i, i < m → IR 58 1 (5 * i) (13 + 5 * i) 5 D A) ∧ (∀ i, i < c → IR 59 2 (3 * i) (53 + 6 * i) 3 D A) ∧ (D 4 = 0 ∧ D 5 = 0 ∧ D 6 = 0 ∧ D 7 = 0 ∧ D 8 = 0 ∧ D 11 = 0 ∧ D 12 = 0) ∧ ∀ i, i < 5 → D (53 + 6 * i + 3) = 0 ∧ D (53 + 6 * i + 4) = 0 ∧ D (53 + 6 * i + 5) = 0
theorem PW_0 {m c : Nat} {D D' : ROW} {A A' : Nat → Nat → Int32} (h : PW m c D A) (hD : DX 0 4 D D') (hA : AX 57 0 4 A A') (hR : IR 57 0 0 0 4 D' A') : PW m c D' A' := by
  obtain ⟨⟨a1, a2, a3, a4⟩, b, d, e, ⟨f1, f2, f3, f4, f5, f6, f7⟩, g⟩ := h
  have k : ∀ j, 4 ≤ j → D' j = D j := fun j hj => hD j (Or.inr (by omega))
  refine ⟨⟨a1, a2, (k 9 (by decide)).trans a3, (k 10 (by decide)).trans a4⟩, hR, fun i hi => IR_ext (d i hi) (fun l _ => k _ (by omega)) (fun l _ => by rw [hA.1 58 (by decide)]), fun i hi => IR_ext (e i hi) (fun l _ => k _ (by omega)) (fun l _ => by rw [hA.1 59 (by decide)]), ⟨(k 4 (by decide)).trans f1, (k 5 (by decide)).trans f2, (k 6 (by decide)).trans f3, (k 7 (by decide)).trans f4, (k 8 (by decide)).trans f5, (k 11 (by decide)).trans f6, (k 12 (by decide)).trans f7⟩, fun i hi => ?_⟩
  rw [k _ (by omega), k _ (by omega), k _ (by omega)]
  exact g i hi
theorem PW_1 {m c : Nat} {D D' : ROW} {A A' : Nat → Nat → Int32} (h : PW m c D A) (hm : m < 8) (hD : DX (13 + 5 * m) 5 (upd D 9 (nI (m + 1))) D') (hA : AX 58 (5 * m) 5 A A') (hR : IR 58 1 (5 * m) (13 + 5 * m) 5 D' A') : PW (m + 1) c D' A' := by
  obtain ⟨⟨a1, a2, a3, a4⟩, b, d, e, ⟨f1, f2, f3, f4, f5, f6, f7⟩, g⟩ := h
  have k : ∀ j, j ≠ 9 → (j < 13 + 5 * m ∨ 13 + 5 * m + 5 ≤ j) → D' j = D j := fun j h9 hj => (hD j hj).trans (ud_ne h9)
  refine ⟨⟨hm, a2, (hD 9 (Or.inl (by omega))).trans ud_at, (k 10 (by decide) (Or.inl (by omega))).trans a4⟩, IR_ext b (fun l hl => k _ (by omega) (Or.inl (by omega))) (fun l _ => by rw [hA.1 57 (by decide)]), fun i hi => ?_, fun i hi => IR_ext (e i hi) (fun l _ => k _ (by omega) (Or.inr (by omega))) (fun l _ => by rw [hA.1 59 (by decide)]), ⟨(k 4 (by decide) (Or.inl (by omega))).trans f1, (k 5 (by decide) (Or.inl (by omega))).trans f2, (k 6 (by decide) (Or.inl (by omega))).trans f3, (k 7 (by decide) (Or.inl (by omega))).trans f4, (k 8 (by decide) (Or.inl (by omega))).trans f5, (k 11 (by decide) (Or.inl (by omega))).trans f6, (k 12 (by decide) (Or.inl (by omega))).trans f7⟩, fun i hi => ?_⟩
  · by_cases z : i = m
    · rw [z]; exact hR
    · exact IR_ext (d i (by omega)) (fun l hl => k _ (by omega) (Or.inl (by omega))) (fun l hl => hA.2 _ (Or.inl (by omega)))
  · rw [k _ (by omega) (Or.inr (by omega)), k _ (by omega) (Or.inr (by omega)), k _ (by omega) (Or.inr (by omega))]
    exact g i hi
theorem PW_2 {m c : Nat} {D D' : ROW} {A A' : Nat → Nat → Int32} (h : PW m c D A) (hm : c < 5) (hD : DX (53 + 6 * c) 3 (upd D 10 (nI (c + 1))) D') (hA : AX 59 (3 * c) 3 A A') (hR : IR 59 2 (3 * c) (53 + 6 * c) 3 D' A') : PW m (c + 1) D' A' := by
  obtain ⟨⟨a1, a2, a3, a4⟩, b, d, e, ⟨f1, f2, f3, f4, f5, f6, f7⟩, g⟩ := h
  have k : ∀ j, j ≠ 10 → (j < 53 + 6 * c ∨ 53 + 6 * c + 3 ≤ j) → D' j = D j := fun j h9 hj => (hD j hj).trans (ud_ne h9)
  refine ⟨⟨a1, hm, (k 9 (by decide) (Or.inl (by omega))).trans a3, (hD 10 (Or.inl (by omega))).trans ud_at⟩, IR_ext b (fun l hl => k _ (by omega) (Or.inl (by omega))) (fun l _ => by rw [hA.1 57 (by decide)]), fun i hi => IR_ext (d i hi) (fun l _ => k _ (by omega) (Or.inl (by omega))) (fun l _ => by rw [hA.1 58 (by decide)]), fun i hi => ?_, ⟨(k 4 (by decide) (Or.inl (by omega))).trans f1, (k 5 (by decide) (Or.inl (by omega))).trans f2, (k 6 (by decide) (Or.inl (by omega))).trans f3, (k 7 (by decide) (Or.inl (by omega))).trans f4, (k 8 (by decide) (Or.inl (by omega))).trans f5, (k 11 (by decide) (Or.inl (by omega))).trans f6, (k 12 (by decide) (Or.inl (by omega))).trans f7⟩, fun i hi => ?_⟩
  · by_cases z : i = c
    · rw [z]; exact hR
    · exact IR_ext (e i (by omega)) (fun l hl => k _ (by omega) (by omega)) (fun l hl => hA.2 _ (Or.inl (by omega)))
  · rw [k _ (by omega) (by omega), k _ (by omega) (by omega), k _ (by omega) (by omega)]
    exact g i hi
/-- all but what reading a plain uses -/
def mP (A0 I0 A I : Nat → Nat → Int32) : Prop := (∀ i, i ≠ 57 → i ≠ 58 → i ≠ 59 → A i = A0 i) ∧ ∀ i k, ¬ (i = 46 ∧ (k = 3 ∨ k = 4 ∨ k = 20 ∨ k = 21)) → I i k = I0 i k
theorem mP_rf {A I : Nat → Nat → Int32} : mP A I A I := ⟨fun _ _ _ _ => rfl, fun _ _ _ => rfl⟩
theorem mP_tr {A0 I0 A I A1 I1 : Nat → Nat → Int32} (h : mP A0 I0 A I) (k : mP A I A1 I1) : mP A0 I0 A1 I1 := ⟨fun i a b c => (k.1 i a b c).trans (h.1 i a b c), fun i l z => (k.2 i l z).trans (h.2 i l z)⟩
theorem mP_X {A0 I0 A I A1 I1 : Nat → Nat → Int32} {ar f0 w : Nat} (h : mP A0 I0 A I) (har : ar = 57 ∨ ar = 58 ∨ ar = 59) (k : AX ar f0 w A A1) (s : sI I I1) : mP A0 I0 A1 I1 :=
  ⟨fun i a b c => (k.1 i (by omega)).trans (h.1 i a b c), fun i l z => (s i l (fun w => z ⟨w.1, by omega⟩)).trans (h.2 i l z)⟩
theorem mP_I {A0 I0 A I : Nat → Nat → Int32} {k : Nat} {v : Int32} (h : mP A0 I0 A I) (hk : k = 3 ∨ k = 4 ∨ k = 20 ∨ k = 21) : mP A0 I0 A (up2 I 46 k v) := ⟨h.1, fun i l z => (up2_ne (fun w => z ⟨w.1, by rw [w.2]; exact hk⟩)).trans (h.2 i l z)⟩
theorem mP_tp {A0 I0 A I : Nat → Nat → Int32} {n : Nat} (tp : tpM A0 I0 n) (h : mP A0 I0 A I) : tpM A I n ∧ A 47 = A0 47 := by
  have e := h.1 47 (by decide) (by decide) (by decide)
  exact ⟨⟨(h.2 46 2 (by decide)).trans tp.1, tp.2.1, fun j hj => by rw [e]; exact tp.2.2 j hj⟩, e⟩
/-- behind a clause, or at the end -/
def FR (T : Nat → Int32) (n : Nat) (s : PR PRW) (A I : Nat → Nat → Int32) : Prop := (∃ p, s = .inl p ∧ I 46 4 = nI p ∧ p ≤ n) ∨ (I 46 4 = (-1) ∧ ∃ b, I 46 3 = nI b ∧ b ≤ n ∧ sk T n b = b ∧ ((s = .inl b ∧ ¬ (bt T n b = 59 ∨ bt T n b = (-1))) ∨ ∃ D h m c, s = .inr (b, (D, h)) ∧ (bt T n b = 59 ∨ bt T n b = (-1)) ∧ I 46 20 = nI m ∧ I 46 21 = nI c ∧ PW m c D A))
/-- what reading a plain leaves -/
def PLQ (T : Nat → Int32) (n : Nat) (s : PR PRW) (A I : Nat → Nat → Int32) : Prop := ∀ b D h, s = .inr (b, (D, h)) → ∃ m c, 2 ≤ m ∧ 1 ≤ c ∧ I 46 20 = nI m ∧ I 46 21 = nI c ∧ PW m c D A
theorem ppE_l {T : Nat → Int32} {n p : Nat} : ppE T n (.inl p) = .inl p := rfl
theorem ppL_l {T : Nat → Int32} {n p : Nat} : ∀ f, ppL T n f (.inl p) = .inl p
  | 0 => rfl
  | _ + 1 => rfl
theorem pw_9 {m c : Nat} {D : ROW} {A : Nat → Nat → Int32} (h : PW m c D A) : (2 ≤ gt 143 D 9 ↔ 2 ≤ m) ∧ (1 ≤ gt 143 D 10 ↔ 1 ≤ c) := by
  obtain ⟨⟨a1, a2, a3, a4⟩, -⟩ := h
  rw [g143_9, g143_10, a3, a4]
  exact ⟨nI_leI (a := 2) (by decide) (by omega), nI_leI (a := 1) (by decide) (by omega)⟩
theorem FR_ne {T : Nat → Int32} {n : Nat} {s : PR PRW} {A I : Nat → Nat → Int32} (h : FR T n s A I) (hw : ¬ I 46 4 = (-1)) : ∃ p, s = .inl p ∧ I 46 4 = nI p ∧ p ≤ n := h.resolve_right (fun z => hw z.1)
theorem FR_eq {T : Nat → Int32} {n : Nat} {s : PR PRW} {A I : Nat → Nat → Int32} (hn : n ≤ 240) (h : FR T n s A I) (hw : I 46 4 = (-1)) : ∃ b, I 46 3 = nI b ∧ b ≤ n ∧ sk T n b = b ∧ ((s = .inl b ∧ ¬ (bt T n b = 59 ∨ bt T n b = (-1))) ∨ ∃ D h m c, s = .inr (b, (D, h)) ∧ (bt T n b = 59 ∨ bt T n b = (-1)) ∧ I 46 20 = nI m ∧ I 46 21 = nI c ∧ PW m c D A) := by
  rcases h with ⟨p, -, h2, h3⟩ | h
  · exact absurd (Int32.le_trans (nI_pos' (n := p) (by omega)) (Int32.le_of_eq (h2.symm.trans hw))) (by decide)
  · exact h.2
set_option maxHeartbeats 800000 in
set_option maxRecDepth 100000 in
theorem z_pl257 {A0 I0 A I : Nat → Nat → Int32} {L : Nat → Nat → Int64} {X : Nat → Int64} {n : Nat} {s : PR PRW} {Q : Option Value → m_H → Prop} {a b c : Option Value} (tp : tpM A0 I0 n) (hm : mP A0 I0 A I) (hF : FR (A0 47) n s A I) (hQ : ∀ A1 I1, mP A0 I0 A1 I1 → PLQ (A0 47) n (ppE (A0 47) n s) A1 I1 → Q (some (.int (lawV (ppE (A0 47) n s)))) (hp A1 L I1 X)) : G 6 RX11 cX11_readPlain 4 (some .int) Q 257 [some (.ref 46), a, b, c] [] (hp A L I X) := by
  obtain ⟨tp1, e47⟩ := mP_tp tp hm
  refine g_aload_n dX11_readPlain_257 rfl rfl ?_
  refine g_get dX11_readPlain_258 fl_X11_123 hp_46 rfl ?_
  refine g_ic_m1 dX11_readPlain_261 ?_
  refine g_icmp_ne (tgt := 292) dX11_readPlain_262 (by decide) (fun c_262 => ?_) (fun c_262 => ?_)
  · refine g_aload_n dX11_readPlain_292 rfl rfl ?_
    refine g_get dX11_readPlain_293 fl_X11_123 hp_46 rfl ?_
    exact g_iret dX11_readPlain_296 (by obtain ⟨p, e1, e2, e3⟩ := FR_ne hF c_262; subst e1; rw [ppE_l] at hQ; rw [e2]; exact hQ A I hm (fun b D h z => by cases z))
  · have w1 := c_262
    obtain ⟨b, h3, hbn, hs, hb⟩ := FR_eq tp.2.1 hF c_262
    refine g_aload_n dX11_readPlain_265 rfl rfl ?_
    refine g_callV dX11_readPlain_266 cv_X11_135 (as' := []) hp_46 rfl (e_look tp1.1 tp1.2.1 h3 hbn) (by decide) rfl rfl (Nat.le_of_ble_eq_true rfl) ?_
    rw [e47]
    rintro _ _ ⟨rfl, rfl⟩
    have k4 : (up2 I 46 3 (nI (sk (A0 47) n b))) 46 4 = (-1) := (up2_ne (by decide)).trans w1
    refine g_ic_m1 dX11_readPlain_269 ?_
    refine g_icmp_ne (tgt := 288) dX11_readPlain_270 (by decide) (fun c_270 => ?_) (fun c_270 => ?_)
    · refine g_aload_n dX11_readPlain_288 rfl rfl ?_
      refine g_callV dX11_readPlain_289 cv_X11_132 (as' := []) hp_46 rfl e_bad (by decide) rfl rfl (Nat.le_of_ble_eq_true rfl) ?_
      rintro _ _ ⟨rfl, rfl⟩
      refine g_aload_n dX11_readPlain_292 rfl rfl ?_
      refine g_get dX11_readPlain_293 fl_X11_123 hp_46 rfl ?_
      exact g_iret dX11_readPlain_296 (by have hb2 : ppE (A0 47) n s = .inl (sk (A0 47) n b) := (by rcases hb with ⟨e1, z⟩ | ⟨D, h, m, c, e1, z, r1, r2, hw⟩; rw [e1, hs]; rfl; have e9 := pw_9 hw; rw [e1]; exact if_neg (fun z => absurd z.1 c_270)); rw [hb2] at hQ; have e4 : (up2 (up2 I 46 3 (nI (sk (A0 47) n b))) 46 4 ((up2 I 46 3 (nI (sk (A0 47) n b))) 46 3)) 46 4 = nI (sk (A0 47) n b) := (by rw [up2_at, up2_at]); rw [if_pos k4, e4]; exact hQ A (up2 (up2 I 46 3 (nI (sk (A0 47) n b))) 46 4 ((up2 I 46 3 (nI (sk (A0 47) n b))) 46 3)) (mP_I (mP_I hm (Or.inl rfl)) (Or.inr (Or.inl rfl))) (fun b D h z => by cases z))
    · refine g_aload_n dX11_readPlain_273 rfl rfl ?_
      refine g_get dX11_readPlain_274 fl_X11_245 hp_46 rfl ?_
      refine g_ic_2 dX11_readPlain_277 ?_
      refine g_icmp_lt (tgt := 288) dX11_readPlain_278 (by decide) (fun c_278 => ?_) (fun c_278 => ?_)
      · refine g_aload_n dX11_readPlain_288 rfl rfl ?_
        refine g_callV dX11_readPlain_289 cv_X11_132 (as' := []) hp_46 rfl e_bad (by decide) rfl rfl (Nat.le_of_ble_eq_true rfl) ?_
        rintro _ _ ⟨rfl, rfl⟩
        refine g_aload_n dX11_readPlain_292 rfl rfl ?_
        refine g_get dX11_readPlain_293 fl_X11_123 hp_46 rfl ?_
        exact g_iret dX11_readPlain_296 (by have hb2 : ppE (A0 47) n s = .inl (sk (A0 47) n b) := (by rcases hb with ⟨e1, z⟩ | ⟨D, h, m, c, e1, z, r1, r2, hw⟩; rw [e1, hs]; rfl; have e9 := pw_9 hw; rw [e1]; exact if_neg (fun z => absurd ((nI_leI (a := 2) (b := m) (by decide) (by have := hw.1.1; omega)).mpr (e9.1.mp z.2.1)) (Int32.not_le.mpr (by rw [← r1]; rw [up2_ne (by decide)] at c_278; exact c_278)))); rw [hb2] at hQ; have e4 : (up2 (up2 I 46 3 (nI (sk (A0 47) n b))) 46 4 ((up2 I 46 3 (nI (sk (A0 47) n b))) 46 3)) 46 4 = nI (sk (A0 47) n b) := (by rw [up2_at, up2_at]); rw [if_pos k4, e4]; exact hQ A (up2 (up2 I 46 3 (nI (sk (A0 47) n b))) 46 4 ((up2 I 46 3 (nI (sk (A0 47) n b))) 46 3)) (mP_I (mP_I hm (Or.inl rfl)) (Or.inr (Or.inl rfl))) (fun b D h z => by cases z))
      · refine g_aload_n dX11_readPlain_281 rfl rfl ?_
        refine g_get dX11_readPlain_282 fl_X11_248 hp_46 rfl ?_
        refine g_if_ne (tgt := 292) dX11_readPlain_285 (by decide) (fun c_285 => ?_) (fun c_285 => ?_)
        · refine g_aload_n dX11_readPlain_292 rfl rfl ?_
          refine g_get dX11_readPlain_293 fl_X11_123 hp_46 rfl ?_
          exact g_iret dX11_readPlain_296 (by rcases hb with ⟨-, z⟩ | ⟨D, h, m, c, e1, z, r1, r2, hw⟩; exact absurd (Or.inr (by rw [hs] at c_270; exact c_270)) z; subst e1; have e9 := pw_9 hw; have hm2 : 2 ≤ m := (nI_leI (a := 2) (b := m) (by decide) (by have := hw.1.1; omega)).mp (by rw [← r1]; exact Int32.not_lt.mp (fun q => c_278 (by rw [up2_ne (by decide)]; exact q))); have hc1 : 1 ≤ c := Nat.pos_of_ne_zero (fun q => c_285 (by rw [up2_ne (by decide), r2, q]; rfl)); rw [show ppE (A0 47) n (.inr (b, (D, h))) = .inr (sk (A0 47) n b, (D, h)) from if_pos ⟨c_270, e9.1.mpr hm2, e9.2.mpr hc1⟩] at hQ; rw [show (up2 I 46 3 (nI (sk (A0 47) n b))) 46 4 = (-1) from (up2_ne (by decide)).trans w1]; exact hQ A (up2 I 46 3 (nI (sk (A0 47) n b))) (mP_I hm (Or.inl rfl)) (fun b2 D2 h2 z2 => by cases z2; exact ⟨m, c, hm2, hc1, (up2_ne (by decide)).trans r1, (up2_ne (by decide)).trans r2, hw⟩))
        · refine g_aload_n dX11_readPlain_288 rfl rfl ?_
          refine g_callV dX11_readPlain_289 cv_X11_132 (as' := []) hp_46 rfl e_bad (by decide) rfl rfl (Nat.le_of_ble_eq_true rfl) ?_
          rintro _ _ ⟨rfl, rfl⟩
          refine g_aload_n dX11_readPlain_292 rfl rfl ?_
          refine g_get dX11_readPlain_293 fl_X11_123 hp_46 rfl ?_
          exact g_iret dX11_readPlain_296 (by have hb2 : ppE (A0 47) n s = .inl (sk (A0 47) n b) := (by rcases hb with ⟨e1, z⟩ | ⟨D, h, m, c, e1, z, r1, r2, hw⟩; rw [e1, hs]; rfl; have e9 := pw_9 hw; rw [e1]; exact if_neg (fun z => absurd (e9.2.mp z.2.2) (by have : c = 0 := (nI_eq (a := c) (b := 0) (by have := hw.1.2.1; omega) (by decide)).mp (by rw [← r2]; rw [up2_ne (by decide)] at c_285; exact c_285); omega))); rw [hb2] at hQ; have e4 : (up2 (up2 I 46 3 (nI (sk (A0 47) n b))) 46 4 ((up2 I 46 3 (nI (sk (A0 47) n b))) 46 3)) 46 4 = nI (sk (A0 47) n b) := (by rw [up2_at, up2_at]); rw [if_pos k4, e4]; exact hQ A (up2 (up2 I 46 3 (nI (sk (A0 47) n b))) 46 4 ((up2 I 46 3 (nI (sk (A0 47) n b))) 46 3)) (mP_I (mP_I hm (Or.inl rfl)) (Or.inr (Or.inl rfl))) (fun b D h z => by cases z))

theorem ppL_id {T : Nat → Int32} {n : Nat} {s : PR PRW} (h : ∀ b q, s = .inr (b, q) → sk T n b = b ∧ ¬ bt T n b = 59) : ∀ f, ppL T n f s = s
  | 0 => rfl
  | f + 1 => by
    cases s with
    | inl p => rfl
    | inr x =>
      obtain ⟨b, q⟩ := x
      obtain ⟨h1, h2⟩ := h b q rfl
      show (if bt T n (sk T n b) = 59 then ppL T n f (pcP T n (sk T n b + 1) q) else .inr (sk T n b, q)) = _
      rw [h1, if_neg h2]
theorem ppL_go {T : Nat → Int32} {n f b : Nat} {q : PRW} (h1 : sk T n b = b) (h2 : bt T n b = 59) : ppL T n (f + 1) (.inr (b, q)) = ppL T n f (pcP T n (b + 1) q) := by
  show (if bt T n (sk T n b) = 59 then ppL T n f (pcP T n (sk T n b + 1) q) else .inr (sk T n b, q)) = _
  rw [h1, if_pos h2]
set_option maxHeartbeats 800000 in
set_option maxRecDepth 100000 in
theorem z_pl213 {A0 I0 A I : Nat → Nat → Int32} {L : Nat → Nat → Int64} {X : Nat → Int64} {n : Nat} {s : PR PRW} {hv : Int32} {Q : Option Value → m_H → Prop} {b x : Option Value} (tp : tpM A0 I0 n) (hm : mP A0 I0 A I) (hF : FR (A0 47) n s A I) (hG : ∀ b D h m c, s = .inr (b, (D, h)) → sk (A0 47) n b = b → bt (A0 47) n b = 59 → b < n → I 46 20 = nI m → I 46 21 = nI c → PW m c D A → G 6 RX11 cX11_readPlain 4 (some .int) Q 49 [some (.ref 46), some (.int (hv)), some (.int (1)), x] [] (hp A L (up2 I 46 3 (nI (b + 1))) X)) (hQ : (∀ b q, s = .inr (b, q) → sk (A0 47) n b = b ∧ ¬ bt (A0 47) n b = 59) → ∀ A1 I1, mP A0 I0 A1 I1 → PLQ (A0 47) n (ppE (A0 47) n s) A1 I1 → Q (some (.int (lawV (ppE (A0 47) n s)))) (hp A1 L I1 X)) : G 6 RX11 cX11_readPlain 4 (some .int) Q 213 [some (.ref 46), some (.int (hv)), b, x] [] (hp A L I X) := by
  obtain ⟨tp1, e47⟩ := mP_tp tp hm
  refine g_aload_n dX11_readPlain_213 rfl rfl ?_
  refine g_get dX11_readPlain_214 fl_X11_123 hp_46 rfl ?_
  refine g_ic_m1 dX11_readPlain_217 ?_
  refine g_icmp_ne (tgt := 234) dX11_readPlain_218 (by decide) (fun c_218 => ?_) (fun c_218 => ?_)
  · refine g_ic_0 dX11_readPlain_234 ?_
    refine g_istore_n dX11_readPlain_235 rfl (by decide) ?_
    refine g_aload_n dX11_readPlain_236 rfl rfl ?_
    refine g_dup dX11_readPlain_237 rfl ?_
    refine g_get dX11_readPlain_238 fl_X11_116 hp_46 rfl ?_
    refine g_iload_n dX11_readPlain_241 rfl rfl ?_
    refine g_if_eq (tgt := 249) dX11_readPlain_242 (by decide) (fun c_242 => ?_) (fun c_242 => ?_)
    · refine g_ic_0 dX11_readPlain_249 ?_
      refine g_iadd dX11_readPlain_250 ?_
      refine g_puti dX11_readPlain_251 fw_X11_116 hp_46 (Nat.le_of_ble_eq_true rfl) ?_
      rw [hq_46_3]
      refine g_goto (tgt := 49) dX11_readPlain_254 (by decide) ?_
      refine g_iload_n dX11_readPlain_49 rfl rfl ?_
      refine g_if_eq (tgt := 257) dX11_readPlain_50 (by decide) (fun c_50 => ?_) (fun c_50 => ?_)
      · rw [show up2 I 46 3 (I 46 3 + 0) = I from by rw [Int32.add_zero]; exact up2_self]
        obtain ⟨p, e1, -, -⟩ := FR_ne hF c_218
        exact z_pl257 tp hm hF (hQ (fun b q z => by rw [e1] at z; cases z))
      · exact absurd rfl c_50
    · exact absurd rfl c_242
  · have w1 := c_218
    obtain ⟨b, h3, hbn, hs, hb⟩ := FR_eq tp.2.1 hF c_218
    refine g_aload_n dX11_readPlain_221 rfl rfl ?_
    refine g_callV dX11_readPlain_222 cv_X11_135 (as' := []) hp_46 rfl (e_look tp1.1 tp1.2.1 h3 hbn) (by decide) rfl rfl (Nat.le_of_ble_eq_true rfl) ?_
    rw [e47]
    rintro _ _ ⟨rfl, rfl⟩
    refine g_bipush (v := 59) dX11_readPlain_225 (by decide) ?_
    refine g_icmp_ne (tgt := 234) dX11_readPlain_227 (by decide) (fun c_227 => ?_) (fun c_227 => ?_)
    · refine g_ic_0 dX11_readPlain_234 ?_
      refine g_istore_n dX11_readPlain_235 rfl (by decide) ?_
      refine g_aload_n dX11_readPlain_236 rfl rfl ?_
      refine g_dup dX11_readPlain_237 rfl ?_
      refine g_get dX11_readPlain_238 fl_X11_116 hp_46 rfl ?_
      refine g_iload_n dX11_readPlain_241 rfl rfl ?_
      refine g_if_eq (tgt := 249) dX11_readPlain_242 (by decide) (fun c_242 => ?_) (fun c_242 => ?_)
      · refine g_ic_0 dX11_readPlain_249 ?_
        refine g_iadd dX11_readPlain_250 ?_
        refine g_puti dX11_readPlain_251 fw_X11_116 hp_46 (Nat.le_of_ble_eq_true rfl) ?_
        rw [hq_46_3]
        refine g_goto (tgt := 49) dX11_readPlain_254 (by decide) ?_
        refine g_iload_n dX11_readPlain_49 rfl rfl ?_
        refine g_if_eq (tgt := 257) dX11_readPlain_50 (by decide) (fun c_50 => ?_) (fun c_50 => ?_)
        · rw [show up2 (up2 I 46 3 (nI (sk (A0 47) n b))) 46 3 (up2 I 46 3 (nI (sk (A0 47) n b)) 46 3 + 0) = I from by rw [Int32.add_zero, up2_self, hs, ← h3]; exact up2_self]
          rw [hs] at c_227
          exact z_pl257 tp hm hF (hQ (fun b2 q z => by rcases hb with ⟨e1, -⟩ | ⟨D, h, m, c, e1, -⟩; rw [e1] at z; cases z; rw [e1] at z; cases z; exact ⟨hs, c_227⟩))
        · exact absurd rfl c_50
      · exact absurd rfl c_242
    · refine g_ic_1 dX11_readPlain_230 ?_
      refine g_goto (tgt := 235) dX11_readPlain_231 (by decide) ?_
      refine g_istore_n dX11_readPlain_235 rfl (by decide) ?_
      refine g_aload_n dX11_readPlain_236 rfl rfl ?_
      refine g_dup dX11_readPlain_237 rfl ?_
      refine g_get dX11_readPlain_238 fl_X11_116 hp_46 rfl ?_
      refine g_iload_n dX11_readPlain_241 rfl rfl ?_
      refine g_if_eq (tgt := 249) dX11_readPlain_242 (by decide) (fun c_242 => ?_) (fun c_242 => ?_)
      · exact absurd c_242 (by decide)
      · refine g_ic_1 dX11_readPlain_245 ?_
        refine g_goto (tgt := 250) dX11_readPlain_246 (by decide) ?_
        refine g_iadd dX11_readPlain_250 ?_
        refine g_puti dX11_readPlain_251 fw_X11_116 hp_46 (Nat.le_of_ble_eq_true rfl) ?_
        rw [hq_46_3]
        refine g_goto (tgt := 49) dX11_readPlain_254 (by decide) ?_
        rw [hs] at c_227
        have hlt : b < n := bt_lt (by rw [c_227]; decide)
        rcases hb with ⟨-, z⟩ | ⟨D, h, m, c, e1, -, r1, r2, hw⟩
        · exact absurd (Or.inl c_227) z
        · have g := hG b D h m c e1 hs c_227 hlt r1 r2 hw
          rw [up2_up2, up2_at, hs, nI_1]
          exact g

theorem lf3 : ∀ v, v < 256 → lfS 3 (nI v) = if nI v = 115 then 0 else if nI v = 109 then 1 else if nI v = 99 then 2 else (-1) := by decide +kernel
theorem lf3_bt {A0 I0 : Nat → Nat → Int32} {n a : Nat} (tp : tpM A0 I0 n) : lfS 3 (bt (A0 47) n a) = if bt (A0 47) n a = 115 then 0 else if bt (A0 47) n a = 109 then 1 else if bt (A0 47) n a = 99 then 2 else (-1) := by
  by_cases c : a < n
  · obtain ⟨v, v0, v1, v2⟩ := tp.2.2 a c
    rw [bt_in c, v2]
    exact lf3 v v1
  · rw [bt_out (by omega)]
    decide
theorem rom_a {D : ROW} {h : Int32} (hb : 8 ≤ D 9) : roomP 1 D h = 0 := by
  unfold roomP
  rw [if_neg (by decide), if_pos rfl, g143_9, if_pos hb]
theorem rom_b {D : ROW} {h : Int32} (hb : 5 ≤ D 10) : roomP 2 D h = 0 := by
  unfold roomP
  rw [if_neg (by decide), if_neg (by decide), g143_10, if_pos hb]
theorem pcP_no {T : Nat → Int32} {n a : Nat} {q : PRW} {k : Int32} (h : lfS 3 (bt T n (sk T n a)) = k) (h2 : k < 0 ∨ roomP k q.1 q.2 = 0) : pcP T n a q = .inl (sk T n a) := by
  unfold pcP
  rw [h, if_pos h2]
theorem pcP_k {T : Nat → Int32} {n a : Nat} {q : PRW} {k : Int32} (h : lfS 3 (bt T n (sk T n a)) = k) (h2 : ¬ (k < 0 ∨ roomP k q.1 q.2 = 0)) : pcP T n a q = ppB (if k = 0 then 1 else q.2) (itL T n k (begV k q.1) 6 (sk T n (sk T n a + 1)) 0 (usP (begD k q.1) k (begV k q.1))) := by
  unfold pcP
  rw [h, if_neg h2, itL_sk]
/-- from items to a clause -/
theorem FR_of {A0 A I A1 I1 : Nat → Nat → Int32} {n ar kd f0 p0 w m c : Nat} {D0 : ROW} {h' : Int32} {R : PR ROW} {I2 : Nat → Nat → Int32} (q : ITQ (A0 47) n ar kd f0 p0 w D0 A I R A1 I1) (e : ∀ k, k = 3 ∨ k = 4 → I2 46 k = I1 46 k) (hk : ∀ D', DX p0 w D0 D' → IR ar kd f0 p0 w D' A1 → I2 46 20 = nI m ∧ I2 46 21 = nI c ∧ PW m c D' A1) : FR (A0 47) n (ppB h' R) A1 I2 := by
  obtain ⟨-, -, ⟨p, e1, e2, e3⟩ | ⟨e2, b, e3, e4, e5, ⟨e6, e7⟩ | ⟨D', e6, e7, e8, e9⟩⟩⟩ := q
  · rw [e1]
    exact Or.inl ⟨p, rfl, (e 4 (Or.inr rfl)).trans e2, e3⟩
  · rw [e6]
    exact Or.inr ⟨(e 4 (Or.inr rfl)).trans e2, b, (e 3 (Or.inl rfl)).trans e3, e4, e5, Or.inl ⟨rfl, e7⟩⟩
  · rw [e6]
    obtain ⟨k1, k2, k3⟩ := hk D' e8 e9
    exact Or.inr ⟨(e 4 (Or.inr rfl)).trans e2, b, (e 3 (Or.inl rfl)).trans e3, e4, e5, Or.inr ⟨D', h', m, c, rfl, e7, k1, k2, k3⟩⟩
theorem PG_it {T : Nat → Int32} {n : Nat} {k place : Int32} : ∀ f a had D b D', itL T n k place f a had D = .inr (b, D') → a ≤ b
  | 0, a, had, D, b, D', h => by cases h; exact Nat.le_refl _
  | f + 1, a, had, D, b, D', h => by
    have hk := sk_ge (T := T) (n := n) (a := a)
    unfold itL at h
    split at h
    · cases h; exact hk
    · split at h
      · cases h
      · cases hnp : numP T n 2 (gt 15 m_lo (k * 5 + lfS (txI k) (bt T n (sk T n a)))) (gt 15 m_hi (k * 5 + lfS (txI k) (bt T n (sk T n a)))) (sk T n a + 1) with
        | inl p => rw [hnp] at h; cases h
        | inr x =>
          obtain ⟨d, v⟩ := x
          rw [hnp] at h
          simp only at h
          have h1 := PG_it f _ _ _ b D' h
          have hg := dgL_ge (T := T) (n := n) 2 (sk T n (sk T n a + 1)) 0
          have hk2 := sk_ge (T := T) (n := n) (a := sk T n a + 1)
          unfold numP at hnp
          split at hnp
          · split at hnp
            · cases hnp
            · split at hnp
              · cases hnp
              · cases hnp; omega
          · cases hnp
theorem PG_pc {T : Nat → Int32} {n a : Nat} {q : PRW} {b : Nat} {q' : PRW} (h : pcP T n a q = .inr (b, q')) : a + 1 ≤ b := by
  have hk := sk_ge (T := T) (n := n) (a := a)
  unfold pcP at h
  split at h
  · cases h
  · cases hx : itL T n (lfS 3 (bt T n (sk T n a))) (begV (lfS 3 (bt T n (sk T n a))) q.1) 6 (sk T n a + 1) 0 (usP (begD (lfS 3 (bt T n (sk T n a))) q.1) (lfS 3 (bt T n (sk T n a))) (begV (lfS 3 (bt T n (sk T n a))) q.1)) with
    | inl p => rw [hx] at h; cases h
    | inr x =>
      obtain ⟨d, D'⟩ := x
      rw [hx] at h
      have := PG_it _ _ _ _ _ _ hx
      cases h
      omega
theorem pb_h {h' h2 : Int32} {R : PR ROW} {b : Nat} {D2 : ROW} (h : ppB h' R = .inr (b, (D2, h2))) : h2 = h' := by
  cases R with
  | inl p => cases h
  | inr x => cases h; rfl
set_option maxHeartbeats 800000 in
set_option maxRecDepth 100000 in
theorem e_pl49 {A0 I0 : Nat → Nat → Int32} {L : Nat → Nat → Int64} {X : Nat → Int64} {n : Nat} {Q : Option Value → m_H → Prop} (tp : tpM A0 I0 n) : ∀ f a D h A I m c, mP A0 I0 A I → I 46 4 = (-1) → I 46 3 = nI a → a ≤ n → I 46 20 = nI m → I 46 21 = nI c → PW m c D A → (h = 0 ∨ h = 1) → n ≤ a + f → (∀ A1 I1, mP A0 I0 A1 I1 → PLQ (A0 47) n (ppE (A0 47) n (ppL (A0 47) n f (pcP (A0 47) n a (D, h)))) A1 I1 → Q (some (.int (lawV (ppE (A0 47) n (ppL (A0 47) n f (pcP (A0 47) n a (D, h))))))) (hp A1 L I1 X)) → ∀ x, G 6 RX11 cX11_readPlain 4 (some .int) Q 49 [some (.ref 46), some (.int (h)), some (.int (1)), x] [] (hp A L I X) := by
  intro f
  induction f using Nat.strongRecOn with
  | ind f ih =>
    intro a D h A I m c hm w1 h3 ha r20 r21 hw hh hf hQ x
    obtain ⟨tp1, e47⟩ := mP_tp tp hm
    refine g_iload_n dX11_readPlain_49 rfl rfl ?_
    refine g_if_eq (tgt := 257) dX11_readPlain_50 (by decide) (fun c_50 => ?_) (fun c_50 => ?_)
    · exact absurd c_50 (by decide)
    · refine g_aload_n dX11_readPlain_53 rfl rfl ?_
      refine g_get dX11_readPlain_54 fl_X11_123 hp_46 rfl ?_
      refine g_ic_m1 dX11_readPlain_57 ?_
      refine g_icmp_ne (tgt := 257) dX11_readPlain_58 (by decide) (fun c_58 => ?_) (fun c_58 => ?_)
      · exact absurd w1 c_58
      · refine g_aload_n dX11_readPlain_61 rfl rfl ?_
        refine g_callV dX11_readPlain_62 cv_X11_135 (as' := []) hp_46 rfl (e_look tp1.1 tp1.2.1 h3 ha) (by decide) rfl rfl (Nat.le_of_ble_eq_true rfl) ?_
        rw [e47]
        rintro _ _ ⟨rfl, rfl⟩
        refine g_istore_n dX11_readPlain_65 rfl (by decide) ?_
        have k4 : (up2 I 46 3 (nI (sk (A0 47) n a))) 46 4 = (-1) := (up2_ne (by decide)).trans w1
        have k20 : (up2 I 46 3 (nI (sk (A0 47) n a))) 46 20 = nI m := (up2_ne (by decide)).trans r20
        have k21 : (up2 I 46 3 (nI (sk (A0 47) n a))) 46 21 = nI c := (up2_ne (by decide)).trans r21
        refine g_iload_n dX11_readPlain_66 rfl rfl ?_
        refine g_bipush (v := 115) dX11_readPlain_67 (by decide) ?_
        refine g_icmp_ne (tgt := 102) dX11_readPlain_69 (by decide) (fun c_69 => ?_) (fun c_69 => ?_)
        · refine g_iload_n dX11_readPlain_102 rfl rfl ?_
          refine g_bipush (v := 109) dX11_readPlain_103 (by decide) ?_
          refine g_icmp_ne (tgt := 156) dX11_readPlain_105 (by decide) (fun c_105 => ?_) (fun c_105 => ?_)
          · refine g_iload_n dX11_readPlain_156 rfl rfl ?_
            refine g_bipush (v := 99) dX11_readPlain_157 (by decide) ?_
            refine g_icmp_ne (tgt := 209) dX11_readPlain_159 (by decide) (fun c_159 => ?_) (fun c_159 => ?_)
            · refine g_aload_n dX11_readPlain_209 rfl rfl ?_
              refine g_callV dX11_readPlain_210 cv_X11_132 (as' := []) hp_46 rfl e_bad (by decide) rfl rfl (Nat.le_of_ble_eq_true rfl) ?_
              rintro _ _ ⟨rfl, rfl⟩
              refine g_loc (ls' := [some (.ref 46), some (.int (h)), none, none]) (fun i v h => by rcases i with _|_|_|_|_ <;> first | exact h | cases h) ?_
              have hpc : (pcP (A0 47) n a (D, h)) = .inl (sk (A0 47) n a) := pcP_no (q := (D, h)) (k := (-1)) (by rw [lf3_bt tp, if_neg c_69, if_neg c_105, if_neg c_159]) (Or.inl (by decide))
              rw [if_pos k4]
              have hm9 : mP A0 I0 A (up2 (up2 I 46 3 (nI (sk (A0 47) n a))) 46 4 ((up2 I 46 3 (nI (sk (A0 47) n a))) 46 3)) := mP_I (mP_I hm (Or.inl rfl)) (Or.inr (Or.inl rfl))
              have hF : FR (A0 47) n (pcP (A0 47) n a (D, h)) A (up2 (up2 I 46 3 (nI (sk (A0 47) n a))) 46 4 ((up2 I 46 3 (nI (sk (A0 47) n a))) 46 3)) := by
                rw [hpc]
                exact Or.inl ⟨(sk (A0 47) n a), rfl, by rw [up2_at, up2_at], sk_le ha⟩
              refine z_pl213 (s := (pcP (A0 47) n a (D, h))) tp hm9 hF (fun b D2 h2 m2 c2 z1 z2 z3 z4 z5 z6 z7 => by rw [hpc] at z1; cases z1) (fun z A8 I8 y1 y2 => ?_)
              rw [ppL_id z] at hQ
              exact hQ A8 I8 y1 y2
            · refine g_aload_n dX11_readPlain_162 rfl rfl ?_
              refine g_get dX11_readPlain_163 fl_X11_248 hp_46 rfl ?_
              refine g_ic_5 dX11_readPlain_166 ?_
              refine g_icmp_ge (tgt := 209) dX11_readPlain_167 (by decide) (fun c_167 => ?_) (fun c_167 => ?_)
              · refine g_aload_n dX11_readPlain_209 rfl rfl ?_
                refine g_callV dX11_readPlain_210 cv_X11_132 (as' := []) hp_46 rfl e_bad (by decide) rfl rfl (Nat.le_of_ble_eq_true rfl) ?_
                rintro _ _ ⟨rfl, rfl⟩
                refine g_loc (ls' := [some (.ref 46), some (.int (h)), none, none]) (fun i v h => by rcases i with _|_|_|_|_ <;> first | exact h | cases h) ?_
                have hpc : (pcP (A0 47) n a (D, h)) = .inl (sk (A0 47) n a) := pcP_no (q := (D, h)) (k := 2) (by rw [lf3_bt tp, if_neg c_69, if_neg c_105, if_pos c_159]) (Or.inr (rom_b (by show (5 : Int32) ≤ D 10; rw [hw.1.2.2.2, ← k21]; exact c_167)))
                rw [if_pos k4]
                have hm9 : mP A0 I0 A (up2 (up2 I 46 3 (nI (sk (A0 47) n a))) 46 4 ((up2 I 46 3 (nI (sk (A0 47) n a))) 46 3)) := mP_I (mP_I hm (Or.inl rfl)) (Or.inr (Or.inl rfl))
                have hF : FR (A0 47) n (pcP (A0 47) n a (D, h)) A (up2 (up2 I 46 3 (nI (sk (A0 47) n a))) 46 4 ((up2 I 46 3 (nI (sk (A0 47) n a))) 46 3)) := by
                  rw [hpc]
                  exact Or.inl ⟨(sk (A0 47) n a), rfl, by rw [up2_at, up2_at], sk_le ha⟩
                refine z_pl213 (s := (pcP (A0 47) n a (D, h))) tp hm9 hF (fun b D2 h2 m2 c2 z1 z2 z3 z4 z5 z6 z7 => by rw [hpc] at z1; cases z1) (fun z A8 I8 y1 y2 => ?_)
                rw [ppL_id z] at hQ
                exact hQ A8 I8 y1 y2
              · have hlt : (sk (A0 47) n a) < n := bt_lt (by rw [c_159]; decide)
                have tp3 : tpM A (up2 (up2 I 46 3 (nI (sk (A0 47) n a))) 46 3 ((up2 I 46 3 (nI (sk (A0 47) n a))) 46 3 + 1)) n := ⟨by rw [up2_ne (by decide), up2_ne (by decide)]; exact tp1.1, tp1.2⟩
                have hc5 : c < 5 := by rw [k21] at c_167; have := Nat.not_le.mp (fun z => c_167 ((nI_leI (a := 5) (b := c) (by decide) (by have := hw.1.2.1; omega)).mpr z)); omega
                refine g_aload_n dX11_readPlain_170 rfl rfl ?_
                refine g_dup dX11_readPlain_171 rfl ?_
                refine g_get dX11_readPlain_172 fl_X11_116 hp_46 rfl ?_
                refine g_ic_1 dX11_readPlain_175 ?_
                refine g_iadd dX11_readPlain_176 ?_
                refine g_puti dX11_readPlain_177 fw_X11_116 hp_46 (Nat.le_of_ble_eq_true rfl) ?_
                rw [hq_46_3]
                rw [c_159]
                refine g_aload_n dX11_readPlain_180 rfl rfl ?_
                refine g_iload_n dX11_readPlain_181 rfl rfl ?_
                refine g_aload_n dX11_readPlain_182 rfl rfl ?_
                refine g_get dX11_readPlain_183 fl_X11_46 hp_46 rfl ?_
                refine g_ic_3 dX11_readPlain_186 ?_
                refine g_aload_n dX11_readPlain_187 rfl rfl ?_
                refine g_get dX11_readPlain_188 fl_X11_248 hp_46 rfl ?_
                refine g_imul dX11_readPlain_191 ?_
                refine g_ic_3 dX11_readPlain_192 ?_
                refine g_callV dX11_readPlain_193 cv_X11_251 (as' := [_, _, _, _]) hp_46 rfl (e_items2 (b := (sk (A0 47) n a) + 1) (p0 := 53 + 6 * c) (f0 := 3 * c) (D := upd D 10 (nI (c + 1))) tp3 (by rw [up2_ne (by decide), k21, show (3 : Int32) = nI 3 from rfl, pk_mul]) (by omega) (by omega) (by rw [up2_at, up2_at, nI_1]) hlt (by rw [up2_ne (by decide)]; exact k4)) (by decide) rfl rfl (Nat.le_of_ble_eq_true rfl) ?_
                rw [e47]
                rintro _ _ ⟨rfl, A9, I9, q9, rfl⟩
                refine g_aload_n dX11_readPlain_196 rfl rfl ?_
                refine g_dup dX11_readPlain_197 rfl ?_
                refine g_get dX11_readPlain_198 fl_X11_248 hp_46 rfl ?_
                refine g_ic_1 dX11_readPlain_201 ?_
                refine g_iadd dX11_readPlain_202 ?_
                refine g_puti dX11_readPlain_203 fw_X11_248 hp_46 (Nat.le_of_ble_eq_true rfl) ?_
                rw [hq_46_21]
                refine g_goto (tgt := 213) dX11_readPlain_206 (by decide) ?_
                refine g_loc (ls' := [some (.ref 46), some (.int (h)), none, none]) (fun i v h => by rcases i with _|_|_|_|_ <;> first | exact h | cases h) ?_
                have hpc : (pcP (A0 47) n a (D, h)) = ppB h (itL (A0 47) n (nI 2) (nI (53 + 6 * c)) 6 (sk (A0 47) n ((sk (A0 47) n a) + 1)) 0 (usP (upd D 10 (nI (c + 1))) (nI 2) (nI (53 + 6 * c)))) := by
                  have e := pcP_k (T := A0 47) (n := n) (a := a) (q := (D, h)) (k := 2) (by rw [lf3_bt tp, if_neg (by rw [c_159]; decide), if_neg (by rw [c_159]; decide), if_pos c_159]) (fun z => z.elim (fun w => absurd w (by decide)) (fun w => absurd w (by show ¬ (if (5 : Int32) ≤ gt 143 D 10 then (0 : Int32) else 1) = 0; rw [g143_10, hw.1.2.2.2, if_neg (fun q => by have := (nI_leI (a := 5) (b := c) (by decide) (by omega)).mp q; omega)]; decide)))
                  have eb : begD 2 D = upd D 10 (nI (c + 1)) := by
                    show pt 143 D 10 (gt 143 D 10 + 1) = _
                    rw [show (10 : Int32) = nI 10 from rfl, pt_nI (by decide) (by decide), gt_nI (by decide) (by decide), hw.1.2.2.2, nI_1]
                  have ev : begV 2 D = nI (53 + 6 * c) := by
                    show 53 + (gt 143 (begD 2 D) 10 - 1) * 6 = _
                    rw [eb, g143_10, ud_at, show (1 : Int32) = nI 1 from rfl, pk_sub (by omega), show (6 : Int32) = nI 6 from rfl, pk_mul, show (53 : Int32) = nI 53 from rfl, nI_add, show 53 + (c + 1 - 1) * 6 = 53 + 6 * c by omega]
                  rw [show begD 2 (D, h).1 = begD 2 D from rfl, show begV 2 (D, h).1 = begV 2 D from rfl, eb, ev] at e
                  exact e
                have hm9 : mP A0 I0 A9 (up2 I9 46 21 (I9 46 21 + 1)) := mP_I (mP_X (mP_I (mP_I hm (Or.inl rfl)) (Or.inl rfl)) (Or.inr (Or.inr rfl)) q9.1 q9.2.1) (Or.inr (Or.inr (Or.inr rfl)))
                have w9 : ∀ {b D2 h2}, (pcP (A0 47) n a (D, h)) = .inr (b, (D2, h2)) → (up2 I9 46 21 (I9 46 21 + 1)) 46 4 = (-1) := fun z1 => by
                  rw [hpc] at z1
                  obtain ⟨-, -, ⟨p, e1, -⟩ | ⟨e2, -⟩⟩ := q9
                  · rw [e1] at z1; cases z1
                  · exact (up2_ne (by decide)).trans e2
                have hF : FR (A0 47) n (pcP (A0 47) n a (D, h)) A9 (up2 I9 46 21 (I9 46 21 + 1)) := by
                  rw [hpc]
                  exact FR_of q9 (fun k hk => up2_ne (by omega)) (fun D' d1 d2 => ⟨(up2_ne (by decide)).trans ((q9.2.1 46 20 (by decide)).trans ((up2_ne (by decide)).trans ((up2_ne (by decide)).trans r20))), by rw [up2_at, (q9.2.1 46 21 (by decide)).trans ((up2_ne (by decide)).trans ((up2_ne (by decide)).trans r21)), nI_1], PW_2 hw hc5 d1 q9.1 d2⟩)
                refine z_pl213 (s := (pcP (A0 47) n a (D, h))) (hv := h) tp hm9 hF (fun b D2 h2 m2 c2 z1 z2 z3 z4 z5 z6 z7 => ?_) (fun z A8 I8 y1 y2 => ?_)
                · obtain ⟨f2, rfl⟩ : ∃ f2, f = f2 + 1 := ⟨f - 1, by have := PG_pc z1; omega⟩
                  have hh2 : h2 = h := by rw [hpc] at z1; exact pb_h z1
                  subst hh2
                  refine ih f2 (Nat.lt_succ_self f2) (b + 1) D2 _ A9 _ m2 c2 (mP_I hm9 (Or.inl rfl)) ((up2_ne (by decide)).trans (w9 z1)) up2_at z4 ((up2_ne (by decide)).trans z5) ((up2_ne (by decide)).trans z6) z7 hh (by have := PG_pc z1; omega) ?_ _
                  intro A8 I8 y1 y2
                  rw [z1, ppL_go z2 z3] at hQ
                  exact hQ A8 I8 y1 y2
                · rw [ppL_id z] at hQ
                  exact hQ A8 I8 y1 y2
          · refine g_aload_n dX11_readPlain_108 rfl rfl ?_
            refine g_get dX11_readPlain_109 fl_X11_245 hp_46 rfl ?_
            refine g_bipush (v := 8) dX11_readPlain_112 (by decide) ?_
            refine g_icmp_ge (tgt := 156) dX11_readPlain_114 (by decide) (fun c_114 => ?_) (fun c_114 => ?_)
            · refine g_iload_n dX11_readPlain_156 rfl rfl ?_
              refine g_bipush (v := 99) dX11_readPlain_157 (by decide) ?_
              refine g_icmp_ne (tgt := 209) dX11_readPlain_159 (by decide) (fun c_159 => ?_) (fun c_159 => ?_)
              · refine g_aload_n dX11_readPlain_209 rfl rfl ?_
                refine g_callV dX11_readPlain_210 cv_X11_132 (as' := []) hp_46 rfl e_bad (by decide) rfl rfl (Nat.le_of_ble_eq_true rfl) ?_
                rintro _ _ ⟨rfl, rfl⟩
                refine g_loc (ls' := [some (.ref 46), some (.int (h)), none, none]) (fun i v h => by rcases i with _|_|_|_|_ <;> first | exact h | cases h) ?_
                have hpc : (pcP (A0 47) n a (D, h)) = .inl (sk (A0 47) n a) := pcP_no (q := (D, h)) (k := 1) (by rw [lf3_bt tp, if_neg c_69, if_pos c_105]) (Or.inr (rom_a (by show (8 : Int32) ≤ D 9; rw [hw.1.2.2.1, ← k20]; exact c_114)))
                rw [if_pos k4]
                have hm9 : mP A0 I0 A (up2 (up2 I 46 3 (nI (sk (A0 47) n a))) 46 4 ((up2 I 46 3 (nI (sk (A0 47) n a))) 46 3)) := mP_I (mP_I hm (Or.inl rfl)) (Or.inr (Or.inl rfl))
                have hF : FR (A0 47) n (pcP (A0 47) n a (D, h)) A (up2 (up2 I 46 3 (nI (sk (A0 47) n a))) 46 4 ((up2 I 46 3 (nI (sk (A0 47) n a))) 46 3)) := by
                  rw [hpc]
                  exact Or.inl ⟨(sk (A0 47) n a), rfl, by rw [up2_at, up2_at], sk_le ha⟩
                refine z_pl213 (s := (pcP (A0 47) n a (D, h))) tp hm9 hF (fun b D2 h2 m2 c2 z1 z2 z3 z4 z5 z6 z7 => by rw [hpc] at z1; cases z1) (fun z A8 I8 y1 y2 => ?_)
                rw [ppL_id z] at hQ
                exact hQ A8 I8 y1 y2
              · refine g_aload_n dX11_readPlain_162 rfl rfl ?_
                refine g_get dX11_readPlain_163 fl_X11_248 hp_46 rfl ?_
                refine g_ic_5 dX11_readPlain_166 ?_
                refine g_icmp_ge (tgt := 209) dX11_readPlain_167 (by decide) (fun c_167 => ?_) (fun c_167 => ?_)
                · refine g_aload_n dX11_readPlain_209 rfl rfl ?_
                  refine g_callV dX11_readPlain_210 cv_X11_132 (as' := []) hp_46 rfl e_bad (by decide) rfl rfl (Nat.le_of_ble_eq_true rfl) ?_
                  rintro _ _ ⟨rfl, rfl⟩
                  refine g_loc (ls' := [some (.ref 46), some (.int (h)), none, none]) (fun i v h => by rcases i with _|_|_|_|_ <;> first | exact h | cases h) ?_
                  have hpc : (pcP (A0 47) n a (D, h)) = .inl (sk (A0 47) n a) := pcP_no (q := (D, h)) (k := 1) (by rw [lf3_bt tp, if_neg c_69, if_pos c_105]) (Or.inr (rom_a (by show (8 : Int32) ≤ D 9; rw [hw.1.2.2.1, ← k20]; exact c_114)))
                  rw [if_pos k4]
                  have hm9 : mP A0 I0 A (up2 (up2 I 46 3 (nI (sk (A0 47) n a))) 46 4 ((up2 I 46 3 (nI (sk (A0 47) n a))) 46 3)) := mP_I (mP_I hm (Or.inl rfl)) (Or.inr (Or.inl rfl))
                  have hF : FR (A0 47) n (pcP (A0 47) n a (D, h)) A (up2 (up2 I 46 3 (nI (sk (A0 47) n a))) 46 4 ((up2 I 46 3 (nI (sk (A0 47) n a))) 46 3)) := by
                    rw [hpc]
                    exact Or.inl ⟨(sk (A0 47) n a), rfl, by rw [up2_at, up2_at], sk_le ha⟩
                  refine z_pl213 (s := (pcP (A0 47) n a (D, h))) tp hm9 hF (fun b D2 h2 m2 c2 z1 z2 z3 z4 z5 z6 z7 => by rw [hpc] at z1; cases z1) (fun z A8 I8 y1 y2 => ?_)
                  rw [ppL_id z] at hQ
                  exact hQ A8 I8 y1 y2
                · have hlt : (sk (A0 47) n a) < n := bt_lt (by rw [c_159]; decide)
                  have tp3 : tpM A (up2 (up2 I 46 3 (nI (sk (A0 47) n a))) 46 3 ((up2 I 46 3 (nI (sk (A0 47) n a))) 46 3 + 1)) n := ⟨by rw [up2_ne (by decide), up2_ne (by decide)]; exact tp1.1, tp1.2⟩
                  have hc5 : c < 5 := by rw [k21] at c_167; have := Nat.not_le.mp (fun z => c_167 ((nI_leI (a := 5) (b := c) (by decide) (by have := hw.1.2.1; omega)).mpr z)); omega
                  refine g_aload_n dX11_readPlain_170 rfl rfl ?_
                  refine g_dup dX11_readPlain_171 rfl ?_
                  refine g_get dX11_readPlain_172 fl_X11_116 hp_46 rfl ?_
                  refine g_ic_1 dX11_readPlain_175 ?_
                  refine g_iadd dX11_readPlain_176 ?_
                  refine g_puti dX11_readPlain_177 fw_X11_116 hp_46 (Nat.le_of_ble_eq_true rfl) ?_
                  rw [hq_46_3]
                  rw [c_159]
                  refine g_aload_n dX11_readPlain_180 rfl rfl ?_
                  refine g_iload_n dX11_readPlain_181 rfl rfl ?_
                  refine g_aload_n dX11_readPlain_182 rfl rfl ?_
                  refine g_get dX11_readPlain_183 fl_X11_46 hp_46 rfl ?_
                  refine g_ic_3 dX11_readPlain_186 ?_
                  refine g_aload_n dX11_readPlain_187 rfl rfl ?_
                  refine g_get dX11_readPlain_188 fl_X11_248 hp_46 rfl ?_
                  refine g_imul dX11_readPlain_191 ?_
                  refine g_ic_3 dX11_readPlain_192 ?_
                  refine g_callV dX11_readPlain_193 cv_X11_251 (as' := [_, _, _, _]) hp_46 rfl (e_items2 (b := (sk (A0 47) n a) + 1) (p0 := 53 + 6 * c) (f0 := 3 * c) (D := upd D 10 (nI (c + 1))) tp3 (by rw [up2_ne (by decide), k21, show (3 : Int32) = nI 3 from rfl, pk_mul]) (by omega) (by omega) (by rw [up2_at, up2_at, nI_1]) hlt (by rw [up2_ne (by decide)]; exact k4)) (by decide) rfl rfl (Nat.le_of_ble_eq_true rfl) ?_
                  rw [e47]
                  rintro _ _ ⟨rfl, A9, I9, q9, rfl⟩
                  refine g_aload_n dX11_readPlain_196 rfl rfl ?_
                  refine g_dup dX11_readPlain_197 rfl ?_
                  refine g_get dX11_readPlain_198 fl_X11_248 hp_46 rfl ?_
                  refine g_ic_1 dX11_readPlain_201 ?_
                  refine g_iadd dX11_readPlain_202 ?_
                  refine g_puti dX11_readPlain_203 fw_X11_248 hp_46 (Nat.le_of_ble_eq_true rfl) ?_
                  rw [hq_46_21]
                  refine g_goto (tgt := 213) dX11_readPlain_206 (by decide) ?_
                  refine g_loc (ls' := [some (.ref 46), some (.int (h)), none, none]) (fun i v h => by rcases i with _|_|_|_|_ <;> first | exact h | cases h) ?_
                  have hpc : (pcP (A0 47) n a (D, h)) = ppB h (itL (A0 47) n (nI 2) (nI (53 + 6 * c)) 6 (sk (A0 47) n ((sk (A0 47) n a) + 1)) 0 (usP (upd D 10 (nI (c + 1))) (nI 2) (nI (53 + 6 * c)))) := by
                    have e := pcP_k (T := A0 47) (n := n) (a := a) (q := (D, h)) (k := 2) (by rw [lf3_bt tp, if_neg (by rw [c_159]; decide), if_neg (by rw [c_159]; decide), if_pos c_159]) (fun z => z.elim (fun w => absurd w (by decide)) (fun w => absurd w (by show ¬ (if (5 : Int32) ≤ gt 143 D 10 then (0 : Int32) else 1) = 0; rw [g143_10, hw.1.2.2.2, if_neg (fun q => by have := (nI_leI (a := 5) (b := c) (by decide) (by omega)).mp q; omega)]; decide)))
                    have eb : begD 2 D = upd D 10 (nI (c + 1)) := by
                      show pt 143 D 10 (gt 143 D 10 + 1) = _
                      rw [show (10 : Int32) = nI 10 from rfl, pt_nI (by decide) (by decide), gt_nI (by decide) (by decide), hw.1.2.2.2, nI_1]
                    have ev : begV 2 D = nI (53 + 6 * c) := by
                      show 53 + (gt 143 (begD 2 D) 10 - 1) * 6 = _
                      rw [eb, g143_10, ud_at, show (1 : Int32) = nI 1 from rfl, pk_sub (by omega), show (6 : Int32) = nI 6 from rfl, pk_mul, show (53 : Int32) = nI 53 from rfl, nI_add, show 53 + (c + 1 - 1) * 6 = 53 + 6 * c by omega]
                    rw [show begD 2 (D, h).1 = begD 2 D from rfl, show begV 2 (D, h).1 = begV 2 D from rfl, eb, ev] at e
                    exact e
                  have hm9 : mP A0 I0 A9 (up2 I9 46 21 (I9 46 21 + 1)) := mP_I (mP_X (mP_I (mP_I hm (Or.inl rfl)) (Or.inl rfl)) (Or.inr (Or.inr rfl)) q9.1 q9.2.1) (Or.inr (Or.inr (Or.inr rfl)))
                  have w9 : ∀ {b D2 h2}, (pcP (A0 47) n a (D, h)) = .inr (b, (D2, h2)) → (up2 I9 46 21 (I9 46 21 + 1)) 46 4 = (-1) := fun z1 => by
                    rw [hpc] at z1
                    obtain ⟨-, -, ⟨p, e1, -⟩ | ⟨e2, -⟩⟩ := q9
                    · rw [e1] at z1; cases z1
                    · exact (up2_ne (by decide)).trans e2
                  have hF : FR (A0 47) n (pcP (A0 47) n a (D, h)) A9 (up2 I9 46 21 (I9 46 21 + 1)) := by
                    rw [hpc]
                    exact FR_of q9 (fun k hk => up2_ne (by omega)) (fun D' d1 d2 => ⟨(up2_ne (by decide)).trans ((q9.2.1 46 20 (by decide)).trans ((up2_ne (by decide)).trans ((up2_ne (by decide)).trans r20))), by rw [up2_at, (q9.2.1 46 21 (by decide)).trans ((up2_ne (by decide)).trans ((up2_ne (by decide)).trans r21)), nI_1], PW_2 hw hc5 d1 q9.1 d2⟩)
                  refine z_pl213 (s := (pcP (A0 47) n a (D, h))) (hv := h) tp hm9 hF (fun b D2 h2 m2 c2 z1 z2 z3 z4 z5 z6 z7 => ?_) (fun z A8 I8 y1 y2 => ?_)
                  · obtain ⟨f2, rfl⟩ : ∃ f2, f = f2 + 1 := ⟨f - 1, by have := PG_pc z1; omega⟩
                    have hh2 : h2 = h := by rw [hpc] at z1; exact pb_h z1
                    subst hh2
                    refine ih f2 (Nat.lt_succ_self f2) (b + 1) D2 _ A9 _ m2 c2 (mP_I hm9 (Or.inl rfl)) ((up2_ne (by decide)).trans (w9 z1)) up2_at z4 ((up2_ne (by decide)).trans z5) ((up2_ne (by decide)).trans z6) z7 hh (by have := PG_pc z1; omega) ?_ _
                    intro A8 I8 y1 y2
                    rw [z1, ppL_go z2 z3] at hQ
                    exact hQ A8 I8 y1 y2
                  · rw [ppL_id z] at hQ
                    exact hQ A8 I8 y1 y2
            · have hlt : (sk (A0 47) n a) < n := bt_lt (by rw [c_105]; decide)
              have tp3 : tpM A (up2 (up2 I 46 3 (nI (sk (A0 47) n a))) 46 3 ((up2 I 46 3 (nI (sk (A0 47) n a))) 46 3 + 1)) n := ⟨by rw [up2_ne (by decide), up2_ne (by decide)]; exact tp1.1, tp1.2⟩
              have hm8 : m < 8 := by rw [k20] at c_114; have := Nat.not_le.mp (fun z => c_114 ((nI_leI (a := 8) (b := m) (by decide) (by have := hw.1.1; omega)).mpr z)); omega
              refine g_aload_n dX11_readPlain_117 rfl rfl ?_
              refine g_dup dX11_readPlain_118 rfl ?_
              refine g_get dX11_readPlain_119 fl_X11_116 hp_46 rfl ?_
              refine g_ic_1 dX11_readPlain_122 ?_
              refine g_iadd dX11_readPlain_123 ?_
              refine g_puti dX11_readPlain_124 fw_X11_116 hp_46 (Nat.le_of_ble_eq_true rfl) ?_
              rw [hq_46_3]
              rw [c_105]
              refine g_aload_n dX11_readPlain_127 rfl rfl ?_
              refine g_iload_n dX11_readPlain_128 rfl rfl ?_
              refine g_aload_n dX11_readPlain_129 rfl rfl ?_
              refine g_get dX11_readPlain_130 fl_X11_43 hp_46 rfl ?_
              refine g_ic_5 dX11_readPlain_133 ?_
              refine g_aload_n dX11_readPlain_134 rfl rfl ?_
              refine g_get dX11_readPlain_135 fl_X11_245 hp_46 rfl ?_
              refine g_imul dX11_readPlain_138 ?_
              refine g_ic_5 dX11_readPlain_139 ?_
              refine g_callV dX11_readPlain_140 cv_X11_251 (as' := [_, _, _, _]) hp_46 rfl (e_items1 (b := (sk (A0 47) n a) + 1) (p0 := 13 + 5 * m) (f0 := 5 * m) (D := upd D 9 (nI (m + 1))) tp3 (by rw [up2_ne (by decide), k20, show (5 : Int32) = nI 5 from rfl, pk_mul]) (by omega) (by omega) (by rw [up2_at, up2_at, nI_1]) hlt (by rw [up2_ne (by decide)]; exact k4)) (by decide) rfl rfl (Nat.le_of_ble_eq_true rfl) ?_
              rw [e47]
              rintro _ _ ⟨rfl, A9, I9, q9, rfl⟩
              refine g_aload_n dX11_readPlain_143 rfl rfl ?_
              refine g_dup dX11_readPlain_144 rfl ?_
              refine g_get dX11_readPlain_145 fl_X11_245 hp_46 rfl ?_
              refine g_ic_1 dX11_readPlain_148 ?_
              refine g_iadd dX11_readPlain_149 ?_
              refine g_puti dX11_readPlain_150 fw_X11_245 hp_46 (Nat.le_of_ble_eq_true rfl) ?_
              rw [hq_46_20]
              refine g_goto (tgt := 213) dX11_readPlain_153 (by decide) ?_
              refine g_loc (ls' := [some (.ref 46), some (.int (h)), none, none]) (fun i v h => by rcases i with _|_|_|_|_ <;> first | exact h | cases h) ?_
              have hpc : (pcP (A0 47) n a (D, h)) = ppB h (itL (A0 47) n (nI 1) (nI (13 + 5 * m)) 6 (sk (A0 47) n ((sk (A0 47) n a) + 1)) 0 (usP (upd D 9 (nI (m + 1))) (nI 1) (nI (13 + 5 * m)))) := by
                have e := pcP_k (T := A0 47) (n := n) (a := a) (q := (D, h)) (k := 1) (by rw [lf3_bt tp, if_neg (by rw [c_105]; decide), if_pos c_105]) (fun z => z.elim (fun w => absurd w (by decide)) (fun w => absurd w (by show ¬ (if (8 : Int32) ≤ gt 143 D 9 then (0 : Int32) else 1) = 0; rw [g143_9, hw.1.2.2.1, if_neg (fun q => by have := (nI_leI (a := 8) (b := m) (by decide) (by omega)).mp q; omega)]; decide)))
                have eb : begD 1 D = upd D 9 (nI (m + 1)) := by
                  show pt 143 D 9 (gt 143 D 9 + 1) = _
                  rw [p143_9, g143_9, hw.1.2.2.1, nI_1]
                have ev : begV 1 D = nI (13 + 5 * m) := by
                  show 13 + (gt 143 (begD 1 D) 9 - 1) * 5 = _
                  rw [eb, g143_9, ud_at, show (1 : Int32) = nI 1 from rfl, pk_sub (by omega), show (5 : Int32) = nI 5 from rfl, pk_mul, show (13 : Int32) = nI 13 from rfl, nI_add, show 13 + (m + 1 - 1) * 5 = 13 + 5 * m by omega]
                rw [show begD 1 (D, h).1 = begD 1 D from rfl, show begV 1 (D, h).1 = begV 1 D from rfl, eb, ev] at e
                exact e
              have hm9 : mP A0 I0 A9 (up2 I9 46 20 (I9 46 20 + 1)) := mP_I (mP_X (mP_I (mP_I hm (Or.inl rfl)) (Or.inl rfl)) (Or.inr (Or.inl rfl)) q9.1 q9.2.1) (Or.inr (Or.inr (Or.inl rfl)))
              have w9 : ∀ {b D2 h2}, (pcP (A0 47) n a (D, h)) = .inr (b, (D2, h2)) → (up2 I9 46 20 (I9 46 20 + 1)) 46 4 = (-1) := fun z1 => by
                rw [hpc] at z1
                obtain ⟨-, -, ⟨p, e1, -⟩ | ⟨e2, -⟩⟩ := q9
                · rw [e1] at z1; cases z1
                · exact (up2_ne (by decide)).trans e2
              have hF : FR (A0 47) n (pcP (A0 47) n a (D, h)) A9 (up2 I9 46 20 (I9 46 20 + 1)) := by
                rw [hpc]
                exact FR_of q9 (fun k hk => up2_ne (by omega)) (fun D' d1 d2 => ⟨by rw [up2_at, (q9.2.1 46 20 (by decide)).trans ((up2_ne (by decide)).trans ((up2_ne (by decide)).trans r20)), nI_1], (up2_ne (by decide)).trans ((q9.2.1 46 21 (by decide)).trans ((up2_ne (by decide)).trans ((up2_ne (by decide)).trans r21))), PW_1 hw hm8 d1 q9.1 d2⟩)
              refine z_pl213 (s := (pcP (A0 47) n a (D, h))) (hv := h) tp hm9 hF (fun b D2 h2 m2 c2 z1 z2 z3 z4 z5 z6 z7 => ?_) (fun z A8 I8 y1 y2 => ?_)
              · obtain ⟨f2, rfl⟩ : ∃ f2, f = f2 + 1 := ⟨f - 1, by have := PG_pc z1; omega⟩
                have hh2 : h2 = h := by rw [hpc] at z1; exact pb_h z1
                subst hh2
                refine ih f2 (Nat.lt_succ_self f2) (b + 1) D2 _ A9 _ m2 c2 (mP_I hm9 (Or.inl rfl)) ((up2_ne (by decide)).trans (w9 z1)) up2_at z4 ((up2_ne (by decide)).trans z5) ((up2_ne (by decide)).trans z6) z7 hh (by have := PG_pc z1; omega) ?_ _
                intro A8 I8 y1 y2
                rw [z1, ppL_go z2 z3] at hQ
                exact hQ A8 I8 y1 y2
              · rw [ppL_id z] at hQ
                exact hQ A8 I8 y1 y2
        · refine g_iload_n dX11_readPlain_72 rfl rfl ?_
          refine g_if_ne (tgt := 102) dX11_readPlain_73 (by decide) (fun c_73 => ?_) (fun c_73 => ?_)
          · refine g_iload_n dX11_readPlain_102 rfl rfl ?_
            refine g_bipush (v := 109) dX11_readPlain_103 (by decide) ?_
            refine g_icmp_ne (tgt := 156) dX11_readPlain_105 (by decide) (fun c_105 => ?_) (fun c_105 => ?_)
            · refine g_iload_n dX11_readPlain_156 rfl rfl ?_
              refine g_bipush (v := 99) dX11_readPlain_157 (by decide) ?_
              refine g_icmp_ne (tgt := 209) dX11_readPlain_159 (by decide) (fun c_159 => ?_) (fun c_159 => ?_)
              · refine g_aload_n dX11_readPlain_209 rfl rfl ?_
                refine g_callV dX11_readPlain_210 cv_X11_132 (as' := []) hp_46 rfl e_bad (by decide) rfl rfl (Nat.le_of_ble_eq_true rfl) ?_
                rintro _ _ ⟨rfl, rfl⟩
                refine g_loc (ls' := [some (.ref 46), some (.int (h)), none, none]) (fun i v h => by rcases i with _|_|_|_|_ <;> first | exact h | cases h) ?_
                have hpc : (pcP (A0 47) n a (D, h)) = .inl (sk (A0 47) n a) := pcP_no (q := (D, h)) (k := 0) (by rw [lf3_bt tp, if_pos c_69]) (Or.inr (if_neg c_73))
                rw [if_pos k4]
                have hm9 : mP A0 I0 A (up2 (up2 I 46 3 (nI (sk (A0 47) n a))) 46 4 ((up2 I 46 3 (nI (sk (A0 47) n a))) 46 3)) := mP_I (mP_I hm (Or.inl rfl)) (Or.inr (Or.inl rfl))
                have hF : FR (A0 47) n (pcP (A0 47) n a (D, h)) A (up2 (up2 I 46 3 (nI (sk (A0 47) n a))) 46 4 ((up2 I 46 3 (nI (sk (A0 47) n a))) 46 3)) := by
                  rw [hpc]
                  exact Or.inl ⟨(sk (A0 47) n a), rfl, by rw [up2_at, up2_at], sk_le ha⟩
                refine z_pl213 (s := (pcP (A0 47) n a (D, h))) tp hm9 hF (fun b D2 h2 m2 c2 z1 z2 z3 z4 z5 z6 z7 => by rw [hpc] at z1; cases z1) (fun z A8 I8 y1 y2 => ?_)
                rw [ppL_id z] at hQ
                exact hQ A8 I8 y1 y2
              · refine g_aload_n dX11_readPlain_162 rfl rfl ?_
                refine g_get dX11_readPlain_163 fl_X11_248 hp_46 rfl ?_
                refine g_ic_5 dX11_readPlain_166 ?_
                refine g_icmp_ge (tgt := 209) dX11_readPlain_167 (by decide) (fun c_167 => ?_) (fun c_167 => ?_)
                · refine g_aload_n dX11_readPlain_209 rfl rfl ?_
                  refine g_callV dX11_readPlain_210 cv_X11_132 (as' := []) hp_46 rfl e_bad (by decide) rfl rfl (Nat.le_of_ble_eq_true rfl) ?_
                  rintro _ _ ⟨rfl, rfl⟩
                  refine g_loc (ls' := [some (.ref 46), some (.int (h)), none, none]) (fun i v h => by rcases i with _|_|_|_|_ <;> first | exact h | cases h) ?_
                  have hpc : (pcP (A0 47) n a (D, h)) = .inl (sk (A0 47) n a) := pcP_no (q := (D, h)) (k := 0) (by rw [lf3_bt tp, if_pos c_69]) (Or.inr (if_neg c_73))
                  rw [if_pos k4]
                  have hm9 : mP A0 I0 A (up2 (up2 I 46 3 (nI (sk (A0 47) n a))) 46 4 ((up2 I 46 3 (nI (sk (A0 47) n a))) 46 3)) := mP_I (mP_I hm (Or.inl rfl)) (Or.inr (Or.inl rfl))
                  have hF : FR (A0 47) n (pcP (A0 47) n a (D, h)) A (up2 (up2 I 46 3 (nI (sk (A0 47) n a))) 46 4 ((up2 I 46 3 (nI (sk (A0 47) n a))) 46 3)) := by
                    rw [hpc]
                    exact Or.inl ⟨(sk (A0 47) n a), rfl, by rw [up2_at, up2_at], sk_le ha⟩
                  refine z_pl213 (s := (pcP (A0 47) n a (D, h))) tp hm9 hF (fun b D2 h2 m2 c2 z1 z2 z3 z4 z5 z6 z7 => by rw [hpc] at z1; cases z1) (fun z A8 I8 y1 y2 => ?_)
                  rw [ppL_id z] at hQ
                  exact hQ A8 I8 y1 y2
                · have hlt : (sk (A0 47) n a) < n := bt_lt (by rw [c_159]; decide)
                  have tp3 : tpM A (up2 (up2 I 46 3 (nI (sk (A0 47) n a))) 46 3 ((up2 I 46 3 (nI (sk (A0 47) n a))) 46 3 + 1)) n := ⟨by rw [up2_ne (by decide), up2_ne (by decide)]; exact tp1.1, tp1.2⟩
                  have hc5 : c < 5 := by rw [k21] at c_167; have := Nat.not_le.mp (fun z => c_167 ((nI_leI (a := 5) (b := c) (by decide) (by have := hw.1.2.1; omega)).mpr z)); omega
                  refine g_aload_n dX11_readPlain_170 rfl rfl ?_
                  refine g_dup dX11_readPlain_171 rfl ?_
                  refine g_get dX11_readPlain_172 fl_X11_116 hp_46 rfl ?_
                  refine g_ic_1 dX11_readPlain_175 ?_
                  refine g_iadd dX11_readPlain_176 ?_
                  refine g_puti dX11_readPlain_177 fw_X11_116 hp_46 (Nat.le_of_ble_eq_true rfl) ?_
                  rw [hq_46_3]
                  rw [c_159]
                  refine g_aload_n dX11_readPlain_180 rfl rfl ?_
                  refine g_iload_n dX11_readPlain_181 rfl rfl ?_
                  refine g_aload_n dX11_readPlain_182 rfl rfl ?_
                  refine g_get dX11_readPlain_183 fl_X11_46 hp_46 rfl ?_
                  refine g_ic_3 dX11_readPlain_186 ?_
                  refine g_aload_n dX11_readPlain_187 rfl rfl ?_
                  refine g_get dX11_readPlain_188 fl_X11_248 hp_46 rfl ?_
                  refine g_imul dX11_readPlain_191 ?_
                  refine g_ic_3 dX11_readPlain_192 ?_
                  refine g_callV dX11_readPlain_193 cv_X11_251 (as' := [_, _, _, _]) hp_46 rfl (e_items2 (b := (sk (A0 47) n a) + 1) (p0 := 53 + 6 * c) (f0 := 3 * c) (D := upd D 10 (nI (c + 1))) tp3 (by rw [up2_ne (by decide), k21, show (3 : Int32) = nI 3 from rfl, pk_mul]) (by omega) (by omega) (by rw [up2_at, up2_at, nI_1]) hlt (by rw [up2_ne (by decide)]; exact k4)) (by decide) rfl rfl (Nat.le_of_ble_eq_true rfl) ?_
                  rw [e47]
                  rintro _ _ ⟨rfl, A9, I9, q9, rfl⟩
                  refine g_aload_n dX11_readPlain_196 rfl rfl ?_
                  refine g_dup dX11_readPlain_197 rfl ?_
                  refine g_get dX11_readPlain_198 fl_X11_248 hp_46 rfl ?_
                  refine g_ic_1 dX11_readPlain_201 ?_
                  refine g_iadd dX11_readPlain_202 ?_
                  refine g_puti dX11_readPlain_203 fw_X11_248 hp_46 (Nat.le_of_ble_eq_true rfl) ?_
                  rw [hq_46_21]
                  refine g_goto (tgt := 213) dX11_readPlain_206 (by decide) ?_
                  refine g_loc (ls' := [some (.ref 46), some (.int (h)), none, none]) (fun i v h => by rcases i with _|_|_|_|_ <;> first | exact h | cases h) ?_
                  have hpc : (pcP (A0 47) n a (D, h)) = ppB h (itL (A0 47) n (nI 2) (nI (53 + 6 * c)) 6 (sk (A0 47) n ((sk (A0 47) n a) + 1)) 0 (usP (upd D 10 (nI (c + 1))) (nI 2) (nI (53 + 6 * c)))) := by
                    have e := pcP_k (T := A0 47) (n := n) (a := a) (q := (D, h)) (k := 2) (by rw [lf3_bt tp, if_neg (by rw [c_159]; decide), if_neg (by rw [c_159]; decide), if_pos c_159]) (fun z => z.elim (fun w => absurd w (by decide)) (fun w => absurd w (by show ¬ (if (5 : Int32) ≤ gt 143 D 10 then (0 : Int32) else 1) = 0; rw [g143_10, hw.1.2.2.2, if_neg (fun q => by have := (nI_leI (a := 5) (b := c) (by decide) (by omega)).mp q; omega)]; decide)))
                    have eb : begD 2 D = upd D 10 (nI (c + 1)) := by
                      show pt 143 D 10 (gt 143 D 10 + 1) = _
                      rw [show (10 : Int32) = nI 10 from rfl, pt_nI (by decide) (by decide), gt_nI (by decide) (by decide), hw.1.2.2.2, nI_1]
                    have ev : begV 2 D = nI (53 + 6 * c) := by
                      show 53 + (gt 143 (begD 2 D) 10 - 1) * 6 = _
                      rw [eb, g143_10, ud_at, show (1 : Int32) = nI 1 from rfl, pk_sub (by omega), show (6 : Int32) = nI 6 from rfl, pk_mul, show (53 : Int32) = nI 53 from rfl, nI_add, show 53 + (c + 1 - 1) * 6 = 53 + 6 * c by omega]
                    rw [show begD 2 (D, h).1 = begD 2 D from rfl, show begV 2 (D, h).1 = begV 2 D from rfl, eb, ev] at e
                    exact e
                  have hm9 : mP A0 I0 A9 (up2 I9 46 21 (I9 46 21 + 1)) := mP_I (mP_X (mP_I (mP_I hm (Or.inl rfl)) (Or.inl rfl)) (Or.inr (Or.inr rfl)) q9.1 q9.2.1) (Or.inr (Or.inr (Or.inr rfl)))
                  have w9 : ∀ {b D2 h2}, (pcP (A0 47) n a (D, h)) = .inr (b, (D2, h2)) → (up2 I9 46 21 (I9 46 21 + 1)) 46 4 = (-1) := fun z1 => by
                    rw [hpc] at z1
                    obtain ⟨-, -, ⟨p, e1, -⟩ | ⟨e2, -⟩⟩ := q9
                    · rw [e1] at z1; cases z1
                    · exact (up2_ne (by decide)).trans e2
                  have hF : FR (A0 47) n (pcP (A0 47) n a (D, h)) A9 (up2 I9 46 21 (I9 46 21 + 1)) := by
                    rw [hpc]
                    exact FR_of q9 (fun k hk => up2_ne (by omega)) (fun D' d1 d2 => ⟨(up2_ne (by decide)).trans ((q9.2.1 46 20 (by decide)).trans ((up2_ne (by decide)).trans ((up2_ne (by decide)).trans r20))), by rw [up2_at, (q9.2.1 46 21 (by decide)).trans ((up2_ne (by decide)).trans ((up2_ne (by decide)).trans r21)), nI_1], PW_2 hw hc5 d1 q9.1 d2⟩)
                  refine z_pl213 (s := (pcP (A0 47) n a (D, h))) (hv := h) tp hm9 hF (fun b D2 h2 m2 c2 z1 z2 z3 z4 z5 z6 z7 => ?_) (fun z A8 I8 y1 y2 => ?_)
                  · obtain ⟨f2, rfl⟩ : ∃ f2, f = f2 + 1 := ⟨f - 1, by have := PG_pc z1; omega⟩
                    have hh2 : h2 = h := by rw [hpc] at z1; exact pb_h z1
                    subst hh2
                    refine ih f2 (Nat.lt_succ_self f2) (b + 1) D2 _ A9 _ m2 c2 (mP_I hm9 (Or.inl rfl)) ((up2_ne (by decide)).trans (w9 z1)) up2_at z4 ((up2_ne (by decide)).trans z5) ((up2_ne (by decide)).trans z6) z7 hh (by have := PG_pc z1; omega) ?_ _
                    intro A8 I8 y1 y2
                    rw [z1, ppL_go z2 z3] at hQ
                    exact hQ A8 I8 y1 y2
                  · rw [ppL_id z] at hQ
                    exact hQ A8 I8 y1 y2
            · refine g_aload_n dX11_readPlain_108 rfl rfl ?_
              refine g_get dX11_readPlain_109 fl_X11_245 hp_46 rfl ?_
              refine g_bipush (v := 8) dX11_readPlain_112 (by decide) ?_
              refine g_icmp_ge (tgt := 156) dX11_readPlain_114 (by decide) (fun c_114 => ?_) (fun c_114 => ?_)
              · refine g_iload_n dX11_readPlain_156 rfl rfl ?_
                refine g_bipush (v := 99) dX11_readPlain_157 (by decide) ?_
                refine g_icmp_ne (tgt := 209) dX11_readPlain_159 (by decide) (fun c_159 => ?_) (fun c_159 => ?_)
                · refine g_aload_n dX11_readPlain_209 rfl rfl ?_
                  refine g_callV dX11_readPlain_210 cv_X11_132 (as' := []) hp_46 rfl e_bad (by decide) rfl rfl (Nat.le_of_ble_eq_true rfl) ?_
                  rintro _ _ ⟨rfl, rfl⟩
                  refine g_loc (ls' := [some (.ref 46), some (.int (h)), none, none]) (fun i v h => by rcases i with _|_|_|_|_ <;> first | exact h | cases h) ?_
                  have hpc : (pcP (A0 47) n a (D, h)) = .inl (sk (A0 47) n a) := pcP_no (q := (D, h)) (k := 0) (by rw [lf3_bt tp, if_pos c_69]) (Or.inr (if_neg c_73))
                  rw [if_pos k4]
                  have hm9 : mP A0 I0 A (up2 (up2 I 46 3 (nI (sk (A0 47) n a))) 46 4 ((up2 I 46 3 (nI (sk (A0 47) n a))) 46 3)) := mP_I (mP_I hm (Or.inl rfl)) (Or.inr (Or.inl rfl))
                  have hF : FR (A0 47) n (pcP (A0 47) n a (D, h)) A (up2 (up2 I 46 3 (nI (sk (A0 47) n a))) 46 4 ((up2 I 46 3 (nI (sk (A0 47) n a))) 46 3)) := by
                    rw [hpc]
                    exact Or.inl ⟨(sk (A0 47) n a), rfl, by rw [up2_at, up2_at], sk_le ha⟩
                  refine z_pl213 (s := (pcP (A0 47) n a (D, h))) tp hm9 hF (fun b D2 h2 m2 c2 z1 z2 z3 z4 z5 z6 z7 => by rw [hpc] at z1; cases z1) (fun z A8 I8 y1 y2 => ?_)
                  rw [ppL_id z] at hQ
                  exact hQ A8 I8 y1 y2
                · refine g_aload_n dX11_readPlain_162 rfl rfl ?_
                  refine g_get dX11_readPlain_163 fl_X11_248 hp_46 rfl ?_
                  refine g_ic_5 dX11_readPlain_166 ?_
                  refine g_icmp_ge (tgt := 209) dX11_readPlain_167 (by decide) (fun c_167 => ?_) (fun c_167 => ?_)
                  · refine g_aload_n dX11_readPlain_209 rfl rfl ?_
                    refine g_callV dX11_readPlain_210 cv_X11_132 (as' := []) hp_46 rfl e_bad (by decide) rfl rfl (Nat.le_of_ble_eq_true rfl) ?_
                    rintro _ _ ⟨rfl, rfl⟩
                    refine g_loc (ls' := [some (.ref 46), some (.int (h)), none, none]) (fun i v h => by rcases i with _|_|_|_|_ <;> first | exact h | cases h) ?_
                    have hpc : (pcP (A0 47) n a (D, h)) = .inl (sk (A0 47) n a) := pcP_no (q := (D, h)) (k := 0) (by rw [lf3_bt tp, if_pos c_69]) (Or.inr (if_neg c_73))
                    rw [if_pos k4]
                    have hm9 : mP A0 I0 A (up2 (up2 I 46 3 (nI (sk (A0 47) n a))) 46 4 ((up2 I 46 3 (nI (sk (A0 47) n a))) 46 3)) := mP_I (mP_I hm (Or.inl rfl)) (Or.inr (Or.inl rfl))
                    have hF : FR (A0 47) n (pcP (A0 47) n a (D, h)) A (up2 (up2 I 46 3 (nI (sk (A0 47) n a))) 46 4 ((up2 I 46 3 (nI (sk (A0 47) n a))) 46 3)) := by
                      rw [hpc]
                      exact Or.inl ⟨(sk (A0 47) n a), rfl, by rw [up2_at, up2_at], sk_le ha⟩
                    refine z_pl213 (s := (pcP (A0 47) n a (D, h))) tp hm9 hF (fun b D2 h2 m2 c2 z1 z2 z3 z4 z5 z6 z7 => by rw [hpc] at z1; cases z1) (fun z A8 I8 y1 y2 => ?_)
                    rw [ppL_id z] at hQ
                    exact hQ A8 I8 y1 y2
                  · have hlt : (sk (A0 47) n a) < n := bt_lt (by rw [c_159]; decide)
                    have tp3 : tpM A (up2 (up2 I 46 3 (nI (sk (A0 47) n a))) 46 3 ((up2 I 46 3 (nI (sk (A0 47) n a))) 46 3 + 1)) n := ⟨by rw [up2_ne (by decide), up2_ne (by decide)]; exact tp1.1, tp1.2⟩
                    have hc5 : c < 5 := by rw [k21] at c_167; have := Nat.not_le.mp (fun z => c_167 ((nI_leI (a := 5) (b := c) (by decide) (by have := hw.1.2.1; omega)).mpr z)); omega
                    refine g_aload_n dX11_readPlain_170 rfl rfl ?_
                    refine g_dup dX11_readPlain_171 rfl ?_
                    refine g_get dX11_readPlain_172 fl_X11_116 hp_46 rfl ?_
                    refine g_ic_1 dX11_readPlain_175 ?_
                    refine g_iadd dX11_readPlain_176 ?_
                    refine g_puti dX11_readPlain_177 fw_X11_116 hp_46 (Nat.le_of_ble_eq_true rfl) ?_
                    rw [hq_46_3]
                    rw [c_159]
                    refine g_aload_n dX11_readPlain_180 rfl rfl ?_
                    refine g_iload_n dX11_readPlain_181 rfl rfl ?_
                    refine g_aload_n dX11_readPlain_182 rfl rfl ?_
                    refine g_get dX11_readPlain_183 fl_X11_46 hp_46 rfl ?_
                    refine g_ic_3 dX11_readPlain_186 ?_
                    refine g_aload_n dX11_readPlain_187 rfl rfl ?_
                    refine g_get dX11_readPlain_188 fl_X11_248 hp_46 rfl ?_
                    refine g_imul dX11_readPlain_191 ?_
                    refine g_ic_3 dX11_readPlain_192 ?_
                    refine g_callV dX11_readPlain_193 cv_X11_251 (as' := [_, _, _, _]) hp_46 rfl (e_items2 (b := (sk (A0 47) n a) + 1) (p0 := 53 + 6 * c) (f0 := 3 * c) (D := upd D 10 (nI (c + 1))) tp3 (by rw [up2_ne (by decide), k21, show (3 : Int32) = nI 3 from rfl, pk_mul]) (by omega) (by omega) (by rw [up2_at, up2_at, nI_1]) hlt (by rw [up2_ne (by decide)]; exact k4)) (by decide) rfl rfl (Nat.le_of_ble_eq_true rfl) ?_
                    rw [e47]
                    rintro _ _ ⟨rfl, A9, I9, q9, rfl⟩
                    refine g_aload_n dX11_readPlain_196 rfl rfl ?_
                    refine g_dup dX11_readPlain_197 rfl ?_
                    refine g_get dX11_readPlain_198 fl_X11_248 hp_46 rfl ?_
                    refine g_ic_1 dX11_readPlain_201 ?_
                    refine g_iadd dX11_readPlain_202 ?_
                    refine g_puti dX11_readPlain_203 fw_X11_248 hp_46 (Nat.le_of_ble_eq_true rfl) ?_
                    rw [hq_46_21]
                    refine g_goto (tgt := 213) dX11_readPlain_206 (by decide) ?_
                    refine g_loc (ls' := [some (.ref 46), some (.int (h)), none, none]) (fun i v h => by rcases i with _|_|_|_|_ <;> first | exact h | cases h) ?_
                    have hpc : (pcP (A0 47) n a (D, h)) = ppB h (itL (A0 47) n (nI 2) (nI (53 + 6 * c)) 6 (sk (A0 47) n ((sk (A0 47) n a) + 1)) 0 (usP (upd D 10 (nI (c + 1))) (nI 2) (nI (53 + 6 * c)))) := by
                      have e := pcP_k (T := A0 47) (n := n) (a := a) (q := (D, h)) (k := 2) (by rw [lf3_bt tp, if_neg (by rw [c_159]; decide), if_neg (by rw [c_159]; decide), if_pos c_159]) (fun z => z.elim (fun w => absurd w (by decide)) (fun w => absurd w (by show ¬ (if (5 : Int32) ≤ gt 143 D 10 then (0 : Int32) else 1) = 0; rw [g143_10, hw.1.2.2.2, if_neg (fun q => by have := (nI_leI (a := 5) (b := c) (by decide) (by omega)).mp q; omega)]; decide)))
                      have eb : begD 2 D = upd D 10 (nI (c + 1)) := by
                        show pt 143 D 10 (gt 143 D 10 + 1) = _
                        rw [show (10 : Int32) = nI 10 from rfl, pt_nI (by decide) (by decide), gt_nI (by decide) (by decide), hw.1.2.2.2, nI_1]
                      have ev : begV 2 D = nI (53 + 6 * c) := by
                        show 53 + (gt 143 (begD 2 D) 10 - 1) * 6 = _
                        rw [eb, g143_10, ud_at, show (1 : Int32) = nI 1 from rfl, pk_sub (by omega), show (6 : Int32) = nI 6 from rfl, pk_mul, show (53 : Int32) = nI 53 from rfl, nI_add, show 53 + (c + 1 - 1) * 6 = 53 + 6 * c by omega]
                      rw [show begD 2 (D, h).1 = begD 2 D from rfl, show begV 2 (D, h).1 = begV 2 D from rfl, eb, ev] at e
                      exact e
                    have hm9 : mP A0 I0 A9 (up2 I9 46 21 (I9 46 21 + 1)) := mP_I (mP_X (mP_I (mP_I hm (Or.inl rfl)) (Or.inl rfl)) (Or.inr (Or.inr rfl)) q9.1 q9.2.1) (Or.inr (Or.inr (Or.inr rfl)))
                    have w9 : ∀ {b D2 h2}, (pcP (A0 47) n a (D, h)) = .inr (b, (D2, h2)) → (up2 I9 46 21 (I9 46 21 + 1)) 46 4 = (-1) := fun z1 => by
                      rw [hpc] at z1
                      obtain ⟨-, -, ⟨p, e1, -⟩ | ⟨e2, -⟩⟩ := q9
                      · rw [e1] at z1; cases z1
                      · exact (up2_ne (by decide)).trans e2
                    have hF : FR (A0 47) n (pcP (A0 47) n a (D, h)) A9 (up2 I9 46 21 (I9 46 21 + 1)) := by
                      rw [hpc]
                      exact FR_of q9 (fun k hk => up2_ne (by omega)) (fun D' d1 d2 => ⟨(up2_ne (by decide)).trans ((q9.2.1 46 20 (by decide)).trans ((up2_ne (by decide)).trans ((up2_ne (by decide)).trans r20))), by rw [up2_at, (q9.2.1 46 21 (by decide)).trans ((up2_ne (by decide)).trans ((up2_ne (by decide)).trans r21)), nI_1], PW_2 hw hc5 d1 q9.1 d2⟩)
                    refine z_pl213 (s := (pcP (A0 47) n a (D, h))) (hv := h) tp hm9 hF (fun b D2 h2 m2 c2 z1 z2 z3 z4 z5 z6 z7 => ?_) (fun z A8 I8 y1 y2 => ?_)
                    · obtain ⟨f2, rfl⟩ : ∃ f2, f = f2 + 1 := ⟨f - 1, by have := PG_pc z1; omega⟩
                      have hh2 : h2 = h := by rw [hpc] at z1; exact pb_h z1
                      subst hh2
                      refine ih f2 (Nat.lt_succ_self f2) (b + 1) D2 _ A9 _ m2 c2 (mP_I hm9 (Or.inl rfl)) ((up2_ne (by decide)).trans (w9 z1)) up2_at z4 ((up2_ne (by decide)).trans z5) ((up2_ne (by decide)).trans z6) z7 hh (by have := PG_pc z1; omega) ?_ _
                      intro A8 I8 y1 y2
                      rw [z1, ppL_go z2 z3] at hQ
                      exact hQ A8 I8 y1 y2
                    · rw [ppL_id z] at hQ
                      exact hQ A8 I8 y1 y2
              · have hlt : (sk (A0 47) n a) < n := bt_lt (by rw [c_105]; decide)
                have tp3 : tpM A (up2 (up2 I 46 3 (nI (sk (A0 47) n a))) 46 3 ((up2 I 46 3 (nI (sk (A0 47) n a))) 46 3 + 1)) n := ⟨by rw [up2_ne (by decide), up2_ne (by decide)]; exact tp1.1, tp1.2⟩
                have hm8 : m < 8 := by rw [k20] at c_114; have := Nat.not_le.mp (fun z => c_114 ((nI_leI (a := 8) (b := m) (by decide) (by have := hw.1.1; omega)).mpr z)); omega
                refine g_aload_n dX11_readPlain_117 rfl rfl ?_
                refine g_dup dX11_readPlain_118 rfl ?_
                refine g_get dX11_readPlain_119 fl_X11_116 hp_46 rfl ?_
                refine g_ic_1 dX11_readPlain_122 ?_
                refine g_iadd dX11_readPlain_123 ?_
                refine g_puti dX11_readPlain_124 fw_X11_116 hp_46 (Nat.le_of_ble_eq_true rfl) ?_
                rw [hq_46_3]
                rw [c_105]
                refine g_aload_n dX11_readPlain_127 rfl rfl ?_
                refine g_iload_n dX11_readPlain_128 rfl rfl ?_
                refine g_aload_n dX11_readPlain_129 rfl rfl ?_
                refine g_get dX11_readPlain_130 fl_X11_43 hp_46 rfl ?_
                refine g_ic_5 dX11_readPlain_133 ?_
                refine g_aload_n dX11_readPlain_134 rfl rfl ?_
                refine g_get dX11_readPlain_135 fl_X11_245 hp_46 rfl ?_
                refine g_imul dX11_readPlain_138 ?_
                refine g_ic_5 dX11_readPlain_139 ?_
                refine g_callV dX11_readPlain_140 cv_X11_251 (as' := [_, _, _, _]) hp_46 rfl (e_items1 (b := (sk (A0 47) n a) + 1) (p0 := 13 + 5 * m) (f0 := 5 * m) (D := upd D 9 (nI (m + 1))) tp3 (by rw [up2_ne (by decide), k20, show (5 : Int32) = nI 5 from rfl, pk_mul]) (by omega) (by omega) (by rw [up2_at, up2_at, nI_1]) hlt (by rw [up2_ne (by decide)]; exact k4)) (by decide) rfl rfl (Nat.le_of_ble_eq_true rfl) ?_
                rw [e47]
                rintro _ _ ⟨rfl, A9, I9, q9, rfl⟩
                refine g_aload_n dX11_readPlain_143 rfl rfl ?_
                refine g_dup dX11_readPlain_144 rfl ?_
                refine g_get dX11_readPlain_145 fl_X11_245 hp_46 rfl ?_
                refine g_ic_1 dX11_readPlain_148 ?_
                refine g_iadd dX11_readPlain_149 ?_
                refine g_puti dX11_readPlain_150 fw_X11_245 hp_46 (Nat.le_of_ble_eq_true rfl) ?_
                rw [hq_46_20]
                refine g_goto (tgt := 213) dX11_readPlain_153 (by decide) ?_
                refine g_loc (ls' := [some (.ref 46), some (.int (h)), none, none]) (fun i v h => by rcases i with _|_|_|_|_ <;> first | exact h | cases h) ?_
                have hpc : (pcP (A0 47) n a (D, h)) = ppB h (itL (A0 47) n (nI 1) (nI (13 + 5 * m)) 6 (sk (A0 47) n ((sk (A0 47) n a) + 1)) 0 (usP (upd D 9 (nI (m + 1))) (nI 1) (nI (13 + 5 * m)))) := by
                  have e := pcP_k (T := A0 47) (n := n) (a := a) (q := (D, h)) (k := 1) (by rw [lf3_bt tp, if_neg (by rw [c_105]; decide), if_pos c_105]) (fun z => z.elim (fun w => absurd w (by decide)) (fun w => absurd w (by show ¬ (if (8 : Int32) ≤ gt 143 D 9 then (0 : Int32) else 1) = 0; rw [g143_9, hw.1.2.2.1, if_neg (fun q => by have := (nI_leI (a := 8) (b := m) (by decide) (by omega)).mp q; omega)]; decide)))
                  have eb : begD 1 D = upd D 9 (nI (m + 1)) := by
                    show pt 143 D 9 (gt 143 D 9 + 1) = _
                    rw [p143_9, g143_9, hw.1.2.2.1, nI_1]
                  have ev : begV 1 D = nI (13 + 5 * m) := by
                    show 13 + (gt 143 (begD 1 D) 9 - 1) * 5 = _
                    rw [eb, g143_9, ud_at, show (1 : Int32) = nI 1 from rfl, pk_sub (by omega), show (5 : Int32) = nI 5 from rfl, pk_mul, show (13 : Int32) = nI 13 from rfl, nI_add, show 13 + (m + 1 - 1) * 5 = 13 + 5 * m by omega]
                  rw [show begD 1 (D, h).1 = begD 1 D from rfl, show begV 1 (D, h).1 = begV 1 D from rfl, eb, ev] at e
                  exact e
                have hm9 : mP A0 I0 A9 (up2 I9 46 20 (I9 46 20 + 1)) := mP_I (mP_X (mP_I (mP_I hm (Or.inl rfl)) (Or.inl rfl)) (Or.inr (Or.inl rfl)) q9.1 q9.2.1) (Or.inr (Or.inr (Or.inl rfl)))
                have w9 : ∀ {b D2 h2}, (pcP (A0 47) n a (D, h)) = .inr (b, (D2, h2)) → (up2 I9 46 20 (I9 46 20 + 1)) 46 4 = (-1) := fun z1 => by
                  rw [hpc] at z1
                  obtain ⟨-, -, ⟨p, e1, -⟩ | ⟨e2, -⟩⟩ := q9
                  · rw [e1] at z1; cases z1
                  · exact (up2_ne (by decide)).trans e2
                have hF : FR (A0 47) n (pcP (A0 47) n a (D, h)) A9 (up2 I9 46 20 (I9 46 20 + 1)) := by
                  rw [hpc]
                  exact FR_of q9 (fun k hk => up2_ne (by omega)) (fun D' d1 d2 => ⟨by rw [up2_at, (q9.2.1 46 20 (by decide)).trans ((up2_ne (by decide)).trans ((up2_ne (by decide)).trans r20)), nI_1], (up2_ne (by decide)).trans ((q9.2.1 46 21 (by decide)).trans ((up2_ne (by decide)).trans ((up2_ne (by decide)).trans r21))), PW_1 hw hm8 d1 q9.1 d2⟩)
                refine z_pl213 (s := (pcP (A0 47) n a (D, h))) (hv := h) tp hm9 hF (fun b D2 h2 m2 c2 z1 z2 z3 z4 z5 z6 z7 => ?_) (fun z A8 I8 y1 y2 => ?_)
                · obtain ⟨f2, rfl⟩ : ∃ f2, f = f2 + 1 := ⟨f - 1, by have := PG_pc z1; omega⟩
                  have hh2 : h2 = h := by rw [hpc] at z1; exact pb_h z1
                  subst hh2
                  refine ih f2 (Nat.lt_succ_self f2) (b + 1) D2 _ A9 _ m2 c2 (mP_I hm9 (Or.inl rfl)) ((up2_ne (by decide)).trans (w9 z1)) up2_at z4 ((up2_ne (by decide)).trans z5) ((up2_ne (by decide)).trans z6) z7 hh (by have := PG_pc z1; omega) ?_ _
                  intro A8 I8 y1 y2
                  rw [z1, ppL_go z2 z3] at hQ
                  exact hQ A8 I8 y1 y2
                · rw [ppL_id z] at hQ
                  exact hQ A8 I8 y1 y2
          · have hlt : (sk (A0 47) n a) < n := bt_lt (by rw [c_69]; decide)
            have tp3 : tpM A (up2 (up2 I 46 3 (nI (sk (A0 47) n a))) 46 3 ((up2 I 46 3 (nI (sk (A0 47) n a))) 46 3 + 1)) n := ⟨by rw [up2_ne (by decide), up2_ne (by decide)]; exact tp1.1, tp1.2⟩
            refine g_ic_1 dX11_readPlain_76 ?_
            refine g_istore_n dX11_readPlain_77 rfl (by decide) ?_
            refine g_aload_n dX11_readPlain_78 rfl rfl ?_
            refine g_dup dX11_readPlain_79 rfl ?_
            refine g_get dX11_readPlain_80 fl_X11_116 hp_46 rfl ?_
            refine g_ic_1 dX11_readPlain_83 ?_
            refine g_iadd dX11_readPlain_84 ?_
            refine g_puti dX11_readPlain_85 fw_X11_116 hp_46 (Nat.le_of_ble_eq_true rfl) ?_
            rw [hq_46_3]
            rw [c_69]
            refine g_aload_n dX11_readPlain_88 rfl rfl ?_
            refine g_iload_n dX11_readPlain_89 rfl rfl ?_
            refine g_aload_n dX11_readPlain_90 rfl rfl ?_
            refine g_get dX11_readPlain_91 fl_X11_40 hp_46 rfl ?_
            refine g_ic_0 dX11_readPlain_94 ?_
            refine g_ic_4 dX11_readPlain_95 ?_
            refine g_callV dX11_readPlain_96 cv_X11_251 (as' := [_, _, _, _]) hp_46 rfl (e_items0 (b := (sk (A0 47) n a) + 1) (p0 := 0) (f0 := 0) (D := D) tp3 rfl (by decide) (by decide) (by rw [up2_at, up2_at, nI_1]) hlt (by rw [up2_ne (by decide)]; exact k4)) (by decide) rfl rfl (Nat.le_of_ble_eq_true rfl) ?_
            rw [e47]
            rintro _ _ ⟨rfl, A9, I9, q9, rfl⟩
            refine g_goto (tgt := 213) dX11_readPlain_99 (by decide) ?_
            refine g_loc (ls' := [some (.ref 46), some (.int (1)), none, none]) (fun i v h => by rcases i with _|_|_|_|_ <;> first | exact h | cases h) ?_
            have hpc : (pcP (A0 47) n a (D, h)) = ppB 1 (itL (A0 47) n (nI 0) (nI 0) 6 (sk (A0 47) n ((sk (A0 47) n a) + 1)) 0 (usP D (nI 0) (nI 0))) := pcP_k (q := (D, h)) (k := 0) (by rw [lf3_bt tp, if_pos c_69]) (fun z => z.elim (fun w => absurd w (by decide)) (fun w => absurd w (by show ¬ (if h = 0 then (1 : Int32) else 0) = 0; rw [if_pos c_73]; decide)))
            have hm9 : mP A0 I0 A9 I9 := mP_X (mP_I (mP_I hm (Or.inl rfl)) (Or.inl rfl)) (Or.inl rfl) q9.1 q9.2.1
            have w9 : ∀ {b D2 h2}, (pcP (A0 47) n a (D, h)) = .inr (b, (D2, h2)) → I9 46 4 = (-1) := fun z1 => by
              rw [hpc] at z1
              obtain ⟨-, -, ⟨p, e1, -⟩ | ⟨e2, -⟩⟩ := q9
              · rw [e1] at z1; cases z1
              · exact e2
            have hF : FR (A0 47) n (pcP (A0 47) n a (D, h)) A9 I9 := by
              rw [hpc]
              exact FR_of q9 (fun k hk => rfl) (fun D' d1 d2 => ⟨(q9.2.1 46 20 (by decide)).trans ((up2_ne (by decide)).trans ((up2_ne (by decide)).trans r20)), (q9.2.1 46 21 (by decide)).trans ((up2_ne (by decide)).trans ((up2_ne (by decide)).trans r21)), PW_0 hw d1 q9.1 d2⟩)
            refine z_pl213 (s := (pcP (A0 47) n a (D, h))) (hv := 1) tp hm9 hF (fun b D2 h2 m2 c2 z1 z2 z3 z4 z5 z6 z7 => ?_) (fun z A8 I8 y1 y2 => ?_)
            · obtain ⟨f2, rfl⟩ : ∃ f2, f = f2 + 1 := ⟨f - 1, by have := PG_pc z1; omega⟩
              have hh2 : h2 = 1 := by rw [hpc] at z1; exact pb_h z1
              subst hh2
              refine ih f2 (Nat.lt_succ_self f2) (b + 1) D2 _ A9 _ m2 c2 (mP_I hm9 (Or.inl rfl)) ((up2_ne (by decide)).trans (w9 z1)) up2_at z4 ((up2_ne (by decide)).trans z5) ((up2_ne (by decide)).trans z6) z7 (Or.inr rfl) (by have := PG_pc z1; omega) ?_ _
              intro A8 I8 y1 y2
              rw [z1, ppL_go z2 z3] at hQ
              exact hQ A8 I8 y1 y2
            · rw [ppL_id z] at hQ
              exact hQ A8 I8 y1 y2

set_option maxHeartbeats 800000 in
set_option maxRecDepth 100000 in
theorem e_rp24 {A : Nat → Nat → Int32} {L : Nat → Nat → Int64} {I : Nat → Nat → Int32} {X : Nat → Int64} {Q : Option Value → m_H → Prop} (hE : G 6 RX11 cX11_readPlain 4 (some .int) Q 47 [some (.ref 46), some (.int (0)), none, none] [] (hp (up A 57 (usA 115 (A 57) 0 (4))) L I X)) : ∀ f k, k ≤ 4 → 4 - k < f → G 6 RX11 cX11_readPlain 4 (some .int) Q 24 [some (.ref 46), some (.int (0)), some (.int (nI k)), none] [] (hp (up A 57 (usA 115 (A 57) 0 (k))) L I X) := by
  intro f
  induction f with
  | zero => intro k h1 h2; omega
  | succ f ih =>
    intro k h1 h2
    refine g_iload_n dX11_readPlain_24 rfl rfl ?_
    refine g_ic_4 dX11_readPlain_25 ?_
    refine g_icmp_ge (tgt := 47) dX11_readPlain_26 (by decide) (fun c_26 => ?_) (fun c_26 => ?_)
    · have h6 : 4 ≤ k := lit_le (n := 4) (by decide) (by omega) c_26
      have hkn : k = 4 := by omega
      subst hkn
      refine g_loc (ls' := [some (.ref 46), some (.int (0)), none, none]) (fun i v h => by rcases i with _|_|_|_|_ <;> first | exact h | cases h) ?_
      exact hE
    · have hlt : k < 4 := by have := lit_nle (n := 4) (by decide) (by omega) c_26; omega
      refine g_aload_n dX11_readPlain_29 rfl rfl ?_
      refine g_get dX11_readPlain_30 fl_X11_40 hp_46 rfl ?_
      refine g_iload_n dX11_readPlain_33 rfl rfl ?_
      refine g_bipush (v := 115) dX11_readPlain_34 (by decide) ?_
      refine g_iload_n dX11_readPlain_36 rfl rfl ?_
      refine g_callS dX11_readPlain_37 cs_X11_225 (as := [_, _]) (e_usual (Or.inl rfl)) (by decide) rfl rfl (Nat.le_of_ble_eq_true rfl) ?_
      rintro _ _ ⟨rfl, rfl⟩
      try simp (disch := omega) only [up_at, up_up, up_ne]
      refine g_wa dX11_readPlain_40 hp_57 (k := k) rfl (by omega) (by decide) ?_
      rw [hq_57]
      try simp (disch := omega) only [up_at, up_up, up_ne]
      refine g_iinc1 dX11_readPlain_41 rfl (by decide) ?_
      refine g_goto (tgt := 24) dX11_readPlain_44 (by decide) ?_
      rw [nI_1]
      have e := usA_s (kc := 115) (F := A 57) (f0 := 0) (k := k)
      rw [Nat.zero_add] at e
      rw [e]
      exact ih (k + 1) (by omega) (by omega)

set_option maxHeartbeats 800000 in
set_option maxRecDepth 100000 in
theorem e_readPlain {A : Nat → Nat → Int32} {L : Nat → Nat → Int64} {I : Nat → Nat → Int32} {X : Nat → Int64} {n : Nat} (tp : tpM A I n) : Con 6 yX11_readPlain cX11_readPlain 4 (some .int) [.ref 46] (hp A L I X) (fun r_ H_ => r_ = some (.int (lawV (plainP (A 47) n))) ∧ ∃ A1 I1, mP A I A1 I1 ∧ PLQ (A 47) n (plainP (A 47) n) A1 I1 ∧ H_ = hp A1 L I1 X) := by
  refine m_con (by decide) (Nat.le_of_ble_eq_true rfl) ?_
  refine g_aload_n dX11_readPlain_0 rfl rfl ?_
  refine g_ic_0 dX11_readPlain_1 ?_
  refine g_puti dX11_readPlain_2 fw_X11_116 hp_46 (Nat.le_of_ble_eq_true rfl) ?_
  rw [hq_46_3]
  refine g_aload_n dX11_readPlain_5 rfl rfl ?_
  refine g_ic_m1 dX11_readPlain_6 ?_
  refine g_puti dX11_readPlain_7 fw_X11_123 hp_46 (Nat.le_of_ble_eq_true rfl) ?_
  rw [hq_46_4]
  refine g_aload_n dX11_readPlain_10 rfl rfl ?_
  refine g_ic_0 dX11_readPlain_11 ?_
  refine g_puti dX11_readPlain_12 fw_X11_245 hp_46 (Nat.le_of_ble_eq_true rfl) ?_
  rw [hq_46_20]
  refine g_aload_n dX11_readPlain_15 rfl rfl ?_
  refine g_ic_0 dX11_readPlain_16 ?_
  refine g_puti dX11_readPlain_17 fw_X11_248 hp_46 (Nat.le_of_ble_eq_true rfl) ?_
  rw [hq_46_21]
  refine g_ic_0 dX11_readPlain_20 ?_
  refine g_istore_n dX11_readPlain_21 rfl (by decide) ?_
  refine g_ic_0 dX11_readPlain_22 ?_
  refine g_istore_n dX11_readPlain_23 rfl (by decide) ?_
  have h := e_rp24 (A := A) (L := L) (I := (up2 (up2 (up2 (up2 I 46 3 0) 46 4 (-1)) 46 20 0) 46 21 0)) (X := X) (Q := (fun r_ H_ => r_ = some (.int (lawV (plainP (A 47) n))) ∧ ∃ A1 I1, mP A I A1 I1 ∧ PLQ (A 47) n (plainP (A 47) n) A1 I1 ∧ H_ = hp A1 L I1 X)) ?_ 5 0 (by decide) (by decide)
  · rw [usA_0, up_self] at h
    refine g_loc (ls' := [some (.ref 46), some (.int (0)), some (.int (nI 0)), none]) (fun i v h => by rcases i with _|_|_|_|_ <;> first | exact h | cases h) ?_
    exact h
  · refine g_ic_1 dX11_readPlain_47 ?_
    refine g_istore_n dX11_readPlain_48 rfl (by decide) ?_
    have us := usF_at (D := fun _ => 0) (kd := 0) (p0 := 0) (w := 4) (by decide) 4 (Nat.le_refl _)
    have hz : ∀ j, 4 ≤ j → usP (fun _ => 0) 0 0 j = 0 := fun j hj => us.1 j (Or.inr (by omega))
    have hw : PW 0 0 (usP (fun _ => 0) 0 0) (up A 57 (usA 115 (A 57) 0 (4))) := by
      refine ⟨⟨by decide, by decide, hz 9 (by decide), hz 10 (by decide)⟩, fun k hk => ?_, fun i hi => absurd hi (Nat.not_lt_zero i), fun i hi => absurd hi (Nat.not_lt_zero i), ⟨hz 4 (by decide), hz 5 (by decide), hz 6 (by decide), hz 7 (by decide), hz 8 (by decide), hz 11 (by decide), hz 12 (by decide)⟩, fun i _ => ⟨hz _ (by omega), hz _ (by omega), hz _ (by omega)⟩⟩
      rw [up_at, show usP (fun _ => 0) 0 0 (0 + k) = _ from us.2 k hk, (it_us0 k hk).1]
      refine ⟨?_, (it_us0 k hk).2⟩
      unfold usA
      rw [if_pos (by omega), show 0 + k - 0 = k by omega]
    have hm : mP A I (up A 57 (usA 115 (A 57) 0 (4))) (up2 (up2 (up2 (up2 I 46 3 0) 46 4 (-1)) 46 20 0) 46 21 0) := ⟨fun i a b c => up_ne a, fun i l z => by rw [up2_ne (fun w => z ⟨w.1, by omega⟩), up2_ne (fun w => z ⟨w.1, by omega⟩), up2_ne (fun w => z ⟨w.1, by omega⟩), up2_ne (fun w => z ⟨w.1, by omega⟩)]⟩
    refine g_loc (ls' := [some (.ref 46), some (.int (0)), some (.int (1)), none]) (fun i v h => by rcases i with _|_|_|_|_ <;> first | exact h | cases h) ?_
    exact e_pl49 tp 240 0 (usP (fun _ => 0) 0 0) 0 (up A 57 (usA 115 (A 57) 0 (4))) (up2 (up2 (up2 (up2 I 46 3 0) 46 4 (-1)) 46 20 0) 46 21 0) 0 0 hm (by rw [up2_ne (by decide), up2_ne (by decide), up2_at]) (by rw [up2_ne (by decide), up2_ne (by decide), up2_ne (by decide), up2_at]; rfl) (Nat.zero_le _) (by rw [up2_ne (by decide), up2_at]; rfl) (by rw [up2_at]; rfl) hw (Or.inl rfl) (by have := tp.2.1; omega) (fun A1 I1 y1 y2 => ⟨rfl, A1, I1, y1, y2, rfl⟩) none
