/-! A TURN IN THE REFERENCE, told by the class's own rows -/
def smN (A I A' I' : Nat → Nat → Int32) : Prop := (∀ i, i ≠ 55 → i ≠ 56 → i ≠ 63 → i ≠ 65 → A' i = A i) ∧ ∀ i k, ¬ (i = 46 ∧ k = 33) → I' i k = I i k
theorem smN_rf {A I : Nat → Nat → Int32} : smN A I A I := ⟨fun _ _ _ _ _ => rfl, fun _ _ _ => rfl⟩
def LV (ms cs : Nat) (A0 I0 : Nat → Nat → Int32) (U : Int32) (s : RD) (A I : Nat → Nat → Int32) : Prop := smN A0 I0 A I ∧ RJ ms cs (A0 60) (A0 61) (A0 62) s.1 (A 63) ∧ (∀ j, j < 8 → s.2 j = A 65 j) ∧ (∀ j, 43 ≤ j → A 63 j = A0 63 j) ∧ I 46 33 + unrS s.1 = U
theorem LRel_A {A A' : Nat → Nat → Int32} (e : ∀ i, i ∈ [12, 13, 48, 49, 51, 52, 53, 54] → A' i = A i) {q : Nat} (h : LRel A q) : LRel A' q := by
  obtain ⟨cl, k1, k2, k3, k4, k5, k6, k7, k8⟩ := h
  refine ⟨cl, k1, by rw [e 51 (by decide)]; exact k2, k3, lyR_A (e 48 (by decide)) (e 49 (by decide)) (e 52 (by decide)) (e 53 (by decide)) (e 54 (by decide)) cl 0 0 k4, k5, by rw [e 13 (by decide)]; exact k6, k7, by rw [e 12 (by decide)]; exact k8⟩
theorem LWA_A {A I A' I' : Nat → Nat → Int32} (e : ∀ i, i ∈ [12, 13, 48, 49, 51, 52, 53, 54] → A' i = A i) (e1 : I' 46 29 = I 46 29) (e2 : I' 11 5 = I 11 5) (h : LWA A I) : LWA A' I' := by
  refine ⟨by rw [e1, e2]; exact h.1, ?_⟩
  rw [e2]
  rcases h.2 with z | ⟨q, q1, q2, q3⟩
  · exact Or.inl z
  · exact Or.inr ⟨q, q1, q2, LRel_A e q3⟩
theorem LWA_N {A I A' I' : Nat → Nat → Int32} (h : smN A I A' I') (k : LWA A I) : LWA A' I' := by
  refine LWA_A (fun i hi => ?_) (h.2 46 29 (by decide)) (h.2 11 5 (by decide)) k
  have h2 : ∀ i, i ∈ [12, 13, 48, 49, 51, 52, 53, 54] → i ≠ 55 ∧ i ≠ 56 ∧ i ≠ 63 ∧ i ≠ 65 := by decide
  obtain ⟨z1, z2, z3, z4⟩ := h2 i hi
  exact h.1 i z1 z2 z3 z4
/-- within a day, behind k crops -/
def CW (ms cs : Nat) (A0 I0 : Nat → Nat → Int32) (U : Int32) (f g : ROW) (r1 m k : Nat) (A I : Nat → Nat → Int32) : Prop :=
  LV ms cs A0 I0 U ((itn (grC (oM f (nI m) 2) (oM f (nI m) 3)) k (f, 0)).1, g) A I ∧ AC r1 (itn (grC (oM f (nI m) 2) (oM f (nI m) 3)) k (f, 0)).2 (A 63 34) ∧ A 63 39 = nI m ∧ A 63 (8 + m) = oM f (nI m) 2 ∧ A 63 (16 + m) = oM f (nI m) 3
theorem CW_skip {ms cs : Nat} {A0 I0 : Nat → Nat → Int32} {U : Int32} {f g : ROW} {r1 m k : Nat} {A I : Nat → Nat → Int32} (h : CW ms cs A0 I0 U f g r1 m k A I) (hk : k < cs) (hz : ¬ haZ (A 63 34) (nI k) = 0) : CW ms cs A0 I0 U f g r1 m (k + 1) A I := by
  have e : itn (grC (oM f (nI m) 2) (oM f (nI m) 3)) (k + 1) (f, 0) = itn (grC (oM f (nI m) 2) (oM f (nI m) 3)) k (f, 0) := by
    refine grC_0 ?_
    obtain ⟨⟨a1, a2, a3, a4, a5, a6⟩, -, -, -, -, r, hr, hr2, hr3⟩ := h.1.2.1
    have h32 := rp_32 cs (by omega)
    rw [oC_5 (by omega), hr3 k hk, ← rp_has r (by omega) k (by omega), ← hr2]
    exact hz
  unfold CW at h ⊢
  rw [e]
  exact h
theorem CW_grow {ms cs : Nat} {A0 I0 : Nat → Nat → Int32} {U : Int32} {f g : ROW} {r1 m k : Nat} {A I : Nat → Nat → Int32} (h : CW ms cs A0 I0 U f g r1 m k A I) (hk : k < cs) (hm : m < ms) (hz : haZ (A 63 34) (nI k) = 0) : CW ms cs A0 I0 U f g r1 m (k + 1) (up A 63 (gwN (A 63) (A 62) m k).1) (up2 I 46 33 (I 46 33 + (gwN (A 63) (A 62) m k).2)) := by
  obtain ⟨⟨h1, h2, h3, h4, h5⟩, h6, h7, h8, h9⟩ := h
  have e62 : A 62 = A0 62 := h1.1 62 (by decide) (by decide) (by decide) (by decide)
  have hg := R_grow h2 h7 hm hk hz h6
  have ms8 : ms ≤ 8 := h2.1.2.1
  rw [h8, h9] at hg
  obtain ⟨g1, g2, g3, g4, g5, g6⟩ := hg
  rw [e62]
  refine ⟨⟨⟨fun i i1 i2 i3 i4 => ?_, fun i l z => ?_⟩, ?_, fun j hj => ?_, fun j hj => ?_, ?_⟩, ?_, ?_, ?_, ?_⟩
  · rw [up_ne i3]; exact h1.1 i i1 i2 i3 i4
  · rw [up2_ne z]; exact h1.2 i l z
  · rw [up_at]; exact g1
  · rw [up_ne (by decide)]; exact h3 j hj
  · rw [up_at, g6 j hj]; exact h4 j hj
  · rw [up2_at, Int32.add_assoc]
    show I 46 33 + ((gwN (A 63) (A0 62) m k).2 + unrS (grC (oM f (nI m) 2) (oM f (nI m) 3) k ((itn (grC (oM f (nI m) 2) (oM f (nI m) 3)) k (f, 0)).1, (itn (grC (oM f (nI m) 2) (oM f (nI m) 3)) k (f, 0)).2)).1) = U
    rw [g5]
    exact h5
  · rw [up_at]; exact g4
  · rw [up_at, g3]; exact h7
  · rw [up_at, g2 _ (by omega)]; exact h8
  · rw [up_at, g2 _ (by omega)]; exact h9
/-- behind some days of a turn -/
def DV (ms cs : Nat) (A0 I0 : Nat → Nat → Int32) (U : Int32) (r0 : Nat) (s : ROW × ROW × Int32) (A I : Nat → Nat → Int32) : Prop := LV ms cs A0 I0 U (s.1, s.2.1) A I ∧ AC r0 s.2.2 (A 63 34)
theorem DV_day {ms cs : Nat} {A0 I0 : Nat → Nat → Int32} {U : Int32} {r0 : Nat} {s : ROW × ROW × Int32} {A I : Nat → Nat → Int32} (h : DV ms cs A0 I0 U r0 s A I) : ∃ m r1, m < ms ∧ m < 8 ∧ ms ≤ 8 ∧ r1 < 32 ∧ A 63 39 = nI m ∧ A 61 = A0 61 ∧ AC r0 s.2.2 (nI r1) ∧ (dyN (A 63) (A 61) m ms).2 < ms ∧ gt 143 (tdF s.1) 5 = nI (dyN (A 63) (A 61) m ms).2 ∧ CW ms cs A0 I0 U (tdF s.1) (tdG s.1 s.2.1) r1 (dyN (A 63) (A 61) m ms).2 0 (up (up A 63 (dyN (A 63) (A 61) m ms).1) 65 (upd (A 65) (dyN (A 63) (A 61) m ms).2 (A 65 (dyN (A 63) (A 61) m ms).2 + 1))) I := by
  obtain ⟨⟨h1, h2, h3, h4, h5⟩, h6⟩ := h
  obtain ⟨m, b1, b2, b3, b4, b5, b6⟩ := pl_m h2
  have ms8 : ms ≤ 8 := h2.1.2.1
  have e61 : A 61 = A0 61 := h1.1 61 (by decide) (by decide) (by decide) (by decide)
  obtain ⟨d1, d2, d3, d4⟩ := R_day h2 b4 b1
  have h20 := h2
  obtain ⟨⟨a1, a2, a3, a4, a5, a6⟩, -, -, hM, -, r, hr, hr2, hr3⟩ := h2
  have h32 := rp_32 cs (by omega)
  have e34 : (dyN (A 63) (A0 61) m ms).1 34 = A 63 34 := by
    unfold dyN
    split
    · simp (disch := omega) only [ud_at, ud_ne]
    · split <;> simp (disch := omega) only [ud_at, ud_ne]
  have e43 : ∀ j, 43 ≤ j → (dyN (A 63) (A0 61) m ms).1 j = A 63 j := by
    intro j hj
    unfold dyN
    split
    · simp (disch := omega) only [ud_at, ud_ne]
    · split <;> simp (disch := omega) only [ud_at, ud_ne]
  have e5 : gt 143 (tdF s.1) 5 = nI (dyN (A 63) (A0 61) m ms).2 := by
    rw [g143_5, td_F, ud_ne (by decide), ud_ne (by decide), ud_at]
    exact d3
  have eu : unrS (tdF s.1) = unrS s.1 := by
    refine unr_ext a6 (by omega) ?_ (fun j j1 j2 => ?_)
    · rw [td_F]; simp (disch := omega) only [ud_at, ud_ne]
    · rw [td_F]; simp (disch := omega) only [ud_at, ud_ne]
  obtain ⟨mo, mo1, mo2, mo3, mo4⟩ := d1.2.2.2.1 _ d2
  rw [e61]
  refine ⟨m, r, b1, b2, ms8, by omega, b4, rfl, by rw [← hr2]; exact h6, d2, e5, ⟨⟨fun i i1 i2 i3 i4 => ?_, fun i l z => ?_⟩, ?_, fun j hj => ?_, fun j hj => ?_, ?_⟩, ?_, ?_, ?_, ?_⟩
  · rw [up_ne i4, up_ne i3]; exact h1.1 i i1 i2 i3 i4
  · exact h1.2 i l z
  · rw [up_ne (by decide), up_at]; exact d1
  · rw [up_at]
    show tdG s.1 s.2.1 j = _
    unfold tdG
    have hd8 : (dyN (A 63) (A0 61) m ms).2 < 8 := by omega
    rw [d3, pt_nI hd8 (by decide), gt_nI hd8 (by decide)]
    by_cases hj2 : j = (dyN (A 63) (A0 61) m ms).2
    · subst hj2
      rw [ud_at, ud_at]
      exact congrArg (· + 1) (h3 _ hj)
    · rw [ud_ne hj2, ud_ne hj2]
      exact h3 j hj
  · rw [up_ne (by decide), up_at, e43 j hj]; exact h4 j hj
  · show I 46 33 + unrS (tdF s.1) = U
    rw [eu]; exact h5
  · rw [up_ne (by decide), up_at, e34, hr2]
    exact AC_0 (by omega)
  · rw [up_ne (by decide), up_at]; exact d4
  · rw [up_ne (by decide), up_at, oM_2 (by omega)]; exact mo2.1.symm
  · rw [up_ne (by decide), up_at, oM_3 (by omega)]; exact mo3.1.symm
theorem CW_end {ms cs : Nat} {A0 I0 : Nat → Nat → Int32} {U : Int32} {f g : ROW} {r0 r1 m : Nat} {b : Int32} {A I : Nat → Nat → Int32} (hm : gt 143 f 5 = nI m) (hr : r1 < 32) (h : CW ms cs A0 I0 U f g r1 m cs A I) (hA : AC r0 b (nI r1)) (h10 : f 10 = nI cs) (hc : cs ≤ 5) : DV ms cs A0 I0 U r0 ((grS f (gt 143 f 5)).1, g, b ||| (grS f (gt 143 f 5)).2) A I := by
  have e : grS f (gt 143 f 5) = itn (grC (oM f (nI m) 2) (oM f (nI m) 3)) cs (f, 0) := by
    unfold grS
    rw [hm, g143_10, h10, nI_clamp (by omega)]
  rw [e]
  exact ⟨h.1, AC_join hr hA h.2.1⟩
set_option maxHeartbeats 800000 in
set_option maxRecDepth 100000 in
theorem e_crops {L : Nat → Nat → Int64} {X : Nat → Int64} {ms cs : Nat} {A0 I0 : Nat → Nat → Int32} {U : Int32} {f g : ROW} {r1 m : Nat} {p kk : Int32} {Q : Option Value → m_H → Prop} (h26 : I0 46 26 = nI cs) (hms : m < ms) (hms8 : ms ≤ 8) (hcs : cs ≤ 5) (hE : ∀ A2 I2, CW ms cs A0 I0 U f g r1 m cs A2 I2 → G 7 RX11 cX11_live 4 (some .int) Q 45 [some (.ref 46), some (.int p), some (.int kk), some (.int (nI cs))] [] (hp A2 L I2 X)) : ∀ n c A2 I2, CW ms cs A0 I0 U f g r1 m c A2 I2 → c ≤ cs → cs - c < n → G 7 RX11 cX11_live 4 (some .int) Q 18 [some (.ref 46), some (.int p), some (.int kk), some (.int (nI c))] [] (hp A2 L I2 X) := by
  intro n
  induction n with
  | zero => intro c A2 I2 hC h1 h2; omega
  | succ n ih =>
    intro c A2 I2 hC h1 h2
    have h26' : I2 46 26 = nI cs := (hC.1.1.2 46 26 (by decide)).trans h26
    refine g_iload_n dX11_live_18 rfl rfl ?_
    refine g_aload_n dX11_live_19 rfl rfl ?_
    refine g_get dX11_live_20 fl_X11_267 hp_46 rfl ?_
    refine g_icmp_ge (tgt := 45) dX11_live_23 (by decide) (fun c_23 => ?_) (fun c_23 => ?_)
    · have hge : cs ≤ c := by rw [h26'] at c_23; exact (nI_leI (by omega) (by omega)).mp c_23
      have hcc : c = cs := by omega
      subst hcc
      exact hE A2 I2 hC
    · have hlt : c < cs := by rw [h26'] at c_23; exact Nat.not_le.mp (fun z => c_23 (nI_le z (by omega)))
      refine g_aload_n dX11_live_26 rfl rfl ?_
      refine g_iload_n dX11_live_27 rfl rfl ?_
      refine g_callV dX11_live_28 cv_X11_308 (as' := [_]) hp_46 rfl e_isRipe (by decide) rfl rfl (Nat.le_of_ble_eq_true rfl) ?_
      rintro _ _ ⟨rfl, rfl⟩
      refine g_if_ne (tgt := 39) dX11_live_31 (by decide) (fun c_31 => ?_) (fun c_31 => ?_)
      · refine g_iinc1 dX11_live_39 rfl (by decide) ?_
        refine g_goto (tgt := 18) dX11_live_42 (by decide) ?_
        rw [nI_1]
        exact ih (c + 1) A2 I2 (CW_skip hC hlt c_31) (by omega) (by omega)
      · refine g_aload_n dX11_live_34 rfl rfl ?_
        refine g_iload_n dX11_live_35 rfl rfl ?_
        refine g_callV dX11_live_36 cv_X11_311 (as' := [_]) hp_46 rfl (e_grow (m := m) (c := c) rfl hC.2.2.1 (by omega) (by omega)) (by decide) rfl rfl (Nat.le_of_ble_eq_true rfl) ?_
        rintro _ _ ⟨rfl, rfl⟩
        refine g_iinc1 dX11_live_39 rfl (by decide) ?_
        refine g_goto (tgt := 18) dX11_live_42 (by decide) ?_
        rw [nI_1]
        exact ih (c + 1) _ _ (CW_grow hC hlt hms c_31) (by omega) (by omega)

set_option maxHeartbeats 800000 in
set_option maxRecDepth 100000 in
theorem e_days {L : Nat → Nat → Int64} {X : Nat → Int64} {ms cs : Nat} {A0 I0 : Nat → Nat → Int32} {U : Int32} {f g : ROW} {r0 : Nat} {p : Int32} {Q : Option Value → m_H → Prop} (h25 : I0 46 25 = nI ms) (h26 : I0 46 26 = nI cs) (hE : ∀ A2 I2, DV ms cs A0 I0 U r0 (dysS p f g) A2 I2 → G 7 RX11 cX11_live 4 (some .int) Q 51 [some (.ref 46), some (.int p), none, none] [] (hp A2 L I2 X)) : ∀ n k s A2 I2, s = itn (fun _ => dyS) k (f, g, 0) → DV ms cs A0 I0 U r0 s A2 I2 → k ≤ p.toNatClampNeg → p.toNatClampNeg - k < n → G 7 RX11 cX11_live 4 (some .int) Q 7 [some (.ref 46), some (.int p), some (.int (nI k)), none] [] (hp A2 L I2 X) := by
  have hb := clamp_lt p
  intro n
  induction n with
  | zero => intro k s A2 I2 hs hD h1 h2; omega
  | succ n ih =>
    intro k s A2 I2 hs hD h1 h2
    refine g_iload_n dX11_live_7 rfl rfl ?_
    refine g_iload_n dX11_live_8 rfl rfl ?_
    refine g_icmp_ge (tgt := 51) dX11_live_9 (by decide) (fun c_9 => ?_) (fun c_9 => ?_)
    · have h6 := (nI_gen (k := k) (by omega)).mp c_9
      have hkn : k = p.toNatClampNeg := by omega
      subst hkn
      rw [hs] at hD
      refine g_loc (ls' := [some (.ref 46), some (.int p), none, none]) (fun i v h => by rcases i with _|_|_|_|_ <;> first | exact h | cases h) ?_
      exact hE A2 I2 hD
    · have hlt : k < p.toNatClampNeg := Nat.not_le.mp (fun z => c_9 ((nI_gen (by omega)).mpr z))
      obtain ⟨m, r1, y1, y2, z2, z4, y4, y5, z3, z1, z5, z6⟩ := DV_day hD
      have h25' : I2 46 25 = nI ms := (hD.1.1.2 46 25 (by decide)).trans h25
      refine g_aload_n dX11_live_12 rfl rfl ?_
      refine g_callV dX11_live_13 cv_X11_305 (as' := []) hp_46 rfl (e_dayOn y4 h25' y1 z2) (by decide) rfl rfl (Nat.le_of_ble_eq_true rfl) ?_
      rintro _ _ ⟨rfl, rfl⟩
      refine g_ic_0 dX11_live_16 ?_
      refine g_istore_n dX11_live_17 rfl (by decide) ?_
      refine e_crops (f := tdF s.1) (g := tdG s.1 s.2.1) h26 z1 z2 hD.1.2.1.1.2.2.2.1 (fun A3 I3 h3 => ?_) (cs + 1) 0 _ _ z6 (Nat.zero_le _) (Nat.lt_succ_self _)
      refine g_iinc1 dX11_live_45 rfl (by decide) ?_
      refine g_goto (tgt := 7) dX11_live_48 (by decide) ?_
      rw [nI_1]
      refine g_loc (ls' := [some (.ref 46), some (.int p), some (.int (nI (k + 1))), none]) (fun i v h => by rcases i with _|_|_|_|_ <;> first | exact h | cases h) ?_
      exact ih (k + 1) (dyS s) A3 I3 (by rw [hs]; rfl) (CW_end z5 z4 h3 z3 (by rw [td_F]; simp (disch := omega) only [ud_at, ud_ne]; exact hD.1.2.1.1.2.2.2.2.2) hD.1.2.1.1.2.2.2.1) (by omega) (by omega)
