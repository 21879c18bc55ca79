/-! THE REFERENCE: who -/
/-- a note fits a suspect -/
def nOk (A I : Nat → Nat → Int32) (g : Int32) (s j : Nat) : Prop := (pw A I g s (A 38 j).toNatClampNeg = A 39 j ↔ A 40 j = 1)
def wOk (A I : Nat → Nat → Int32) (g : Int32) (ms K w : Nat) : Prop := wV ms w ∧ ∀ j, j < K → nOk A I g (sg w) j
def sOk (A I : Nat → Nat → Int32) (g : Int32) (ms K s : Nat) : Prop := (s = 8 ∨ s < ms) ∧ ∀ j, j < K → nOk A I g s j
/-- the notes -/
def NT (A : Nat → Nat → Int32) (K : Nat) : Prop := K ≤ 10 ∧ ∀ i, i < K → (∃ t, 1 ≤ t ∧ t ≤ 40 ∧ A 38 i = nI t) ∧ (∃ m, m < 8 ∧ A 39 i = nI m) ∧ (A 40 i = 0 ∨ A 40 i = 1)
theorem NT_of {A I : Nat → Nat → Int32} {K : Nat} (h : INV A I) (hK : I 34 9 = nI K) (hk : K < 2 ^ 31) : NT A K ∧ I 46 46 = nI K ∧ A 71 = A 38 ∧ A 72 = A 39 ∧ A 73 = A 40 := by
  obtain ⟨i1, i2, i3, i4, k, i5, i6, i7⟩ := h.2.2.2.1
  have e : k = K := (nI_eq (by omega) hk).mp (i6.symm.trans hK)
  subst e
  exact ⟨⟨i5, i7⟩, i1.trans i6, i2, i3, i4⟩
/-! the class's tables: paths and fits -/
theorem gt369 {P : ROW} {s t : Nat} (hs : s < 9) (ht : t ≤ 40) : paS P (nI s) (nI t) = P (41 * s + t) := by
  unfold paS
  rw [show (41 : Int32) = nI 41 from rfl, pk_mul, nI_add, gt_nI (by omega) (by decide), show s * 41 + t = 41 * s + t by omega]
theorem waP_at {A I : Nat → Nat → Int32} {g : Int32} {P : ROW} {s : Nat} (hs : s < 9) : ∀ k, k ≤ 40 → (∀ t, 1 ≤ t → t ≤ k → waP A I (nI s) g P k (41 * s + t) = pw A I g s t) ∧ ∀ j, (∀ t, 1 ≤ t → t ≤ k → ¬ j = 41 * s + t) → waP A I (nI s) g P k j = P j
  | 0, _ => ⟨fun t h1 h2 => absurd h1 (by omega), fun _ _ => rfl⟩
  | k + 1, hk => by
    obtain ⟨q1, q2⟩ := waP_at (A := A) (I := I) (g := g) (P := P) hs k (by omega)
    have e : waP A I (nI s) g P (k + 1) = upd (waP A I (nI s) g P k) (41 * s + (k + 1)) (pw A I g s (k + 1)) := by
      show pt 369 (waP A I (nI s) g P k) (nI s * 41 + nI (k + 1)) (gt 143 _ 5) = _
      rw [show (41 : Int32) = nI 41 from rfl, pk_mul, nI_add, pt_nI (by omega) (by decide), g143_5, show s * 41 + (k + 1) = 41 * s + (k + 1) by omega]
      rfl
    rw [e]
    refine ⟨fun t h1 h2 => ?_, fun j hj => ?_⟩
    · by_cases c : t = k + 1
      · rw [c, ud_at]
      · rw [ud_ne (by omega)]
        exact q1 t h1 (by omega)
    · rw [ud_ne (hj (k + 1) (by omega) (Nat.le_refl _))]
      exact q2 j (fun t h1 h2 => hj t h1 (by omega))
theorem faL_1 {A I : Nat → Nat → Int32} {s : Int32} : ∀ n k, faL A I s n k = 1 ↔ ∀ j, k ≤ j → j < k + n → faP A I s j = true
  | 0, k => ⟨fun _ j h1 h2 => by omega, fun _ => rfl⟩
  | n + 1, k => by
    unfold faL
    by_cases c : faP A I s k = true
    · rw [if_pos c, faL_1 n (k + 1)]
      constructor
      · intro h j h1 h2
        by_cases e : j = k
        · rw [e]; exact c
        · exact h j (by omega) (by omega)
      · intro h j h1 h2
        exact h j (by omega) (by omega)
    · rw [if_neg c]
      constructor
      · intro h; exact absurd h (by decide)
      · intro h; exact absurd (h k (Nat.le_refl _) (by omega)) c
theorem faP_n {A I : Nat → Nat → Int32} {g : Int32} {P : ROW} {s j K : Nat} (hN : NT A K) (hj : j < K) (hs : s < 9) (hp2 : ∀ t, 1 ≤ t → t ≤ 40 → P (41 * s + t) = pw A I g s t) : faP (up A 41 P) I (nI s) j = true ↔ nOk A I g s j := by
  obtain ⟨hK, hN⟩ := hN
  obtain ⟨⟨t, t1, t2, t3⟩, ⟨m, m1, m2⟩, hw⟩ := hN j hj
  unfold faP nOk
  rw [decide_eq_true_iff, up_at, up_ne (by decide), up_ne (by decide), up_ne (by decide), gt_nI (by omega) (by decide), gt_nI (by omega) (by decide), gt_nI (by omega) (by decide), t3, gt369 hs t2, hp2 t t1 t2, nI_clamp (by omega)]
  by_cases c1 : pw A I g s t = A 39 j
  · rw [if_pos c1]
    rcases hw with w | w
    · rw [w]
      exact ⟨fun z => absurd z (by decide), fun z => absurd (z.mp c1) (by decide)⟩
    · rw [w]
      exact ⟨fun _ => ⟨fun _ => rfl, fun _ => c1⟩, fun _ => rfl⟩
  · rw [if_neg c1]
    rcases hw with w | w
    · rw [w]
      exact ⟨fun _ => ⟨fun z => absurd z c1, fun z => absurd z (by decide)⟩, fun _ => rfl⟩
    · rw [w]
      exact ⟨fun z => absurd z (by decide), fun z => absurd (z.mpr rfl) c1⟩
theorem faQ_n {A I : Nat → Nat → Int32} {g : Int32} {P : ROW} {s K : Nat} (hN : NT A K) (hK : I 34 9 = nI K) (hs : s < 9) (hp2 : ∀ t, 1 ≤ t → t ≤ 40 → P (41 * s + t) = pw A I g s t) : ¬ faQ A I P (nI s) = 0 ↔ ∀ j, j < K → nOk A I g s j := by
  have hk10 := hN.1
  have e : faQ A I P (nI s) = faL (up A 41 P) I (nI s) K 0 := by
    unfold faQ faS
    rw [hK, nI_clamp (by omega)]
  have e2 : ¬ faQ A I P (nI s) = 0 ↔ faQ A I P (nI s) = 1 := by
    rw [e]
    rcases faL_01 (A := up A 41 P) (I := I) (s := nI s) K 0 with z | z
    · rw [z]; exact ⟨fun w => absurd rfl w, fun w => absurd w (by decide)⟩
    · rw [z]; exact ⟨fun _ => rfl, fun _ => by decide⟩
  rw [e2, e, faL_1]
  constructor
  · intro h j hj
    exact (faP_n hN hj hs hp2).mp (h j (Nat.zero_le _) (by omega))
  · intro h j h1 h2
    exact (faP_n hN (by omega) hs hp2).mpr (h j (by omega))
theorem hasM_17 {ms cs : Nat} {A I : Nat → Nat → Int32} (hP : PLN ms cs A I) {s : Nat} (hs : s < 9) : hasM (A 17) (nI s) = 0 ↔ ¬ s < ms := by
  have h8 := PLN_ms hP
  unfold hasM
  rw [g143_9, hP.2.2.1.1.2.2.2.2.1, if_neg (Int32.not_lt.mpr (nI_pos' (by omega)))]
  by_cases c : ms ≤ s
  · rw [if_pos ((nI_leI (by omega) (by omega)).mpr c)]
    exact ⟨fun _ => by omega, fun _ => rfl⟩
  · rw [if_neg (fun z => c ((nI_leI (by omega) (by omega)).mp z))]
    exact ⟨fun z => absurd z (by decide), fun z => absurd (by omega) z⟩
theorem ta_n {ms cs K : Nat} {A I : Nat → Nat → Int32} {g : Int32} (hP : PLN ms cs A I) (hN : NT A K) (hK : I 34 9 = nI K) : ∀ k, k ≤ 9 → ∀ s, s < k → ((s = 8 ∨ s < ms) → ∀ t, 1 ≤ t → t ≤ 40 → (taS A I g k).1 (41 * s + t) = pw A I g s t) ∧ (gt 9 (taS A I g k).2 (nI s) = 1 ↔ sOk A I g ms K s) := by
  intro k
  induction k with
  | zero => intro _ s hs; omega
  | succ k ih =>
    intro hk s hs
    have h8 := PLN_ms hP
    have e : taS A I g (k + 1) = taC A I g k (taS A I g k) := rfl
    obtain ⟨P, F, hPF⟩ : ∃ P F, taS A I g k = (P, F) := ⟨_, _, rfl⟩
    rw [hPF] at ih
    rw [e, hPF]
    have hwa := waP_at (A := A) (I := I) (g := g) (P := P) (s := k) (by omega) 40 (Nat.le_refl _)
    -- laid
    have laid : (k = 8 ∨ k < ms) → ((s = 8 ∨ s < ms) → ∀ t, 1 ≤ t → t ≤ 40 → (waP A I (nI k) g P 40) (41 * s + t) = pw A I g s t) ∧ (gt 9 (pt 9 F (nI k) (if faQ A I (waP A I (nI k) g P 40) (nI k) = 0 then 0 else 1)) (nI s) = 1 ↔ sOk A I g ms K s) := by
      intro hv
      rw [pt_nI (by omega) (by decide), gt_nI (by omega) (by decide)]
      by_cases c : s = k
      · subst c
        refine ⟨fun _ t h1 h2 => hwa.1 t h1 h2, ?_⟩
        rw [ud_at]
        have q := faQ_n hN hK (by omega) (fun t h1 h2 => hwa.1 t h1 h2) (g := g)
        by_cases z : faQ A I (waP A I (nI s) g P 40) (nI s) = 0
        · rw [if_pos z]
          exact ⟨fun w => absurd w (by decide), fun w => absurd z (q.mpr w.2)⟩
        · rw [if_neg z]
          exact ⟨fun _ => ⟨hv, q.mp z⟩, fun _ => rfl⟩
      · obtain ⟨i1, i2⟩ := ih (by omega) s (by omega)
        rw [ud_ne c]
        rw [gt_nI (by omega) (by decide)] at i2
        refine ⟨fun hs2 t h1 h2 => ?_, i2⟩
        rw [hwa.2 _ (fun t' a b => by omega)]
        exact i1 hs2 t h1 h2
    unfold taC
    by_cases c8 : nI k = (8 : Int32)
    · have hk8 : k = 8 := (nI_eq (a := k) (b := 8) (by omega) (by decide)).mp c8
      rw [if_pos c8]
      exact laid (Or.inl hk8)
    · have hk8 : ¬ k = 8 := fun z => c8 (by rw [z]; rfl)
      rw [if_neg c8]
      by_cases cm : hasM (A 17) (nI k) = 0
      · rw [if_pos cm]
        have hkm := (hasM_17 hP (by omega)).mp cm
        show ((s = 8 ∨ s < ms) → ∀ t, 1 ≤ t → t ≤ 40 → P (41 * s + t) = pw A I g s t) ∧ (gt 9 (pt 9 F (nI k) 0) (nI s) = 1 ↔ sOk A I g ms K s)
        rw [pt_nI (by omega) (by decide), gt_nI (by omega) (by decide)]
        by_cases c : s = k
        · subst c
          rw [ud_at]
          exact ⟨fun z => absurd z (fun z => z.elim hk8 hkm), ⟨fun z => absurd z (by decide), fun z => absurd z.1 (fun z => z.elim hk8 hkm)⟩⟩
        · obtain ⟨i1, i2⟩ := ih (by omega) s (by omega)
          rw [gt_nI (by omega) (by decide)] at i2
          rw [ud_ne c]
          exact ⟨i1, i2⟩
      · rw [if_neg cm]
        exact laid (Or.inr (Decidable.byContradiction fun z => cm ((hasM_17 hP (by omega)).mpr z)))
/-- the reference's who against the class's fits -/
theorem wOk_F {ms cs K w : Nat} {A I : Nat → Nat → Int32} {g : Int32} (hP : PLN ms cs A I) (hN : NT A K) (hK : I 34 9 = nI K) (hw : w < 10) : wOk A I g ms K w ↔ ¬ w = 8 ∧ gt 9 (taS A I g 9).2 (nI (sg w)) = 1 := by
  have h8 := PLN_ms hP
  unfold wOk wV sg
  by_cases c9 : w = 9
  · subst c9
    rw [if_pos rfl, ((ta_n hP hN hK 9 (Nat.le_refl _) 8 (by decide)).2)]
    exact ⟨fun z => ⟨by decide, Or.inl rfl, z.2⟩, fun z => ⟨Or.inl rfl, z.2.2⟩⟩
  · rw [if_neg c9]
    rw [((ta_n hP hN hK 9 (Nat.le_refl _) w (by omega)).2)]
    unfold sOk
    constructor
    · rintro ⟨z1 | z1, z2⟩
      · exact absurd z1 c9
      · exact ⟨by omega, Or.inr z1, z2⟩
    · rintro ⟨z0, z1 | z1, z2⟩
      · exact absurd z1 z0
      · exact ⟨Or.inr z1, z2⟩
set_option maxHeartbeats 800000 in
set_option maxRecDepth 100000 in
theorem e_so_loop {A : Nat → Nat → Int32} {L : Nat → Nat → Int64} {I : Nat → Nat → Int32} {X : Nat → Int64} {ms cs K w : Nat} {g : Int32} {A2 I2 : Nat → Nat → Int32} (h : INV A I) (hP : PLN ms cs A I) (hm : smM A I A2 I2) (hW : ∀ w2, w2 < 10 → wV ms w2 → PD ms A I g (A2 74) w2 40) (hK : I 34 9 = nI K) (hKb : K < 2 ^ 31) (hw : w < 10) : ∀ f k v, (v = 0 ∨ v = 1) → (¬ v = 0 ↔ (wV ms w ∧ ∀ j, j < k → nOk A I g (sg w) j)) → k ≤ K → K - k < f → G 4 RX11 cX11_isSo 4 (some .boolean) (fun r_ H_ => ∃ v, r_ = some (.int v) ∧ (v = 0 ∨ v = 1) ∧ (¬ v = 0 ↔ wOk A I g ms K w) ∧ H_ = hp A2 L I2 X) 8 [some (.ref 46), some (.int (nI w)), some (.int (v)), some (.int (nI k))] [] (hp A2 L I2 X) := by
  have h8 := PLN_ms hP
  obtain ⟨hN, n46, n71, n72, n73⟩ := NT_of h hK hKb
  have hk10 := hN.1
  intro f
  induction f with
  | zero => intro k v hv0 hv h1 h2; omega
  | succ f ih =>
    intro k v hv0 hv h1 h2
    refine g_iload_n dX11_isSo_8 rfl rfl ?_
    refine g_aload_n dX11_isSo_9 rfl rfl ?_
    refine g_get dX11_isSo_10 fl_X11_273 hp_46 rfl ?_
    refine g_icmp_ge (tgt := 71) dX11_isSo_13 (by decide) (fun c_13 => ?_) (fun c_13 => ?_)
    · refine g_iload_n dX11_isSo_71 rfl rfl ?_
      exact g_zret hv0 dX11_isSo_72 ⟨v, rfl, hv0, by rw [show K = k from by rw [hm.2 46 46 (by decide), n46] at c_13; have := (nI_leI (a := K) (b := k) (by omega) (by omega)).mp c_13; omega]; exact hv, rfl⟩
    · have hlt : k < K := Nat.not_le.mp (fun z => c_13 (by rw [hm.2 46 46 (by decide), n46]; exact (nI_leI (by omega) (by omega)).mpr z))
      refine g_iload_n dX11_isSo_16 rfl rfl ?_
      refine g_if_eq (tgt := 71) dX11_isSo_17 (by decide) (fun c_17 => ?_) (fun c_17 => ?_)
      · refine g_iload_n dX11_isSo_71 rfl rfl ?_
        exact g_zret hv0 dX11_isSo_72 ⟨v, rfl, hv0, ⟨fun z => absurd c_17 z, fun z => absurd ((hv.mpr ⟨z.1, fun j hj => z.2 j (by omega)⟩)) (fun q => q c_17)⟩, rfl⟩
      · have hv1 := hv.mp c_17
        obtain ⟨⟨t, t1, t2, t3⟩, -, hw40⟩ := hN.2 k hlt
        have t4 : A2 71 k = nI t := by rw [hm.1 71 (by decide), n71]; exact t3
        refine g_aload_n dX11_isSo_20 rfl rfl ?_
        refine g_get dX11_isSo_21 fl_X11_96 hp_46 rfl ?_
        refine g_bipush (v := 41) dX11_isSo_24 (by decide) ?_
        refine g_iload_n dX11_isSo_26 rfl rfl ?_
        refine g_imul dX11_isSo_27 ?_
        refine g_aload_n dX11_isSo_28 rfl rfl ?_
        refine g_get dX11_isSo_29 fl_X11_86 hp_46 rfl ?_
        refine g_iload_n dX11_isSo_32 rfl rfl ?_
        refine g_ra dX11_isSo_33 hp_71 (k := k) rfl (by omega) (by decide) ?_
        refine g_iadd dX11_isSo_34 ?_
        refine g_ra dX11_isSo_35 hp_74 (k := (41 * w) + t) (nk_add (nk_mul (show (41 : Int32) = nI 41 from rfl) (show nI (w) = nI (w) from rfl)) t4) (by omega) (by decide) ?_
        refine g_aload_n dX11_isSo_36 rfl rfl ?_
        refine g_get dX11_isSo_37 fl_X11_89 hp_46 rfl ?_
        refine g_iload_n dX11_isSo_40 rfl rfl ?_
        refine g_ra dX11_isSo_41 hp_72 (k := k) rfl (by omega) (by decide) ?_
        refine g_icmp_ne (tgt := 49) dX11_isSo_42 (by decide) (fun c_42 => ?_) (fun c_42 => ?_)
        · refine g_ic_0 dX11_isSo_49 ?_
          refine g_aload_n dX11_isSo_50 rfl rfl ?_
          refine g_get dX11_isSo_51 fl_X11_92 hp_46 rfl ?_
          refine g_iload_n dX11_isSo_54 rfl rfl ?_
          refine g_rz dX11_isSo_55 hp_73 (k := k) rfl (by omega) (by decide) ?_
          refine g_icmp_ne (tgt := 63) dX11_isSo_56 (by decide) (fun c_56 => ?_) (fun c_56 => ?_)
          · refine g_ic_0 dX11_isSo_63 ?_
            refine g_istore_n dX11_isSo_64 rfl (by decide) ?_
            refine g_iinc1 dX11_isSo_65 rfl (by decide) ?_
            refine g_goto (tgt := 8) dX11_isSo_68 (by decide) ?_
            rw [nI_1]
            have e72 : A2 72 k = A 39 k := by rw [hm.1 72 (by decide), n72]
            have e73 : A2 73 k = A 40 k := by rw [hm.1 73 (by decide), n73]
            have ep : A2 74 (41 * w + t) = pw A I g (sg w) (A 38 k).toNatClampNeg := by rw [t3, nI_clamp (by omega)]; exact (hW w hw hv1.1 t t1 t2).1
            rw [e72, ep] at c_42
            rw [e73] at c_56
            have hok : ¬ nOk A I g (sg w) k := fun z => c_56 (by rcases hw40 with q | q; exact q.symm; exact absurd (z.mpr q) c_42)
            exact ih (k + 1) _ (Or.inl rfl) ⟨fun z => absurd rfl z, fun z => absurd (z.2 k (Nat.lt_succ_self k)) hok⟩ (by omega) (by omega)
          · refine g_ic_1 dX11_isSo_59 ?_
            refine g_goto (tgt := 64) dX11_isSo_60 (by decide) ?_
            refine g_istore_n dX11_isSo_64 rfl (by decide) ?_
            refine g_iinc1 dX11_isSo_65 rfl (by decide) ?_
            refine g_goto (tgt := 8) dX11_isSo_68 (by decide) ?_
            rw [nI_1]
            have e72 : A2 72 k = A 39 k := by rw [hm.1 72 (by decide), n72]
            have e73 : A2 73 k = A 40 k := by rw [hm.1 73 (by decide), n73]
            have ep : A2 74 (41 * w + t) = pw A I g (sg w) (A 38 k).toNatClampNeg := by rw [t3, nI_clamp (by omega)]; exact (hW w hw hv1.1 t t1 t2).1
            rw [e72, ep] at c_42
            rw [e73] at c_56
            have hok : nOk A I g (sg w) k := ⟨fun z => absurd z c_42, fun z => absurd (z ▸ c_56) (by decide)⟩
            exact ih (k + 1) _ (Or.inr rfl) ⟨fun _ => ⟨hv1.1, fun j hj => by rcases (show j < k ∨ j = k by omega) with z | z; exact hv1.2 j z; rw [z]; exact hok⟩, fun _ => by decide⟩ (by omega) (by omega)
        · refine g_ic_1 dX11_isSo_45 ?_
          refine g_goto (tgt := 50) dX11_isSo_46 (by decide) ?_
          refine g_aload_n dX11_isSo_50 rfl rfl ?_
          refine g_get dX11_isSo_51 fl_X11_92 hp_46 rfl ?_
          refine g_iload_n dX11_isSo_54 rfl rfl ?_
          refine g_rz dX11_isSo_55 hp_73 (k := k) rfl (by omega) (by decide) ?_
          refine g_icmp_ne (tgt := 63) dX11_isSo_56 (by decide) (fun c_56 => ?_) (fun c_56 => ?_)
          · refine g_ic_0 dX11_isSo_63 ?_
            refine g_istore_n dX11_isSo_64 rfl (by decide) ?_
            refine g_iinc1 dX11_isSo_65 rfl (by decide) ?_
            refine g_goto (tgt := 8) dX11_isSo_68 (by decide) ?_
            rw [nI_1]
            have e72 : A2 72 k = A 39 k := by rw [hm.1 72 (by decide), n72]
            have e73 : A2 73 k = A 40 k := by rw [hm.1 73 (by decide), n73]
            have ep : A2 74 (41 * w + t) = pw A I g (sg w) (A 38 k).toNatClampNeg := by rw [t3, nI_clamp (by omega)]; exact (hW w hw hv1.1 t t1 t2).1
            rw [e72, ep] at c_42
            rw [e73] at c_56
            have hok : ¬ nOk A I g (sg w) k := fun z => c_56 (z.mp c_42).symm
            exact ih (k + 1) _ (Or.inl rfl) ⟨fun z => absurd rfl z, fun z => absurd (z.2 k (Nat.lt_succ_self k)) hok⟩ (by omega) (by omega)
          · refine g_ic_1 dX11_isSo_59 ?_
            refine g_goto (tgt := 64) dX11_isSo_60 (by decide) ?_
            refine g_istore_n dX11_isSo_64 rfl (by decide) ?_
            refine g_iinc1 dX11_isSo_65 rfl (by decide) ?_
            refine g_goto (tgt := 8) dX11_isSo_68 (by decide) ?_
            rw [nI_1]
            have e72 : A2 72 k = A 39 k := by rw [hm.1 72 (by decide), n72]
            have e73 : A2 73 k = A 40 k := by rw [hm.1 73 (by decide), n73]
            have ep : A2 74 (41 * w + t) = pw A I g (sg w) (A 38 k).toNatClampNeg := by rw [t3, nI_clamp (by omega)]; exact (hW w hw hv1.1 t t1 t2).1
            rw [e72, ep] at c_42
            rw [e73] at c_56
            have hok : nOk A I g (sg w) k := ⟨fun _ => c_56.symm, fun _ => c_42⟩
            exact ih (k + 1) _ (Or.inr rfl) ⟨fun _ => ⟨hv1.1, fun j hj => by rcases (show j < k ∨ j = k by omega) with z | z; exact hv1.2 j z; rw [z]; exact hok⟩, fun _ => by decide⟩ (by omega) (by omega)

set_option maxHeartbeats 800000 in
set_option maxRecDepth 100000 in
theorem e_isSo {A : Nat → Nat → Int32} {L : Nat → Nat → Int64} {I : Nat → Nat → Int32} {X : Nat → Int64} {ms cs K w : Nat} {g x : Int32} {A2 I2 : Nat → Nat → Int32} (h : INV A I) (hP : PLN ms cs A I) (hm : smM A I A2 I2) (hW : ∀ w2, w2 < 10 → wV ms w2 → PD ms A I g (A2 74) w2 40) (hK : I 34 9 = nI K) (hKb : K < 2 ^ 31) (hw : w < 10) (hx : x = nI w) : Con 4 yX11_isSo cX11_isSo 4 (some .boolean) [.ref 46, .int x] (hp A2 L I2 X) (fun r_ H_ => ∃ v, r_ = some (.int v) ∧ (v = 0 ∨ v = 1) ∧ (¬ v = 0 ↔ wOk A I g ms K w) ∧ H_ = hp A2 L I2 X) := by
  refine m_con (by decide) (Nat.le_of_ble_eq_true rfl) ?_
  subst hx
  refine g_aload_n dX11_isSo_0 rfl rfl ?_
  refine g_iload_n dX11_isSo_1 rfl rfl ?_
  refine g_callV dX11_isSo_2 cv_X11_391 (as' := [_]) hp_46 rfl (e_isWho (w := w) hP (hm.2 46 25 (by decide)) rfl hw) (by decide) rfl rfl (Nat.le_of_ble_eq_true rfl) ?_
  rintro _ _ ⟨v, rfl, hv0, hv, rfl⟩
  refine g_istore_n dX11_isSo_5 rfl (by decide) ?_
  refine g_ic_0 dX11_isSo_6 ?_
  refine g_istore_n dX11_isSo_7 rfl (by decide) ?_
  refine g_loc (ls' := [some (.ref 46), some (.int (nI w)), some (.int (v)), some (.int (nI 0))]) (fun i v h => by rcases i with _|_|_|_|_ <;> first | exact h | cases h) ?_
  exact e_so_loop h hP hm hW hK hKb hw (K + 1) 0 v hv0 (hv.trans ⟨fun z => ⟨z, fun j hj => absurd hj (Nat.not_lt_zero j)⟩, fun z => z.1⟩) (Nat.zero_le _) (Nat.lt_succ_self _)

def uW (w : Nat) : Nat := if w ≤ 8 then w else w - 1
theorem uW_8 {w : Nat} (h : w < 8) : sg w = w ∧ uW w = w ∧ uW (w + 1) = w + 1 := by
  unfold sg uW
  rw [if_neg (by omega), if_pos (by omega), if_pos (by omega)]
  exact ⟨rfl, rfl, rfl⟩
/-- the reference's answers in its own order -/
def spW (F : ROW) (i : Int32) (w : Nat) (fd : Int32) : Int32 := spL F i (9 - uW w) (uW w) fd
theorem spW_no {F : ROW} {i fd : Int32} {w : Nat} (hw : w < 10) (h : ¬ (¬ w = 8 ∧ gt 9 F (nI (sg w)) = 1)) : spW F i w fd = spW F i (w + 1) fd := by
  rcases (show w < 8 ∨ w = 8 ∨ w = 9 by omega) with c | c | c
  · obtain ⟨e1, e2, e3⟩ := uW_8 c
    unfold spW
    rw [e2, e3, show 9 - w = (9 - (w + 1)) + 1 by omega]
    exact if_neg (fun z => h ⟨by omega, by rw [e1]; exact z⟩)
  · subst c; rfl
  · subst c
    exact if_neg (fun z => h ⟨by decide, z⟩)
theorem spW_go {F : ROW} {i fd : Int32} {w : Nat} (hw : w < 10) (h8 : ¬ w = 8) (h : gt 9 F (nI (sg w)) = 1) (hi : ¬ fd = i) : spW F i w fd = spW F i (w + 1) (fd + 1) := by
  rcases (show w < 8 ∨ w = 9 by omega) with c | c
  · obtain ⟨e1, e2, e3⟩ := uW_8 c
    unfold spW
    rw [e1] at h
    rw [e2, e3, show 9 - w = (9 - (w + 1)) + 1 by omega]
    exact (if_pos h).trans (if_neg hi)
  · subst c
    exact (if_pos h).trans (if_neg hi)
theorem spW_at {F : ROW} {i fd : Int32} {w : Nat} (hw : w < 10) (h8 : ¬ w = 8) (h : gt 9 F (nI (sg w)) = 1) (hi : fd = i) : spW F i w fd = nI w := by
  rcases (show w < 8 ∨ w = 9 by omega) with c | c
  · obtain ⟨e1, e2, e3⟩ := uW_8 c
    unfold spW
    rw [e1] at h
    rw [e2, show 9 - w = (9 - (w + 1)) + 1 by omega]
    exact (if_pos h).trans ((if_pos hi).trans (if_neg (by omega)))
  · subst c
    exact (if_pos h).trans ((if_pos hi).trans (if_pos rfl))
set_option maxHeartbeats 800000 in
set_option maxRecDepth 100000 in
theorem e_wh_loop {A : Nat → Nat → Int32} {L : Nat → Nat → Int64} {I : Nat → Nat → Int32} {X : Nat → Int64} {ms cs K : Nat} {g i : Int32} {A2 I2 : Nat → Nat → Int32} {Q : Option Value → m_H → Prop} (h : INV A I) (hP : PLN ms cs A I) (hm : smM A I A2 I2) (hW : ∀ w2, w2 < 10 → wV ms w2 → PD ms A I g (A2 74) w2 40) (hK : I 34 9 = nI K) (hKb : K < 2 ^ 31) : ∀ f w fd, Q (some (.int (spW (taS A I g 9).2 i w fd))) (hp A2 L I2 X) → w ≤ 10 → 10 - w < f → G 9 RX11 cX11_who 5 (some .int) Q 25 [some (.ref 46), some (.int (g)), some (.int (i)), some (.int (fd)), some (.int (nI w))] [] (hp A2 L I2 X) := by
  intro f
  induction f with
  | zero => intro w fd hQ h1 h2; omega
  | succ f ih =>
    intro w fd hQ h1 h2
    refine g_iload dX11_who_25 rfl ?_
    refine g_bipush (v := 9) dX11_who_27 (by decide) ?_
    refine g_icmp_gt (tgt := 58) dX11_who_29 (by decide) (fun c_29 => ?_) (fun c_29 => ?_)
    · refine g_iload_n dX11_who_58 rfl rfl ?_
      refine g_ic_m1 dX11_who_59 ?_
      refine g_icmp_ne (tgt := 67) dX11_who_60 (by decide) (fun c_60 => ?_) (fun c_60 => ?_)
      · refine g_ic_m1 dX11_who_67 ?_
        exact g_iret dX11_who_68 (by rw [show w = 10 from by have := lit_lt (n := 9) (by decide) (by omega) c_29; omega, show spW (taS A I g 9).2 i 10 fd = _ from if_neg c_60] at hQ; exact hQ)
      · refine g_iload_n dX11_who_63 rfl rfl ?_
        refine g_goto (tgt := 68) dX11_who_64 (by decide) ?_
        exact g_iret dX11_who_68 (by rw [show w = 10 from by have := lit_lt (n := 9) (by decide) (by omega) c_29; omega, show spW (taS A I g 9).2 i 10 fd = _ from if_pos c_60] at hQ; exact hQ)
    · have hlt : w < 10 := by have := lit_nlt (n := 9) (by decide) (by omega) c_29; omega
      refine g_aload_n dX11_who_32 rfl rfl ?_
      refine g_iload dX11_who_33 rfl ?_
      refine g_callV dX11_who_35 cv_X11_400 (as' := [_]) hp_46 rfl (e_isSo h hP hm hW hK hKb hlt rfl) (by decide) rfl rfl (Nat.le_of_ble_eq_true rfl) ?_
      rintro _ _ ⟨v, rfl, -, hv, rfl⟩
      rw [wOk_F hP (NT_of h hK hKb).1 hK hlt] at hv
      refine g_if_eq (tgt := 52) dX11_who_38 (by decide) (fun c_38 => ?_) (fun c_38 => ?_)
      · refine g_iinc1 dX11_who_52 rfl (by decide) ?_
        refine g_goto (tgt := 25) dX11_who_55 (by decide) ?_
        rw [nI_1]
        exact ih (w + 1) fd (by rw [← spW_no hlt (fun z => hv.mpr z c_38)]; exact hQ) (by omega) (by omega)
      · refine g_iload_n dX11_who_41 rfl rfl ?_
        refine g_iload_n dX11_who_42 rfl rfl ?_
        refine g_icmp_ne (tgt := 49) dX11_who_43 (by decide) (fun c_43 => ?_) (fun c_43 => ?_)
        · refine g_iinc1 dX11_who_49 rfl (by decide) ?_
          refine g_iinc1 dX11_who_52 rfl (by decide) ?_
          refine g_goto (tgt := 25) dX11_who_55 (by decide) ?_
          rw [nI_1]
          exact ih (w + 1) (fd + 1) (by rw [← spW_go hlt (hv.mp c_38).1 (hv.mp c_38).2 c_43]; exact hQ) (by omega) (by omega)
        · refine g_iload dX11_who_46 rfl ?_
          exact g_iret dX11_who_48 (by rw [spW_at hlt (hv.mp c_38).1 (hv.mp c_38).2 c_43] at hQ; exact hQ)

set_option maxHeartbeats 800000 in
set_option maxRecDepth 100000 in
theorem e_isMore {A : Nat → Nat → Int32} {L : Nat → Nat → Int64} {I : Nat → Nat → Int32} {X : Nat → Int64} {g : Int32} (h : INV A I) : Con 2 yX11_isMore cX11_isMore 2 (some .boolean) [.ref 46, .int g] (hp A L I X) (fun r_ H_ => ((I 0 12 = 0 ∨ g < 1 ∨ 5 < g) ∧ r_ = some (.int 0) ∧ H_ = hp A L I X) ∨ (¬ (I 0 12 = 0 ∨ g < 1 ∨ 5 < g) ∧ r_ = some (.int 1) ∧ H_ = hp A L I X)) := by
  refine m_con (by decide) (Nat.le_of_ble_eq_true rfl) ?_
  refine g_aload_n dX11_isMore_0 rfl rfl ?_
  refine g_get dX11_isMore_1 fl_X11_261 hp_46 rfl ?_
  refine g_if_le (tgt := 20) dX11_isMore_4 (by decide) (fun c_4 => ?_) (fun c_4 => ?_)
  · refine g_ic_0 dX11_isMore_20 ?_
    exact g_zret (by first | exact Or.inl rfl | exact Or.inr rfl) dX11_isMore_21 (Or.inl ⟨Or.inl (mo_0 h c_4), rfl, rfl⟩)
  · refine g_iload_n dX11_isMore_7 rfl rfl ?_
    refine g_ic_1 dX11_isMore_8 ?_
    refine g_ic_5 dX11_isMore_9 ?_
    refine g_callS dX11_isMore_10 cs_X11_221 (as := [_, _, _]) e_in (by decide) rfl rfl (Nat.le_of_ble_eq_true rfl) ?_
    rintro _ _ ⟨rfl, rfl⟩
    refine g_if_eq (tgt := 20) dX11_isMore_13 (by decide) (fun c_13 => ?_) (fun c_13 => ?_)
    · refine g_ic_0 dX11_isMore_20 ?_
      exact g_zret (by first | exact Or.inl rfl | exact Or.inr rfl) dX11_isMore_21 (Or.inl ⟨Or.inr (in_0.mp c_13), rfl, rfl⟩)
    · refine g_ic_1 dX11_isMore_16 ?_
      refine g_goto (tgt := 21) dX11_isMore_17 (by decide) ?_
      exact g_zret (by first | exact Or.inl rfl | exact Or.inr rfl) dX11_isMore_21 (Or.inr ⟨fun z => by rcases z with z | z | z; exact c_4 (mo_1 h z); exact c_13 (in_0.mpr (Or.inl z)); exact c_13 (in_0.mpr (Or.inr z)), rfl, rfl⟩)

set_option maxHeartbeats 800000 in
set_option maxRecDepth 100000 in
theorem n_who {A : Nat → Nat → Int32} {L : Nat → Nat → Int64} {I : Nat → Nat → Int32} {X : Nat → Int64} {g i : Int32} (h : INV A I) : Con 9 yX11_who cX11_who 5 (some .int) [.ref 46, .int g, .int i] (hp A L I X) (QM A I X (whoS A I g i)) := by
  refine m_con (by decide) (Nat.le_of_ble_eq_true rfl) ?_
  refine g_aload_n dX11_who_0 rfl rfl ?_
  refine g_iload_n dX11_who_1 rfl rfl ?_
  refine g_callV dX11_who_2 cv_X11_394 (as' := [_]) hp_46 rfl (e_isMore h) (by decide) rfl rfl (Nat.le_of_ble_eq_true rfl) ?_
  rintro _ _ (⟨g1, rfl, rfl⟩ | ⟨g1, rfl, rfl⟩)
  · refine g_if_eq (tgt := 13) dX11_who_5 (by decide) (fun c_5 => ?_) (fun c_5 => ?_)
    · refine g_ic_m1 dX11_who_13 ?_
      exact g_iret dX11_who_14 ⟨congrArg (fun z : Int32 => some (Value.int z)) (show _ = whoS A I g i from (if_pos (g1.imp id (fun z => z.imp id Or.inl))).symm), _, _, _, smM_rf, rfl⟩
    · exact absurd c_5 (by decide)
  · obtain ⟨ms, cs, hP⟩ := INV_P h (fun z => g1 (Or.inl z))
    obtain ⟨g0, g01, g05, hg⟩ := in_1' (a := 1) (b := 5) (by decide) (by decide) (fun z : inZ g (nI 1) (nI 5) = 0 => g1 (Or.inr (in_0.mp z)))
    obtain ⟨K, hKb, hK⟩ : ∃ K, K < 2 ^ 31 ∧ I 34 9 = nI K := by
      obtain ⟨-, -, -, -, k, i5, i6, -⟩ := h.2.2.2.1
      exact ⟨k, by omega, i6⟩
    refine g_if_eq (tgt := 13) dX11_who_5 (by decide) (fun c_5 => ?_) (fun c_5 => ?_)
    · exact absurd c_5 (by decide)
    · refine g_iload_n dX11_who_8 rfl rfl ?_
      refine g_ic_m1 dX11_who_9 ?_
      refine g_icmp_ge (tgt := 15) dX11_who_10 (by decide) (fun c_10 => ?_) (fun c_10 => ?_)
      · refine g_aload_n dX11_who_15 rfl rfl ?_
        refine g_iload_n dX11_who_16 rfl rfl ?_
        refine g_callV dX11_who_17 cv_X11_397 (as' := [_]) hp_46 rfl (e_layPaths h hP hg g05) (by decide) rfl rfl (Nat.le_of_ble_eq_true rfl) ?_
        rintro _ _ ⟨rfl, A2, I2, hm, hW, rfl⟩
        refine g_ic_0 dX11_who_20 ?_
        refine g_istore_n dX11_who_21 rfl (by decide) ?_
        refine g_ic_0 dX11_who_22 ?_
        refine g_istore dX11_who_23 (by decide) ?_
        refine g_loc (ls' := [some (.ref 46), some (.int (g)), some (.int (i)), some (.int (0)), some (.int (nI 0))]) (fun i v h => by rcases i with _|_|_|_|_|_ <;> first | exact h | cases h) ?_
        refine e_wh_loop h hP hm hW hK hKb 11 0 0 ⟨congrArg (fun z : Int32 => some (Value.int z)) (show _ = whoS A I g i from ?_), _, _, _, hm, rfl⟩ (by decide) (by decide)
        rw [show whoS A I g i = _ from if_neg (fun z => by rcases z with z | z | z | z; exact g1 (Or.inl z); exact g1 (Or.inr (Or.inl z)); exact g1 (Or.inr (Or.inr z)); exact z c_10)]
        rfl
      · refine g_ic_m1 dX11_who_13 ?_
        exact g_iret dX11_who_14 ⟨congrArg (fun z : Int32 => some (Value.int z)) (show _ = whoS A I g i from (if_pos (Or.inr (Or.inr (Or.inr c_10)))).symm), _, _, _, smM_rf, rfl⟩
