/-! THE JOIN OF AN ACT: what it keeps -/
theorem act_A {A I : Nat → Nat → Int32} {f' g' K N' : ROW} {i : Nat} (h : ¬ i = 20 ∧ ¬ i = 21 ∧ ¬ i = 26 ∧ ¬ i = 63 ∧ ¬ i = 66) : (up (up (upS (kA A I) 20 21 f' g') 66 K) 63 N') i = A i := by
  obtain ⟨h1, h2, h3, h4, h5⟩ := h
  rw [up_ne h4, up_ne h5, upS_ne h1 h2]
  exact up_ne h3
theorem act_I {I : Nat → Nat → Int32} {v : Int32} {i k : Nat} (h : ¬ (i = 46 ∧ k = 35) ∧ ¬ (i = 25 ∧ k = 1) ∧ ¬ (i = 25 ∧ k = 2)) : (up2 (kI I) 46 35 v) i k = I i k := by
  obtain ⟨h1, h2, h3⟩ := h
  rw [up2_ne h1]
  unfold kI
  rw [up2_ne h2, up2_ne h3]
theorem PLN_12 {ms cs : Nat} {A I : Nat → Nat → Int32} (h : INV A I) (hP : PLN ms cs A I) : I 0 12 = 1 := by
  rcases h.2.2.2.2 with ⟨-, k⟩ | ⟨k, -⟩
  · have e := hP.1.1.symm.trans k.1.1
    have h2 : 2 ≤ ms := hP.2.1.1.1.1
    have h8 : ms ≤ 8 := hP.2.1.1.1.2.1
    exact absurd ((nI_eq (a := ms) (b := 0) (by omega) (by decide)).mp (e.trans nI_0.symm)) (by omega)
  · exact k
theorem INV_act {ms cs a : Nat} {A I : Nat → Nat → Int32} {f' N' : ROW} (h : INV A I) (hP : PLN ms cs A I) (ha : I 46 35 = nI a) (ha40 : a ≤ 40) (hR : RF ms cs (A 60) (A 61) (A 62) f' N') : INV (up (up (upS (kA A I) 20 21 f' (A 21)) 66 (kpN (A 66) (A 63) a)) 63 N') (up2 (kI I) 46 35 (nI (ka1 a + 1))) := by
  have h12 := PLN_12 h hP
  obtain ⟨h1, h2, h3, h4, -⟩ := h
  obtain ⟨k1, k2, k3, k4, k5⟩ := hP
  refine ⟨I_T_ext (act_A (by decide)) (act_A (by decide)) (act_I (by decide)) (act_I (by decide)) h1, I_L_ext (fun i hi => act_A ((by decide : ∀ i, i ∈ [12, 13, 48, 49, 51, 52, 53, 54] → ¬ i = 20 ∧ ¬ i = 21 ∧ ¬ i = 26 ∧ ¬ i = 63 ∧ ¬ i = 66) i hi)) (act_I (by decide)) (act_I (by decide)) (act_I (by decide)) (act_I (by decide)) h2, I_M_ext (act_A (by decide)) (act_A (by decide)) (act_I (by decide)) (act_I (by decide)) (act_I (by decide)) (act_I (by decide)) h3, I_S_ext (fun i hi => act_A ((by decide : ∀ i, i ∈ [38, 39, 40, 71, 72, 73] → ¬ i = 20 ∧ ¬ i = 21 ∧ ¬ i = 26 ∧ ¬ i = 63 ∧ ¬ i = 66) i hi)) (act_I (by decide)) (act_I (by decide)) h4, Or.inr ⟨(act_I (by decide)).trans h12, ms, cs, ⟨(act_I (by decide)).trans k1.1, (act_I (by decide)).trans k1.2⟩, ?_, ?_, ?_, ?_, ?_⟩⟩
  · exact hR
  · exact k3
  · exact AKT_of (AKX_step (AKX_of k4) k2 ha ha40)
  · exact ((act_I (by decide)).trans k5.1).trans (act_I (by decide)).symm
  · exact k5.2
theorem INV_rf {A I : Nat → Nat → Int32} {k : Nat} (h : INV A I) (hk : k < 5) : INV (up (up A 45 (rfS (A 45) (nI k))) 64 (upd (A 64) k (A 64 k + 1))) I := by
  obtain ⟨h1, h2, ⟨h3, h3r⟩, h4, h5⟩ := h
  have e : rfS (A 45) (nI k) = upd (A 64) k (A 64 k + 1) := by
    unfold rfS
    rw [pt_nI hk (by decide), gt_nI hk (by decide), h3]
  have eA : ∀ i, ¬ i = 45 ∧ ¬ i = 64 → (up (up A 45 (rfS (A 45) (nI k))) 64 (upd (A 64) k (A 64 k + 1))) i = A i := fun i z => (up_ne z.2).trans (up_ne z.1)
  refine ⟨I_T_ext (eA _ (by decide)) (eA _ (by decide)) rfl rfl h1, I_L_ext (fun i hi => eA i ((by decide : ∀ i, i ∈ [12, 13, 48, 49, 51, 52, 53, 54] → ¬ i = 45 ∧ ¬ i = 64) i hi)) rfl rfl rfl rfl h2, ⟨e.symm, h3r⟩, I_S_ext (fun i hi => eA i ((by decide : ∀ i, i ∈ [38, 39, 40, 71, 72, 73] → ¬ i = 45 ∧ ¬ i = 64) i hi)) rfl rfl h4, ?_⟩
  rcases h5 with ⟨h5, h6⟩ | ⟨h5, ms, cs, k1, k2, k3, k4, k5⟩
  · exact Or.inl ⟨h5, h6⟩
  · exact Or.inr ⟨h5, ms, cs, k1, k2, k3, AKT_ext (fun i hi => eA i ((by decide : ∀ i, i ∈ [60, 61, 62, 26, 66] → ¬ i = 45 ∧ ¬ i = 64) i hi)) rfl rfl rfl k4, k5⟩