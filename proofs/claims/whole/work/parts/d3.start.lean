/-! THE START: what the Statement gives -/
theorem st_arr {s : State} {args : Array Value} {ty : FieldType} (h3 : ty = .int ∨ ty = .long ∨ ty = .boolean) (h : (Cond.arrayClass ty).before args s = true) : ∃ cA : ClassId, ArrOfT s cA ty ∧ va_RA s cA ty := by
  obtain ⟨c, k, comp, h1, h2, h4⟩ := Cond.arrayClass_spec h
  rcases h3 with rfl | rfl | rfl <;> exact ⟨c, fun n z => ⟨fun k h => (by cases h), k, h2, comp, h4⟩, h1⟩
theorem st_K {s : State} {args : Array Value} (hts : ∀ w ∈ m_T, w.before args s = true) : ∃ (D : va_G) (τ : FieldType → ClassId), va_K D m_cl (m_tys τ) s := by
  obtain ⟨c0, S0, k0⟩ := u_known (C := RX0) (T := TX0) (N := 3) (n := 3) hts m_ws0 (hts _ (m_T_1 146 (by decide +kernel) (by decide +kernel)))
  obtain ⟨c1, S1, k1⟩ := u_known (C := RX1) (T := TX1) (N := 3) (n := 3) hts m_ws1 (hts _ (m_T_1 65 (by decide +kernel) (by decide +kernel)))
  obtain ⟨c2, S2, k2⟩ := u_known (C := RX2) (T := TX2) (N := 1) (n := 1) hts m_ws2 (hts _ (m_T_1 239 (by decide +kernel) (by decide +kernel)))
  obtain ⟨c3, S3, k3⟩ := u_known (C := RX3) (T := TX3) (N := 8) (n := 8) hts m_ws3 (hts _ (m_T_1 163 (by decide +kernel) (by decide +kernel)))
  obtain ⟨c4, S4, k4⟩ := u_known (C := RX4) (T := TX4) (N := 3) (n := 3) hts m_ws4 (hts _ (m_T_1 94 (by decide +kernel) (by decide +kernel)))
  obtain ⟨c5, S5, k5⟩ := u_known (C := RX5) (T := TX5) (N := 7) (n := 7) hts m_ws5 (hts _ (m_T_1 114 (by decide +kernel) (by decide +kernel)))
  obtain ⟨c6, S6, k6⟩ := u_known (C := RX6) (T := TX6) (N := 3) (n := 3) hts m_ws6 (hts _ (m_T_1 46 (by decide +kernel) (by decide +kernel)))
  obtain ⟨c7, S7, k7⟩ := u_known (C := RX7) (T := TX7) (N := 2) (n := 2) hts m_ws7 (hts _ (m_T_1 52 (by decide +kernel) (by decide +kernel)))
  obtain ⟨c8, S8, k8⟩ := u_known (C := RX8) (T := TX8) (N := 2) (n := 2) hts m_ws8 (hts _ (m_T_1 32 (by decide +kernel) (by decide +kernel)))
  obtain ⟨c9, S9, k9⟩ := u_known (C := RX9) (T := TX9) (N := 10) (n := 10) hts m_ws9 (hts _ (m_T_1 199 (by decide +kernel) (by decide +kernel)))
  obtain ⟨c10, S10, k10⟩ := u_known (C := RX10) (T := TX10) (N := 16) (n := 16) hts m_ws10 (hts _ (m_T_1 24 (by decide +kernel) (by decide +kernel)))
  obtain ⟨c11, S11, k11⟩ := u_known (C := RX11) (T := TX11) (N := 51) (n := 51) hts m_ws11 (hts _ (m_T_5 174 (by decide +kernel) (by decide +kernel)))
  obtain ⟨a0, b0, e0⟩ := st_arr (Or.inl rfl) (hts _ ac_int)
  obtain ⟨a1, b1, e1⟩ := st_arr (Or.inr (Or.inl rfl)) (hts _ ac_long)
  obtain ⟨a2, b2, e2⟩ := st_arr (Or.inr (Or.inr rfl)) (hts _ ac_boolean)
  refine ⟨(fun k => match k with | 0 => c0 | 1 => c1 | 2 => c2 | 3 => c3 | 4 => c4 | 5 => c5 | 6 => c6 | 7 => c7 | 8 => c8 | 9 => c9 | 10 => c10 | _ => c11, fun k => match k with | 0 => S0 | 1 => S1 | 2 => S2 | 3 => S3 | 4 => S4 | 5 => S5 | 6 => S6 | 7 => S7 | 8 => S8 | 9 => S9 | 10 => S10 | _ => S11), fun ty => match ty with | .int => a0 | .long => a1 | _ => a2, fun k q hq => ?_, fun k q hq => ?_⟩
  · match k, hq with
    | 0, hq => cases hq; exact k0
    | 1, hq => cases hq; exact k1
    | 2, hq => cases hq; exact k2
    | 3, hq => cases hq; exact k3
    | 4, hq => cases hq; exact k4
    | 5, hq => cases hq; exact k5
    | 6, hq => cases hq; exact k6
    | 7, hq => cases hq; exact k7
    | 8, hq => cases hq; exact k8
    | 9, hq => cases hq; exact k9
    | 10, hq => cases hq; exact k10
    | 11, hq => cases hq; exact k11
    | k + 12, hq => simp [m_cl] at hq
  · match k, hq with
    | 0, hq => cases hq; exact ⟨b0, e0⟩
    | 1, hq => cases hq; exact ⟨b1, e1⟩
    | 2, hq => cases hq; exact ⟨b2, e2⟩
    | k + 3, hq => simp [m_tys] at hq
theorem st_us : ∀ j, j < 15 → Cond.eq (.elem (.static RX6 "USUAL" "[I") (.int (Int32.ofNat j))) (.int (m_us j)) ∈ flatC (Jvm.Cond.and given_1 narrow_1) := by decide +kernel
theorem st_usT {s : State} {b : Nat} (hgv : (Jvm.Cond.and given_1 narrow_1).before #[Value.ref b] s = true) (hts : ∀ w ∈ lw_tbl, w.before #[Value.ref b] s = true) : ∃ t : Nat, va_Z RX6 "USUAL" "[I" (.ref t) (fun q => s.heap.size ≤ q) s s.heap ∧ va_T .int t 15 (fun j => .int (m_us j)) (fun q => s.heap.size ≤ q) s s.heap := by
  have hs := flat_of_before _ hgv
  have hA : ∀ a : Nat, a < s.heap.size → ¬ (fun q => s.heap.size ≤ q) a := fun a h => Nat.not_le.mpr h
  have harr : (Cond.arrayOf (.static RX6 "USUAL" "[I") .int).before #[Value.ref b] s = true := hs _ (by decide +kernel)
  have hlen : (Term.length (.static RX6 "USUAL" "[I")).eval #[Value.ref b] s none [] s = some (.int (Int32.ofNat 15)) := va_eqt (hs (Cond.eq (.length (.static RX6 "USUAL" "[I")) (.int 15)) (by decide +kernel))
  obtain ⟨t, ht, hT⟩ := va_Tof (f := fun j => .int (m_us j)) (by decide) harr hlen (fun j hj => va_eqt (hs _ (st_us j hj))) hA
  exact ⟨t, va_Zof (hts _ (List.mem_of_getElem? (i := 523) (by decide +kernel))) (hts _ (List.mem_of_getElem? (i := 161) (by decide +kernel))) ht hA, hT⟩
theorem st_lo : ∀ j, j < 15 → Cond.eq (.elem (.static RX6 "LOWEST" "[I") (.int (Int32.ofNat j))) (.int (m_lo j)) ∈ flatC (Jvm.Cond.and given_1 narrow_1) := by decide +kernel
theorem st_loT {s : State} {b : Nat} (hgv : (Jvm.Cond.and given_1 narrow_1).before #[Value.ref b] s = true) (hts : ∀ w ∈ lw_tbl, w.before #[Value.ref b] s = true) : ∃ t : Nat, va_Z RX6 "LOWEST" "[I" (.ref t) (fun q => s.heap.size ≤ q) s s.heap ∧ va_T .int t 15 (fun j => .int (m_lo j)) (fun q => s.heap.size ≤ q) s s.heap := by
  have hs := flat_of_before _ hgv
  have hA : ∀ a : Nat, a < s.heap.size → ¬ (fun q => s.heap.size ≤ q) a := fun a h => Nat.not_le.mpr h
  have harr : (Cond.arrayOf (.static RX6 "LOWEST" "[I") .int).before #[Value.ref b] s = true := hs _ (by decide +kernel)
  have hlen : (Term.length (.static RX6 "LOWEST" "[I")).eval #[Value.ref b] s none [] s = some (.int (Int32.ofNat 15)) := va_eqt (hs (Cond.eq (.length (.static RX6 "LOWEST" "[I")) (.int 15)) (by decide +kernel))
  obtain ⟨t, ht, hT⟩ := va_Tof (f := fun j => .int (m_lo j)) (by decide) harr hlen (fun j hj => va_eqt (hs _ (st_lo j hj))) hA
  exact ⟨t, va_Zof (hts _ (List.mem_of_getElem? (i := 658) (by decide +kernel))) (hts _ (List.mem_of_getElem? (i := 161) (by decide +kernel))) ht hA, hT⟩
theorem st_hi : ∀ j, j < 15 → Cond.eq (.elem (.static RX6 "HIGHEST" "[I") (.int (Int32.ofNat j))) (.int (m_hi j)) ∈ flatC (Jvm.Cond.and given_1 narrow_1) := by decide +kernel
theorem st_hiT {s : State} {b : Nat} (hgv : (Jvm.Cond.and given_1 narrow_1).before #[Value.ref b] s = true) (hts : ∀ w ∈ lw_tbl, w.before #[Value.ref b] s = true) : ∃ t : Nat, va_Z RX6 "HIGHEST" "[I" (.ref t) (fun q => s.heap.size ≤ q) s s.heap ∧ va_T .int t 15 (fun j => .int (m_hi j)) (fun q => s.heap.size ≤ q) s s.heap := by
  have hs := flat_of_before _ hgv
  have hA : ∀ a : Nat, a < s.heap.size → ¬ (fun q => s.heap.size ≤ q) a := fun a h => Nat.not_le.mpr h
  have harr : (Cond.arrayOf (.static RX6 "HIGHEST" "[I") .int).before #[Value.ref b] s = true := hs _ (by decide +kernel)
  have hlen : (Term.length (.static RX6 "HIGHEST" "[I")).eval #[Value.ref b] s none [] s = some (.int (Int32.ofNat 15)) := va_eqt (hs (Cond.eq (.length (.static RX6 "HIGHEST" "[I")) (.int 15)) (by decide +kernel))
  obtain ⟨t, ht, hT⟩ := va_Tof (f := fun j => .int (m_hi j)) (by decide) harr hlen (fun j hj => va_eqt (hs _ (st_hi j hj))) hA
  exact ⟨t, va_Zof (hts _ (List.mem_of_getElem? (i := 660) (by decide +kernel))) (hts _ (List.mem_of_getElem? (i := 161) (by decide +kernel))) ht hA, hT⟩
def st_tm (i : Nat) : Term := .string (m_so i).1 (m_so i).2.1
theorem st_s1 : ∀ i, i < 5 → Cond.exactly (st_tm i) "java/lang/String" ∈ flatC (Jvm.Cond.and given_1 narrow_1) := by decide +kernel
theorem st_s2 : ∀ i, i < 5 → Cond.eq (.field (st_tm i) "java/lang/String" "coder" "B") (.int 0) ∈ flatC (Jvm.Cond.and given_1 narrow_1) := by decide +kernel
theorem st_s3 : ∀ i, i < 5 → Cond.arrayOf (.field (st_tm i) "java/lang/String" "value" "[B") .byte ∈ flatC (Jvm.Cond.and given_1 narrow_1) := by decide +kernel
theorem st_s4 : ∀ i, i < 5 → Cond.eq (.length (.field (st_tm i) "java/lang/String" "value" "[B")) (.int (Int32.ofNat (m_sl.getD i 0))) ∈ flatC (Jvm.Cond.and given_1 narrow_1) := by decide +kernel
theorem st_s5 : ∀ i, i < 5 → ∀ j, j < m_sl.getD i 0 → Cond.eq (.elem (.field (st_tm i) "java/lang/String" "value" "[B") (.int (Int32.ofNat j))) (.int ((m_sb.getD i []).getD j 0)) ∈ flatC (Jvm.Cond.and given_1 narrow_1) := by decide +kernel
theorem st_s6 : ∀ i, i < 5 → ∀ j, j < 5 → i ≠ j → (Cond.not (Cond.eq (st_tm i) (st_tm j)) ∈ flatC (Jvm.Cond.and given_1 narrow_1) ∨ Cond.not (Cond.eq (st_tm j) (st_tm i)) ∈ flatC (Jvm.Cond.and given_1 narrow_1)) := by decide +kernel
theorem st_S {s : State} {b : Nat} (hgv : (Jvm.Cond.and given_1 narrow_1).before #[Value.ref b] s = true) (hts : ∀ w ∈ lw_tbl, w.before #[Value.ref b] s = true) : ∃ adK adV : Nat → Nat, vk_S 5 m_sl m_sb adK adV (fun q => s.heap.size ≤ q) s s.heap ∧ ∀ i, i < 5 → vk_R (m_so i).1 (m_so i).2.1 (m_so i).2.2 (adK i) s := by
  have hs := flat_of_before _ hgv
  have hA : ∀ a : Nat, a < s.heap.size → ¬ (fun q => s.heap.size ≤ q) a := fun a h => Nat.not_le.mpr h
  obtain ⟨adK, adV, h1, h2⟩ := vk_Sof (tm := st_tm) (len := m_sl) (byt := m_sb) (s := s) (args := #[Value.ref b]) (N := 5) (by decide) (fun i hi => hs _ (st_s1 i hi)) (fun i hi => hs _ (st_s2 i hi)) (fun i hi => hs _ (st_s3 i hi)) (fun i hi => hs _ (st_s4 i hi)) (fun i hi j hj => hs _ (st_s5 i hi j hj)) (fun i j hi hj hij => (st_s6 i hi j hj hij).imp (hs _) (hs _)) hA
  refine ⟨adK, adV, h1, fun i hi => ?_⟩
  match i, hi with
  | 0, hi => exact vk_R.of (hts _ (List.mem_of_getElem? (i := 509) (by decide +kernel))) (h2 0 (by decide))
  | 1, hi => exact vk_R.of (hts _ (List.mem_of_getElem? (i := 510) (by decide +kernel))) (h2 1 (by decide))
  | 2, hi => exact vk_R.of (hts _ (List.mem_of_getElem? (i := 511) (by decide +kernel))) (h2 2 (by decide))
  | 3, hi => exact vk_R.of (hts _ (List.mem_of_getElem? (i := 532) (by decide +kernel))) (h2 3 (by decide))
  | 4, hi => exact vk_R.of (hts _ (List.mem_of_getElem? (i := 697) (by decide +kernel))) (h2 4 (by decide))
  | k + 5, hi => exact absurd hi (by omega)
theorem st_CS {s : State} {b : Nat} (hgv : (Jvm.Cond.and given_1 narrow_1).before #[Value.ref b] s = true) (hts : ∀ w ∈ lw_tbl, w.before #[Value.ref b] s = true) : va_Z "java/lang/String" "COMPACT_STRINGS" "Z" (.int 1) (fun q => s.heap.size ≤ q) s s.heap := by
  have hs := flat_of_before _ hgv
  exact va_Zof (hts _ (List.mem_of_getElem? (i := 521) (by decide +kernel))) (hts _ (List.mem_of_getElem? (i := 171) (by decide +kernel))) (va_eqt (hs (Cond.eq (.static "java/lang/String" "COMPACT_STRINGS" "Z") (.int 1)) (by decide +kernel))) (fun a h => Nat.not_le.mpr h)
theorem st_mT {s : State} {args : Array Value} (hts : ∀ w ∈ lw_tbl, w.before args s = true) : ∀ w ∈ m_T, w.before args s = true := fun w hw => hts w (List.mem_filter.mp hw).1
theorem st_mN {s : State} {args : Array Value} (hts : ∀ w ∈ lw_tbl, w.before args s = true) : ∀ w ∈ m_N, va_Nw w s := fun w hw => va_tabs (m_nest_on (List.mem_filter.mp hw).2) rfl (hts w (List.mem_filter.mp hw).1)
theorem st_Ro {s : State} {b : Nat} (hgv : (Jvm.Cond.and given_1 narrow_1).before #[Value.ref b] s = true) (hts : ∀ w ∈ lw_tbl, w.before #[Value.ref b] s = true) : ∃ (t0 t1 t2 : Nat) (adK adV : Nat → Nat), ∀ α : Nat → Nat, α 1000 = t0 → α 1001 = t1 → α 1002 = t2 → (∀ i, i < 5 → α (2000 + i) = adK i) → (∀ i, i < 5 → α (3000 + i) = adV i) → (∀ i, i < m_NW → s.heap.size ≤ α i) → m_Ro α (m_A α) s s.heap := by
  obtain ⟨t0, z0, T0⟩ := st_usT hgv hts
  obtain ⟨t1, z1, T1⟩ := st_loT hgv hts
  obtain ⟨t2, z2, T2⟩ := st_hiT hgv hts
  obtain ⟨adK, adV, hK, hR⟩ := st_S hgv hts
  have hC := st_CS hgv hts
  refine ⟨t0, t1, t2, adK, adV, fun α h0 h1 h2 h3 h4 h5 => ?_⟩
  have hAB : ∀ q, m_A α q → s.heap.size ≤ q := fun q ⟨k, k1, k2⟩ => by
    rw [k2]
    exact h5 k k1
  refine ⟨?_, ?_, ?_, ⟨?_, hC.narrow hAB⟩, fun i hi => ?_, st_mN hts⟩
  · rw [h0]
    exact ⟨z0.narrow hAB, T0.narrow hAB⟩
  · rw [h1]
    exact ⟨z1.narrow hAB, T1.narrow hAB⟩
  · rw [h2]
    exact ⟨z2.narrow hAB, T2.narrow hAB⟩
  · have hK2 := hK.narrow hAB
    refine ⟨fun i hi => ?_, fun i j hi hj e => hK2.2 i j hi hj ((h3 i hi).symm.trans (Eq.trans e (h3 j hj)))⟩
    have h6 := hK2.1 i hi
    rw [← h3 i hi, ← h4 i hi] at h6
    exact h6
  · rw [h3 i hi]
    exact hR i hi
