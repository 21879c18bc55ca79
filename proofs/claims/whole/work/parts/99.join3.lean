/-! JOINS: the questions -/
theorem ST_q {d1 d2 n1 n2 : Nat} {y1 y2 : MethodName} {c1 c2 : ByteArray} {as : List Value} {A I : Nat → Nat → Int32} {L : Nat → Nat → Int64} {X : Nat → Int64} {v : Int32} (h : INV A I)
  (hc : Con d1 y1 c1 n1 (some .int) (.ref 0 :: as) (hp A L I X) (fun r_ H_ => r_ = some (.int v) ∧ ∃ A9 L9 I9, sm A L I A9 L9 I9 ∧ H_ = hp A9 L9 I9 X))
  (hr : ∀ A1 L1 I1, sm A L I A1 L1 I1 → INV A1 I1 → Con d2 y2 c2 n2 (some .int) (.ref 46 :: as) (hp A1 L1 I1 X) (QM A1 I1 X v)) : ST d1 y1 c1 n1 d2 y2 c2 n2 (some .int) as (hp A L I X) := by
  refine ST_of (by rintro r_ H_ ⟨rfl, A1, L1, I1, q, rfl⟩ <;> exact ⟨_, _, _, _, rfl⟩) ?_ hc
  rintro r_ H_ ⟨rfl, A1, L1, I1, q, rfl⟩
  refine ⟨v, rfl, Con.mono ?_ (hr A1 L1 I1 q (INV_sm q h))⟩
  rintro r2 H2 ⟨rfl, A2, L2, I2, q2, rfl⟩
  exact ⟨rfl, _, _, _, _, rfl, INV_smM q2 (INV_sm q h)⟩
theorem ST_p {d1 d2 n1 n2 : Nat} {y1 y2 : MethodName} {c1 c2 : ByteArray} {as : List Value} {A I : Nat → Nat → Int32} {L : Nat → Nat → Int64} {X : Nat → Int64} {v : Int32} (h : INV A I)
  (hc : Con d1 y1 c1 n1 (some .int) (.ref 0 :: as) (hp A L I X) (fun r_ H_ => r_ = some (.int v) ∧ H_ = hp A L I X))
  (hr : Con d2 y2 c2 n2 (some .int) (.ref 46 :: as) (hp A L I X) (fun r_ H_ => r_ = some (.int v) ∧ H_ = hp A L I X)) : ST d1 y1 c1 n1 d2 y2 c2 n2 (some .int) as (hp A L I X) := by
  refine ST_of (by rintro r_ H_ ⟨rfl, rfl⟩ <;> exact ⟨_, _, _, _, rfl⟩) ?_ hc
  rintro r_ H_ ⟨rfl, rfl⟩
  refine ⟨v, rfl, Con.mono ?_ hr⟩
  rintro r2 H2 ⟨rfl, rfl⟩
  exact ⟨rfl, _, _, _, _, rfl, h⟩
theorem step_rule {A : Nat → Nat → Int32} {L : Nat → Nat → Int64} {I : Nat → Nat → Int32} {X : Nat → Int64} {n : Int32} (h : INV A I) : ST 4 yX10_rule cX10_rule 2 2 yX11_rule cX11_rule 2 (some .int) [.int n] (hp A L I X) :=
  ST_p h m_rule (n_rule h)
theorem step_month {A : Nat → Nat → Int32} {L : Nat → Nat → Int64} {I : Nat → Nat → Int32} {X : Nat → Int64} {m n : Int32} (h : INV A I) : ST 4 yX10_month cX10_month 3 3 yX11_month cX11_month 3 (some .int) [.int m, .int n] (hp A L I X) :=
  ST_p h m_month (n_month h)
theorem step_status {A : Nat → Nat → Int32} {L : Nat → Nat → Int64} {I : Nat → Nat → Int32} {X : Nat → Int64} {n : Int32} (h : INV A I) : ST 4 yX10_status cX10_status 2 2 yX11_status cX11_status 2 (some .int) [.int n] (hp A L I X) :=
  ST_p h m_status (n_status h)
theorem step_log {A : Nat → Nat → Int32} {L : Nat → Nat → Int64} {I : Nat → Nat → Int32} {X : Nat → Int64} {i n : Int32} (h : INV A I) : ST 4 yX10_log cX10_log 3 2 yX11_log cX11_log 3 (some .int) [.int i, .int n] (hp A L I X) :=
  ST_p h m_log (n_log h)
theorem step_year {A : Nat → Nat → Int32} {L : Nat → Nat → Int64} {I : Nat → Nat → Int32} {X : Nat → Int64}  (h : INV A I) : ST 4 yX10_year cX10_year 1 2 yX11_year cX11_year 3 (some .int) [] (hp A L I X) :=
  ST_p h m_year (n_year h)
theorem step_level {A : Nat → Nat → Int32} {L : Nat → Nat → Int64} {I : Nat → Nat → Int32} {X : Nat → Int64} {m n : Int32} (h : INV A I) : ST 4 yX10_level cX10_level 3 3 yX11_level cX11_level 4 (some .int) [.int m, .int n] (hp A L I X) :=
  ST_p h m_level (n_level h)
theorem step_worths {A : Nat → Nat → Int32} {L : Nat → Nat → Int64} {I : Nat → Nat → Int32} {X : Nat → Int64}  (h : INV A I) : ST 4 yX10_worths cX10_worths 1 3 yX11_worths cX11_worths 3 (some .int) [] (hp A L I X) :=
  ST_p h m_worths (n_worths h)
theorem step_most {A : Nat → Nat → Int32} {L : Nat → Nat → Int64} {I : Nat → Nat → Int32} {X : Nat → Int64} {x : Int32} (h : INV A I) : ST 6 yX10_most cX10_most 2 3 yX11_most cX11_most 6 (some .int) [.int x] (hp A L I X) :=
  ST_p h m_most (n_most h)
theorem step_count {A : Nat → Nat → Int32} {L : Nat → Nat → Int64} {I : Nat → Nat → Int32} {X : Nat → Int64} {x : Int32} (h : INV A I) : ST 6 yX10_count cX10_count 2 1 yX11_count cX11_count 2 (some .int) [.int x] (hp A L I X) :=
  ST_p h m_count (n_count h)
theorem ahS_sm {A A1 : Nat → Nat → Int32} {L L1 : Nat → Nat → Int64} {I I1 : Nat → Nat → Int32} {n w p : Int32} (h : sm A L I A1 L1 I1) : ahS A1 I1 n w p = ahS A I n w p := by
  unfold ahS
  simp only [fc_sm h, h.1 20 (by decide), h.2.1 0 12 (by decide)]
theorem sonS_sm {A A1 : Nat → Nat → Int32} {L L1 : Nat → Nat → Int64} {I I1 : Nat → Nat → Int32} {m : Int32} (h : sm A L I A1 L1 I1) : sonS A1 I1 m = sonS A I m := by
  unfold sonS soS
  simp only [tn1_sm h, h.1 20 (by decide)]
theorem lstS_sm {A A1 : Nat → Nat → Int32} {L L1 : Nat → Nat → Int64} {I I1 : Nat → Nat → Int32} {n : Int32} (h : sm A L I A1 L1 I1) : lstS A1 I1 n = lstS A I n := by
  unfold lstS leS
  simp only [show leP A1 I1 n = leP A I n from by funext k; unfold leP; rw [fc_sm h, h.1 20 (by decide)], h.2.1 0 12 (by decide)]
theorem rpnS_sm {A A1 : Nat → Nat → Int32} {L L1 : Nat → Nat → Int64} {I I1 : Nat → Nat → Int32} {m : Int32} (h : sm A L I A1 L1 I1) : rpnS A1 I1 m = rpnS A I m := by
  unfold rpnS rpS
  simp only [tn1_sm h, h.1 20 (by decide)]
theorem shaS_sm {A A1 : Nat → Nat → Int32} {L L1 : Nat → Nat → Int64} {I I1 : Nat → Nat → Int32} {m n c : Int32} (h : sm A L I A1 L1 I1) : shaS A1 I1 m n c = shaS A I m n c := by
  unfold shaS shS
  simp only [fc_sm h, h.1 20 (by decide)]
theorem ridS_sm {A A1 : Nat → Nat → Int32} {L L1 : Nat → Nat → Int64} {I I1 : Nat → Nat → Int32} {m n : Int32} (h : sm A L I A1 L1 I1) : ridS A1 I1 m n = ridS A I m n := by
  unfold ridS riS soS
  simp only [tn1_sm h, h.1 20 (by decide)]
theorem nevS_sm {A A1 : Nat → Nat → Int32} {L L1 : Nat → Nat → Int64} {I I1 : Nat → Nat → Int32} {n : Int32} (h : sm A L I A1 L1 I1) : nevS A1 I1 n = nevS A I n := by
  unfold nevS nvS
  simp only [fc_sm h, h.1 20 (by decide), h.2.1 0 12 (by decide)]
theorem lasS_sm {A A1 : Nat → Nat → Int32} {L L1 : Nat → Nat → Int64} {I I1 : Nat → Nat → Int32}  (h : sm A L I A1 L1 I1) : lasS A1 I1  = lasS A I  := by
  unfold lasS laS
  simp only [tn1_sm h, h.1 20 (by decide), h.2.1 0 12 (by decide)]
theorem gaS_sm {A A1 : Nat → Nat → Int32} {L L1 : Nat → Nat → Int64} {I I1 : Nat → Nat → Int32} {a b n x y w : Int32} (h : sm A L I A1 L1 I1) : gaS A1 I1 a b n x y w = gaS A I a b n x y w := by
  unfold gaS cpS
  simp only [fc_sm h, h.1 20 (by decide)]
theorem reS_sm {A A1 : Nat → Nat → Int32} {L L1 : Nat → Nat → Int64} {I I1 : Nat → Nat → Int32} {a b n i : Int32} (h : sm A L I A1 L1 I1) : reS A1 I1 a b n i = reS A I a b n i := by
  unfold reS cpS rsS d1F
  simp only [fc_sm h, h.1 20 (by decide)]
theorem pulS_sm {A A1 : Nat → Nat → Int32} {L L1 : Nat → Nat → Int64} {I I1 : Nat → Nat → Int32}  (h : sm A L I A1 L1 I1) : pulS A1 I1  = pulS A I  := by
  unfold pulS
  simp only [h.1 12 (by decide), h.1 13 (by decide), h.2.1 11 5 (by decide), h.1 20 (by decide), h.2.1 0 12 (by decide)]
theorem step_ahead {A : Nat → Nat → Int32} {L : Nat → Nat → Int64} {I : Nat → Nat → Int32} {X : Nat → Int64} {n w p : Int32} (h : INV A I) : ST 8 yX10_ahead cX10_ahead 4 9 yX11_ahead cX11_ahead 5 (some .int) [.int n, .int w, .int p] (hp A L I X) :=
  ST_q h m_ahead (fun A1 L1 I1 q h1 => by rw [← ahS_sm q]; exact n_ahead h1)
theorem step_soonest {A : Nat → Nat → Int32} {L : Nat → Nat → Int64} {I : Nat → Nat → Int32} {X : Nat → Int64} {m : Int32} (h : INV A I) : ST 8 yX10_soonest cX10_soonest 2 8 yX11_soonest cX11_soonest 4 (some .int) [.int m] (hp A L I X) :=
  ST_q h m_soonest (fun A1 L1 I1 q h1 => by rw [← sonS_sm q]; exact n_soonest h1)
theorem step_least {A : Nat → Nat → Int32} {L : Nat → Nat → Int64} {I : Nat → Nat → Int32} {X : Nat → Int64} {n : Int32} (h : INV A I) : ST 8 yX10_least cX10_least 2 9 yX11_least cX11_least 4 (some .int) [.int n] (hp A L I X) :=
  ST_q h m_least (fun A1 L1 I1 q h1 => by rw [← lstS_sm q]; exact n_least h1)
theorem step_ripens {A : Nat → Nat → Int32} {L : Nat → Nat → Int64} {I : Nat → Nat → Int32} {X : Nat → Int64} {m : Int32} (h : INV A I) : ST 8 yX10_ripens cX10_ripens 2 8 yX11_ripens cX11_ripens 4 (some .int) [.int m] (hp A L I X) :=
  ST_q h m_ripens (fun A1 L1 I1 q h1 => by rw [← rpnS_sm q]; exact n_ripens h1)
theorem step_shares {A : Nat → Nat → Int32} {L : Nat → Nat → Int64} {I : Nat → Nat → Int32} {X : Nat → Int64} {m n c : Int32} (h : INV A I) : ST 8 yX10_shares cX10_shares 4 10 yX11_shares cX11_shares 5 (some .int) [.int m, .int n, .int c] (hp A L I X) :=
  ST_q h m_shares (fun A1 L1 I1 q h1 => by rw [← shaS_sm q]; exact n_shares h1)
theorem step_ride {A : Nat → Nat → Int32} {L : Nat → Nat → Int64} {I : Nat → Nat → Int32} {X : Nat → Int64} {m n : Int32} (h : INV A I) : ST 8 yX10_ride cX10_ride 3 8 yX11_ride cX11_ride 5 (some .int) [.int m, .int n] (hp A L I X) :=
  ST_q h m_ride (fun A1 L1 I1 q h1 => by rw [← ridS_sm q]; exact n_ride h1)
theorem step_never {A : Nat → Nat → Int32} {L : Nat → Nat → Int64} {I : Nat → Nat → Int32} {X : Nat → Int64} {n : Int32} (h : INV A I) : ST 8 yX10_never cX10_never 2 10 yX11_never cX11_never 4 (some .int) [.int n] (hp A L I X) :=
  ST_q h m_never (fun A1 L1 I1 q h1 => by rw [← nevS_sm q]; exact n_never h1)
theorem step_lasts {A : Nat → Nat → Int32} {L : Nat → Nat → Int64} {I : Nat → Nat → Int32} {X : Nat → Int64}  (h : INV A I) : ST 8 yX10_lasts cX10_lasts 1 8 yX11_lasts cX11_lasts 3 (some .int) [] (hp A L I X) :=
  ST_q h m_lasts (fun A1 L1 I1 q h1 => by rw [← lasS_sm q]; exact n_lasts h1)
theorem step_game {A : Nat → Nat → Int32} {L : Nat → Nat → Int64} {I : Nat → Nat → Int32} {X : Nat → Int64} {a b n x y w : Int32} (h : INV A I) : ST 8 yX10_game cX10_game 7 10 yX11_game cX11_game 7 (some .int) [.int a, .int b, .int n, .int x, .int y, .int w] (hp A L I X) :=
  ST_q h m_game (fun A1 L1 I1 q h1 => by rw [← gaS_sm q]; exact n_game h1)
theorem step_rests {A : Nat → Nat → Int32} {L : Nat → Nat → Int64} {I : Nat → Nat → Int32} {X : Nat → Int64} {a b n i : Int32} (h : INV A I) : ST 8 yX10_rests cX10_rests 5 10 yX11_rests cX11_rests 7 (some .int) [.int a, .int b, .int n, .int i] (hp A L I X) :=
  ST_q h m_rests (fun A1 L1 I1 q h1 => by rw [← reS_sm q]; exact n_rests h1)
theorem step_pull {A : Nat → Nat → Int32} {L : Nat → Nat → Int64} {I : Nat → Nat → Int32} {X : Nat → Int64}  (h : INV A I) : ST 5 yX10_pull cX10_pull 1 7 yX11_pull cX11_pull 1 (some .int) [] (hp A L I X) :=
  ST_q h m_pull (fun A1 L1 I1 q h1 => by rw [← pulS_sm q]; exact n_pull h1)
set_option maxHeartbeats 800000 in
set_option maxRecDepth 100000 in
theorem n_law2 {A : Nat → Nat → Int32} {L : Nat → Nat → Int64} {I : Nat → Nat → Int32} {X : Nat → Int64} {n : Int32}  : Con 2 yX11_law cX11_law 2 (some .boolean) [.ref 46, .int n] (hp A L I X) (fun r_ H_ => (inZ n (-1) (I 46 13 - 1) = 0 ∧ r_ = some (.int 0) ∧ H_ = hp A L I X) ∨ (¬ inZ n (-1) (I 46 13 - 1) = 0 ∧ r_ = some (.int 1) ∧ H_ = hp A L (up2 I 46 29 n) X)) := by
  refine m_con (by decide) (Nat.le_of_ble_eq_true rfl) ?_
  refine g_iload_n dX11_law_0 rfl rfl ?_
  refine g_ic_m1 dX11_law_1 ?_
  refine g_aload_n dX11_law_2 rfl rfl ?_
  refine g_get dX11_law_3 fl_X11_286 hp_46 rfl ?_
  refine g_ic_1 dX11_law_6 ?_
  refine g_isub dX11_law_7 ?_
  refine g_callS dX11_law_8 cs_X11_221 (as := [_, _, _]) e_in (by decide) rfl rfl (Nat.le_of_ble_eq_true rfl) ?_
  rintro _ _ ⟨rfl, rfl⟩
  refine g_if_ne (tgt := 16) dX11_law_11 (by decide) (fun c_11 => ?_) (fun c_11 => ?_)
  · refine g_aload_n dX11_law_16 rfl rfl ?_
    refine g_iload_n dX11_law_17 rfl rfl ?_
    refine g_puti dX11_law_18 fw_X11_64 hp_46 (Nat.le_of_ble_eq_true rfl) ?_
    rw [hq_46_29]
    try simp (disch := omega) only [up_at, up_up, up_ne, up2_at, up2_up2, up2_ne, ud_at, ud_ne]
    refine g_ic_1 dX11_law_21 ?_
    exact g_zret (by first | exact Or.inl rfl | exact Or.inr rfl) dX11_law_22 (Or.inr ⟨c_11, rfl, rfl⟩)
  · refine g_ic_0 dX11_law_14 ?_
    exact g_zret (by first | exact Or.inl rfl | exact Or.inr rfl) dX11_law_15 (Or.inl ⟨c_11, rfl, rfl⟩)

theorem step_law {A : Nat → Nat → Int32} {L : Nat → Nat → Int64} {I : Nat → Nat → Int32} {X : Nat → Int64} {n : Int32} (h : INV A I) : ST 1 yX10_law cX10_law 2 2 yX11_law cX11_law 2 (some .boolean) [.int n] (hp A L I X) := by
  have hi := law_in h.2.1 (n := n)
  refine ST_of (by rintro r_ H_ (⟨g1, rfl, rfl⟩ | ⟨g1, rfl, rfl⟩) <;> exact ⟨_, _, _, _, rfl⟩) ?_ (m_law (A := A) (L := L) (I := I) (X := X) (k := n))
  rintro r_ H_ (⟨g1, rfl, rfl⟩ | ⟨g1, rfl, rfl⟩)
  · refine ⟨0, rfl, Con.mono ?_ n_law2⟩
    rintro r2 H2 (⟨k1, rfl, rfl⟩ | ⟨k1, rfl, rfl⟩)
    · exact ⟨rfl, _, _, _, _, rfl, h⟩
    · have := hi.2 k1
      rw [g1] at this
      exact absurd this (by decide)
  · refine ⟨1, rfl, Con.mono ?_ n_law2⟩
    have e13 : (up2 I 11 5 n) 46 13 = I 46 13 := up2_ne (by decide)
    rw [e13]
    rintro r2 H2 (⟨k1, rfl, rfl⟩ | ⟨k1, rfl, rfl⟩)
    · have := hi.1 k1
      rw [g1] at this
      exact absurd this (by decide)
    · refine ⟨rfl, _, _, _, _, rfl, ?_⟩
      obtain ⟨h1, ⟨l1, l2, nl, l3, l4, l5, l6⟩, h3, h4, h5⟩ := h
      have e : ∀ i k, ¬ (i = 46 ∧ k = 29) ∧ ¬ (i = 11 ∧ k = 5) → (up2 (up2 I 11 5 n) 46 29 n) i k = I i k := fun i k z => (up2_ne z.1).trans (up2_ne z.2)
      have e5 : (up2 (up2 I 11 5 n) 46 29 n) 11 5 = n := (up2_ne (by decide)).trans up2_at
      refine ⟨I_T_ext rfl rfl (e _ _ (by decide)) (e _ _ (by decide)) h1, ⟨up2_at.trans e5.symm, ?_, nl, l3, (e _ _ (by decide)).trans l4, l5, ?_⟩, I_M_ext rfl rfl (e _ _ (by decide)) (e _ _ (by decide)) (e _ _ (by decide)) (e _ _ (by decide)) h3, I_S_ext (fun _ _ => rfl) (e _ _ (by decide)) (e _ _ (by decide)) h4, ?_⟩
      · rw [e _ _ (by decide), e _ _ (by decide)]; exact l2
      · rw [e5]
        unfold lawS at g1
        split at g1
        · exact absurd g1 (by decide)
        · rename_i z
          have z1 : ¬ n < (-1) := fun w => z (Or.inl w)
          have z2 : n < I 11 4 := Decidable.byContradiction fun w => z (Or.inr w)
          rw [l4] at z2
          by_cases c : n < 0
          · refine Or.inl ?_
            have a1 := Int32.lt_iff_toInt_lt.mp c
            have a2 : ¬ n.toInt < (-1) := fun w => z1 (Int32.lt_iff_toInt_lt.mpr w)
            have a3 : (0 : Int32).toInt = 0 := by decide
            have a4 : (-1 : Int32).toInt = -1 := by decide
            exact Int32.toInt_inj.mp (by omega)
          · obtain ⟨j, j1, rfl⟩ := nI_of c
            exact Or.inr ⟨j, (nI_ltI (by omega) (by omega)).mp z2, rfl⟩
      · rcases h5 with ⟨k0, k⟩ | ⟨k0, ms, cs, k1, k2, k3, k4, k5⟩
        · refine Or.inl ⟨(e _ _ (by decide)).trans k0, ?_⟩
          unfold NPN at k ⊢
          rw [e 46 25 (by decide), e 46 26 (by decide), e 25 1 (by decide), e 46 35 (by decide), e 25 2 (by decide), e 46 50 (by decide), e 0 13 (by decide), e 34 9 (by decide)]
          exact k
        · refine Or.inr ⟨(e _ _ (by decide)).trans k0, ms, cs, ?_, k2, k3, AKT_ext (fun _ _ => rfl) (e _ _ (by decide)) (e _ _ (by decide)) (e _ _ (by decide)) k4, ?_⟩
          · rw [e _ _ (by decide), e _ _ (by decide)]; exact k1
          · rw [e 46 50 (by decide), e 0 13 (by decide)]; exact k5
theorem step_end {A : Nat → Nat → Int32} {L : Nat → Nat → Int64} {I : Nat → Nat → Int32} {X : Nat → Int64} {n : Int32} (h : INV A I) : ST 2 yX10_end cX10_end 2 1 yX11_end cX11_end 2 (some .boolean) [.int n] (hp A L I X) := by
  obtain ⟨t1, t2, t3⟩ := id h.1
  refine ST_of (by rintro r_ H_ (⟨g1, rfl, rfl⟩ | ⟨g1, g2, rfl, rfl⟩) <;> exact ⟨_, _, _, _, rfl⟩) ?_ (m_end (A := A) (L := L) (I := I) (X := X) (n := n))
  rintro r_ H_ (⟨g1, rfl, rfl⟩ | ⟨g1, g2, rfl, rfl⟩)
  · refine ⟨0, rfl, Con.mono ?_ n_end⟩
    rintro r2 H2 (⟨k1, rfl, rfl⟩ | ⟨k1, k2, rfl, rfl⟩)
    · exact ⟨rfl, _, _, _, _, rfl, h⟩
    · rw [t2] at k2
      rcases g1 with z | z
      · exact absurd z k1
      · exact absurd k2 z
  · refine ⟨1, rfl, Con.mono ?_ n_end⟩
    have e2 : (up2 I 1 1 n) 46 2 = I 46 2 := up2_ne (by decide)
    rw [e2, t2]
    rintro r2 H2 (⟨k1, rfl, rfl⟩ | ⟨k1, k2, rfl, rfl⟩)
    · rcases k1 with z | z
      · exact absurd z g1
      · exact absurd g2 z
    · refine ⟨rfl, _, _, _, _, rfl, ?_⟩
      have e : ∀ i k, ¬ (i = 46 ∧ k = 2) ∧ ¬ (i = 1 ∧ k = 1) → (up2 (up2 I 1 1 n) 46 2 n) i k = I i k := fun i k z => (up2_ne z.1).trans (up2_ne z.2)
      have e1 : (up2 (up2 I 1 1 n) 46 2 n) 1 1 = n := (up2_ne (by decide)).trans up2_at
      obtain ⟨h1, h2, h3, h4, h5⟩ := h
      refine ⟨⟨t1, up2_at.trans e1.symm, ?_⟩, I_L_ext (fun _ _ => rfl) (e _ _ (by decide)) (e _ _ (by decide)) (e _ _ (by decide)) (e _ _ (by decide)) h2, I_M_ext rfl rfl (e _ _ (by decide)) (e _ _ (by decide)) (e _ _ (by decide)) (e _ _ (by decide)) h3, I_S_ext (fun _ _ => rfl) (e _ _ (by decide)) (e _ _ (by decide)) h4, ?_⟩
      · obtain ⟨nn, u1, u2, u3⟩ := t3
        obtain ⟨j, j1, rfl⟩ := nI_of g1
        rw [u1] at g2
        have j2 := (nI_leI (by omega) (by omega)).mp g2
        exact ⟨j, e1, by omega, fun i hi => u3 i (by omega)⟩
      · rcases h5 with ⟨k0, k⟩ | ⟨k0, ms, cs, k1, k2, k3, k4, k5⟩
        · refine Or.inl ⟨(e _ _ (by decide)).trans k0, ?_⟩
          unfold NPN at k ⊢
          rw [e 46 25 (by decide), e 46 26 (by decide), e 25 1 (by decide), e 46 35 (by decide), e 25 2 (by decide), e 46 50 (by decide), e 0 13 (by decide), e 34 9 (by decide)]
          exact k
        · refine Or.inr ⟨(e _ _ (by decide)).trans k0, ms, cs, ?_, k2, k3, AKT_ext (fun _ _ => rfl) (e _ _ (by decide)) (e _ _ (by decide)) (e _ _ (by decide)) k4, ?_⟩
          · rw [e _ _ (by decide), e _ _ (by decide)]; exact k1
          · rw [e 46 50 (by decide), e 0 13 (by decide)]; exact k5
def setN (I : Nat → Nat → Int32) (w v : Int32) : Int32 := if inZ w 0 1 = 0 then 0 else if inZ v 0 9 = 0 then 0 else if (if w = 0 then I 46 30 else I 46 31) = v then 0 else 1
set_option maxHeartbeats 800000 in
set_option maxRecDepth 100000 in
theorem n_set2 {A : Nat → Nat → Int32} {L : Nat → Nat → Int64} {I : Nat → Nat → Int32} {X : Nat → Int64} {w v : Int32}  : Con 2 yX11_set cX11_set 3 (some .boolean) [.ref 46, .int w, .int v] (hp A L I X) (fun r_ H_ => (setN I w v = 0 ∧ r_ = some (.int 0) ∧ H_ = hp A L I X) ∨ (setN I w v = 1 ∧ r_ = some (.int 1) ∧ H_ = hp A L (up2 I 46 (if w = 0 then 30 else 31) v) X)) := by
  refine m_con (by decide) (Nat.le_of_ble_eq_true rfl) ?_
  refine g_iload_n dX11_set_0 rfl rfl ?_
  refine g_ic_0 dX11_set_1 ?_
  refine g_ic_1 dX11_set_2 ?_
  refine g_callS dX11_set_3 cs_X11_221 (as := [_, _, _]) e_in (by decide) rfl rfl (Nat.le_of_ble_eq_true rfl) ?_
  rintro _ _ ⟨rfl, rfl⟩
  refine g_if_eq (tgt := 38) dX11_set_6 (by decide) (fun c_6 => ?_) (fun c_6 => ?_)
  · refine g_ic_0 dX11_set_38 ?_
    exact g_zret (by first | exact Or.inl rfl | exact Or.inr rfl) dX11_set_39 (Or.inl ⟨if_pos c_6, rfl, rfl⟩)
  · refine g_iload_n dX11_set_9 rfl rfl ?_
    refine g_ic_0 dX11_set_10 ?_
    refine g_bipush (v := 9) dX11_set_11 (by decide) ?_
    refine g_callS dX11_set_13 cs_X11_221 (as := [_, _, _]) e_in (by decide) rfl rfl (Nat.le_of_ble_eq_true rfl) ?_
    rintro _ _ ⟨rfl, rfl⟩
    refine g_if_eq (tgt := 38) dX11_set_16 (by decide) (fun c_16 => ?_) (fun c_16 => ?_)
    · refine g_ic_0 dX11_set_38 ?_
      exact g_zret (by first | exact Or.inl rfl | exact Or.inr rfl) dX11_set_39 (Or.inl ⟨(if_neg c_6).trans (if_pos c_16), rfl, rfl⟩)
    · refine g_iload_n dX11_set_19 rfl rfl ?_
      refine g_if_ne (tgt := 30) dX11_set_20 (by decide) (fun c_20 => ?_) (fun c_20 => ?_)
      · refine g_aload_n dX11_set_30 rfl rfl ?_
        refine g_get dX11_set_31 fl_X11_341 hp_46 rfl ?_
        refine g_iload_n dX11_set_34 rfl rfl ?_
        refine g_icmp_ne (tgt := 40) dX11_set_35 (by decide) (fun c_35 => ?_) (fun c_35 => ?_)
        · refine g_aload_n dX11_set_40 rfl rfl ?_
          refine g_iload_n dX11_set_41 rfl rfl ?_
          refine g_if_ne (tgt := 49) dX11_set_42 (by decide) (fun c_42 => ?_) (fun c_42 => ?_)
          · refine g_aload_n dX11_set_49 rfl rfl ?_
            refine g_get dX11_set_50 fl_X11_338 hp_46 rfl ?_
            refine g_puti dX11_set_53 fw_X11_338 hp_46 (Nat.le_of_ble_eq_true rfl) ?_
            rw [hq_46_30]
            try simp (disch := omega) only [up2_at, up2_ne]
            refine g_aload_n dX11_set_56 rfl rfl ?_
            refine g_iload_n dX11_set_57 rfl rfl ?_
            refine g_ic_1 dX11_set_58 ?_
            refine g_icmp_ne (tgt := 66) dX11_set_59 (by decide) (fun c_59 => ?_) (fun c_59 => ?_)
            · exact absurd (w_one c_6 c_20) c_59
            · refine g_iload_n dX11_set_62 rfl rfl ?_
              refine g_goto (tgt := 70) dX11_set_63 (by decide) ?_
              refine g_puti dX11_set_70 fw_X11_341 hp_46 (Nat.le_of_ble_eq_true rfl) ?_
              rw [hq_46_31]
              try simp (disch := omega) only [up2_at, up2_ne]
              refine g_ic_1 dX11_set_73 ?_
              exact g_zret (by first | exact Or.inl rfl | exact Or.inr rfl) dX11_set_74 (Or.inr ⟨(if_neg c_6).trans ((if_neg c_16).trans (if_neg (fun z => c_35 ((if_neg c_20).symm.trans z)))), rfl, by rw [if_neg c_20, up2_self]⟩)
          · exact absurd c_42 c_20
        · refine g_ic_0 dX11_set_38 ?_
          exact g_zret (by first | exact Or.inl rfl | exact Or.inr rfl) dX11_set_39 (Or.inl ⟨(if_neg c_6).trans ((if_neg c_16).trans (if_pos ((if_neg c_20).trans c_35))), rfl, rfl⟩)
      · refine g_aload_n dX11_set_23 rfl rfl ?_
        refine g_get dX11_set_24 fl_X11_338 hp_46 rfl ?_
        refine g_goto (tgt := 34) dX11_set_27 (by decide) ?_
        refine g_iload_n dX11_set_34 rfl rfl ?_
        refine g_icmp_ne (tgt := 40) dX11_set_35 (by decide) (fun c_35 => ?_) (fun c_35 => ?_)
        · refine g_aload_n dX11_set_40 rfl rfl ?_
          refine g_iload_n dX11_set_41 rfl rfl ?_
          refine g_if_ne (tgt := 49) dX11_set_42 (by decide) (fun c_42 => ?_) (fun c_42 => ?_)
          · exact absurd c_20 c_42
          · refine g_iload_n dX11_set_45 rfl rfl ?_
            refine g_goto (tgt := 53) dX11_set_46 (by decide) ?_
            refine g_puti dX11_set_53 fw_X11_338 hp_46 (Nat.le_of_ble_eq_true rfl) ?_
            rw [hq_46_30]
            try simp (disch := omega) only [up2_at, up2_ne]
            refine g_aload_n dX11_set_56 rfl rfl ?_
            refine g_iload_n dX11_set_57 rfl rfl ?_
            refine g_ic_1 dX11_set_58 ?_
            refine g_icmp_ne (tgt := 66) dX11_set_59 (by decide) (fun c_59 => ?_) (fun c_59 => ?_)
            · refine g_aload_n dX11_set_66 rfl rfl ?_
              refine g_get dX11_set_67 fl_X11_341 hp_46 rfl ?_
              try simp (disch := omega) only [up2_at, up2_ne]
              refine g_puti dX11_set_70 fw_X11_341 hp_46 (Nat.le_of_ble_eq_true rfl) ?_
              rw [hq_46_31]
              try simp (disch := omega) only [up2_at, up2_ne]
              refine g_ic_1 dX11_set_73 ?_
              exact g_zret (by first | exact Or.inl rfl | exact Or.inr rfl) dX11_set_74 (Or.inr ⟨(if_neg c_6).trans ((if_neg c_16).trans (if_neg (fun z => c_35 ((if_pos c_20).symm.trans z)))), rfl, by rw [if_pos c_20]; exact congrArg (fun z => hp A L z X) (up2_self (I := up2 I 46 30 v))⟩)
            · exact absurd (c_20.symm.trans c_59) (by decide)
        · refine g_ic_0 dX11_set_38 ?_
          exact g_zret (by first | exact Or.inl rfl | exact Or.inr rfl) dX11_set_39 (Or.inl ⟨(if_neg c_6).trans ((if_neg c_16).trans (if_pos ((if_pos c_20).trans c_35))), rfl, rfl⟩)

theorem set_N {A I : Nat → Nat → Int32} (h : I_M A I) {w v : Int32} : setS I w v = setN I w v := by
  unfold setN
  by_cases c6 : inZ w 0 1 = 0
  · rw [if_pos c6]; exact set_6 c6
  · by_cases c16 : inZ v 0 9 = 0
    · rw [if_neg c6, if_pos c16]; exact set_16 c16
    · rw [if_neg c6, if_neg c16]
      by_cases c : (if w = 0 then I 46 30 else I 46 31) = v
      · rw [if_pos c]; exact set_35 h c
      · rw [if_neg c]; exact set_ok h c6 c16 c
theorem set_in {I : Nat → Nat → Int32} {w v : Int32} (h : setN I w v = 1) : bd 9 v ∧ ¬ inZ w 0 1 = 0 := by
  unfold setN at h
  by_cases c6 : inZ w 0 1 = 0
  · rw [if_pos c6] at h; exact absurd h (by decide)
  · by_cases c16 : inZ v 0 9 = 0
    · rw [if_neg c6, if_pos c16] at h; exact absurd h (by decide)
    · obtain ⟨j, j1, j2⟩ := in_1 (b := 9) (by decide) c16
      exact ⟨⟨j, j1, j2⟩, c6⟩
theorem step_set {A : Nat → Nat → Int32} {L : Nat → Nat → Int64} {I : Nat → Nat → Int32} {X : Nat → Int64} {w v : Int32} (h : INV A I) : ST 1 yX10_set cX10_set 3 2 yX11_set cX11_set 3 (some .boolean) [.int w, .int v] (hp A L I X) := by
  have hN := set_N h.2.2.1 (w := w) (v := v)
  refine ST_of (by rintro r_ H_ (⟨g1, rfl, rfl⟩ | ⟨g1, rfl, rfl⟩) <;> exact ⟨_, _, _, _, rfl⟩) ?_ (m_setq (A := A) (L := L) (I := I) (X := X) (w := w) (v := v))
  rintro r_ H_ (⟨g1, rfl, rfl⟩ | ⟨g1, rfl, rfl⟩)
  · refine ⟨0, rfl, Con.mono ?_ n_set2⟩
    rintro r2 H2 (⟨k1, rfl, rfl⟩ | ⟨k1, rfl, rfl⟩)
    · exact ⟨rfl, _, _, _, _, rfl, h⟩
    · rw [hN, k1] at g1
      exact absurd g1 (by decide)
  · refine ⟨1, rfl, Con.mono ?_ n_set2⟩
    have eN : setN (up2 I 0 (if w = 0 then 14 else 15) v) w v = setN I w v := by
      unfold setN
      rw [up2_ne (by simp), up2_ne (by simp)]
    rw [eN, ← hN, g1]
    rintro r2 H2 (⟨k1, rfl, rfl⟩ | ⟨-, rfl, rfl⟩)
    · exact absurd k1 (by decide)
    · refine ⟨rfl, _, _, _, _, rfl, ?_⟩
      obtain ⟨bv, bw⟩ := set_in (hN.symm.trans g1)
      have key : ∀ a b, ((a = 14 ∧ b = 30) ∨ (a = 15 ∧ b = 31)) → INV A (up2 (up2 I 0 a v) 46 b v) := by
        intro a b hab
        have e : ∀ i k, ¬ (i = 46 ∧ (k = 30 ∨ k = 31)) ∧ ¬ (i = 0 ∧ (k = 14 ∨ k = 15)) → (up2 (up2 I 0 a v) 46 b v) i k = I i k := fun i k z => by
          rw [up2_ne (fun q => z.1 ⟨q.1, by rcases hab with ⟨-, y⟩ | ⟨-, y⟩ <;> omega⟩), up2_ne (fun q => z.2 ⟨q.1, by rcases hab with ⟨y, -⟩ | ⟨y, -⟩ <;> omega⟩)]
        obtain ⟨h1, h2, ⟨m1, ⟨m2, m3⟩, m4, m5⟩, h4, h5⟩ := h
        refine ⟨I_T_ext rfl rfl (e _ _ (by decide)) (e _ _ (by decide)) h1, I_L_ext (fun _ _ => rfl) (e _ _ (by decide)) (e _ _ (by decide)) (e _ _ (by decide)) (e _ _ (by decide)) h2, ?_, I_S_ext (fun _ _ => rfl) (e _ _ (by decide)) (e _ _ (by decide)) h4, ?_⟩
        · rcases hab with ⟨rfl, rfl⟩ | ⟨rfl, rfl⟩
          · refine ⟨m1, ?_, ?_⟩
            · rw [up2_at, up2_ne (by decide), up2_at]; exact ⟨rfl, bv⟩
            · rw [up2_ne (by decide), up2_ne (by decide), up2_ne (by decide), up2_ne (by decide)]; exact ⟨m4, m5⟩
          · refine ⟨m1, ?_, ?_⟩
            · rw [up2_ne (by decide), up2_ne (by decide), up2_ne (by decide), up2_ne (by decide)]; exact ⟨m2, m3⟩
            · rw [up2_at, up2_ne (by decide), up2_at]; exact ⟨rfl, bv⟩
        · rcases h5 with ⟨k0, k⟩ | ⟨k0, ms, cs, k1, k2, k3, k4, k5⟩
          · refine Or.inl ⟨(e _ _ (by decide)).trans k0, ?_⟩
            unfold NPN at k ⊢
            rw [e 46 25 (by decide), e 46 26 (by decide), e 25 1 (by decide), e 46 35 (by decide), e 25 2 (by decide), e 46 50 (by decide), e 0 13 (by decide), e 34 9 (by decide)]
            exact k
          · refine Or.inr ⟨(e _ _ (by decide)).trans k0, ms, cs, ?_, k2, k3, AKT_ext (fun _ _ => rfl) (e _ _ (by decide)) (e _ _ (by decide)) (e _ _ (by decide)) k4, ?_⟩
            · rw [e _ _ (by decide), e _ _ (by decide)]; exact k1
            · rw [e 46 50 (by decide), e 0 13 (by decide)]; exact k5
      by_cases c : w = 0
      · rw [if_pos c, if_pos c]; exact key 14 30 (Or.inl ⟨rfl, rfl⟩)
      · rw [if_neg c, if_neg c]; exact key 15 31 (Or.inr ⟨rfl, rfl⟩)
set_option maxHeartbeats 800000 in
set_option maxRecDepth 100000 in
theorem n_seen2 {A : Nat → Nat → Int32} {L : Nat → Nat → Int64} {I : Nat → Nat → Int32} {X : Nat → Int64} {n x w : Int32} {k : Nat} (hk : I 46 46 = nI k) (kb : k ≤ 10) (hx : ¬ inZ x 0 (I 46 25 - 1) = 0 → ∃ m, x = nI m ∧ m < 8) (hw : w = 0 ∨ w = 1) : Con 3 yX11_seen cX11_seen 4 (some .int) [.ref 46, .int n, .int x, .int w] (hp A L I X) (fun r_ H_ => ((inZ x 0 (I 46 25 - 1) = 0 ∨ inZ n 1 40 = 0 ∨ k = 10) ∧ r_ = some (.int (-1)) ∧ H_ = hp A L I X) ∨ ((¬ inZ x 0 (I 46 25 - 1) = 0 ∧ ¬ inZ n 1 40 = 0 ∧ k < 10) ∧ r_ = some (.int (nI k + 1)) ∧ H_ = hp (up (up (up A 71 (upd (A 71) k n)) 72 (upd (A 72) k x)) 73 (upd (A 73) k w)) L (up2 I 46 46 (nI k + 1)) X)) := by
  refine m_con (by decide) (Nat.le_of_ble_eq_true rfl) ?_
  refine g_aload_n dX11_seen_0 rfl rfl ?_
  refine g_iload_n dX11_seen_1 rfl rfl ?_
  refine g_callV dX11_seen_2 cv_X11_317 (as' := [_]) hp_46 rfl e_isMonth (by decide) rfl rfl (Nat.le_of_ble_eq_true rfl) ?_
  rintro _ _ ⟨rfl, rfl⟩
  refine g_if_eq (tgt := 27) dX11_seen_5 (by decide) (fun c_5 => ?_) (fun c_5 => ?_)
  · refine g_ic_m1 dX11_seen_27 ?_
    exact g_iret dX11_seen_28 (Or.inl ⟨Or.inl c_5, rfl, rfl⟩)
  · refine g_iload_n dX11_seen_8 rfl rfl ?_
    refine g_ic_1 dX11_seen_9 ?_
    refine g_bipush (v := 40) dX11_seen_10 (by decide) ?_
    refine g_callS dX11_seen_12 cs_X11_221 (as := [_, _, _]) e_in (by decide) rfl rfl (Nat.le_of_ble_eq_true rfl) ?_
    rintro _ _ ⟨rfl, rfl⟩
    refine g_if_eq (tgt := 27) dX11_seen_15 (by decide) (fun c_15 => ?_) (fun c_15 => ?_)
    · refine g_ic_m1 dX11_seen_27 ?_
      exact g_iret dX11_seen_28 (Or.inl ⟨Or.inr (Or.inl c_15), rfl, rfl⟩)
    · refine g_aload_n dX11_seen_18 rfl rfl ?_
      refine g_get dX11_seen_19 fl_X11_273 hp_46 rfl ?_
      refine g_bipush (v := 10) dX11_seen_22 (by decide) ?_
      refine g_icmp_ne (tgt := 29) dX11_seen_24 (by decide) (fun c_24 => ?_) (fun c_24 => ?_)
      · have k10 : k < 10 := by rcases Nat.lt_or_ge k 10 with z | z; exact z; exact absurd (hk.trans (by rw [show k = 10 by omega]; rfl)) c_24
        obtain ⟨t, t1, t2, t3⟩ := in_41 c_15
        obtain ⟨m, m1, m3⟩ := hx c_5
        refine g_aload_n dX11_seen_29 rfl rfl ?_
        refine g_get dX11_seen_30 fl_X11_86 hp_46 rfl ?_
        refine g_aload_n dX11_seen_33 rfl rfl ?_
        refine g_get dX11_seen_34 fl_X11_273 hp_46 rfl ?_
        refine g_iload_n dX11_seen_37 rfl rfl ?_
        refine g_wa dX11_seen_38 hp_71 (k := k) hk (by omega) (by decide) ?_
        rw [hq_71]
        try simp (disch := omega) only [up_at, up_ne, up2_at, up2_ne]
        refine g_aload_n dX11_seen_39 rfl rfl ?_
        refine g_get dX11_seen_40 fl_X11_89 hp_46 rfl ?_
        refine g_aload_n dX11_seen_43 rfl rfl ?_
        refine g_get dX11_seen_44 fl_X11_273 hp_46 rfl ?_
        try simp (disch := omega) only [up_at, up_ne, up2_at, up2_ne]
        refine g_iload_n dX11_seen_47 rfl rfl ?_
        refine g_wa dX11_seen_48 hp_72 (k := k) hk (by omega) (by decide) ?_
        rw [hq_72]
        try simp (disch := omega) only [up_at, up_ne, up2_at, up2_ne]
        refine g_aload_n dX11_seen_49 rfl rfl ?_
        refine g_get dX11_seen_50 fl_X11_92 hp_46 rfl ?_
        refine g_aload_n dX11_seen_53 rfl rfl ?_
        refine g_get dX11_seen_54 fl_X11_273 hp_46 rfl ?_
        try simp (disch := omega) only [up_at, up_ne, up2_at, up2_ne]
        refine g_iload_n dX11_seen_57 rfl rfl ?_
        refine g_wz hw dX11_seen_58 hp_73 (k := k) hk (by omega) (by decide) ?_
        rw [hq_73]
        try simp (disch := omega) only [up_at, up_ne, up2_at, up2_ne]
        refine g_aload_n dX11_seen_59 rfl rfl ?_
        refine g_dup dX11_seen_60 rfl ?_
        refine g_get dX11_seen_61 fl_X11_273 hp_46 rfl ?_
        try simp (disch := omega) only [up_at, up_ne, up2_at, up2_ne]
        refine g_ic_1 dX11_seen_64 ?_
        refine g_iadd dX11_seen_65 ?_
        refine g_puti dX11_seen_66 fw_X11_273 hp_46 (Nat.le_of_ble_eq_true rfl) ?_
        rw [hq_46_46]
        try simp (disch := omega) only [up_at, up_ne, up2_at, up2_ne]
        refine g_aload_n dX11_seen_69 rfl rfl ?_
        refine g_get dX11_seen_70 fl_X11_273 hp_46 rfl ?_
        try simp (disch := omega) only [up_at, up_ne, up2_at, up2_ne]
        exact g_iret dX11_seen_73 (Or.inr ⟨⟨c_5, c_15, k10⟩, by rw [hk], by rw [hk]⟩)
      · refine g_ic_m1 dX11_seen_27 ?_
        exact g_iret dX11_seen_28 (Or.inl ⟨Or.inr (Or.inr ((nI_eq (a := k) (b := 10) (by omega) (by decide)).mp (hk.symm.trans c_24))), rfl, rfl⟩)

theorem step_seen {A : Nat → Nat → Int32} {L : Nat → Nat → Int64} {I : Nat → Nat → Int32} {X : Nat → Int64} {n x w : Int32} (h : INV A I) (hw : w = 0 ∨ w = 1) : ST 4 yX10_seen cX10_seen 4 3 yX11_seen cX11_seen 4 (some .int) [.int n, .int x, .int w] (hp A L I X) := by
  obtain ⟨i1, i2, i3, i4, k, i5, i6, i7⟩ := id h.2.2.2.1
  have hT := told_M h x
  have hM := INV_M h x
  have hx : ¬ inZ x 0 (I 46 25 - 1) = 0 → ∃ m, x = nI m ∧ m < 8 := fun z => by
    obtain ⟨ms, cs, m, -, m1, m2, m3⟩ := INV_Pm h z
    exact ⟨m, m1, m3⟩
  have hk : I 46 46 = nI k := i1.trans i6
  refine ST_of (by rintro r_ H_ ⟨rfl, rfl⟩; (try unfold senS); unfold isHp; split <;> exact ⟨_, _, _, _, rfl⟩) ?_ (m_seen (A := A) (L := L) (I := I) (X := X) (n := n) (m := x) (w := w))
  rintro r_ H_ ⟨rfl, rfl⟩
  refine ⟨_, rfl, ?_⟩
  unfold senS
  by_cases c : hasM (A 17) x = 0 ∨ n < 1 ∨ 40 < n ∨ ¬ I 34 9 < 10
  · rw [if_pos c, if_pos c]
    refine Con.mono ?_ (n_seen2 hk i5 hx hw)
    rintro r2 H2 (⟨k1, rfl, rfl⟩ | ⟨⟨k1, k2, k3⟩, rfl, rfl⟩)
    · exact ⟨rfl, _, _, _, _, rfl, h⟩
    · rcases c with z | z | z | z
      · rw [hT, hM] at z; exact absurd z k1
      · exact absurd (in_0.mpr (Or.inl z)) k2
      · exact absurd (in_0.mpr (Or.inr z)) k2
      · rw [i6] at z; exact absurd (nI_lt (b := 10) k3 (by decide)) z
  · rw [if_neg c, if_neg c]
    have ck : k < 10 := by
      have z : I 34 9 < 10 := Decidable.byContradiction fun z => c (Or.inr (Or.inr (Or.inr z)))
      rw [i6] at z
      exact (nI_ltI (b := 10) (by omega) (by decide)).mp z
    have ei : ∀ a b, ¬ (a = 34 ∧ b = 9) → (up2 I 34 9 (I 34 9 + 1)) a b = I a b := fun a b z => up2_ne z
    refine Con.mono ?_ (n_seen2 (k := k) ((ei _ _ (by decide)).trans hk) i5 (by rw [ei _ _ (by decide)]; exact hx) hw)
    rw [ei 46 25 (by decide)]
    rintro r2 H2 (⟨k1, rfl, rfl⟩ | ⟨⟨k1, k2, k3⟩, rfl, rfl⟩)
    · rcases k1 with z | z | z
      · exact absurd (Or.inl (by rw [hT, hM]; exact z)) c
      · exact absurd (Or.inr ((in_0.mp z).imp id Or.inl)) c
      · omega
    · refine ⟨by rw [i6], _, _, _, _, rfl, ?_⟩
      obtain ⟨ms, cs, m, hP, m1, m2, m8⟩ := INV_Pm h k1
      obtain ⟨t, t1, t2, t3⟩ := in_41 k2
      have ew : (if w = 0 then (0 : Int32) else 1) = w := by
        rcases hw with rfl | rfl <;> rfl
      rw [ew, i6]
      have e10 : ∀ (f : Nat → Int32) (v : Int32), pt 10 f (nI k) v = upd f k v := fun f v => pt_nI (by omega) (by decide)
      rw [e10, e10, e10]
      have e : ∀ i k2, ¬ (i = 46 ∧ k2 = 46) ∧ ¬ (i = 34 ∧ k2 = 9) → (up2 (up2 I 34 9 (nI k + 1)) 46 46 (nI k + 1)) i k2 = I i k2 := fun i k2 z => (up2_ne z.1).trans (up2_ne z.2)
      have eA : ∀ i, i ≠ 71 → i ≠ 72 → i ≠ 73 → i ≠ 38 → i ≠ 39 → i ≠ 40 → (up (up (up (up (up (up A 38 (upd (A 38) k n)) 39 (upd (A 39) k x)) 40 (upd (A 40) k w)) 71 (upd ((up (up (up A 38 (upd (A 38) k n)) 39 (upd (A 39) k x)) 40 (upd (A 40) k w)) 71) k n)) 72 (upd ((up (up (up A 38 (upd (A 38) k n)) 39 (upd (A 39) k x)) 40 (upd (A 40) k w)) 72) k x)) 73 (upd ((up (up (up A 38 (upd (A 38) k n)) 39 (upd (A 39) k x)) 40 (upd (A 40) k w)) 73) k w)) i = A i := fun i a1 a2 a3 a4 a5 a6 => by
        rw [up_ne a3, up_ne a2, up_ne a1, up_ne a6, up_ne a5, up_ne a4]
      have eB : ∀ i, i ∈ jA ++ [20, 63, 23, 76, 26, 66] → i ≠ 71 ∧ i ≠ 72 ∧ i ≠ 73 ∧ i ≠ 38 ∧ i ≠ 39 ∧ i ≠ 40 ∨ i ∈ [71, 72, 73, 38, 39, 40] := by decide
      obtain ⟨h1, h2, h3, h4, h5⟩ := h
      refine ⟨I_T_ext (eA _ (by decide) (by decide) (by decide) (by decide) (by decide) (by decide)) (eA _ (by decide) (by decide) (by decide) (by decide) (by decide) (by decide)) (e _ _ (by decide)) (e _ _ (by decide)) h1, I_L_ext (fun i hi => ?_) (e _ _ (by decide)) (e _ _ (by decide)) (e _ _ (by decide)) (e _ _ (by decide)) h2, I_M_ext (eA _ (by decide) (by decide) (by decide) (by decide) (by decide) (by decide)) (eA _ (by decide) (by decide) (by decide) (by decide) (by decide) (by decide)) (e _ _ (by decide)) (e _ _ (by decide)) (e _ _ (by decide)) (e _ _ (by decide)) h3, ?_, ?_⟩
      · obtain ⟨a1, a2, a3, a4, a5, a6⟩ := (by decide : ∀ i, i ∈ [12, 13, 48, 49, 51, 52, 53, 54] → i ≠ 71 ∧ i ≠ 72 ∧ i ≠ 73 ∧ i ≠ 38 ∧ i ≠ 39 ∧ i ≠ 40) i hi
        exact eA i a1 a2 a3 a4 a5 a6
      · simp (disch := omega) only [I_S, up_at, up_ne, up2_at, up2_ne]
        refine ⟨trivial, by rw [i2], by rw [i3], by rw [i4], k + 1, by omega, by rw [show (1 : Int32) = nI 1 from rfl, nI_add], fun i hi => ?_⟩
        by_cases z : i = k
        · subst z
          rw [ud_at, ud_at, ud_at]
          exact ⟨⟨t, t1, t2, t3⟩, ⟨m, m8, m1⟩, hw⟩
        · rw [ud_ne z, ud_ne z, ud_ne z]
          exact i7 i (by omega)
      · rcases h5 with ⟨k0, kk⟩ | ⟨k0, ms2, cs2, q1, q2, q3, q4, q5⟩
        · exact absurd (hP.1.1.symm.trans kk.1.1) (fun z => by
            have z2 : 2 ≤ ms := hP.2.1.1.1.1
            have z8 : ms ≤ 8 := hP.2.1.1.1.2.1
            exact absurd ((nI_eq (b := 0) (by omega) (by omega)).mp (z.trans nI_0.symm)) (by omega))
        · refine Or.inr ⟨(e _ _ (by decide)).trans k0, ms2, cs2, ?_, ?_, ?_, AKT_ext (fun i hi => ?_) (e _ _ (by decide)) (e _ _ (by decide)) (e _ _ (by decide)) q4, ?_⟩
          · rw [e _ _ (by decide), e _ _ (by decide)]; exact q1
          · simp (disch := omega) only [up_ne]; exact q2
          · simp (disch := omega) only [up_ne]; exact q3
          · obtain ⟨a1, a2, a3, a4, a5, a6⟩ := (by decide : ∀ i, i ∈ [60, 61, 62, 26, 66] → i ≠ 71 ∧ i ≠ 72 ∧ i ≠ 73 ∧ i ≠ 38 ∧ i ≠ 39 ∧ i ≠ 40) i hi
            exact eA i a1 a2 a3 a4 a5 a6
          · rw [e 46 50 (by decide), e 0 13 (by decide)]
            simp (disch := omega) only [up_ne]; exact q5