/-! THE REFERENCE: most -/
def lkN (N C : ROW) (k : Nat) : Int32 := mx 0 (C (3 * k) - N (24 + k)) + mx 0 (C (3 * k + 1) - N (29 + k))
theorem most_no {A I : Nat → Nat → Int32} {x : Int32} (h : ¬ I 0 12 = 0) (c : x < 0 ∨ 2 < x) : mstS A I x = (-1) := by
  unfold mstS
  rw [if_neg h]
  refine if_pos ?_
  rcases c with c | c
  · exact Or.inl (Int32.lt_iff_toInt_lt.mp c)
  · exact Or.inr (Int32.lt_iff_toInt_lt.mp c)
set_option maxHeartbeats 800000 in
set_option maxRecDepth 100000 in
theorem e_lacks {A : Nat → Nat → Int32} {L : Nat → Nat → Int64} {I : Nat → Nat → Int32} {X : Nat → Int64} {x : Int32} {k : Nat} (hx : x = nI k) (hk : k < 5) : Con 2 yX11_lacks cX11_lacks 2 (some .int) [.ref 46, .int x] (hp A L I X) (fun r_ H_ => r_ = some (.int (lkN (A 63) (A 62) k)) ∧ H_ = hp A L I X) := by
  refine m_con (by decide) (Nat.le_of_ble_eq_true rfl) ?_
  subst hx
  refine g_ic_0 dX11_lacks_0 ?_
  refine g_aload_n dX11_lacks_1 rfl rfl ?_
  refine g_iload_n dX11_lacks_2 rfl rfl ?_
  refine g_ic_0 dX11_lacks_3 ?_
  refine g_callV dX11_lacks_4 cv_X11_296 (as' := [_, _]) hp_46 rfl (e_ofCrop (a := k) (b := 0) rfl rfl (by omega)) (by decide) rfl rfl (Nat.le_of_ble_eq_true rfl) ?_
  rintro _ _ ⟨rfl, rfl⟩
  refine g_aload_n dX11_lacks_7 rfl rfl ?_
  refine g_get dX11_lacks_8 fl_X11_58 hp_46 rfl ?_
  refine g_bipush (v := 24) dX11_lacks_11 (by decide) ?_
  refine g_iload_n dX11_lacks_13 rfl rfl ?_
  refine g_iadd dX11_lacks_14 ?_
  refine g_ra dX11_lacks_15 hp_63 (k := 24 + k) (nk_add (show (24 : Int32) = nI 24 from rfl) (show nI (k) = nI (k) from rfl)) (by omega) (by decide) ?_
  refine g_isub dX11_lacks_16 ?_
  refine g_max dX11_lacks_17 ml_X11_294 ms_max mi_math mc_max (by decide) (Nat.le_of_ble_eq_true rfl) ?_
  refine g_ic_0 dX11_lacks_20 ?_
  refine g_aload_n dX11_lacks_21 rfl rfl ?_
  refine g_iload_n dX11_lacks_22 rfl rfl ?_
  refine g_ic_1 dX11_lacks_23 ?_
  refine g_callV dX11_lacks_24 cv_X11_296 (as' := [_, _]) hp_46 rfl (e_ofCrop (a := k) (b := 1) rfl rfl (by omega)) (by decide) rfl rfl (Nat.le_of_ble_eq_true rfl) ?_
  rintro _ _ ⟨rfl, rfl⟩
  refine g_aload_n dX11_lacks_27 rfl rfl ?_
  refine g_get dX11_lacks_28 fl_X11_58 hp_46 rfl ?_
  refine g_bipush (v := 29) dX11_lacks_31 (by decide) ?_
  refine g_iload_n dX11_lacks_33 rfl rfl ?_
  refine g_iadd dX11_lacks_34 ?_
  refine g_ra dX11_lacks_35 hp_63 (k := 29 + k) (nk_add (show (29 : Int32) = nI 29 from rfl) (show nI (k) = nI (k) from rfl)) (by omega) (by decide) ?_
  refine g_isub dX11_lacks_36 ?_
  refine g_max dX11_lacks_37 ml_X11_294 ms_max mi_math mc_max (by decide) (Nat.le_of_ble_eq_true rfl) ?_
  refine g_iadd dX11_lacks_40 ?_
  exact g_iret dX11_lacks_41 ⟨rfl, rfl⟩

theorem lk_n {ms cs : Nat} {A I : Nat → Nat → Int32} (h : PLN ms cs A I) {k : Nat} (hk : k < cs) : lckS (A 20) k = lkN (A 63) (A 62) k ∧ ∃ v, v ≤ 200 ∧ lkN (A 63) (A 62) k = nI v := by
  have h5 : cs ≤ 5 := h.2.1.1.1.2.2.2.1
  obtain ⟨⟨q0, a, a1, a2⟩, ⟨q1, b, b1, b2⟩, -, ⟨q3, c, c1, c2⟩, q4, d, d1, d2⟩ := h.2.1.1.2.2.2.2.1 k hk
  have hsub : ∀ x y : Nat, x ≤ 99 → y ≤ 999 → mx 0 (nI x - nI y) = nI (x - y) := by
    intro x y hx hy
    by_cases hxy : y ≤ x
    · rw [pk_sub hxy, show (0 : Int32) = nI 0 from rfl, mx_n (by decide) (by omega), Nat.max_eq_right (Nat.zero_le _)]
    · have hn : nI x - nI y < 0 := pk_sneg (by omega) (by omega)
      rw [show x - y = 0 by omega]
      exact if_neg (fun z => absurd (Int32.lt_trans z hn) Int32.lt_irrefl)
  refine ⟨?_, ?_⟩
  · unfold lckS lkN
    rw [oC_0 (by omega), oC_1 (by omega), oC_3 (by omega), oC_4 (by omega), q0, q1, q3, q4]
  · unfold lkN
    rw [a2, b2, c2, d2, hsub a c a1 c1, hsub b d b1 d1, nI_add]
    exact ⟨_, by omega, rfl⟩
/-- the best so far: none, or one, and what it is worth -/
def bsR (V : Nat → Int32) (n : Nat) (s : Int32 × Int32) : Prop := s = ((-1), (-1)) ∨ ∃ m, m < n ∧ s = (nI m, V m)
def bsF (V : Nat → Int32) (k : Nat) (s : Int32 × Int32) : Int32 × Int32 := if V k ≤ s.2 then s else (nI k, V k)
theorem rich_bs {ms cs : Nat} {A I : Nat → Nat → Int32} (h : PLN ms cs A I) : richS (A 20) = (itn (bsF (fun k => A 63 (8 + k) + A 63 (16 + k))) ms ((-1), (-1))).1 := by
  have h8 : ms ≤ 8 := h.2.1.1.1.2.1
  unfold richS
  rw [g143_9, h.2.1.1.1.2.2.2.2.1, nI_clamp (by omega)]
  refine congrArg Prod.fst (itn_eq ms (fun k t hk => ?_))
  obtain ⟨-, -, q2, q3, -⟩ := h.2.1.1.2.2.2.1 k hk
  rw [oM_2 (by omega), oM_3 (by omega), q2.1, q3.1]
  rfl
theorem need_bs {ms cs : Nat} {A I : Nat → Nat → Int32} (h : PLN ms cs A I) : needS (A 20) = (itn (fun k s => if haZ (A 63 34) (nI k) = 0 then bsF (lkN (A 63) (A 62)) k s else s) cs ((-1), (-1))).1 := by
  have h5 : cs ≤ 5 := h.2.1.1.1.2.2.2.1
  unfold needS
  rw [g143_10, h.2.1.1.1.2.2.2.2.2, nI_clamp (by omega)]
  refine congrArg Prod.fst (itn_eq cs (fun k t hk => ?_))
  rw [cr_r h hk, (lk_n h hk).1]
  rfl
def bsG (V : Nat → Int32) (k : Nat) (s : Int32 × Int32) : Int32 × Int32 := if s.2 ≤ V k then s else (nI k, V k)
theorem dry_bs {ms cs : Nat} {A I : Nat → Nat → Int32} (h : PLN ms cs A I) : dryS (A 20) = (itn (bsG (fun k => A 63 (16 + k))) ms ((-1), 10)).1 := by
  have h8 : ms ≤ 8 := h.2.1.1.1.2.1
  unfold dryS
  rw [g143_9, h.2.1.1.1.2.2.2.2.1, nI_clamp (by omega)]
  refine congrArg Prod.fst (itn_eq ms (fun k t hk => ?_))
  obtain ⟨-, -, -, q3, -⟩ := h.2.1.1.2.2.2.1 k hk
  rw [oM_3 (by omega), q3.1]
  rfl
theorem bs_inv {V : Nat → Int32} {P : Nat → Prop} (hP : ∀ k, Decidable (P k)) {N : Nat} (hV : ∀ k, k < N → ∃ v, v ≤ 200 ∧ V k = nI v) : ∀ n, n ≤ N → bsR V n (itn (fun k s => if P k then bsF V k s else s) n ((-1), (-1)))
  | 0, _ => Or.inl rfl
  | n + 1, h => by
    have ih := bs_inv hP hV n (by omega)
    show bsR V (n + 1) (if P n then bsF V n _ else _)
    have up : ∀ s, bsR V n s → bsR V (n + 1) s := fun s z => z.elim Or.inl (fun ⟨m, m1, m2⟩ => Or.inr ⟨m, by omega, m2⟩)
    by_cases hp2 : P n
    · rw [if_pos hp2]
      unfold bsF
      split
      · exact up _ ih
      · exact Or.inr ⟨n, by omega, rfl⟩
    · rw [if_neg hp2]
      exact up _ ih
/-- one more: by its worth against the best one's -/
theorem bs_y {V : Nat → Int32} {n : Nat} {s : Int32 × Int32} (h : bsR V n s) {k : Nat} (hk : ∃ v, v ≤ 200 ∧ V k = nI v) (hc : s.1 = (-1) ∨ ∃ m, s.1 = nI m ∧ m < 100 ∧ V m < V k) (hn : n ≤ 100) : bsF V k s = (nI k, V k) := by
  refine if_neg ?_
  rcases h with rfl | ⟨m, m1, rfl⟩
  · obtain ⟨v, v1, v2⟩ := hk
    rw [v2]
    intro z
    exact absurd (Int32.le_trans (nI_pos' (n := v) (by omega)) z) (by decide)
  · rcases hc with z | ⟨m2, z, m3, z2⟩
    · exact absurd z (m1_ne (k := m) (N := 100) rfl (by omega) (by decide))
    · have e : m = m2 := (nI_eq (by omega) (by omega)).mp z
      subst e
      exact Int32.not_le.mpr z2
theorem bs_n {V : Nat → Int32} {n : Nat} {s : Int32 × Int32} (h : bsR V n s) {k : Nat} (h1 : ¬ s.1 = (-1)) (h2 : ∀ m, s.1 = nI m → m < n → V k ≤ V m) : bsF V k s = s := by
  refine if_pos ?_
  rcases h with rfl | ⟨m, m1, rfl⟩
  · exact absurd rfl h1
  · exact h2 m rfl m1
def bgR (V : Nat → Int32) (n : Nat) (s : Int32 × Int32) : Prop := s = ((-1), 10) ∨ ∃ m, m < n ∧ s = (nI m, V m)
theorem bg_inv {V : Nat → Int32} : ∀ n, bgR V n (itn (bsG V) n ((-1), 10))
  | 0 => Or.inl rfl
  | n + 1 => by
    have ih := bg_inv (V := V) n
    show bgR V (n + 1) (bsG V n _)
    unfold bsG
    split
    · exact ih.elim Or.inl (fun ⟨m, m1, m2⟩ => Or.inr ⟨m, by omega, m2⟩)
    · exact Or.inr ⟨n, by omega, rfl⟩
theorem bg_y {V : Nat → Int32} {n : Nat} {s : Int32 × Int32} (h : bgR V n s) {k : Nat} (hk : ∃ v, v ≤ 9 ∧ V k = nI v) (hc : s.1 = (-1) ∨ ∃ m, s.1 = nI m ∧ m < 100 ∧ V k < V m) (hn : n ≤ 100) : bsG V k s = (nI k, V k) := by
  refine if_neg ?_
  rcases h with rfl | ⟨m, m1, rfl⟩
  · obtain ⟨v, v1, v2⟩ := hk
    rw [v2]
    exact nI_ge (a := v) (b := 10) (by omega) (by decide)
  · rcases hc with z | ⟨m2, z, m3, z2⟩
    · exact absurd z (m1_ne (k := m) (N := 100) rfl (by omega) (by decide))
    · have e : m = m2 := (nI_eq (by omega) (by omega)).mp z
      subst e
      exact Int32.not_le.mpr z2
theorem bg_n {V : Nat → Int32} {n : Nat} {s : Int32 × Int32} (h : bgR V n s) {k : Nat} (h1 : ¬ s.1 = (-1)) (h2 : ∀ m, s.1 = nI m → m < n → V m ≤ V k) : bsG V k s = s := by
  refine if_pos ?_
  rcases h with rfl | ⟨m, m1, rfl⟩
  · exact absurd rfl h1
  · exact h2 m rfl m1
set_option maxHeartbeats 800000 in
set_option maxRecDepth 100000 in
theorem n_need_loop {A : Nat → Nat → Int32} {L : Nat → Nat → Int64} {I : Nat → Nat → Int32} {X : Nat → Int64} {ms cs : Nat} {Q : Option Value → m_H → Prop} (hP : PLN ms cs A I) (hcs : cs ≤ 5) (hE : ∀ s, s = (itn (fun k s => if haZ (A 63 34) (nI k) = 0 then bsF (lkN (A 63) (A 62)) k s else s) cs ((-1), (-1))) → G 3 RX11 cX11_most 6 (some .int) Q 73 [some (.ref 46), some (.int 2), some (.int (s.1)), some (.int (nI (cs))), none, none] [] (hp A L I X)) : ∀ n k s, s = (itn (fun k s => if haZ (A 63 34) (nI k) = 0 then bsF (lkN (A 63) (A 62)) k s else s) k ((-1), (-1))) → k ≤ cs → cs - k < n → G 3 RX11 cX11_most 6 (some .int) Q 22 [some (.ref 46), some (.int 2), some (.int (s.1)), some (.int (nI (k))), none, none] [] (hp A L I X) := by
  intro n
  induction n with
  | zero => intro k s hs h1 h2; omega
  | succ n ih =>
    intro k s hs h1 h2
    refine g_iload_n dX11_most_22 rfl rfl ?_
    refine g_aload_n dX11_most_23 rfl rfl ?_
    refine g_get dX11_most_24 fl_X11_267 hp_46 rfl ?_
    refine g_icmp_ge (tgt := 73) dX11_most_27 (by decide) (fun c_27 => ?_) (fun c_27 => ?_)
    · have hge : cs ≤ k := by rw [hP.1.2] at c_27; exact (nI_leI (by omega) (by omega)).mp c_27
      have hkn : k = cs := by omega
      subst hkn
      exact hE s hs
    · have hlt : k < cs := by rw [hP.1.2] at c_27; exact Nat.not_le.mp (fun z => c_27 (nI_le z (by omega)))
      have hB : bsR (lkN (A 63) (A 62)) k s := by rw [hs]; exact bs_inv (P := fun k => haZ (A 63 34) (nI k) = 0) (fun _ => inferInstance) (N := cs) (fun k hk => (lk_n hP hk).2) k (by omega)
      refine g_iload_n dX11_most_30 rfl rfl ?_
      refine g_ic_2 dX11_most_31 ?_
      refine g_icmp_ne (tgt := 73) dX11_most_32 (by decide) (fun c_32 => ?_) (fun c_32 => ?_)
      · exact absurd rfl c_32
      · refine g_aload_n dX11_most_35 rfl rfl ?_
        refine g_iload_n dX11_most_36 rfl rfl ?_
        refine g_callV dX11_most_37 cv_X11_308 (as' := [_]) hp_46 rfl e_isRipe (by decide) rfl rfl (Nat.le_of_ble_eq_true rfl) ?_
        rintro _ _ ⟨rfl, rfl⟩
        refine g_if_ne (tgt := 65) dX11_most_40 (by decide) (fun c_40 => ?_) (fun c_40 => ?_)
        · refine g_iload_n dX11_most_65 rfl rfl ?_
          refine g_istore_n dX11_most_66 rfl (by decide) ?_
          refine g_iinc1 dX11_most_67 rfl (by decide) ?_
          refine g_goto (tgt := 22) dX11_most_70 (by decide) ?_
          rw [nI_1]
          refine g_loc (ls' := [some (.ref 46), some (.int 2), some (.int (s.1)), some (.int (nI (k + 1))), none, none]) (fun i v h => by rcases i with _|_|_|_|_|_|_ <;> first | exact h | cases h) ?_
          exact ih (k + 1) s (hs.trans (if_neg c_40).symm) (by omega) (by omega)
        · refine g_iload_n dX11_most_43 rfl rfl ?_
          refine g_ic_m1 dX11_most_44 ?_
          refine g_icmp_eq (tgt := 61) dX11_most_45 (by decide) (fun c_45 => ?_) (fun c_45 => ?_)
          · refine g_iload_n dX11_most_61 rfl rfl ?_
            refine g_goto (tgt := 66) dX11_most_62 (by decide) ?_
            refine g_istore_n dX11_most_66 rfl (by decide) ?_
            refine g_iinc1 dX11_most_67 rfl (by decide) ?_
            refine g_goto (tgt := 22) dX11_most_70 (by decide) ?_
            rw [nI_1]
            refine g_loc (ls' := [some (.ref 46), some (.int 2), some (.int ((nI k, lkN (A 63) (A 62) k).1)), some (.int (nI (k + 1))), none, none]) (fun i v h => by rcases i with _|_|_|_|_|_|_ <;> first | exact h | cases h) ?_
            exact ih (k + 1) (nI k, lkN (A 63) (A 62) k) (by rw [← ((if_pos c_40).trans (bs_y hB (lk_n hP hlt).2 (Or.inl c_45) (by omega))), hs]; rfl) (by omega) (by omega)
          · obtain ⟨m, m1, e1⟩ : ∃ m, m < k ∧ s.1 = nI m := by rcases hB with rfl | ⟨m, m1, rfl⟩; exact absurd rfl c_45; exact ⟨m, m1, rfl⟩
            refine g_aload_n dX11_most_48 rfl rfl ?_
            refine g_iload_n dX11_most_49 rfl rfl ?_
            refine g_callV dX11_most_50 cv_X11_420 (as' := [_]) hp_46 rfl (e_lacks (k := k) rfl (by omega)) (by decide) rfl rfl (Nat.le_of_ble_eq_true rfl) ?_
            rintro _ _ ⟨rfl, rfl⟩
            refine g_aload_n dX11_most_53 rfl rfl ?_
            refine g_iload_n dX11_most_54 rfl rfl ?_
            refine g_callV dX11_most_55 cv_X11_420 (as' := [_]) hp_46 rfl (e_lacks (k := m) e1 (by omega)) (by decide) rfl rfl (Nat.le_of_ble_eq_true rfl) ?_
            rintro _ _ ⟨rfl, rfl⟩
            refine g_icmp_le (tgt := 65) dX11_most_58 (by decide) (fun c_58 => ?_) (fun c_58 => ?_)
            · refine g_iload_n dX11_most_65 rfl rfl ?_
              refine g_istore_n dX11_most_66 rfl (by decide) ?_
              refine g_iinc1 dX11_most_67 rfl (by decide) ?_
              refine g_goto (tgt := 22) dX11_most_70 (by decide) ?_
              rw [nI_1]
              refine g_loc (ls' := [some (.ref 46), some (.int 2), some (.int (s.1)), some (.int (nI (k + 1))), none, none]) (fun i v h => by rcases i with _|_|_|_|_|_|_ <;> first | exact h | cases h) ?_
              exact ih (k + 1) s (by rw [← ((if_pos c_40).trans (bs_n hB c_45 (fun m2 z z2 => by have q : m2 = m := (nI_eq (by omega) (by omega)).mp (z.symm.trans e1); rw [q]; exact c_58))), hs]; rfl) (by omega) (by omega)
            · refine g_iload_n dX11_most_61 rfl rfl ?_
              refine g_goto (tgt := 66) dX11_most_62 (by decide) ?_
              refine g_istore_n dX11_most_66 rfl (by decide) ?_
              refine g_iinc1 dX11_most_67 rfl (by decide) ?_
              refine g_goto (tgt := 22) dX11_most_70 (by decide) ?_
              rw [nI_1]
              refine g_loc (ls' := [some (.ref 46), some (.int 2), some (.int ((nI k, lkN (A 63) (A 62) k).1)), some (.int (nI (k + 1))), none, none]) (fun i v h => by rcases i with _|_|_|_|_|_|_ <;> first | exact h | cases h) ?_
              exact ih (k + 1) (nI k, lkN (A 63) (A 62) k) (by rw [← ((if_pos c_40).trans (bs_y hB (lk_n hP hlt).2 (Or.inr ⟨m, e1, by omega, Int32.not_le.mp c_58⟩) (by omega))), hs]; rfl) (by omega) (by omega)

theorem mo_v {ms cs : Nat} {A I : Nat → Nat → Int32} (h : PLN ms cs A I) {k : Nat} (hk : k < ms) : ∃ v, v ≤ 200 ∧ A 63 (8 + k) + A 63 (16 + k) = nI v := by
  obtain ⟨-, -, ⟨-, a, a1, a2⟩, ⟨-, b, b1, b2⟩, -⟩ := h.2.1.1.2.2.2.1 k hk
  rw [a2, b2, nI_add]
  exact ⟨_, by omega, rfl⟩
theorem mo_d {ms cs : Nat} {A I : Nat → Nat → Int32} (h : PLN ms cs A I) {k : Nat} (hk : k < ms) : ∃ v, v ≤ 9 ∧ A 63 (16 + k) = nI v := by
  obtain ⟨-, -, -, ⟨-, b, b1, b2⟩, -⟩ := h.2.1.1.2.2.2.1 k hk
  exact ⟨b, b1, b2⟩
theorem dr_le {x y : Int32} (hx : ∃ v, v ≤ 9 ∧ x = nI v) (hy : ∃ v, v ≤ 9 ∧ y = nI v) (h : -x ≤ -y) : y ≤ x := by
  obtain ⟨a, a1, rfl⟩ := hx
  obtain ⟨b, b1, rfl⟩ := hy
  exact nI_le ((sb_nle (by omega) (by omega)).mp h) (by omega)
theorem dr_lt {x y : Int32} (hx : ∃ v, v ≤ 9 ∧ x = nI v) (hy : ∃ v, v ≤ 9 ∧ y = nI v) (h : ¬ -x ≤ -y) : x < y := by
  obtain ⟨a, a1, rfl⟩ := hx
  obtain ⟨b, b1, rfl⟩ := hy
  exact nI_lt (Nat.lt_of_not_le (fun z => h ((sb_nle (by omega) (by omega)).mpr z))) (by omega)
set_option maxHeartbeats 800000 in
set_option maxRecDepth 100000 in
theorem n_rich_loop {A : Nat → Nat → Int32} {L : Nat → Nat → Int64} {I : Nat → Nat → Int32} {X : Nat → Int64} {ms cs : Nat} {Q : Option Value → m_H → Prop} (hP : PLN ms cs A I) (hms : ms ≤ 8) (hE : ∀ s, s = (itn (bsF (fun k => A 63 (8 + k) + A 63 (16 + k))) ms ((-1), (-1))) → G 3 RX11 cX11_most 6 (some .int) Q 197 [some (.ref 46), some (.int 0), some (.int (s.1)), some (.int (nI (ms))), none, none] [] (hp A L I X)) : ∀ n k s, s = (itn (bsF (fun k => A 63 (8 + k) + A 63 (16 + k))) k ((-1), (-1))) → k ≤ ms → ms - k < n → G 3 RX11 cX11_most 6 (some .int) Q 75 [some (.ref 46), some (.int 0), some (.int (s.1)), some (.int (nI (k))), none, none] [] (hp A L I X) := by
  intro n
  induction n with
  | zero => intro k s hs h1 h2; omega
  | succ n ih =>
    intro k s hs h1 h2
    refine g_iload_n dX11_most_75 rfl rfl ?_
    refine g_aload_n dX11_most_76 rfl rfl ?_
    refine g_get dX11_most_77 fl_X11_261 hp_46 rfl ?_
    refine g_icmp_ge (tgt := 197) dX11_most_80 (by decide) (fun c_80 => ?_) (fun c_80 => ?_)
    · have hge : ms ≤ k := by rw [hP.1.1] at c_80; exact (nI_leI (by omega) (by omega)).mp c_80
      have hkn : k = ms := by omega
      subst hkn
      exact hE s hs
    · have hlt : k < ms := by rw [hP.1.1] at c_80; exact Nat.not_le.mp (fun z => c_80 (nI_le z (by omega)))
      have hB : bsR (fun k => A 63 (8 + k) + A 63 (16 + k)) k s := by rw [hs]; exact (bs_inv (P := fun _ => True) (fun _ => inferInstance) (N := ms) (fun k hk => mo_v hP hk) k (by omega))
      have hv := mo_v hP hlt
      refine g_iload_n dX11_most_83 rfl rfl ?_
      refine g_ic_2 dX11_most_84 ?_
      refine g_icmp_ge (tgt := 197) dX11_most_85 (by decide) (fun c_85 => ?_) (fun c_85 => ?_)
      · exact absurd c_85 (by decide)
      · refine g_iload_n dX11_most_88 rfl rfl ?_
        refine g_if_ne (tgt := 114) dX11_most_89 (by decide) (fun c_89 => ?_) (fun c_89 => ?_)
        · exact absurd rfl c_89
        · refine g_aload_n dX11_most_92 rfl rfl ?_
          refine g_get dX11_most_93 fl_X11_58 hp_46 rfl ?_
          refine g_bipush (v := 8) dX11_most_96 (by decide) ?_
          refine g_iload_n dX11_most_98 rfl rfl ?_
          refine g_iadd dX11_most_99 ?_
          refine g_ra dX11_most_100 hp_63 (k := 8 + k) (nk_add (show (8 : Int32) = nI 8 from rfl) (show nI (k) = nI (k) from rfl)) (by omega) (by decide) ?_
          refine g_aload_n dX11_most_101 rfl rfl ?_
          refine g_get dX11_most_102 fl_X11_58 hp_46 rfl ?_
          refine g_bipush (v := 16) dX11_most_105 (by decide) ?_
          refine g_iload_n dX11_most_107 rfl rfl ?_
          refine g_iadd dX11_most_108 ?_
          refine g_ra dX11_most_109 hp_63 (k := 16 + k) (nk_add (show (16 : Int32) = nI 16 from rfl) (show nI (k) = nI (k) from rfl)) (by omega) (by decide) ?_
          refine g_iadd dX11_most_110 ?_
          refine g_goto (tgt := 124) dX11_most_111 (by decide) ?_
          refine g_istore dX11_most_124 (by decide) ?_
          refine g_iload_n dX11_most_126 rfl rfl ?_
          refine g_ic_m1 dX11_most_127 ?_
          refine g_icmp_ne (tgt := 135) dX11_most_128 (by decide) (fun c_128 => ?_) (fun c_128 => ?_)
          · obtain ⟨m, m1, e1⟩ : ∃ m, m < k ∧ s.1 = nI m := by rcases hB with rfl | ⟨m, m1, rfl⟩; exact absurd rfl c_128; exact ⟨m, m1, rfl⟩
            refine g_iload_n dX11_most_135 rfl rfl ?_
            refine g_if_ne (tgt := 161) dX11_most_136 (by decide) (fun c_136 => ?_) (fun c_136 => ?_)
            · exact absurd rfl c_136
            · refine g_aload_n dX11_most_139 rfl rfl ?_
              refine g_get dX11_most_140 fl_X11_58 hp_46 rfl ?_
              refine g_bipush (v := 8) dX11_most_143 (by decide) ?_
              refine g_iload_n dX11_most_145 rfl rfl ?_
              refine g_iadd dX11_most_146 ?_
              refine g_ra dX11_most_147 hp_63 (k := 8 + m) (nk_add (show (8 : Int32) = nI 8 from rfl) e1) (by omega) (by decide) ?_
              refine g_aload_n dX11_most_148 rfl rfl ?_
              refine g_get dX11_most_149 fl_X11_58 hp_46 rfl ?_
              refine g_bipush (v := 16) dX11_most_152 (by decide) ?_
              refine g_iload_n dX11_most_154 rfl rfl ?_
              refine g_iadd dX11_most_155 ?_
              refine g_ra dX11_most_156 hp_63 (k := 16 + m) (nk_add (show (16 : Int32) = nI 16 from rfl) e1) (by omega) (by decide) ?_
              refine g_iadd dX11_most_157 ?_
              refine g_goto (tgt := 171) dX11_most_158 (by decide) ?_
              refine g_istore dX11_most_171 (by decide) ?_
              refine g_iload_n dX11_most_173 rfl rfl ?_
              refine g_ic_m1 dX11_most_174 ?_
              refine g_icmp_eq (tgt := 185) dX11_most_175 (by decide) (fun c_175 => ?_) (fun c_175 => ?_)
              · exact absurd c_175 c_128
              · refine g_iload dX11_most_178 rfl ?_
                refine g_iload dX11_most_180 rfl ?_
                refine g_icmp_le (tgt := 189) dX11_most_182 (by decide) (fun c_182 => ?_) (fun c_182 => ?_)
                · refine g_iload_n dX11_most_189 rfl rfl ?_
                  refine g_istore_n dX11_most_190 rfl (by decide) ?_
                  refine g_iinc1 dX11_most_191 rfl (by decide) ?_
                  refine g_goto (tgt := 75) dX11_most_194 (by decide) ?_
                  rw [nI_1]
                  refine g_loc (ls' := [some (.ref 46), some (.int 0), some (.int (s.1)), some (.int (nI (k + 1))), none, none]) (fun i v h => by rcases i with _|_|_|_|_|_|_ <;> first | exact h | cases h) ?_
                  exact ih (k + 1) s (by rw [← (bs_n hB c_175 (fun m2 z z2 => by have q : m2 = m := (nI_eq (by omega) (by omega)).mp (z.symm.trans e1); rw [q]; exact c_182)), hs]; rfl) (by omega) (by omega)
                · refine g_iload_n dX11_most_185 rfl rfl ?_
                  refine g_goto (tgt := 190) dX11_most_186 (by decide) ?_
                  refine g_istore_n dX11_most_190 rfl (by decide) ?_
                  refine g_iinc1 dX11_most_191 rfl (by decide) ?_
                  refine g_goto (tgt := 75) dX11_most_194 (by decide) ?_
                  rw [nI_1]
                  refine g_loc (ls' := [some (.ref 46), some (.int 0), some (.int ((nI k, (A 63 (8 + k) + A 63 (16 + k))).1)), some (.int (nI (k + 1))), none, none]) (fun i v h => by rcases i with _|_|_|_|_|_|_ <;> first | exact h | cases h) ?_
                  exact ih (k + 1) (nI k, (A 63 (8 + k) + A 63 (16 + k))) (by rw [← (bs_y hB hv (Or.inr ⟨m, e1, by omega, (Int32.not_le.mp c_182)⟩) (by omega)), hs]; rfl) (by omega) (by omega)
          · refine g_ic_0 dX11_most_131 ?_
            refine g_goto (tgt := 171) dX11_most_132 (by decide) ?_
            refine g_istore dX11_most_171 (by decide) ?_
            refine g_iload_n dX11_most_173 rfl rfl ?_
            refine g_ic_m1 dX11_most_174 ?_
            refine g_icmp_eq (tgt := 185) dX11_most_175 (by decide) (fun c_175 => ?_) (fun c_175 => ?_)
            · refine g_iload_n dX11_most_185 rfl rfl ?_
              refine g_goto (tgt := 190) dX11_most_186 (by decide) ?_
              refine g_istore_n dX11_most_190 rfl (by decide) ?_
              refine g_iinc1 dX11_most_191 rfl (by decide) ?_
              refine g_goto (tgt := 75) dX11_most_194 (by decide) ?_
              rw [nI_1]
              refine g_loc (ls' := [some (.ref 46), some (.int 0), some (.int ((nI k, (A 63 (8 + k) + A 63 (16 + k))).1)), some (.int (nI (k + 1))), none, none]) (fun i v h => by rcases i with _|_|_|_|_|_|_ <;> first | exact h | cases h) ?_
              exact ih (k + 1) (nI k, (A 63 (8 + k) + A 63 (16 + k))) (by rw [← (bs_y hB hv (Or.inl c_175) (by omega)), hs]; rfl) (by omega) (by omega)
            · exact absurd c_128 c_175

set_option maxHeartbeats 800000 in
set_option maxRecDepth 100000 in
theorem n_dry_loop {A : Nat → Nat → Int32} {L : Nat → Nat → Int64} {I : Nat → Nat → Int32} {X : Nat → Int64} {ms cs : Nat} {Q : Option Value → m_H → Prop} (hP : PLN ms cs A I) (hms : ms ≤ 8) (hE : ∀ s, s = (itn (bsG (fun k => A 63 (16 + k))) ms ((-1), 10)) → G 3 RX11 cX11_most 6 (some .int) Q 197 [some (.ref 46), some (.int 1), some (.int (s.1)), some (.int (nI (ms))), none, none] [] (hp A L I X)) : ∀ n k s, s = (itn (bsG (fun k => A 63 (16 + k))) k ((-1), 10)) → k ≤ ms → ms - k < n → G 3 RX11 cX11_most 6 (some .int) Q 75 [some (.ref 46), some (.int 1), some (.int (s.1)), some (.int (nI (k))), none, none] [] (hp A L I X) := by
  intro n
  induction n with
  | zero => intro k s hs h1 h2; omega
  | succ n ih =>
    intro k s hs h1 h2
    refine g_iload_n dX11_most_75 rfl rfl ?_
    refine g_aload_n dX11_most_76 rfl rfl ?_
    refine g_get dX11_most_77 fl_X11_261 hp_46 rfl ?_
    refine g_icmp_ge (tgt := 197) dX11_most_80 (by decide) (fun c_80 => ?_) (fun c_80 => ?_)
    · have hge : ms ≤ k := by rw [hP.1.1] at c_80; exact (nI_leI (by omega) (by omega)).mp c_80
      have hkn : k = ms := by omega
      subst hkn
      exact hE s hs
    · have hlt : k < ms := by rw [hP.1.1] at c_80; exact Nat.not_le.mp (fun z => c_80 (nI_le z (by omega)))
      have hB : bgR (fun k => A 63 (16 + k)) k s := by rw [hs]; exact bg_inv k
      have hv := mo_d hP hlt
      refine g_iload_n dX11_most_83 rfl rfl ?_
      refine g_ic_2 dX11_most_84 ?_
      refine g_icmp_ge (tgt := 197) dX11_most_85 (by decide) (fun c_85 => ?_) (fun c_85 => ?_)
      · exact absurd c_85 (by decide)
      · refine g_iload_n dX11_most_88 rfl rfl ?_
        refine g_if_ne (tgt := 114) dX11_most_89 (by decide) (fun c_89 => ?_) (fun c_89 => ?_)
        · refine g_aload_n dX11_most_114 rfl rfl ?_
          refine g_get dX11_most_115 fl_X11_58 hp_46 rfl ?_
          refine g_bipush (v := 16) dX11_most_118 (by decide) ?_
          refine g_iload_n dX11_most_120 rfl rfl ?_
          refine g_iadd dX11_most_121 ?_
          refine g_ra dX11_most_122 hp_63 (k := 16 + k) (nk_add (show (16 : Int32) = nI 16 from rfl) (show nI (k) = nI (k) from rfl)) (by omega) (by decide) ?_
          refine g_ineg dX11_most_123 ?_
          refine g_istore dX11_most_124 (by decide) ?_
          refine g_iload_n dX11_most_126 rfl rfl ?_
          refine g_ic_m1 dX11_most_127 ?_
          refine g_icmp_ne (tgt := 135) dX11_most_128 (by decide) (fun c_128 => ?_) (fun c_128 => ?_)
          · obtain ⟨m, m1, e1⟩ : ∃ m, m < k ∧ s.1 = nI m := by rcases hB with rfl | ⟨m, m1, rfl⟩; exact absurd rfl c_128; exact ⟨m, m1, rfl⟩
            obtain ⟨d1, d2⟩ := (⟨mo_d hP hlt, mo_d hP (Nat.lt_trans m1 hlt)⟩ : (∃ v, v ≤ 9 ∧ A 63 (16 + k) = nI v) ∧ ∃ v, v ≤ 9 ∧ A 63 (16 + m) = nI v)
            refine g_iload_n dX11_most_135 rfl rfl ?_
            refine g_if_ne (tgt := 161) dX11_most_136 (by decide) (fun c_136 => ?_) (fun c_136 => ?_)
            · refine g_aload_n dX11_most_161 rfl rfl ?_
              refine g_get dX11_most_162 fl_X11_58 hp_46 rfl ?_
              refine g_bipush (v := 16) dX11_most_165 (by decide) ?_
              refine g_iload_n dX11_most_167 rfl rfl ?_
              refine g_iadd dX11_most_168 ?_
              refine g_ra dX11_most_169 hp_63 (k := 16 + m) (nk_add (show (16 : Int32) = nI 16 from rfl) e1) (by omega) (by decide) ?_
              refine g_ineg dX11_most_170 ?_
              refine g_istore dX11_most_171 (by decide) ?_
              refine g_iload_n dX11_most_173 rfl rfl ?_
              refine g_ic_m1 dX11_most_174 ?_
              refine g_icmp_eq (tgt := 185) dX11_most_175 (by decide) (fun c_175 => ?_) (fun c_175 => ?_)
              · exact absurd c_175 c_128
              · refine g_iload dX11_most_178 rfl ?_
                refine g_iload dX11_most_180 rfl ?_
                refine g_icmp_le (tgt := 189) dX11_most_182 (by decide) (fun c_182 => ?_) (fun c_182 => ?_)
                · refine g_iload_n dX11_most_189 rfl rfl ?_
                  refine g_istore_n dX11_most_190 rfl (by decide) ?_
                  refine g_iinc1 dX11_most_191 rfl (by decide) ?_
                  refine g_goto (tgt := 75) dX11_most_194 (by decide) ?_
                  rw [nI_1]
                  refine g_loc (ls' := [some (.ref 46), some (.int 1), some (.int (s.1)), some (.int (nI (k + 1))), none, none]) (fun i v h => by rcases i with _|_|_|_|_|_|_ <;> first | exact h | cases h) ?_
                  exact ih (k + 1) s (by rw [← (bg_n hB c_175 (fun m2 z z2 => by have q : m2 = m := (nI_eq (by omega) (by omega)).mp (z.symm.trans e1); rw [q]; exact (dr_le d1 d2 c_182))), hs]; rfl) (by omega) (by omega)
                · refine g_iload_n dX11_most_185 rfl rfl ?_
                  refine g_goto (tgt := 190) dX11_most_186 (by decide) ?_
                  refine g_istore_n dX11_most_190 rfl (by decide) ?_
                  refine g_iinc1 dX11_most_191 rfl (by decide) ?_
                  refine g_goto (tgt := 75) dX11_most_194 (by decide) ?_
                  rw [nI_1]
                  refine g_loc (ls' := [some (.ref 46), some (.int 1), some (.int ((nI k, (A 63 (16 + k))).1)), some (.int (nI (k + 1))), none, none]) (fun i v h => by rcases i with _|_|_|_|_|_|_ <;> first | exact h | cases h) ?_
                  exact ih (k + 1) (nI k, (A 63 (16 + k))) (by rw [← (bg_y hB hv (Or.inr ⟨m, e1, by omega, (dr_lt d1 d2 c_182)⟩) (by omega)), hs]; rfl) (by omega) (by omega)
            · exact absurd c_136 (by decide)
          · refine g_ic_0 dX11_most_131 ?_
            refine g_goto (tgt := 171) dX11_most_132 (by decide) ?_
            refine g_istore dX11_most_171 (by decide) ?_
            refine g_iload_n dX11_most_173 rfl rfl ?_
            refine g_ic_m1 dX11_most_174 ?_
            refine g_icmp_eq (tgt := 185) dX11_most_175 (by decide) (fun c_175 => ?_) (fun c_175 => ?_)
            · refine g_iload_n dX11_most_185 rfl rfl ?_
              refine g_goto (tgt := 190) dX11_most_186 (by decide) ?_
              refine g_istore_n dX11_most_190 rfl (by decide) ?_
              refine g_iinc1 dX11_most_191 rfl (by decide) ?_
              refine g_goto (tgt := 75) dX11_most_194 (by decide) ?_
              rw [nI_1]
              refine g_loc (ls' := [some (.ref 46), some (.int 1), some (.int ((nI k, (A 63 (16 + k))).1)), some (.int (nI (k + 1))), none, none]) (fun i v h => by rcases i with _|_|_|_|_|_|_ <;> first | exact h | cases h) ?_
              exact ih (k + 1) (nI k, (A 63 (16 + k))) (by rw [← (bg_y hB hv (Or.inl c_175) (by omega)), hs]; rfl) (by omega) (by omega)
            · exact absurd c_128 c_175
        · exact absurd c_89 (by decide)

set_option maxHeartbeats 800000 in
set_option maxRecDepth 100000 in
theorem n_most {A : Nat → Nat → Int32} {L : Nat → Nat → Int64} {I : Nat → Nat → Int32} {X : Nat → Int64} {x : Int32} (h : INV A I) : Con 3 yX11_most cX11_most 6 (some .int) [.ref 46, .int x] (hp A L I X) (fun r_ H_ => r_ = some (.int (mstS A I x)) ∧ H_ = hp A L I X) := by
  refine m_con (by decide) (Nat.le_of_ble_eq_true rfl) ?_
  refine g_aload_n dX11_most_0 rfl rfl ?_
  refine g_get dX11_most_1 fl_X11_261 hp_46 rfl ?_
  refine g_if_eq (tgt := 16) dX11_most_4 (by decide) (fun c_4 => ?_) (fun c_4 => ?_)
  · refine g_ic_m1 dX11_most_16 ?_
    exact g_iret dX11_most_17 ⟨congrArg (fun z => some (Value.int z)) (by exact (if_pos ((INV_0 h).mp c_4)).symm), rfl⟩
  · refine g_iload_n dX11_most_7 rfl rfl ?_
    refine g_ic_0 dX11_most_8 ?_
    refine g_ic_2 dX11_most_9 ?_
    refine g_callS dX11_most_10 cs_X11_221 (as := [_, _, _]) e_in (by decide) rfl rfl (Nat.le_of_ble_eq_true rfl) ?_
    rintro _ _ ⟨rfl, rfl⟩
    refine g_if_ne (tgt := 18) dX11_most_13 (by decide) (fun c_13 => ?_) (fun c_13 => ?_)
    · refine g_ic_m1 dX11_most_18 ?_
      refine g_istore_n dX11_most_19 rfl (by decide) ?_
      refine g_ic_0 dX11_most_20 ?_
      refine g_istore_n dX11_most_21 rfl (by decide) ?_
      obtain ⟨ms, cs, hP⟩ := INV_P h (fun w => c_4 ((INV_0 h).mpr w))
      have h5 : cs ≤ 5 := hP.2.1.1.1.2.2.2.1
      have h8 : ms ≤ 8 := hP.2.1.1.1.2.1
      obtain ⟨j, j1, rfl⟩ := in_1 (b := 2) (by decide) c_13
      rcases (show j = 0 ∨ j = 1 ∨ j = 2 by omega) with rfl | rfl | rfl
      · have hv : mstS A I (nI 0) = richS (A 20) := by unfold mstS; rw [if_neg (fun w => c_4 ((INV_0 h).mpr w)), if_neg (by decide)]; rfl
        refine g_iload_n dX11_most_22 rfl rfl ?_
        refine g_aload_n dX11_most_23 rfl rfl ?_
        refine g_get dX11_most_24 fl_X11_267 hp_46 rfl ?_
        refine g_icmp_ge (tgt := 73) dX11_most_27 (by decide) (fun c_27 => ?_) (fun c_27 => ?_)
        · refine g_ic_0 dX11_most_73 ?_
          refine g_istore_n dX11_most_74 rfl (by decide) ?_
          refine g_loc (ls' := [some (.ref 46), some (.int 0), some (.int ((-1))), some (.int (nI (0))), none, none]) (fun i v h => by rcases i with _|_|_|_|_|_|_ <;> first | exact h | cases h) ?_
          refine n_rich_loop hP h8 (fun s hs => ?_) (ms + 1) 0 _ rfl (Nat.zero_le _) (Nat.lt_succ_self _)
          refine g_iload_n dX11_most_197 rfl rfl ?_
          exact g_iret dX11_most_198 ⟨congrArg (fun z => some (Value.int z)) (by rw [hv, rich_bs hP, hs]), rfl⟩
        · refine g_iload_n dX11_most_30 rfl rfl ?_
          refine g_ic_2 dX11_most_31 ?_
          refine g_icmp_ne (tgt := 73) dX11_most_32 (by decide) (fun c_32 => ?_) (fun c_32 => ?_)
          · refine g_ic_0 dX11_most_73 ?_
            refine g_istore_n dX11_most_74 rfl (by decide) ?_
            refine g_loc (ls' := [some (.ref 46), some (.int 0), some (.int ((-1))), some (.int (nI (0))), none, none]) (fun i v h => by rcases i with _|_|_|_|_|_|_ <;> first | exact h | cases h) ?_
            refine n_rich_loop hP h8 (fun s hs => ?_) (ms + 1) 0 _ rfl (Nat.zero_le _) (Nat.lt_succ_self _)
            refine g_iload_n dX11_most_197 rfl rfl ?_
            exact g_iret dX11_most_198 ⟨congrArg (fun z => some (Value.int z)) (by rw [hv, rich_bs hP, hs]), rfl⟩
          · refine g_aload_n dX11_most_35 rfl rfl ?_
            exact absurd c_32 (by decide)
      · have hv : mstS A I (nI 1) = dryS (A 20) := by unfold mstS; rw [if_neg (fun w => c_4 ((INV_0 h).mpr w)), if_neg (by decide)]; rfl
        refine g_iload_n dX11_most_22 rfl rfl ?_
        refine g_aload_n dX11_most_23 rfl rfl ?_
        refine g_get dX11_most_24 fl_X11_267 hp_46 rfl ?_
        refine g_icmp_ge (tgt := 73) dX11_most_27 (by decide) (fun c_27 => ?_) (fun c_27 => ?_)
        · refine g_ic_0 dX11_most_73 ?_
          refine g_istore_n dX11_most_74 rfl (by decide) ?_
          refine g_loc (ls' := [some (.ref 46), some (.int 1), some (.int ((-1))), some (.int (nI (0))), none, none]) (fun i v h => by rcases i with _|_|_|_|_|_|_ <;> first | exact h | cases h) ?_
          refine n_dry_loop hP h8 (fun s hs => ?_) (ms + 1) 0 _ rfl (Nat.zero_le _) (Nat.lt_succ_self _)
          refine g_iload_n dX11_most_197 rfl rfl ?_
          exact g_iret dX11_most_198 ⟨congrArg (fun z => some (Value.int z)) (by rw [hv, dry_bs hP, hs]), rfl⟩
        · refine g_iload_n dX11_most_30 rfl rfl ?_
          refine g_ic_2 dX11_most_31 ?_
          refine g_icmp_ne (tgt := 73) dX11_most_32 (by decide) (fun c_32 => ?_) (fun c_32 => ?_)
          · refine g_ic_0 dX11_most_73 ?_
            refine g_istore_n dX11_most_74 rfl (by decide) ?_
            refine g_loc (ls' := [some (.ref 46), some (.int 1), some (.int ((-1))), some (.int (nI (0))), none, none]) (fun i v h => by rcases i with _|_|_|_|_|_|_ <;> first | exact h | cases h) ?_
            refine n_dry_loop hP h8 (fun s hs => ?_) (ms + 1) 0 _ rfl (Nat.zero_le _) (Nat.lt_succ_self _)
            refine g_iload_n dX11_most_197 rfl rfl ?_
            exact g_iret dX11_most_198 ⟨congrArg (fun z => some (Value.int z)) (by rw [hv, dry_bs hP, hs]), rfl⟩
          · refine g_aload_n dX11_most_35 rfl rfl ?_
            exact absurd c_32 (by decide)
      · have hv : mstS A I (nI 2) = needS (A 20) := by unfold mstS; rw [if_neg (fun w => c_4 ((INV_0 h).mpr w)), if_neg (by decide)]; rfl
        refine g_loc (ls' := [some (.ref 46), some (.int 2), some (.int ((-1))), some (.int (nI (0))), none, none]) (fun i v h => by rcases i with _|_|_|_|_|_|_ <;> first | exact h | cases h) ?_
        refine n_need_loop hP h5 (fun s hs => ?_) (cs + 1) 0 _ rfl (Nat.zero_le _) (Nat.lt_succ_self _)
        refine g_ic_0 dX11_most_73 ?_
        refine g_istore_n dX11_most_74 rfl (by decide) ?_
        refine g_iload_n dX11_most_75 rfl rfl ?_
        refine g_aload_n dX11_most_76 rfl rfl ?_
        refine g_get dX11_most_77 fl_X11_261 hp_46 rfl ?_
        refine g_icmp_ge (tgt := 197) dX11_most_80 (by decide) (fun c_80 => ?_) (fun c_80 => ?_)
        · refine g_iload_n dX11_most_197 rfl rfl ?_
          exact g_iret dX11_most_198 ⟨congrArg (fun z => some (Value.int z)) (by rw [hv, need_bs hP, hs]), rfl⟩
        · refine g_iload_n dX11_most_83 rfl rfl ?_
          refine g_ic_2 dX11_most_84 ?_
          refine g_icmp_ge (tgt := 197) dX11_most_85 (by decide) (fun c_85 => ?_) (fun c_85 => ?_)
          · refine g_iload_n dX11_most_197 rfl rfl ?_
            exact g_iret dX11_most_198 ⟨congrArg (fun z => some (Value.int z)) (by rw [hv, need_bs hP, hs]), rfl⟩
          · exact absurd (by decide) c_85
    · refine g_ic_m1 dX11_most_16 ?_
      exact g_iret dX11_most_17 ⟨congrArg (fun z => some (Value.int z)) (by exact (most_no (fun w => c_4 ((INV_0 h).mpr w)) (in_0.mp c_13)).symm), rfl⟩
