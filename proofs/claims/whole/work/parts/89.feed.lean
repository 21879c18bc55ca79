/-! A TURN: the feed stays below 100, the answer doesn't ask what days were -/
theorem grC_o {mS mR : Int32} {k j : Nat} {s : ROW × Int32} (hk : k < 5) (hj : j < 53) (h3 : ¬ j = 3) : (grC mS mR k s).1 j = s.1 j := by
  have eT : grT mS mR k s.1 j = s.1 j := by
    unfold grT
    rw [pC_4 hk, pC_3 hk, ud_ne (show ¬ j = 53 + k * 6 + 4 by omega), ud_ne (show ¬ j = 53 + k * 6 + 3 by omega)]
  by_cases h : oC s.1 (nI k) 5 = 0
  · by_cases h1 : mn 999 (oC s.1 (nI k) 3 + mS) < oC (grT mS mR k s.1) (nI k) 0
    · rw [grC_1 h h1]
      exact eT
    · by_cases h2 : mn 999 (oC s.1 (nI k) 4 + mR) < oC (grT mS mR k s.1) (nI k) 1
      · rw [grC_2 h h1 h2]
        exact eT
      · rw [grC_3 h h1 h2]
        show grU mS mR k s.1 j = _
        unfold grU
        rw [p143_3, pC_5 hk, ud_ne h3, ud_ne (show ¬ j = 53 + k * 6 + 5 by omega)]
        exact eT
  · rw [grC_0 h]
theorem grC_os {a b : Int32} {j : Nat} (hj : j < 53) (h3 : ¬ j = 3) : ∀ n (s : ROW × Int32), n ≤ 5 → (itn (grC a b) n s).1 j = s.1 j := by
  intro n
  induction n with
  | zero => intro s _; rfl
  | succ n ih => intro s h; exact (grC_o (by omega) hj h3).trans (ih s (by omega))
theorem tdF_o {f : ROW} {j : Nat} (h5 : ¬ j = 5) (h6 : ¬ j = 6) (h7 : ¬ j = 7) : tdF f j = f j := by
  unfold tdF
  rw [p143_7, p143_6, p143_5, ud_ne h7, ud_ne h6, ud_ne h5]
theorem dyS_o {s : ROW × ROW × Int32} {cs j : Nat} (h10 : s.1 10 = nI cs) (hcs : cs ≤ 5) (hj : j < 53) (h3 : ¬ j = 3) (h5 : ¬ j = 5) (h6 : ¬ j = 6) (h7 : ¬ j = 7) : (dyS s).1 j = s.1 j := by
  show (grS (tdF s.1) (gt 143 (tdF s.1) 5)).1 j = _
  unfold grS
  rw [g143_10, tdF_o (j := 10) (by decide) (by decide) (by decide), h10, nI_clamp (by omega)]
  exact (grC_os hj h3 cs _ hcs).trans (tdF_o h5 h6 h7)
theorem dys_o {cs : Nat} {s : ROW × ROW × Int32} (h10 : s.1 10 = nI cs) (hcs : cs ≤ 5) : ∀ n j, j < 53 → ¬ j = 3 → ¬ j = 5 → ¬ j = 6 → ¬ j = 7 → (itn (fun _ => dyS) n s).1 j = s.1 j := by
  intro n
  induction n with
  | zero => intro j _ _ _ _ _; rfl
  | succ n ih =>
    intro j h1 h3 h5 h6 h7
    exact (dyS_o ((ih 10 (by decide) (by decide) (by decide) (by decide) (by decide)).trans h10) hcs h1 h3 h5 h6 h7).trans (ih j h1 h3 h5 h6 h7)
theorem dysS_o {cs : Nat} {p : Int32} {f g : ROW} (h10 : f 10 = nI cs) (hcs : cs ≤ 5) : ∀ j, j < 53 → ¬ j = 3 → ¬ j = 5 → ¬ j = 6 → ¬ j = 7 → (dysS p f g).1 j = f j := by
  intro j h1 h3 h5 h6 h7
  have e := dys_o (s := (f, g, 0)) h10 hcs p.toNatClampNeg j h1 h3 h5 h6 h7
  unfold dysS
  exact e
theorem eh_o {g : ROW} {j : Nat} (h0 : ¬ j = 0) (h1 : ¬ j = 1) : ehF g j = g j := by
  unfold ehF
  split
  · split
    · rw [p143_1, ud_ne h1]
    · rw [p143_0, ud_ne h0, p143_1, ud_ne h1]
  · rfl
theorem eh_b {g : ROW} {a b : Nat} (h1 : g 1 = nI a) (h2 : g 2 = nI b) (ha : a ≤ 99) (hb : b ≤ 9) : bd 99 (ehF g 1) := by
  have eL : ehL g = nI a - nI b := by
    unfold ehL
    rw [g143_1, g143_2, h1, h2]
  have em : bd 99 (mx 0 (ehL g)) := by
    rw [eL]
    by_cases hba : b ≤ a
    · rw [pk_sub hba, show (0 : Int32) = nI 0 from rfl, mx_n (by decide) (by omega), Nat.max_eq_right (Nat.zero_le _)]
      exact bd_k (by omega)
    · have hn : nI a - nI b < 0 := pk_sneg (by omega) (by omega)
      rw [show mx 0 (nI a - nI b) = 0 from if_neg (fun z => absurd (Int32.lt_trans z hn) Int32.lt_irrefl)]
      exact bd_k (k := 0) (by omega)
  unfold ehF
  split
  · split
    · rw [p143_1, ud_at]
      exact em
    · rw [p143_0, ud_ne (show ¬ (1 : Nat) = 0 by decide), p143_1, ud_at]
      exact em
  · rw [h1]
    exact bd_k ha
theorem tn_e {f g Cc Z : ROW} {hold : Int32} : (tnS Cc Z hold (f, g)).1 = wlF (pt 143 (ehF (dysS (plS Cc Z hold f) f g).1) 8 (gt 143 (ehF (dysS (plS Cc Z hold f) f g).1) 8 + 1)) (plS Cc Z hold f) (dysS (plS Cc Z hold f) f g).2.2 := rfl
theorem tn_b' {ms cs : Nat} {R M C f g N : ROW} {p c : Int32} (h : RJ ms cs R M C f N) (hb : bd 99 (N 36)) : bd 99 (wlF (pt 143 (ehF (dysS p f g).1) 8 (gt 143 (ehF (dysS p f g).1) 8 + 1)) p c 1) := by
  obtain ⟨a, ha, ea⟩ := hb
  obtain ⟨b, hb9, eb⟩ := h.2.1.2.2.1.2
  obtain ⟨k, hk, ek⟩ := h.2.1.2.2.2.2.2.2.2
  have w : ∀ j, j < 53 → ¬ j = 3 → ¬ j = 5 → ¬ j = 6 → ¬ j = 7 → (dysS p f g).1 j = f j := dysS_o h.1.2.2.2.2.2 h.1.2.2.2.1
  obtain ⟨d, hd⟩ : ∃ d, d = (dysS p f g).1 := ⟨_, rfl⟩
  rw [← hd] at w ⊢
  have e12 : pt 143 (ehF d) 8 (gt 143 (ehF d) 8 + 1) 12 = nI k := by
    rw [p143_8, ud_ne (show ¬ (12 : Nat) = 8 by decide), eh_o (by decide) (by decide), w 12 (by decide) (by decide) (by decide) (by decide) (by decide), ek]
  rw [wl_F hk e12, ud_ne (show ¬ (1 : Nat) = 11 by decide), ud_ne (show ¬ (1 : Nat) = 12 by decide), ud_ne (show ¬ (1 : Nat) = 83 + k by omega), p143_8, ud_ne (show ¬ (1 : Nat) = 8 by decide)]
  refine eh_b (a := a) (b := b) ?_ ?_ ha hb9
  · rw [w 1 (by decide) (by decide) (by decide) (by decide) (by decide), h.2.1.2.1.1, ea]
  · rw [w 2 (by decide) (by decide) (by decide) (by decide) (by decide), h.2.1.2.2.1.1, eb]
theorem tn_b {ms cs : Nat} {R M C f g N N' Cc Z : ROW} {hold : Int32} (h : RJ ms cs R M C f N) (hb : bd 99 (N 36)) (h' : RJ ms cs R M C (tnS Cc Z hold (f, g)).1 N') : bd 99 (N' 36) := by
  rw [← h'.2.1.2.1.1, tn_e]
  exact tn_b' h hb
theorem dyS_g {s s' : ROW × ROW × Int32} (h1 : s.1 = s'.1) (h2 : s.2.2 = s'.2.2) : (dyS s).1 = (dyS s').1 ∧ (dyS s).2.2 = (dyS s').2.2 := by
  unfold dyS
  dsimp only
  rw [h1, h2]
  exact ⟨rfl, rfl⟩
theorem dys_g {f g g' : ROW} {b : Int32} : ∀ n, (itn (fun _ => dyS) n (f, g, b)).1 = (itn (fun _ => dyS) n (f, g', b)).1 ∧ (itn (fun _ => dyS) n (f, g, b)).2.2 = (itn (fun _ => dyS) n (f, g', b)).2.2 := by
  intro n
  induction n with
  | zero => exact ⟨rfl, rfl⟩
  | succ n ih => exact dyS_g ih.1 ih.2
theorem tn_g {f g g' Cc Z : ROW} {hold : Int32} : (tnS Cc Z hold (f, g)).1 = (tnS Cc Z hold (f, g')).1 := by
  unfold tnS
  dsimp only
  unfold dysS
  rw [(dys_g (g := g) (g' := g') _).1, (dys_g (g := g) (g' := g') _).2]
/-- the kept acts of both -/
def AKX (ms cs : Nat) (R M C K : ROW) (a1 a2 : Int32) (K' : ROW) (a3 : Int32) : Prop := ∃ a nx, a ≤ 40 ∧ nx < 40 ∧ a1 = nI a ∧ a3 = nI a ∧ a2 = nI nx ∧ ∀ i, i < a → RF ms cs R M C (fun j => K ((nx + 39 - i) % 40 * 143 + j)) (fun j => K' (284 * (a - 1 - i) + j))
theorem AKX_of {ms cs : Nat} {A I : Nat → Nat → Int32} (h : AKT ms cs A I) : AKX ms cs (A 60) (A 61) (A 62) (A 26) (I 25 1) (I 25 2) (A 66) (I 46 35) := h
theorem AKT_of {ms cs : Nat} {A I : Nat → Nat → Int32} (h : AKX ms cs (A 60) (A 61) (A 62) (A 26) (I 25 1) (I 25 2) (A 66) (I 46 35)) : AKT ms cs A I := h
theorem AKX_step {ms cs a' : Nat} {R M C K K' f N : ROW} {c1 c2 c3 : Int32} (h : AKX ms cs R M C K c1 c2 K' c3) (hF : RF ms cs R M C f N) (b1 : c3 = nI a') (b2 : a' ≤ 40) : AKX ms cs R M C (kpR K f c2 143) (mn 40 (c1 + 1)) (rm (c2 + 1) 40) (kpN K' N a') (nI (ka1 a' + 1)) := by
  obtain ⟨a, nx, a1, a2, a3, a4, a5, a6⟩ := h
  have ha : a' = a := (nI_eq (by omega) (by omega)).mp (b1.symm.trans a4)
  subst ha
  have hk1 : ka1 a' ≤ 39 := by unfold ka1; split <;> omega
  refine ⟨ka1 a' + 1, (nx + 1) % 40, by omega, by omega, ?_, rfl, ?_, fun i hi => ?_⟩
  · rw [a3, nI_1, show (40 : Int32) = nI 40 from rfl, mn_n (by decide) (by omega)]
    congr 1
    unfold ka1
    split <;> omega
  · rw [a5, nI_1, show (40 : Int32) = nI 40 from rfl, rm_n (by omega) (by decide) (by decide)]
  · rw [a5]
    by_cases hi0 : i = 0
    · subst hi0
      refine RF_eq hF (fun j hj => ?_) (fun j hj => ?_)
      · show kpR K f (nI nx) 143 _ = _
        rw [show ((nx + 1) % 40 + 39 - 0) % 40 = nx by omega, kp_at a2 143 (by decide) (by omega), if_pos (by omega), show nx * 143 + j - nx * 143 = j by omega]
      · show kpN K' N a' _ = _
        unfold kpN kcF
        rw [if_pos (by omega), show 284 * (ka1 a' + 1 - 1 - 0) + j - 284 * ka1 a' = j by omega]
    · have hka : ka1 a' ≤ a' := by unfold ka1; split <;> omega
      refine RF_eq (a6 (i - 1) (by omega)) (fun j hj => ?_) (fun j hj => ?_)
      · show kpR K f (nI nx) 143 _ = K _
        rw [show ((nx + 1) % 40 + 39 - i) % 40 = (nx + 39 - (i - 1)) % 40 by omega, kp_at a2 143 (by decide) (by omega), if_neg (by omega)]
      · show kpN K' N a' _ = K' _
        unfold kpN kcF
        rw [if_neg (by omega)]
        by_cases h40 : a' = 40
        · rw [if_pos h40]
          unfold ksF
          have hk39 : ka1 a' = 39 := if_pos h40
          rw [if_pos (by omega)]
          congr 1
          omega
        · rw [if_neg h40]
          have hk39 : ka1 a' = a' := if_neg h40
          congr 1
          omega