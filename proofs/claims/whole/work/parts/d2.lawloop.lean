/-! THE LAW: its loop -/
theorem and_63 (x : Int32) : ∃ v, v < 64 ∧ x &&& 63 = nI v := by
  refine ⟨(x &&& 63).toBitVec.toNat, ?_, ?_⟩
  · show (x.toBitVec &&& 63#32).toNat < 64
    rw [BitVec.toNat_and]
    exact Nat.lt_of_le_of_lt Nat.and_le_right (by decide)
  · exact Int32.toBitVec_inj.mp ((BitVec.ofNat_toNat 32 _).trans (BitVec.setWidth_eq _)).symm
theorem lw_7 {N a : Nat} (hN : N ≤ 3584) (ha : a ≤ N) (h : ¬ nI N - 7 < nI a) : a + 7 ≤ N := by
  by_cases h7 : 7 ≤ N
  · rw [show (7 : Int32) = nI 7 from rfl, pk_sub h7] at h
    have h2 := (nI_leI (a := a) (b := N - 7) (by omega) (by omega)).mp (Int32.not_lt.mp h)
    omega
  · have h2 : ∀ n, n < 7 → nI n - 7 < 0 := by decide
    exact absurd (Int32.lt_of_lt_of_le (h2 N (by omega)) (nI_pos' (n := a) (by omega))) h
theorem lw_in {N a k : Nat} (hN : N ≤ 3584) (h : a + k < N) : vp_in (nI a + nI k) N := by
  rw [nI_add]
  exact nI_in h (by omega)
theorem lw_seven {N a : Nat} (hN : N ≤ 3584) (h : a + 7 ≤ N) : sevenI N (nI a) :=
  ⟨nI_in (by omega) (by omega), lw_in (k := 1) hN (by omega), lw_in (k := 2) hN (by omega), lw_in (k := 3) hN (by omega), lw_in (k := 4) hN (by omega), lw_in (k := 5) hN (by omega), lw_in (k := 6) hN (by omega)⟩
/-- the call crop, which may throw: it makes at most 1000 cells -/
def CropC (b N : Nat) (xs : Nat → Int32) : Prop := ∀ (cells slots : Nat) (x : Int32) (l5 l6 : Option Value) (A : Nat → Nat → Int32) (L : Nat → Nat → Int64) (I : Nat → Nat → Int32) (X : Nat → Int64), INV A I → cells + 1000 ≤ 601024 → slots + 10000 ≤ 7293034 → sevenI N x →
  (∀ (l5 l6 : Option Value) (A : Nat → Nat → Int32) (L : Nat → Nat → Int64) (I : Nat → Nat → Int32) (X : Nat → Int64), INV A I → GL (cells + 1000) (slots + 10000) b N xs 1693 [some (.ref 5000), some (.ref 0), some (.ref 46), some (.ref 77), some (.int x), l5, l6] [] (hp A L I X)) → GL cells slots b N xs 442 [some (.ref 5000), some (.ref 0), some (.ref 46), some (.ref 77), some (.int x), l5, l6] [] (hp A L I X)
set_option maxHeartbeats 4000000 in
set_option maxRecDepth 100000 in
theorem lw_loop {b N : Nat} {xs : Nat → Int32} (hN : N ≤ 3584) (hcr : CropC b N xs) : ∀ (f j cells slots : Nat) (l5 l6 : Option Value) (A : Nat → Nat → Int32) (L : Nat → Nat → Int64) (I : Nat → Nat → Int32) (X : Nat → Int64), INV A I → 7 * j ≤ N → N - 7 * j < f → cells ≤ 80000 + 1000 * j → slots ≤ 200000 + 10000 * j → GL cells slots b N xs 23 [some (.ref 5000), some (.ref 0), some (.ref 46), some (.ref 77), some (.int (nI (7 * j))), l5, l6] [] (hp A L I X) := by
  intro f
  induction f with
  | zero => intro j cells slots l5 l6 A L I X hI h1 h2; omega
  | succ f ih =>
    intro j cells slots l5 l6 A L I X hI h1 h2 hc hs
    refine l_iload dL_23 rfl ?_
    refine l_aload_n dL_25 rfl rfl ?_
    refine l_slen dL_26 ?_
    refine l_bipush (v := 7) dL_27 (by decide) ?_
    refine l_isub dL_29 ?_
    refine l_icmp_gt (tgt := 1699) dL_30 (by decide) (fun c => ?_) (fun c => ?_)
    · refine l_ic_1 dL_1699 ?_
      exact l_ret (by omega) (by omega) dL_1700
    have a7 : 7 * j + 7 ≤ N := lw_7 hN h1 c
    have h7 := lw_seven hN a7
    have hstep : ∀ (cells' slots' : Nat) (l5 l6 : Option Value) (A : Nat → Nat → Int32) (L : Nat → Nat → Int64) (I : Nat → Nat → Int32) (X : Nat → Int64), INV A I → cells' ≤ cells + 1000 → slots' ≤ slots + 10000 → GL cells' slots' b N xs 1693 [some (.ref 5000), some (.ref 0), some (.ref 46), some (.ref 77), some (.int (nI (7 * j))), l5, l6] [] (hp A L I X) := by
      intro cells' slots' l5 l6 A L I X hI hc' hs'
      refine l_iinc (v := nI (7 * j + 7)) dL_1693 rfl (by rw [show Int32.ofInt 7 = nI 7 from rfl, nI_add]) (by decide) ?_
      refine l_goto (tgt := 23) dL_1696 (by decide) ?_
      have h := ih (j + 1) cells' slots' l5 l6 A L I X hI (by omega) (by omega) (by omega) (by omega)
      rw [show 7 * (j + 1) = 7 * j + 7 by omega] at h
      refine l_loc (ls' := [some (.ref 5000), some (.ref 0), some (.ref 46), some (.ref 77), some (.int (nI (7 * j + 7))), l5, l6]) (fun i v h => ?_) h
      rcases i with _|_|_|_|_|_|_|_
      · exact h
      · exact h
      · exact h
      · exact h
      · exact h
      · exact h
      · exact h
      · cases h
    refine l_aload_n dL_33 rfl rfl ?_
    refine l_iload dL_34 rfl ?_
    refine l_sld dL_36 h7.1 ?_
    refine l_bipush (v := 63) dL_37 (by decide) ?_
    refine l_iand dL_39 ?_
    obtain ⟨v, v64, ev⟩ := and_63 (xs (nI (7 * j)).toNatClampNeg)
    rw [ev]
    by_cases z0 : v = 0
    · subst z0
      refine l_tableIn (off := 192) (tgt := 232) dL_40 (by decide) (by decide) (by decide) (by decide) ?_
      exact lwc_0 hI (by omega) (by omega) h7 (fun A L I X hI => hstep _ _ l5 l6 A L I X hI (by omega) (by omega))
    by_cases z1 : v = 1
    · subst z1
      refine l_tableIn (off := 265) (tgt := 305) dL_40 (by decide) (by decide) (by decide) (by decide) ?_
      exact lwc_1 hI (by omega) (by omega) h7 (fun A L I X hI => hstep _ _ l5 l6 A L I X hI (by omega) (by omega))
    by_cases z2 : v = 2
    · subst z2
      refine l_tableIn (off := 290) (tgt := 330) dL_40 (by decide) (by decide) (by decide) (by decide) ?_
      exact lwc_2 hI (by omega) (by omega) h7 (fun A L I X hI => hstep _ _ l5 l6 A L I X hI (by omega) (by omega))
    by_cases z3 : v = 3
    · subst z3
      refine l_tableIn (off := 315) (tgt := 355) dL_40 (by decide) (by decide) (by decide) (by decide) ?_
      exact lwc_3 hI (by omega) (by omega) h7 (fun A L I X hI => hstep _ _ l5 l6 A L I X hI (by omega) (by omega))
    by_cases z4 : v = 4
    · subst z4
      refine l_tableIn (off := 340) (tgt := 380) dL_40 (by decide) (by decide) (by decide) (by decide) ?_
      exact lwc_4 hI (by omega) (by omega) h7 (fun A L I X hI => hstep _ _ l5 l6 A L I X hI (by omega) (by omega))
    by_cases z5 : v = 5
    · subst z5
      refine l_tableIn (off := 365) (tgt := 405) dL_40 (by decide) (by decide) (by decide) (by decide) ?_
      exact lwc_5 hI (by omega) (by omega) h7 (fun A L I X hI => hstep _ _ l5 l6 A L I X hI (by omega) (by omega))
    by_cases z6 : v = 6
    · subst z6
      refine l_tableIn (off := 402) (tgt := 442) dL_40 (by decide) (by decide) (by decide) (by decide) ?_
      exact hcr cells slots _ l5 l6 A L I X hI (by omega) (by omega) h7 (fun l5 l6 A L I X hI => hstep _ _ l5 l6 A L I X hI (Nat.le_refl _) (Nat.le_refl _))
    by_cases z7 : v = 7
    · subst z7
      refine l_tableIn (off := 470) (tgt := 510) dL_40 (by decide) (by decide) (by decide) (by decide) ?_
      exact lwc_7 hI (by omega) (by omega) h7 (fun A L I X hI => hstep _ _ l5 l6 A L I X hI (by omega) (by omega))
    by_cases z8 : v = 8
    · subst z8
      refine l_tableIn (off := 495) (tgt := 535) dL_40 (by decide) (by decide) (by decide) (by decide) ?_
      exact lwc_8 hI (by omega) (by omega) h7 (fun A L I X hI => hstep _ _ l5 l6 A L I X hI (by omega) (by omega))
    by_cases z9 : v = 9
    · subst z9
      refine l_tableIn (off := 508) (tgt := 548) dL_40 (by decide) (by decide) (by decide) (by decide) ?_
      exact lwc_9 hI (by omega) (by omega) h7 (fun A L I X hI => hstep _ _ l5 l6 A L I X hI (by omega) (by omega))
    by_cases z10 : v = 10
    · subst z10
      refine l_tableIn (off := 533) (tgt := 573) dL_40 (by decide) (by decide) (by decide) (by decide) ?_
      exact lwc_10 hI (by omega) (by omega) h7 (fun A L I X hI => hstep _ _ l5 l6 A L I X hI (by omega) (by omega))
    by_cases z11 : v = 11
    · subst z11
      refine l_tableIn (off := 558) (tgt := 598) dL_40 (by decide) (by decide) (by decide) (by decide) ?_
      exact lwc_11 hI (by omega) (by omega) h7 (fun A L I X hI => hstep _ _ l5 l6 A L I X hI (by omega) (by omega))
    by_cases z12 : v = 12
    · subst z12
      refine l_tableIn (off := 583) (tgt := 623) dL_40 (by decide) (by decide) (by decide) (by decide) ?_
      exact lwc_12 hI (by omega) (by omega) h7 (fun A L I X hI => hstep _ _ l5 l6 A L I X hI (by omega) (by omega))
    by_cases z13 : v = 13
    · subst z13
      refine l_tableIn (off := 608) (tgt := 648) dL_40 (by decide) (by decide) (by decide) (by decide) ?_
      exact lwc_13 hI (by omega) (by omega) h7 (fun A L I X hI => hstep _ _ l5 l6 A L I X hI (by omega) (by omega))
    by_cases z14 : v = 14
    · subst z14
      refine l_tableIn (off := 621) (tgt := 661) dL_40 (by decide) (by decide) (by decide) (by decide) ?_
      exact lwc_14 hI (by omega) (by omega) h7 (fun A L I X hI => hstep _ _ l5 l6 A L I X hI (by omega) (by omega))
    by_cases z15 : v = 15
    · subst z15
      refine l_tableIn (off := 634) (tgt := 674) dL_40 (by decide) (by decide) (by decide) (by decide) ?_
      exact lwc_15 hI (by omega) (by omega) h7 (fun A L I X hI => hstep _ _ l5 l6 A L I X hI (by omega) (by omega))
    by_cases z16 : v = 16
    · subst z16
      refine l_tableIn (off := 659) (tgt := 699) dL_40 (by decide) (by decide) (by decide) (by decide) ?_
      exact lwc_16 hI (by omega) (by omega) h7 (fun A L I X hI => hstep _ _ l5 l6 A L I X hI (by omega) (by omega))
    by_cases z17 : v = 17
    · subst z17
      refine l_tableIn (off := 696) (tgt := 736) dL_40 (by decide) (by decide) (by decide) (by decide) ?_
      exact lwc_17 hI (by omega) (by omega) h7 (fun A L I X hI => hstep _ _ l5 l6 A L I X hI (by omega) (by omega))
    by_cases z18 : v = 18
    · subst z18
      refine l_tableIn (off := 765) (tgt := 805) dL_40 (by decide) (by decide) (by decide) (by decide) ?_
      exact lwc_18 hI (by omega) (by omega) h7 (fun A L I X hI => hstep _ _ l5 l6 A L I X hI (by omega) (by omega))
    by_cases z19 : v = 19
    · subst z19
      refine l_tableIn (off := 790) (tgt := 830) dL_40 (by decide) (by decide) (by decide) (by decide) ?_
      exact lwc_19 hI (by omega) (by omega) h7 (fun A L I X hI => hstep _ _ l5 l6 A L I X hI (by omega) (by omega))
    by_cases z20 : v = 20
    · subst z20
      refine l_tableIn (off := 803) (tgt := 843) dL_40 (by decide) (by decide) (by decide) (by decide) ?_
      exact lwc_20 hI (by omega) (by omega) h7 (fun A L I X hI => hstep _ _ l5 l6 A L I X hI (by omega) (by omega))
    by_cases z21 : v = 21
    · subst z21
      refine l_tableIn (off := 840) (tgt := 880) dL_40 (by decide) (by decide) (by decide) (by decide) ?_
      exact lwc_21 hI (by omega) (by omega) h7 (fun A L I X hI => hstep _ _ l5 l6 A L I X hI (by omega) (by omega))
    by_cases z22 : v = 22
    · subst z22
      refine l_tableIn (off := 905) (tgt := 945) dL_40 (by decide) (by decide) (by decide) (by decide) ?_
      exact lwc_22 hI (by omega) (by omega) h7 (fun A L I X hI => hstep _ _ l5 l6 A L I X hI (by omega) (by omega))
    by_cases z23 : v = 23
    · subst z23
      refine l_tableIn (off := 930) (tgt := 970) dL_40 (by decide) (by decide) (by decide) (by decide) ?_
      exact lwc_23 hI (by omega) (by omega) h7 (fun A L I X hI => hstep _ _ l5 l6 A L I X hI (by omega) (by omega))
    by_cases z24 : v = 24
    · subst z24
      refine l_tableIn (off := 955) (tgt := 995) dL_40 (by decide) (by decide) (by decide) (by decide) ?_
      exact lwc_24 hI (by omega) (by omega) h7 (fun A L I X hI => hstep _ _ l5 l6 A L I X hI (by omega) (by omega))
    by_cases z25 : v = 25
    · subst z25
      refine l_tableIn (off := 980) (tgt := 1020) dL_40 (by decide) (by decide) (by decide) (by decide) ?_
      exact lwc_25 hI (by omega) (by omega) h7 (fun A L I X hI => hstep _ _ l5 l6 A L I X hI (by omega) (by omega))
    by_cases z26 : v = 26
    · subst z26
      refine l_tableIn (off := 1029) (tgt := 1069) dL_40 (by decide) (by decide) (by decide) (by decide) ?_
      exact lwc_26 hI (by omega) (by omega) h7 (fun A L I X hI => hstep _ _ l5 l6 A L I X hI (by omega) (by omega))
    by_cases z27 : v = 27
    · subst z27
      refine l_tableIn (off := 1116) (tgt := 1156) dL_40 (by decide) (by decide) (by decide) (by decide) ?_
      exact lwc_27 hI (by omega) (by omega) h7 (fun A L I X hI => hstep _ _ l5 l6 A L I X hI (by omega) (by omega))
    by_cases z28 : v = 28
    · subst z28
      refine l_tableIn (off := 1177) (tgt := 1217) dL_40 (by decide) (by decide) (by decide) (by decide) ?_
      exact lwc_28 hI (by omega) (by omega) h7 (fun A L I X hI => hstep _ _ l5 l6 A L I X hI (by omega) (by omega))
    by_cases z29 : v = 29
    · subst z29
      refine l_tableIn (off := 1226) (tgt := 1266) dL_40 (by decide) (by decide) (by decide) (by decide) ?_
      exact lwc_29 hI (by omega) (by omega) h7 (fun A L I X hI => hstep _ _ l5 l6 A L I X hI (by omega) (by omega))
    by_cases z30 : v = 30
    · subst z30
      refine l_tableIn (off := 1263) (tgt := 1303) dL_40 (by decide) (by decide) (by decide) (by decide) ?_
      exact lwc_30 hI (by omega) (by omega) h7 (fun A L I X hI => hstep _ _ l5 l6 A L I X hI (by omega) (by omega))
    by_cases z31 : v = 31
    · subst z31
      refine l_tableIn (off := 1300) (tgt := 1340) dL_40 (by decide) (by decide) (by decide) (by decide) ?_
      exact lwc_31 hI (by omega) (by omega) h7 (fun A L I X hI => hstep _ _ l5 l6 A L I X hI (by omega) (by omega))
    by_cases z32 : v = 32
    · subst z32
      refine l_tableIn (off := 1313) (tgt := 1353) dL_40 (by decide) (by decide) (by decide) (by decide) ?_
      exact lwc_32 hI (by omega) (by omega) h7 (fun A L I X hI => hstep _ _ l5 l6 A L I X hI (by omega) (by omega))
    by_cases z33 : v = 33
    · subst z33
      refine l_tableIn (off := 1338) (tgt := 1378) dL_40 (by decide) (by decide) (by decide) (by decide) ?_
      exact lwc_33 hI (by omega) (by omega) h7 (fun A L I X hI => hstep _ _ l5 l6 A L I X hI (by omega) (by omega))
    by_cases z34 : v = 34
    · subst z34
      refine l_tableIn (off := 1403) (tgt := 1443) dL_40 (by decide) (by decide) (by decide) (by decide) ?_
      exact lwc_34 hI (by omega) (by omega) h7 (fun A L I X hI => hstep _ _ l5 l6 A L I X hI (by omega) (by omega))
    by_cases z35 : v = 35
    · subst z35
      refine l_tableIn (off := 1440) (tgt := 1480) dL_40 (by decide) (by decide) (by decide) (by decide) ?_
      exact lwc_35 hI (by omega) (by omega) h7 (fun A L I X hI => hstep _ _ l5 l6 A L I X hI (by omega) (by omega))
    by_cases z36 : v = 36
    · subst z36
      refine l_tableIn (off := 1465) (tgt := 1505) dL_40 (by decide) (by decide) (by decide) (by decide) ?_
      exact lwc_36 hI (by omega) (by omega) h7 (fun A L I X hI => hstep _ _ l5 l6 A L I X hI (by omega) (by omega))
    by_cases z37 : v = 37
    · subst z37
      refine l_tableIn (off := 1502) (tgt := 1542) dL_40 (by decide) (by decide) (by decide) (by decide) ?_
      exact lwc_37 hI (by omega) (by omega) h7 (fun A L I X hI => hstep _ _ l5 l6 A L I X hI (by omega) (by omega))
    by_cases z38 : v = 38
    · subst z38
      refine l_tableIn (off := 1551) (tgt := 1591) dL_40 (by decide) (by decide) (by decide) (by decide) ?_
      exact lwc_38 hI (by omega) (by omega) h7 (fun A L I X hI => hstep _ _ l5 l6 A L I X hI (by omega) (by omega))
    by_cases z39 : v = 39
    · subst z39
      refine l_tableIn (off := 1576) (tgt := 1616) dL_40 (by decide) (by decide) (by decide) (by decide) ?_
      exact lwc_39 hI (by omega) (by omega) h7 (fun A L I X hI => hstep _ _ l5 l6 A L I X hI (by omega) (by omega))
    by_cases z40 : v = 40
    · subst z40
      refine l_tableIn (off := 1589) (tgt := 1629) dL_40 (by decide) (by decide) (by decide) (by decide) ?_
      exact lwc_40 hI (by omega) (by omega) h7 (fun A L I X hI => hstep _ _ l5 l6 A L I X hI (by omega) (by omega))
    by_cases z41 : v = 41
    · subst z41
      refine l_tableIn (off := 1602) (tgt := 1642) dL_40 (by decide) (by decide) (by decide) (by decide) ?_
      exact lwc_41 hI (by omega) (by omega) h7 (fun A L I X hI => hstep _ _ l5 l6 A L I X hI (by omega) (by omega))
    by_cases z42 : v = 42
    · subst z42
      refine l_tableIn (off := 1615) (tgt := 1655) dL_40 (by decide) (by decide) (by decide) (by decide) ?_
      exact lwc_42 hI (by omega) (by omega) h7 (fun A L I X hI => hstep _ _ l5 l6 A L I X hI (by omega) (by omega))
    by_cases z43 : v = 43
    · subst z43
      refine l_tableIn (off := 1628) (tgt := 1668) dL_40 (by decide) (by decide) (by decide) (by decide) ?_
      exact lwc_43 hI (by omega) (by omega) h7 (fun A L I X hI => hstep _ _ l5 l6 A L I X hI (by omega) (by omega))
    refine l_tableOut (tgt := 1693) dL_40 (Or.inr ?_) (by decide) (hstep _ _ l5 l6 A L I X hI (by omega) (by omega))
    rw [nI_toInt (by omega)]
    omega
