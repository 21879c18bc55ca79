/-! FEED -/
def JF (a b c d e : Int32) (j : Nat) : Int32 := byZ a b c d e (nI j)
/-- how many of the first k bytes are fed -/
def cN (a b c d e : Int32) : Nat → Nat
  | 0 => 0
  | k + 1 => if JF a b c d e k = 0 then cN a b c d e k else cN a b c d e k + 1
def cnZ (a b c d e : Int32) : Nat → Int32
  | 0 => 0
  | k + 1 => cnZ a b c d e k + (if JF a b c d e k = 0 then 0 else 1)
def tT (a b c d e : Int32) (T : ROW) (n : Nat) : Nat → ROW
  | 0 => T
  | k + 1 => if JF a b c d e k = 0 then tT a b c d e T n k else upd (tT a b c d e T n k) (n + cN a b c d e k) (JF a b c d e k)
section FD
variable {a b c d e : Int32} {T : ROW} {n : Nat}
theorem cnZ_N : ∀ k, cnZ a b c d e k = nI (cN a b c d e k)
  | 0 => rfl
  | k + 1 => by
    unfold cnZ cN
    rw [cnZ_N k]
    by_cases z : JF a b c d e k = 0
    · rw [if_pos z, if_pos z, Int32.add_zero]
    · rw [if_neg z, if_neg z, nI_1]
theorem cN_le : ∀ k, cN a b c d e k ≤ k
  | 0 => Nat.le_refl _
  | k + 1 => by
    have := cN_le k
    unfold cN
    by_cases z : JF a b c d e k = 0
    · rw [if_pos z]; omega
    · rw [if_neg z]; omega
theorem cN_mono : ∀ k j, cN a b c d e k ≤ cN a b c d e (k + j)
  | k, 0 => Nat.le_refl _
  | k, j + 1 => by
    have h := cN_mono k j
    refine Nat.le_trans h ?_
    show _ ≤ cN a b c d e (k + j + 1)
    rw [cN]
    by_cases z : JF a b c d e (k + j) = 0
    · rw [if_pos z]; exact Nat.le_refl _
    · rw [if_neg z]; exact Nat.le_succ _
theorem cN_z {k : Nat} (z : JF a b c d e k = 0) : cN a b c d e (k + 1) = cN a b c d e k := by rw [cN, if_pos z]
theorem cN_n {k : Nat} (z : ¬ JF a b c d e k = 0) : cN a b c d e (k + 1) = cN a b c d e k + 1 := by rw [cN, if_neg z]
theorem tT_z {k : Nat} (z : JF a b c d e k = 0) : tT a b c d e T n (k + 1) = tT a b c d e T n k := by rw [tT, if_pos z]
theorem tT_n {k : Nat} (z : ¬ JF a b c d e k = 0) : tT a b c d e T n (k + 1) = upd (tT a b c d e T n k) (n + cN a b c d e k) (JF a b c d e k) := by rw [tT, if_neg z]
theorem cN_lt {k : Nat} (hk : k < 20) (z : ¬ JF a b c d e k = 0) (h : n + cN a b c d e 20 ≤ 240) : n + cN a b c d e k < 240 := by
  have h1 := cN_mono (a := a) (b := b) (c := c) (d := d) (e := e) (k + 1) (20 - (k + 1))
  rw [show k + 1 + (20 - (k + 1)) = 20 by omega, cN_n z] at h1
  omega
theorem and_255 (x : Int32) : ∃ v, v < 256 ∧ x &&& 255 = nI v := by
  refine ⟨(x &&& 255).toBitVec.toNat, ?_, ?_⟩
  · show (x.toBitVec &&& 255#32).toNat < 256
    rw [BitVec.toNat_and]
    exact Nat.lt_of_le_of_lt Nat.and_le_right (by decide)
  · exact Int32.toBitVec_inj.mp ((BitVec.ofNat_toNat 32 _).trans (BitVec.setWidth_eq _)).symm
theorem JF_b {k : Nat} : ∃ v, v < 256 ∧ JF a b c d e k = nI v := and_255 _
theorem tT_b (hT : ∀ j, j < n → ∃ v, 0 < v ∧ v < 256 ∧ T j = nI v) : ∀ k j, j < n + cN a b c d e k → ∃ v, 0 < v ∧ v < 256 ∧ tT a b c d e T n k j = nI v
  | 0, j, hj => hT j hj
  | k + 1, j, hj => by
    by_cases z : JF a b c d e k = 0
    · rw [cN_z z] at hj
      rw [tT_z z]
      exact tT_b hT k j hj
    · rw [cN_n z] at hj
      rw [tT_n z]
      by_cases y : j = n + cN a b c d e k
      · rw [y, ud_at]
        obtain ⟨v, v1, v2⟩ := JF_b (a := a) (b := b) (c := c) (d := d) (e := e) (k := k)
        refine ⟨v, Nat.pos_of_ne_zero (fun w => z ?_), v1, v2⟩
        rw [v2, w]
        rfl
      · rw [ud_ne y]
        exact tT_b hT k j (by omega)
theorem l255 : ∀ i, i < 32 → 8 ≤ i → (255#32).getLsbD i = false := by decide
theorem sh_s (x : Int32) {s : Nat} (hs : s ≤ 24) : BitVec.sshiftRight x.toBitVec s &&& 255#32 = (x.toBitVec >>> s) &&& 255#32 := by
  apply BitVec.eq_of_getLsbD_eq
  intro i hi
  rw [BitVec.getLsbD_and, BitVec.getLsbD_and]
  by_cases h : i < 8
  · rw [BitVec.getLsbD_sshiftRight, BitVec.getLsbD_ushiftRight, if_pos (show s + i < 32 by omega)]
    have e : decide (32 ≤ i) = false := decide_eq_false (by omega)
    rw [e]
    rfl
  · rw [l255 i hi (by omega), Bool.and_false, Bool.and_false]
theorem sh_0 (x : Int32) : (x >>> ((0 : Int32) &&& 31)) &&& 255 = byI x 0 := Int32.toBitVec_inj.mp (sh_s x (s := 0) (by decide))
theorem sh_8 (x : Int32) : (x >>> ((8 : Int32) &&& 31)) &&& 255 = byI x 8 := Int32.toBitVec_inj.mp (sh_s x (s := 8) (by decide))
theorem sh_16 (x : Int32) : (x >>> ((16 : Int32) &&& 31)) &&& 255 = byI x 16 := Int32.toBitVec_inj.mp (sh_s x (s := 16) (by decide))
theorem sh_24 (x : Int32) : (x >>> ((24 : Int32) &&& 31)) &&& 255 = byI x 24 := Int32.toBitVec_inj.mp (sh_s x (s := 24) (by decide))

theorem JF_0 : JF a b c d e 0 = byI a 24 := by
  unfold JF byZ byV
  rw [if_neg (by decide), show (24 - 8 * rm (nI 0) 4 : Int32) = 24 by decide]
  exact sh_24 a
theorem JF_1 : JF a b c d e 1 = byI a 16 := by
  unfold JF byZ byV
  rw [if_neg (by decide), show (24 - 8 * rm (nI 1) 4 : Int32) = 16 by decide]
  exact sh_16 a
theorem JF_2 : JF a b c d e 2 = byI a 8 := by
  unfold JF byZ byV
  rw [if_neg (by decide), show (24 - 8 * rm (nI 2) 4 : Int32) = 8 by decide]
  exact sh_8 a
theorem JF_3 : JF a b c d e 3 = byI a 0 := by
  unfold JF byZ byV
  rw [if_neg (by decide), show (24 - 8 * rm (nI 3) 4 : Int32) = 0 by decide]
  exact sh_0 a
theorem JF_4 : JF a b c d e 4 = byI b 24 := by
  unfold JF byZ byV
  rw [if_pos (by decide), if_neg (by decide), show (24 - 8 * rm (nI 4) 4 : Int32) = 24 by decide]
  exact sh_24 b
theorem JF_5 : JF a b c d e 5 = byI b 16 := by
  unfold JF byZ byV
  rw [if_pos (by decide), if_neg (by decide), show (24 - 8 * rm (nI 5) 4 : Int32) = 16 by decide]
  exact sh_16 b
theorem JF_6 : JF a b c d e 6 = byI b 8 := by
  unfold JF byZ byV
  rw [if_pos (by decide), if_neg (by decide), show (24 - 8 * rm (nI 6) 4 : Int32) = 8 by decide]
  exact sh_8 b
theorem JF_7 : JF a b c d e 7 = byI b 0 := by
  unfold JF byZ byV
  rw [if_pos (by decide), if_neg (by decide), show (24 - 8 * rm (nI 7) 4 : Int32) = 0 by decide]
  exact sh_0 b
theorem JF_8 : JF a b c d e 8 = byI c 24 := by
  unfold JF byZ byV
  rw [if_pos (by decide), if_pos (by decide), if_neg (by decide), show (24 - 8 * rm (nI 8) 4 : Int32) = 24 by decide]
  exact sh_24 c
theorem JF_9 : JF a b c d e 9 = byI c 16 := by
  unfold JF byZ byV
  rw [if_pos (by decide), if_pos (by decide), if_neg (by decide), show (24 - 8 * rm (nI 9) 4 : Int32) = 16 by decide]
  exact sh_16 c
theorem JF_10 : JF a b c d e 10 = byI c 8 := by
  unfold JF byZ byV
  rw [if_pos (by decide), if_pos (by decide), if_neg (by decide), show (24 - 8 * rm (nI 10) 4 : Int32) = 8 by decide]
  exact sh_8 c
theorem JF_11 : JF a b c d e 11 = byI c 0 := by
  unfold JF byZ byV
  rw [if_pos (by decide), if_pos (by decide), if_neg (by decide), show (24 - 8 * rm (nI 11) 4 : Int32) = 0 by decide]
  exact sh_0 c
theorem JF_12 : JF a b c d e 12 = byI d 24 := by
  unfold JF byZ byV
  rw [if_pos (by decide), if_pos (by decide), if_pos (by decide), if_neg (by decide), show (24 - 8 * rm (nI 12) 4 : Int32) = 24 by decide]
  exact sh_24 d
theorem JF_13 : JF a b c d e 13 = byI d 16 := by
  unfold JF byZ byV
  rw [if_pos (by decide), if_pos (by decide), if_pos (by decide), if_neg (by decide), show (24 - 8 * rm (nI 13) 4 : Int32) = 16 by decide]
  exact sh_16 d
theorem JF_14 : JF a b c d e 14 = byI d 8 := by
  unfold JF byZ byV
  rw [if_pos (by decide), if_pos (by decide), if_pos (by decide), if_neg (by decide), show (24 - 8 * rm (nI 14) 4 : Int32) = 8 by decide]
  exact sh_8 d
theorem JF_15 : JF a b c d e 15 = byI d 0 := by
  unfold JF byZ byV
  rw [if_pos (by decide), if_pos (by decide), if_pos (by decide), if_neg (by decide), show (24 - 8 * rm (nI 15) 4 : Int32) = 0 by decide]
  exact sh_0 d
theorem JF_16 : JF a b c d e 16 = byI e 24 := by
  unfold JF byZ byV
  rw [if_pos (by decide), if_pos (by decide), if_pos (by decide), if_pos (by decide), show (24 - 8 * rm (nI 16) 4 : Int32) = 24 by decide]
  exact sh_24 e
theorem JF_17 : JF a b c d e 17 = byI e 16 := by
  unfold JF byZ byV
  rw [if_pos (by decide), if_pos (by decide), if_pos (by decide), if_pos (by decide), show (24 - 8 * rm (nI 17) 4 : Int32) = 16 by decide]
  exact sh_16 e
theorem JF_18 : JF a b c d e 18 = byI e 8 := by
  unfold JF byZ byV
  rw [if_pos (by decide), if_pos (by decide), if_pos (by decide), if_pos (by decide), show (24 - 8 * rm (nI 18) 4 : Int32) = 8 by decide]
  exact sh_8 e
theorem JF_19 : JF a b c d e 19 = byI e 0 := by
  unfold JF byZ byV
  rw [if_pos (by decide), if_pos (by decide), if_pos (by decide), if_pos (by decide), show (24 - 8 * rm (nI 19) 4 : Int32) = 0 by decide]
  exact sh_0 e
theorem cnZ_20 : cnZ a b c d e 20 = feM a b c d e := by
  show (((((((((((((((((((((0 + (if JF a b c d e 0 = 0 then 0 else 1)) + (if JF a b c d e 1 = 0 then 0 else 1)) + (if JF a b c d e 2 = 0 then 0 else 1)) + (if JF a b c d e 3 = 0 then 0 else 1)) + (if JF a b c d e 4 = 0 then 0 else 1)) + (if JF a b c d e 5 = 0 then 0 else 1)) + (if JF a b c d e 6 = 0 then 0 else 1)) + (if JF a b c d e 7 = 0 then 0 else 1)) + (if JF a b c d e 8 = 0 then 0 else 1)) + (if JF a b c d e 9 = 0 then 0 else 1)) + (if JF a b c d e 10 = 0 then 0 else 1)) + (if JF a b c d e 11 = 0 then 0 else 1)) + (if JF a b c d e 12 = 0 then 0 else 1)) + (if JF a b c d e 13 = 0 then 0 else 1)) + (if JF a b c d e 14 = 0 then 0 else 1)) + (if JF a b c d e 15 = 0 then 0 else 1)) + (if JF a b c d e 16 = 0 then 0 else 1)) + (if JF a b c d e 17 = 0 then 0 else 1)) + (if JF a b c d e 18 = 0 then 0 else 1)) + (if JF a b c d e 19 = 0 then 0 else 1)) : Int32) = _
  rw [JF_0, JF_1, JF_2, JF_3, JF_4, JF_5, JF_6, JF_7, JF_8, JF_9, JF_10, JF_11, JF_12, JF_13, JF_14, JF_15, JF_16, JF_17, JF_18, JF_19]
  unfold feM bnI nzI
  simp only [Int32.zero_add]
  ac_rfl
theorem adF_s {k : Nat} (hk : k < 20) (h : n + cN a b c d e 20 ≤ 240) : adF (tT a b c d e T n k, nI (n + cN a b c d e k)) (JF a b c d e k) = (tT a b c d e T n (k + 1), nI (n + cN a b c d e (k + 1))) := by
  unfold adF
  by_cases z : JF a b c d e k = 0
  · rw [if_pos (Or.inl z), tT_z z, cN_z z]
  · have h1 := cN_lt (n := n) hk z h
    have h2 : nI (n + cN a b c d e k) < 240 := Int32.not_le.mp (fun w => Nat.not_le.mpr h1 ((nI_leI (a := 240) (b := n + cN a b c d e k) (by decide) (by omega)).mp w))
    rw [if_neg (fun w => w.elim z (fun w => w h2)), tT_n z, cN_n z]
    show (pt 240 (tT a b c d e T n k) (nI (n + cN a b c d e k)) (JF a b c d e k), nI (n + cN a b c d e k) + 1) = _
    rw [pt_nI h1 (by decide), nI_1]
    rfl
theorem feS_t (h : n + cN a b c d e 20 ≤ 240) : feS (T, nI n) a b c d e = (tT a b c d e T n 20, nI (n + cN a b c d e 20)) := by
  show (adF (adF (adF (adF (adF (adF (adF (adF (adF (adF (adF (adF (adF (adF (adF (adF (adF (adF (adF (adF (T, nI n) (byI a 24)) (byI a 16)) (byI a 8)) (byI a 0)) (byI b 24)) (byI b 16)) (byI b 8)) (byI b 0)) (byI c 24)) (byI c 16)) (byI c 8)) (byI c 0)) (byI d 24)) (byI d 16)) (byI d 8)) (byI d 0)) (byI e 24)) (byI e 16)) (byI e 8)) (byI e 0)) = _
  rw [← JF_0 (a := a) (b := b) (c := c) (d := d) (e := e), ← JF_1 (a := a) (b := b) (c := c) (d := d) (e := e), ← JF_2 (a := a) (b := b) (c := c) (d := d) (e := e), ← JF_3 (a := a) (b := b) (c := c) (d := d) (e := e), ← JF_4 (a := a) (b := b) (c := c) (d := d) (e := e), ← JF_5 (a := a) (b := b) (c := c) (d := d) (e := e), ← JF_6 (a := a) (b := b) (c := c) (d := d) (e := e), ← JF_7 (a := a) (b := b) (c := c) (d := d) (e := e), ← JF_8 (a := a) (b := b) (c := c) (d := d) (e := e), ← JF_9 (a := a) (b := b) (c := c) (d := d) (e := e), ← JF_10 (a := a) (b := b) (c := c) (d := d) (e := e), ← JF_11 (a := a) (b := b) (c := c) (d := d) (e := e), ← JF_12 (a := a) (b := b) (c := c) (d := d) (e := e), ← JF_13 (a := a) (b := b) (c := c) (d := d) (e := e), ← JF_14 (a := a) (b := b) (c := c) (d := d) (e := e), ← JF_15 (a := a) (b := b) (c := c) (d := d) (e := e), ← JF_16 (a := a) (b := b) (c := c) (d := d) (e := e), ← JF_17 (a := a) (b := b) (c := c) (d := d) (e := e), ← JF_18 (a := a) (b := b) (c := c) (d := d) (e := e), ← JF_19 (a := a) (b := b) (c := c) (d := d) (e := e)]
  rw [show (T, nI n) = (tT a b c d e T n 0, nI (n + cN a b c d e 0)) from rfl]
  rw [adF_s (k := 0) (by decide) h, adF_s (k := 1) (by decide) h, adF_s (k := 2) (by decide) h, adF_s (k := 3) (by decide) h, adF_s (k := 4) (by decide) h, adF_s (k := 5) (by decide) h, adF_s (k := 6) (by decide) h, adF_s (k := 7) (by decide) h, adF_s (k := 8) (by decide) h, adF_s (k := 9) (by decide) h, adF_s (k := 10) (by decide) h, adF_s (k := 11) (by decide) h, adF_s (k := 12) (by decide) h, adF_s (k := 13) (by decide) h, adF_s (k := 14) (by decide) h, adF_s (k := 15) (by decide) h, adF_s (k := 16) (by decide) h, adF_s (k := 17) (by decide) h, adF_s (k := 18) (by decide) h, adF_s (k := 19) (by decide) h]
end FD
set_option maxHeartbeats 800000 in
set_option maxRecDepth 100000 in
theorem e_fd1 {A : Nat → Nat → Int32} {L : Nat → Nat → Int64} {I : Nat → Nat → Int32} {X : Nat → Int64} {a b c d e : Int32} {n : Nat} {Q : Option Value → m_H → Prop} (hE : G 2 RX11 cX11_feed 9 (some .int) Q 44 [some (.ref 46), some (.int a), some (.int b), some (.int c), some (.int d), some (.int e), some (.int (cnZ a b c d e 20)), some (.int (nI 20)), none] [] (hp A L I X)) : ∀ f k, k ≤ 20 → 20 - k < f → G 2 RX11 cX11_feed 9 (some .int) Q 6 [some (.ref 46), some (.int a), some (.int b), some (.int c), some (.int d), some (.int e), some (.int (cnZ a b c d e k)), some (.int (nI k)), none] [] (hp A L I X) := by
  intro f
  induction f with
  | zero => intro k h1 h2; omega
  | succ f ih =>
    intro k h1 h2
    refine g_iload dX11_feed_6 rfl ?_
    refine g_bipush (v := 20) dX11_feed_8 (by decide) ?_
    refine g_icmp_ge (tgt := 44) dX11_feed_10 (by decide) (fun c_10 => ?_) (fun c_10 => ?_)
    · have h6 : 20 ≤ k := lit_le (n := 20) (by decide) (by omega) c_10
      have hkn : k = 20 := by omega
      subst hkn
      exact hE
    · have hlt : k < 20 := by have := lit_nle (n := 20) (by decide) (by omega) c_10; omega
      refine g_iload dX11_feed_13 rfl ?_
      refine g_iload_n dX11_feed_15 rfl rfl ?_
      refine g_iload_n dX11_feed_16 rfl rfl ?_
      refine g_iload_n dX11_feed_17 rfl rfl ?_
      refine g_iload dX11_feed_18 rfl ?_
      refine g_iload dX11_feed_20 rfl ?_
      refine g_iload dX11_feed_22 rfl ?_
      refine g_callS dX11_feed_24 cs_X11_109 (as := [_, _, _, _, _, _]) e_byte (by decide) rfl rfl (Nat.le_of_ble_eq_true rfl) ?_
      rintro _ _ ⟨rfl, rfl⟩
      refine g_if_eq (tgt := 34) dX11_feed_27 (by decide) (fun c_27 => ?_) (fun c_27 => ?_)
      · refine g_ic_0 dX11_feed_34 ?_
        refine g_iadd dX11_feed_35 ?_
        refine g_istore dX11_feed_36 (by decide) ?_
        refine g_iinc1 dX11_feed_38 rfl (by decide) ?_
        refine g_goto (tgt := 6) dX11_feed_41 (by decide) ?_
        rw [nI_1 (a := k)]
        have e1 : cnZ a b c d e (k + 1) = cnZ a b c d e k + 0 := by rw [cnZ, if_pos (show JF a b c d e k = 0 from c_27)]
        rw [← e1]
        exact ih (k + 1) (by omega) (by omega)
      · refine g_ic_1 dX11_feed_30 ?_
        refine g_goto (tgt := 35) dX11_feed_31 (by decide) ?_
        refine g_iadd dX11_feed_35 ?_
        refine g_istore dX11_feed_36 (by decide) ?_
        refine g_iinc1 dX11_feed_38 rfl (by decide) ?_
        refine g_goto (tgt := 6) dX11_feed_41 (by decide) ?_
        rw [nI_1 (a := k)]
        have e1 : cnZ a b c d e (k + 1) = cnZ a b c d e k + 1 := by rw [cnZ, if_neg (show ¬ JF a b c d e k = 0 from c_27)]
        rw [← e1]
        exact ih (k + 1) (by omega) (by omega)

set_option maxHeartbeats 800000 in
set_option maxRecDepth 100000 in
theorem e_fd2 {A : Nat → Nat → Int32} {L : Nat → Nat → Int64} {I : Nat → Nat → Int32} {X : Nat → Int64} {a b c d e : Int32} {n : Nat} {Q : Option Value → m_H → Prop} {u : Int32} (h20 : n + cN a b c d e 20 ≤ 240) (hE : ∀ x, G 2 RX11 cX11_feed 9 (some .int) Q 115 [some (.ref 46), some (.int a), some (.int b), some (.int c), some (.int d), some (.int e), some (.int u), some (.int (nI 20)), x] [] (hp (up A 47 (tT a b c d e (A 47) n (20))) L (up2 I 46 2 (nI (n + cN a b c d e (20)))) X)) : ∀ f k x, k ≤ 20 → 20 - k < f → G 2 RX11 cX11_feed 9 (some .int) Q 62 [some (.ref 46), some (.int a), some (.int b), some (.int c), some (.int d), some (.int e), some (.int u), some (.int (nI k)), x] [] (hp (up A 47 (tT a b c d e (A 47) n (k))) L (up2 I 46 2 (nI (n + cN a b c d e (k)))) X) := by
  intro f
  induction f with
  | zero => intro k x h1 h2; omega
  | succ f ih =>
    intro k x h1 h2
    refine g_iload dX11_feed_62 rfl ?_
    refine g_bipush (v := 20) dX11_feed_64 (by decide) ?_
    refine g_icmp_ge (tgt := 115) dX11_feed_66 (by decide) (fun c_66 => ?_) (fun c_66 => ?_)
    · have h6 : 20 ≤ k := lit_le (n := 20) (by decide) (by omega) c_66
      have hkn : k = 20 := by omega
      subst hkn
      exact hE x
    · have hlt : k < 20 := by have := lit_nle (n := 20) (by decide) (by omega) c_66; omega
      refine g_iload_n dX11_feed_69 rfl rfl ?_
      refine g_iload_n dX11_feed_70 rfl rfl ?_
      refine g_iload_n dX11_feed_71 rfl rfl ?_
      refine g_iload dX11_feed_72 rfl ?_
      refine g_iload dX11_feed_74 rfl ?_
      refine g_iload dX11_feed_76 rfl ?_
      refine g_callS dX11_feed_78 cs_X11_109 (as := [_, _, _, _, _, _]) e_byte (by decide) rfl rfl (Nat.le_of_ble_eq_true rfl) ?_
      rintro _ _ ⟨rfl, rfl⟩
      try simp (disch := omega) only [up_at, up_up, up_ne, up2_at, up2_up2]
      refine g_istore dX11_feed_81 (by decide) ?_
      refine g_iload dX11_feed_83 rfl ?_
      refine g_if_eq (tgt := 109) dX11_feed_85 (by decide) (fun c_85 => ?_) (fun c_85 => ?_)
      · refine g_iinc1 dX11_feed_109 rfl (by decide) ?_
        refine g_goto (tgt := 62) dX11_feed_112 (by decide) ?_
        rw [nI_1 (a := k)]
        have h := ih (k + 1) (some (.int (byZ a b c d e (nI k)))) (by omega) (by omega)
        rw [tT_z (show JF a b c d e k = 0 from c_85), cN_z (show JF a b c d e k = 0 from c_85)] at h
        refine g_loc (ls' := [some (.ref 46), some (.int a), some (.int b), some (.int c), some (.int d), some (.int e), some (.int u), some (.int (nI (k + 1))), some (.int (byZ a b c d e (nI k)))]) (fun i v h => by rcases i with _|_|_|_|_|_|_|_|_|_ <;> first | exact h | cases h) ?_
        exact h
      · have hb : n + cN a b c d e k < 240 := cN_lt hlt (show ¬ JF a b c d e k = 0 from c_85) h20
        refine g_aload_n dX11_feed_88 rfl rfl ?_
        refine g_get dX11_feed_89 fl_X11_9 hp_46 rfl ?_
        refine g_aload_n dX11_feed_92 rfl rfl ?_
        refine g_get dX11_feed_93 fl_X11_113 hp_46 rfl ?_
        try simp (disch := omega) only [up_at, up_up, up_ne, up2_at, up2_up2]
        refine g_iload dX11_feed_96 rfl ?_
        refine g_wa dX11_feed_98 hp_47 (k := n + cN a b c d e k) rfl (by omega) (by decide) ?_
        rw [hq_47]
        try simp (disch := omega) only [up_at, up_up, up_ne, up2_at, up2_up2]
        refine g_aload_n dX11_feed_99 rfl rfl ?_
        refine g_dup dX11_feed_100 rfl ?_
        refine g_get dX11_feed_101 fl_X11_113 hp_46 rfl ?_
        try simp (disch := omega) only [up_at, up_up, up_ne, up2_at, up2_up2]
        refine g_ic_1 dX11_feed_104 ?_
        refine g_iadd dX11_feed_105 ?_
        refine g_puti dX11_feed_106 fw_X11_113 hp_46 (Nat.le_of_ble_eq_true rfl) ?_
        rw [hq_46_2]
        try simp (disch := omega) only [up_at, up_up, up_ne, up2_at, up2_up2]
        refine g_iinc1 dX11_feed_109 rfl (by decide) ?_
        refine g_goto (tgt := 62) dX11_feed_112 (by decide) ?_
        rw [nI_1 (a := k)]
        have h := ih (k + 1) (some (.int (byZ a b c d e (nI k)))) (by omega) (by omega)
        rw [tT_n (show ¬ JF a b c d e k = 0 from c_85), cN_n (show ¬ JF a b c d e k = 0 from c_85), show nI (n + (cN a b c d e k + 1)) = nI (n + cN a b c d e k) + 1 from (nI_1 (a := n + cN a b c d e k)).symm] at h
        refine g_loc (ls' := [some (.ref 46), some (.int a), some (.int b), some (.int c), some (.int d), some (.int e), some (.int u), some (.int (nI (k + 1))), some (.int (byZ a b c d e (nI k)))]) (fun i v h => by rcases i with _|_|_|_|_|_|_|_|_|_ <;> first | exact h | cases h) ?_
        exact h

set_option maxHeartbeats 800000 in
set_option maxRecDepth 100000 in
theorem e_feed {A : Nat → Nat → Int32} {L : Nat → Nat → Int64} {I : Nat → Nat → Int32} {X : Nat → Int64} {a b c d e : Int32} {n : Nat} (tp : tpM A I n) : Con 2 yX11_feed cX11_feed 9 (some .int) [.ref 46, .int a, .int b, .int c, .int d, .int e] (hp A L I X) (fun r_ H_ => (¬ n + cN a b c d e 20 ≤ 240 ∧ r_ = some (.int (-1)) ∧ H_ = hp A L I X) ∨ (n + cN a b c d e 20 ≤ 240 ∧ r_ = some (.int (nI (n + cN a b c d e 20))) ∧ H_ = hp (up A 47 (tT a b c d e (A 47) n 20)) L (up2 I 46 2 (nI (n + cN a b c d e 20))) X)) := by
  refine m_con (by decide) (Nat.le_of_ble_eq_true rfl) ?_
  refine g_ic_0 dX11_feed_0 ?_
  refine g_istore dX11_feed_1 (by decide) ?_
  refine g_ic_0 dX11_feed_3 ?_
  refine g_istore dX11_feed_4 (by decide) ?_
  have h := e_fd1 (A := A) (L := L) (I := I) (X := X) (n := n) (a := a) (b := b) (c := c) (d := d) (e := e) (Q := (fun r_ H_ => (¬ n + cN a b c d e 20 ≤ 240 ∧ r_ = some (.int (-1)) ∧ H_ = hp A L I X) ∨ (n + cN a b c d e 20 ≤ 240 ∧ r_ = some (.int (nI (n + cN a b c d e 20))) ∧ H_ = hp (up A 47 (tT a b c d e (A 47) n 20)) L (up2 I 46 2 (nI (n + cN a b c d e 20))) X))) ?_ 21 0 (by decide) (by decide)
  · refine g_loc (ls' := [some (.ref 46), some (.int a), some (.int b), some (.int c), some (.int d), some (.int e), some (.int (cnZ a b c d e 0)), some (.int (nI 0)), none]) (fun i v h => by rcases i with _|_|_|_|_|_|_|_|_|_ <;> first | exact h | cases h) ?_
    exact h
  · refine g_aload_n dX11_feed_44 rfl rfl ?_
    refine g_get dX11_feed_45 fl_X11_113 hp_46 rfl ?_
    refine g_iload dX11_feed_48 rfl ?_
    refine g_iadd dX11_feed_50 ?_
    refine g_sipush (v := 240) dX11_feed_51 (by decide) ?_
    have hle : I 46 2 + cnZ a b c d e 20 ≤ 240 ↔ n + cN a b c d e 20 ≤ 240 := by
      rw [tp.1, cnZ_N, nI_add]
      exact nI_leI (b := 240) (by have := tp.2.1; have := cN_le (a := a) (b := b) (c := c) (d := d) (e := e) 20; omega) (by decide)
    refine g_icmp_le (tgt := 59) dX11_feed_54 (by decide) (fun c_54 => ?_) (fun c_54 => ?_)
    · have h20 := hle.mp c_54
      refine g_ic_0 dX11_feed_59 ?_
      refine g_istore dX11_feed_60 (by decide) ?_
      have h := e_fd2 (A := A) (L := L) (I := I) (X := X) (a := a) (b := b) (c := c) (d := d) (e := e) (n := n) (Q := (fun r_ H_ => (¬ n + cN a b c d e 20 ≤ 240 ∧ r_ = some (.int (-1)) ∧ H_ = hp A L I X) ∨ (n + cN a b c d e 20 ≤ 240 ∧ r_ = some (.int (nI (n + cN a b c d e 20))) ∧ H_ = hp (up A 47 (tT a b c d e (A 47) n 20)) L (up2 I 46 2 (nI (n + cN a b c d e 20))) X))) (u := cnZ a b c d e 20) h20 ?_ 21 0 none (by decide) (by decide)
      · rw [show up A 47 (tT a b c d e (A 47) n 0) = A from up_self, show up2 I 46 2 (nI (n + cN a b c d e 0)) = I from by rw [show nI (n + cN a b c d e 0) = I 46 2 from tp.1.symm]; exact up2_self] at h
        refine g_loc (ls' := [some (.ref 46), some (.int a), some (.int b), some (.int c), some (.int d), some (.int e), some (.int (cnZ a b c d e 20)), some (.int (nI 0)), none]) (fun i v h => by rcases i with _|_|_|_|_|_|_|_|_|_ <;> first | exact h | cases h) ?_
        exact h
      · intro x
        refine g_aload_n dX11_feed_115 rfl rfl ?_
        refine g_get dX11_feed_116 fl_X11_113 hp_46 rfl ?_
        try simp (disch := omega) only [up_at, up_up, up_ne, up2_at, up2_up2]
        exact g_iret dX11_feed_119 (Or.inr ⟨h20, rfl, rfl⟩)
    · refine g_ic_m1 dX11_feed_57 ?_
      exact g_iret dX11_feed_58 (Or.inl ⟨fun z => c_54 (hle.mpr z), rfl, rfl⟩)

theorem step_feed {A : Nat → Nat → Int32} {L : Nat → Nat → Int64} {I : Nat → Nat → Int32} {X : Nat → Int64} {a b c d e : Int32} (h : INV A I) : ST 3 yX10_feed cX10_feed 7 2 yX11_feed cX11_feed 9 (some .int) [.int a, .int b, .int c, .int d, .int e] (hp A L I X) := by
  obtain ⟨t47, t2, n, tp⟩ := id h.1
  have tpm := tp_M h tp
  have hle : I 1 1 + feM a b c d e ≤ 240 ↔ n + cN a b c d e 20 ≤ 240 := by
    rw [← cnZ_20, tp.1, cnZ_N, nI_add]
    exact nI_leI (b := 240) (by have := tp.2.1; have := cN_le (a := a) (b := b) (c := c) (d := d) (e := e) 20; omega) (by decide)
  refine ST_of (by rintro r_ H_ (⟨v0, rfl, rfl⟩ | ⟨v0, rfl, rfl⟩) <;> exact ⟨_, _, _, _, rfl⟩) ?_ (m_feed (A := A) (L := L) (I := I) (X := X) (a := a) (b := b) (c := c) (d := d) (e := e))
  rintro r_ H_ (⟨v0, rfl, rfl⟩ | ⟨v0, rfl, rfl⟩)
  · refine ⟨_, rfl, Con.mono ?_ (e_feed (L := L) (X := X) (a := a) (b := b) (c := c) (d := d) (e := e) tpm)⟩
    rintro r_ H_ (⟨v2, rfl, rfl⟩ | ⟨v2, -⟩)
    · exact ⟨rfl, A, L, I, X, rfl, h⟩
    · exact absurd (hle.mpr v2) v0
  · have h20 := hle.mp v0
    have hS := feS_t (a := a) (b := b) (c := c) (d := d) (e := e) (T := A 2) h20
    rw [tp.1, hS]
    have tp1 : tpM (up A 2 (tT a b c d e (A 2) n 20)) (up2 I 1 1 (nI (n + cN a b c d e 20))) n := ⟨(up2_ne (by decide)).trans tpm.1, tpm.2.1, by rw [up_ne (by decide)]; exact tpm.2.2⟩
    refine ⟨_, rfl, Con.mono ?_ (e_feed (L := L) (X := X) (a := a) (b := b) (c := c) (d := d) (e := e) tp1)⟩
    rintro r_ H_ (⟨v2, -⟩ | ⟨-, rfl, rfl⟩)
    · exact absurd h20 v2
    · refine ⟨rfl, _, L, _, X, rfl, INV_TL h (fun i hi => ?_) (fun p hp2 => ?_) ⟨?_, ?_, n + cN a b c d e 20, ?_⟩ ?_⟩
      · obtain ⟨z1, z2⟩ := (by decide : ∀ i, i ∈ [45, 64, 38, 39, 40, 71, 72, 73, 20, 63, 17, 60, 61, 62, 23, 76, 26, 66] → i ≠ 47 ∧ i ≠ 2) i hi
        rw [up_ne z1, up_ne z2]
      · obtain ⟨z1, z2⟩ := (by decide : ∀ p, p ∈ [((0 : Nat), (12 : Nat)), (0, 13), (0, 14), (0, 15), (46, 30), (46, 31), (34, 9), (46, 46), (46, 25), (46, 26), (25, 1), (25, 2), (46, 35), (46, 50)] → ¬ (p.1 = 46 ∧ p.2 = 2) ∧ ¬ (p.1 = 1 ∧ p.2 = 1)) p hp2
        rw [up2_ne z1, up2_ne z2]
      · rw [up_at, up_ne (show (2 : Nat) ≠ 47 by decide), up_at, up_ne (show (47 : Nat) ≠ 2 by decide), t47]
      · rw [up2_at, up2_ne (by decide), up2_at]
      · refine ⟨by rw [up2_ne (by decide), up2_at], h20, fun j hj => ?_⟩
        rw [up_ne (show (2 : Nat) ≠ 47 by decide), up_at]
        exact tT_b tp.2.2 20 j hj
      · refine I_L_ext (fun i hi => ?_) (by rw [up2_ne (by decide), up2_ne (by decide)]) (by rw [up2_ne (by decide), up2_ne (by decide)]) (by rw [up2_ne (by decide), up2_ne (by decide)]) (by rw [up2_ne (by decide), up2_ne (by decide)]) h.2.1
        obtain ⟨z1, z2⟩ := (by decide : ∀ i, i ∈ [12, 13, 48, 49, 51, 52, 53, 54] → i ≠ 47 ∧ i ≠ 2) i hi
        rw [up_ne z1, up_ne z2]
