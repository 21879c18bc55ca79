/-! THE REFERENCE: indices as natural numbers; small methods -/
theorem ud_at {f : Nat → Int32} {k : Nat} {v : Int32} : upd f k v k = v := if_pos rfl
theorem ud_ne {f : Nat → Int32} {k j : Nat} {v : Int32} (h : j ≠ k) : upd f k v j = f j := if_neg h
theorem ud_ud {f : Nat → Int32} {k : Nat} {v w : Int32} : upd (upd f k v) k w = upd f k w := by
  funext j
  unfold upd
  by_cases h : j = k
  · rw [if_pos h, if_pos h]
  · rw [if_neg h, if_neg h, if_neg h]
theorem nk_add {x y : Int32} {a b : Nat} (hx : x = nI a) (hy : y = nI b) : x + y = nI (a + b) := by rw [hx, hy, nI_add]
theorem nk_0 {x y : Int32} {b : Nat} (hx : x = nI 0) (hy : y = nI b) : x + y = nI b := by rw [hx, hy, nI_add, Nat.zero_add]
theorem nk_mul {x y : Int32} {a b : Nat} (hx : x = nI a) (hy : y = nI b) : x * y = nI (a * b) := by rw [hx, hy, pk_mul]
theorem nk_sub {x y : Int32} {a b : Nat} (hx : x = nI a) (hy : y = nI b) (h : b ≤ a) : x - y = nI (a - b) := by rw [hx, hy, pk_sub h]
section M4
variable {d : Nat} {own : String} {cc : ByteArray} {nL : Nat} {ret : Option FieldType} {Q : Option Value → m_H → Prop} {pc : Nat} {ls : List (Option Value)} {st : List Value} {Hp : m_H}
theorem g_ra {a N k : Nat} {f : Nat → Int32} {i : Int32} (hd : decode cc pc = .ok (.iaload, 1)) (ha : Hp a = ia N f) (hi : i = nI k) (hk : k < N) (hN : N < 2 ^ 31) (K : G d own cc nL ret Q (pc + 1) ls (.int (f k) :: st) Hp) : G d own cc nL ret Q pc ls (.int i :: .ref a :: st) Hp := by
  subst hi
  refine g_ialdW hd ha (nI_in hk hN) ?_
  rw [nI_clamp (by omega)]
  exact K
theorem g_rz {a N k : Nat} {f : Nat → Int32} {i : Int32} (hd : decode cc pc = .ok (.baload, 1)) (ha : Hp a = za N f) (hi : i = nI k) (hk : k < N) (hN : N < 2 ^ 31) (K : G d own cc nL ret Q (pc + 1) ls (.int (f k) :: st) Hp) : G d own cc nL ret Q pc ls (.int i :: .ref a :: st) Hp := by
  subst hi
  refine g_zald hd ha (nI_in hk hN) ?_
  rw [nI_clamp (by omega)]
  exact K
theorem g_rl {a N k : Nat} {f : Nat → Int64} {i : Int32} (hd : decode cc pc = .ok (.laload, 1)) (ha : Hp a = la N f) (hi : i = nI k) (hk : k < N) (hN : N < 2 ^ 31) (K : G d own cc nL ret Q (pc + 1) ls (.long (f k) :: st) Hp) : G d own cc nL ret Q pc ls (.int i :: .ref a :: st) Hp := by
  subst hi
  refine g_lald hd ha (nI_in hk hN) ?_
  rw [nI_clamp (by omega)]
  exact K
theorem g_wa {a N k : Nat} {f : Nat → Int32} {i x : Int32} (hd : decode cc pc = .ok (.iastore, 1)) (ha : Hp a = ia N f) (hi : i = nI k) (hk : k < N) (hN : N < 2 ^ 31) (K : G d own cc nL ret Q (pc + 1) ls st (m_set Hp a (ia N (upd f k x)))) : G d own cc nL ret Q pc ls (.int x :: .int i :: .ref a :: st) Hp := by
  subst hi
  refine g_iast hd ha (nI_in hk hN) ?_
  rw [nI_clamp (by omega)]
  exact K
theorem g_wl {a N k : Nat} {f : Nat → Int64} {i : Int32} {x : Int64} (hd : decode cc pc = .ok (.lastore, 1)) (ha : Hp a = la N f) (hi : i = nI k) (hk : k < N) (hN : N < 2 ^ 31) (K : G d own cc nL ret Q (pc + 1) ls st (m_set Hp a (la N (vp_updL f k x)))) : G d own cc nL ret Q pc ls (.long x :: .int i :: .ref a :: st) Hp := by
  subst hi
  refine g_last hd ha (nI_in hk hN) ?_
  rw [nI_clamp (by omega)]
  exact K
theorem nar_b {x : Int32} (h : x = 0 ∨ x = 1) : vp_nar .boolean x = x := by
  rcases h with rfl | rfl <;> decide
theorem g_wz {a N k : Nat} {f : Nat → Int32} {i x : Int32} (hx : x = 0 ∨ x = 1) (hd : decode cc pc = .ok (.bastore, 1)) (ha : Hp a = za N f) (hi : i = nI k) (hk : k < N) (hN : N < 2 ^ 31) (K : G d own cc nL ret Q (pc + 1) ls st (m_set Hp a (za N (upd f k x)))) : G d own cc nL ret Q pc ls (.int x :: .int i :: .ref a :: st) Hp := by
  subst hi
  refine g_zast hd ha (nI_in hk hN) ?_
  rw [nI_clamp (by omega), nar_b hx]
  exact K
theorem g_eq {Hp2 : m_H} (h : Hp = Hp2) (K : G d own cc nL ret Q pc ls st Hp2) : G d own cc nL ret Q pc ls st Hp := by
  rw [h]
  exact K
end M4
def inZ (v a b : Int32) : Int32 := if v < a then 0 else if b < v then 0 else 1
def haZ (s k : Int32) : Int32 := if (s >>> (k &&& 31)) &&& 1 = 1 then 1 else 0
def dgZ (c : Int32) : Int32 := if c < 48 then 0 else if 57 < c then 0 else 1
def leZ (c : Int32) : Int32 := if c = 109 then 0 else if c = 102 then 1 else if c = 103 then 2 else if c = 108 then 3 else if c = 100 then 4 else if c = 107 then 5 else (-1)
def sgZ (c : Int32) : Int32 := if c = 61 then 1 else if c = 60 then 1 else if c = 62 then 1 else 0
def byV (a b c d e k : Int32) : Int32 := if 4 ≤ k then (if 8 ≤ k then (if 12 ≤ k then (if 16 ≤ k then e else d) else c) else b) else a
def byZ (a b c d e k : Int32) : Int32 := (byV a b c d e k >>> ((24 - 8 * rm k 4) &&& 31)) &&& 255
def mxl (x y : Int64) : Int64 := if y < x then x else y
def mnl (x y : Int64) : Int64 := if y < x then y else x
def boZ (v : Int64) : Int32 := (mxl (-1000000) (mnl 1000000 v)).toInt32
set_option maxHeartbeats 4000000 in
set_option maxRecDepth 100000 in
theorem e_in {Hp : m_H} {v a b : Int32}  : Con 1 yX11_in cX11_in 3 (some .boolean) [.int v, .int a, .int b] Hp (fun r_ H_ => r_ = some (.int (inZ v a b)) ∧ H_ = Hp) := by
  refine m_con (by decide) (Nat.le_of_ble_eq_true rfl) ?_
  refine g_iload_n dX11_in_0 rfl rfl ?_
  refine g_iload_n dX11_in_1 rfl rfl ?_
  refine g_icmp_lt (tgt := 14) dX11_in_2 (by decide) (fun c_2 => ?_) (fun c_2 => ?_)
  · refine g_ic_0 dX11_in_14 ?_
    exact g_zret (by first | exact Or.inl rfl | exact Or.inr rfl) dX11_in_15 ⟨congrArg (fun z => some (Value.int z)) (by simp [inZ, c_2]), rfl⟩
  · refine g_iload_n dX11_in_5 rfl rfl ?_
    refine g_iload_n dX11_in_6 rfl rfl ?_
    refine g_icmp_gt (tgt := 14) dX11_in_7 (by decide) (fun c_7 => ?_) (fun c_7 => ?_)
    · refine g_ic_0 dX11_in_14 ?_
      exact g_zret (by first | exact Or.inl rfl | exact Or.inr rfl) dX11_in_15 ⟨congrArg (fun z => some (Value.int z)) (by simp [inZ, c_2, c_7]), rfl⟩
    · refine g_ic_1 dX11_in_10 ?_
      refine g_goto (tgt := 15) dX11_in_11 (by decide) ?_
      exact g_zret (by first | exact Or.inl rfl | exact Or.inr rfl) dX11_in_15 ⟨congrArg (fun z => some (Value.int z)) (by simp [inZ, c_2, c_7]), rfl⟩

set_option maxHeartbeats 4000000 in
set_option maxRecDepth 100000 in
theorem e_has {Hp : m_H} {s k : Int32}  : Con 1 yX11_has cX11_has 2 (some .boolean) [.int s, .int k] Hp (fun r_ H_ => r_ = some (.int (haZ s k)) ∧ H_ = Hp) := by
  refine m_con (by decide) (Nat.le_of_ble_eq_true rfl) ?_
  refine g_iload_n dX11_has_0 rfl rfl ?_
  refine g_iload_n dX11_has_1 rfl rfl ?_
  refine g_ishr dX11_has_2 ?_
  refine g_ic_1 dX11_has_3 ?_
  refine g_iand dX11_has_4 ?_
  refine g_ic_1 dX11_has_5 ?_
  refine g_icmp_ne (tgt := 13) dX11_has_6 (by decide) (fun c_6 => ?_) (fun c_6 => ?_)
  · refine g_ic_0 dX11_has_13 ?_
    exact g_zret (by first | exact Or.inl rfl | exact Or.inr rfl) dX11_has_14 ⟨congrArg (fun z => some (Value.int z)) (by simp [haZ, c_6]), rfl⟩
  · refine g_ic_1 dX11_has_9 ?_
    refine g_goto (tgt := 14) dX11_has_10 (by decide) ?_
    exact g_zret (by first | exact Or.inl rfl | exact Or.inr rfl) dX11_has_14 ⟨congrArg (fun z => some (Value.int z)) (by simp [haZ, c_6]), rfl⟩

set_option maxHeartbeats 4000000 in
set_option maxRecDepth 100000 in
theorem e_digit {Hp : m_H} {c : Int32}  : Con 1 yX11_isDigit cX11_isDigit 1 (some .boolean) [.int c] Hp (fun r_ H_ => r_ = some (.int (dgZ c)) ∧ H_ = Hp) := by
  refine m_con (by decide) (Nat.le_of_ble_eq_true rfl) ?_
  refine g_iload_n dX11_isDigit_0 rfl rfl ?_
  refine g_bipush (v := 48) dX11_isDigit_1 (by decide) ?_
  refine g_icmp_lt (tgt := 16) dX11_isDigit_3 (by decide) (fun c_3 => ?_) (fun c_3 => ?_)
  · refine g_ic_0 dX11_isDigit_16 ?_
    exact g_zret (by first | exact Or.inl rfl | exact Or.inr rfl) dX11_isDigit_17 ⟨congrArg (fun z => some (Value.int z)) (by simp [dgZ, c_3]), rfl⟩
  · refine g_iload_n dX11_isDigit_6 rfl rfl ?_
    refine g_bipush (v := 57) dX11_isDigit_7 (by decide) ?_
    refine g_icmp_gt (tgt := 16) dX11_isDigit_9 (by decide) (fun c_9 => ?_) (fun c_9 => ?_)
    · refine g_ic_0 dX11_isDigit_16 ?_
      exact g_zret (by first | exact Or.inl rfl | exact Or.inr rfl) dX11_isDigit_17 ⟨congrArg (fun z => some (Value.int z)) (by simp [dgZ, c_3, c_9]), rfl⟩
    · refine g_ic_1 dX11_isDigit_12 ?_
      refine g_goto (tgt := 17) dX11_isDigit_13 (by decide) ?_
      exact g_zret (by first | exact Or.inl rfl | exact Or.inr rfl) dX11_isDigit_17 ⟨congrArg (fun z => some (Value.int z)) (by simp [dgZ, c_3, c_9]), rfl⟩

set_option maxHeartbeats 4000000 in
set_option maxRecDepth 100000 in
theorem e_letter {Hp : m_H} {c : Int32}  : Con 1 yX11_letterOf cX11_letterOf 1 (some .int) [.int c] Hp (fun r_ H_ => r_ = some (.int (leZ c)) ∧ H_ = Hp) := by
  refine m_con (by decide) (Nat.le_of_ble_eq_true rfl) ?_
  refine g_iload_n dX11_letterOf_0 rfl rfl ?_
  refine g_bipush (v := 109) dX11_letterOf_1 (by decide) ?_
  refine g_icmp_ne (tgt := 10) dX11_letterOf_3 (by decide) (fun c_3 => ?_) (fun c_3 => ?_)
  · refine g_iload_n dX11_letterOf_10 rfl rfl ?_
    refine g_bipush (v := 102) dX11_letterOf_11 (by decide) ?_
    refine g_icmp_ne (tgt := 20) dX11_letterOf_13 (by decide) (fun c_13 => ?_) (fun c_13 => ?_)
    · refine g_iload_n dX11_letterOf_20 rfl rfl ?_
      refine g_bipush (v := 103) dX11_letterOf_21 (by decide) ?_
      refine g_icmp_ne (tgt := 30) dX11_letterOf_23 (by decide) (fun c_23 => ?_) (fun c_23 => ?_)
      · refine g_iload_n dX11_letterOf_30 rfl rfl ?_
        refine g_bipush (v := 108) dX11_letterOf_31 (by decide) ?_
        refine g_icmp_ne (tgt := 40) dX11_letterOf_33 (by decide) (fun c_33 => ?_) (fun c_33 => ?_)
        · refine g_iload_n dX11_letterOf_40 rfl rfl ?_
          refine g_bipush (v := 100) dX11_letterOf_41 (by decide) ?_
          refine g_icmp_ne (tgt := 50) dX11_letterOf_43 (by decide) (fun c_43 => ?_) (fun c_43 => ?_)
          · refine g_iload_n dX11_letterOf_50 rfl rfl ?_
            refine g_bipush (v := 107) dX11_letterOf_51 (by decide) ?_
            refine g_icmp_ne (tgt := 60) dX11_letterOf_53 (by decide) (fun c_53 => ?_) (fun c_53 => ?_)
            · refine g_ic_m1 dX11_letterOf_60 ?_
              exact g_iret dX11_letterOf_61 ⟨congrArg (fun z => some (Value.int z)) (by simp [leZ, c_3, c_13, c_23, c_33, c_43, c_53]), rfl⟩
            · refine g_ic_5 dX11_letterOf_56 ?_
              refine g_goto (tgt := 61) dX11_letterOf_57 (by decide) ?_
              exact g_iret dX11_letterOf_61 ⟨congrArg (fun z => some (Value.int z)) (by simp [leZ, c_3, c_13, c_23, c_33, c_43, c_53]), rfl⟩
          · refine g_ic_4 dX11_letterOf_46 ?_
            refine g_goto (tgt := 61) dX11_letterOf_47 (by decide) ?_
            exact g_iret dX11_letterOf_61 ⟨congrArg (fun z => some (Value.int z)) (by simp [leZ, c_3, c_13, c_23, c_33, c_43]), rfl⟩
        · refine g_ic_3 dX11_letterOf_36 ?_
          refine g_goto (tgt := 61) dX11_letterOf_37 (by decide) ?_
          exact g_iret dX11_letterOf_61 ⟨congrArg (fun z => some (Value.int z)) (by simp [leZ, c_3, c_13, c_23, c_33]), rfl⟩
      · refine g_ic_2 dX11_letterOf_26 ?_
        refine g_goto (tgt := 61) dX11_letterOf_27 (by decide) ?_
        exact g_iret dX11_letterOf_61 ⟨congrArg (fun z => some (Value.int z)) (by simp [leZ, c_3, c_13, c_23]), rfl⟩
    · refine g_ic_1 dX11_letterOf_16 ?_
      refine g_goto (tgt := 61) dX11_letterOf_17 (by decide) ?_
      exact g_iret dX11_letterOf_61 ⟨congrArg (fun z => some (Value.int z)) (by simp [leZ, c_3, c_13]), rfl⟩
  · refine g_ic_0 dX11_letterOf_6 ?_
    refine g_goto (tgt := 61) dX11_letterOf_7 (by decide) ?_
    exact g_iret dX11_letterOf_61 ⟨congrArg (fun z => some (Value.int z)) (by simp [leZ, c_3]), rfl⟩

set_option maxHeartbeats 4000000 in
set_option maxRecDepth 100000 in
theorem e_sign {Hp : m_H} {c : Int32}  : Con 1 yX11_isSign cX11_isSign 1 (some .boolean) [.int c] Hp (fun r_ H_ => r_ = some (.int (sgZ c)) ∧ H_ = Hp) := by
  refine m_con (by decide) (Nat.le_of_ble_eq_true rfl) ?_
  refine g_iload_n dX11_isSign_0 rfl rfl ?_
  refine g_bipush (v := 61) dX11_isSign_1 (by decide) ?_
  refine g_icmp_eq (tgt := 18) dX11_isSign_3 (by decide) (fun c_3 => ?_) (fun c_3 => ?_)
  · refine g_ic_1 dX11_isSign_18 ?_
    refine g_goto (tgt := 23) dX11_isSign_19 (by decide) ?_
    exact g_zret (by first | exact Or.inl rfl | exact Or.inr rfl) dX11_isSign_23 ⟨congrArg (fun z => some (Value.int z)) (by simp [sgZ, c_3]), rfl⟩
  · refine g_iload_n dX11_isSign_6 rfl rfl ?_
    refine g_bipush (v := 60) dX11_isSign_7 (by decide) ?_
    refine g_icmp_eq (tgt := 18) dX11_isSign_9 (by decide) (fun c_9 => ?_) (fun c_9 => ?_)
    · refine g_ic_1 dX11_isSign_18 ?_
      refine g_goto (tgt := 23) dX11_isSign_19 (by decide) ?_
      exact g_zret (by first | exact Or.inl rfl | exact Or.inr rfl) dX11_isSign_23 ⟨congrArg (fun z => some (Value.int z)) (by simp [sgZ, c_3, c_9]), rfl⟩
    · refine g_iload_n dX11_isSign_12 rfl rfl ?_
      refine g_bipush (v := 62) dX11_isSign_13 (by decide) ?_
      refine g_icmp_ne (tgt := 22) dX11_isSign_15 (by decide) (fun c_15 => ?_) (fun c_15 => ?_)
      · refine g_ic_0 dX11_isSign_22 ?_
        exact g_zret (by first | exact Or.inl rfl | exact Or.inr rfl) dX11_isSign_23 ⟨congrArg (fun z => some (Value.int z)) (by simp [sgZ, c_3, c_9, c_15]), rfl⟩
      · refine g_ic_1 dX11_isSign_18 ?_
        refine g_goto (tgt := 23) dX11_isSign_19 (by decide) ?_
        exact g_zret (by first | exact Or.inl rfl | exact Or.inr rfl) dX11_isSign_23 ⟨congrArg (fun z => some (Value.int z)) (by simp [sgZ, c_3, c_9, c_15]), rfl⟩

set_option maxHeartbeats 4000000 in
set_option maxRecDepth 100000 in
theorem e_byte {Hp : m_H} {a b c d e k : Int32}  : Con 1 yX11_byteOf cX11_byteOf 7 (some .int) [.int a, .int b, .int c, .int d, .int e, .int k] Hp (fun r_ H_ => r_ = some (.int (byZ a b c d e k)) ∧ H_ = Hp) := by
  refine m_con (by decide) (Nat.le_of_ble_eq_true rfl) ?_
  refine g_iload dX11_byteOf_0 rfl ?_
  refine g_ic_4 dX11_byteOf_2 ?_
  refine g_icmp_ge (tgt := 10) dX11_byteOf_3 (by decide) (fun c_3 => ?_) (fun c_3 => ?_)
  · refine g_iload dX11_byteOf_10 rfl ?_
    refine g_bipush (v := 8) dX11_byteOf_12 (by decide) ?_
    refine g_icmp_ge (tgt := 21) dX11_byteOf_14 (by decide) (fun c_14 => ?_) (fun c_14 => ?_)
    · refine g_iload dX11_byteOf_21 rfl ?_
      refine g_bipush (v := 12) dX11_byteOf_23 (by decide) ?_
      refine g_icmp_ge (tgt := 32) dX11_byteOf_25 (by decide) (fun c_25 => ?_) (fun c_25 => ?_)
      · refine g_iload dX11_byteOf_32 rfl ?_
        refine g_bipush (v := 16) dX11_byteOf_34 (by decide) ?_
        refine g_icmp_ge (tgt := 43) dX11_byteOf_36 (by decide) (fun c_36 => ?_) (fun c_36 => ?_)
        · refine g_iload dX11_byteOf_43 rfl ?_
          refine g_istore dX11_byteOf_45 (by decide) ?_
          refine g_iload dX11_byteOf_47 rfl ?_
          refine g_bipush (v := 24) dX11_byteOf_49 (by decide) ?_
          refine g_bipush (v := 8) dX11_byteOf_51 (by decide) ?_
          refine g_iload dX11_byteOf_53 rfl ?_
          refine g_ic_4 dX11_byteOf_55 ?_
          refine g_irem dX11_byteOf_56 (by decide) ?_
          refine g_imul dX11_byteOf_57 ?_
          refine g_isub dX11_byteOf_58 ?_
          refine g_ishr dX11_byteOf_59 ?_
          refine g_sipush (v := 255) dX11_byteOf_60 (by decide) ?_
          refine g_iand dX11_byteOf_63 ?_
          exact g_iret dX11_byteOf_64 ⟨congrArg (fun z => some (Value.int z)) (by simp [byZ, byV, rm, c_3, c_14, c_25, c_36]), rfl⟩
        · refine g_iload_n dX11_byteOf_39 rfl rfl ?_
          refine g_goto (tgt := 45) dX11_byteOf_40 (by decide) ?_
          refine g_istore dX11_byteOf_45 (by decide) ?_
          refine g_iload dX11_byteOf_47 rfl ?_
          refine g_bipush (v := 24) dX11_byteOf_49 (by decide) ?_
          refine g_bipush (v := 8) dX11_byteOf_51 (by decide) ?_
          refine g_iload dX11_byteOf_53 rfl ?_
          refine g_ic_4 dX11_byteOf_55 ?_
          refine g_irem dX11_byteOf_56 (by decide) ?_
          refine g_imul dX11_byteOf_57 ?_
          refine g_isub dX11_byteOf_58 ?_
          refine g_ishr dX11_byteOf_59 ?_
          refine g_sipush (v := 255) dX11_byteOf_60 (by decide) ?_
          refine g_iand dX11_byteOf_63 ?_
          exact g_iret dX11_byteOf_64 ⟨congrArg (fun z => some (Value.int z)) (by simp [byZ, byV, rm, c_3, c_14, c_25, c_36]), rfl⟩
      · refine g_iload_n dX11_byteOf_28 rfl rfl ?_
        refine g_goto (tgt := 45) dX11_byteOf_29 (by decide) ?_
        refine g_istore dX11_byteOf_45 (by decide) ?_
        refine g_iload dX11_byteOf_47 rfl ?_
        refine g_bipush (v := 24) dX11_byteOf_49 (by decide) ?_
        refine g_bipush (v := 8) dX11_byteOf_51 (by decide) ?_
        refine g_iload dX11_byteOf_53 rfl ?_
        refine g_ic_4 dX11_byteOf_55 ?_
        refine g_irem dX11_byteOf_56 (by decide) ?_
        refine g_imul dX11_byteOf_57 ?_
        refine g_isub dX11_byteOf_58 ?_
        refine g_ishr dX11_byteOf_59 ?_
        refine g_sipush (v := 255) dX11_byteOf_60 (by decide) ?_
        refine g_iand dX11_byteOf_63 ?_
        exact g_iret dX11_byteOf_64 ⟨congrArg (fun z => some (Value.int z)) (by simp [byZ, byV, rm, c_3, c_14, c_25]), rfl⟩
    · refine g_iload_n dX11_byteOf_17 rfl rfl ?_
      refine g_goto (tgt := 45) dX11_byteOf_18 (by decide) ?_
      refine g_istore dX11_byteOf_45 (by decide) ?_
      refine g_iload dX11_byteOf_47 rfl ?_
      refine g_bipush (v := 24) dX11_byteOf_49 (by decide) ?_
      refine g_bipush (v := 8) dX11_byteOf_51 (by decide) ?_
      refine g_iload dX11_byteOf_53 rfl ?_
      refine g_ic_4 dX11_byteOf_55 ?_
      refine g_irem dX11_byteOf_56 (by decide) ?_
      refine g_imul dX11_byteOf_57 ?_
      refine g_isub dX11_byteOf_58 ?_
      refine g_ishr dX11_byteOf_59 ?_
      refine g_sipush (v := 255) dX11_byteOf_60 (by decide) ?_
      refine g_iand dX11_byteOf_63 ?_
      exact g_iret dX11_byteOf_64 ⟨congrArg (fun z => some (Value.int z)) (by simp [byZ, byV, rm, c_3, c_14]), rfl⟩
  · refine g_iload_n dX11_byteOf_6 rfl rfl ?_
    refine g_goto (tgt := 45) dX11_byteOf_7 (by decide) ?_
    refine g_istore dX11_byteOf_45 (by decide) ?_
    refine g_iload dX11_byteOf_47 rfl ?_
    refine g_bipush (v := 24) dX11_byteOf_49 (by decide) ?_
    refine g_bipush (v := 8) dX11_byteOf_51 (by decide) ?_
    refine g_iload dX11_byteOf_53 rfl ?_
    refine g_ic_4 dX11_byteOf_55 ?_
    refine g_irem dX11_byteOf_56 (by decide) ?_
    refine g_imul dX11_byteOf_57 ?_
    refine g_isub dX11_byteOf_58 ?_
    refine g_ishr dX11_byteOf_59 ?_
    refine g_sipush (v := 255) dX11_byteOf_60 (by decide) ?_
    refine g_iand dX11_byteOf_63 ?_
    exact g_iret dX11_byteOf_64 ⟨congrArg (fun z => some (Value.int z)) (by simp [byZ, byV, rm, c_3]), rfl⟩

set_option maxHeartbeats 4000000 in
set_option maxRecDepth 100000 in
theorem e_bounded {Hp : m_H} {v : Int64}  : Con 2 yX11_bounded cX11_bounded 2 (some .int) [.long v] Hp (fun r_ H_ => r_ = some (.int (boZ v)) ∧ H_ = Hp) := by
  refine m_con (by decide) (Nat.le_of_ble_eq_true rfl) ?_
  refine g_ldc2 dX11_bounded_0 lc_X11_196 ?_
  refine g_ldc2 dX11_bounded_3 lc_X11_198 ?_
  refine g_lload_n dX11_bounded_6 rfl rfl ?_
  refine g_minl dX11_bounded_7 ml_X11_200 ms_minl mi_math mc_minl (by decide) (Nat.le_of_ble_eq_true rfl) ?_
  refine g_maxl dX11_bounded_10 ml_X11_206 ms_maxl mi_math mc_maxl (by decide) (Nat.le_of_ble_eq_true rfl) ?_
  refine g_l2i dX11_bounded_13 ?_
  exact g_iret dX11_bounded_14 ⟨rfl, rfl⟩

def itZ (k c : Int32) : Int32 := if k = 115 then (if c = 109 then 0 else if c = 102 then 1 else if c = 104 then 2 else if c = 112 then 3 else (-1)) else if k = 109 then (if c = 108 then 0 else if c = 103 then 1 else if c = 115 then 2 else if c = 114 then 3 else if c = 112 then 4 else (-1)) else (if c = 115 then 0 else if c = 114 then 1 else if c = 118 then 2 else (-1))
def lwZ (k i : Int32) : Int32 := if k = 115 then (if i = 0 then 1 else 0) else if k = 109 then (if i = 0 then 1 else if i = 4 then 1 else 0) else 0
def hiZ (k i : Int32) : Int32 := if k = 115 then (if i = 0 then 30 else if i = 2 then 9 else 99) else if k = 109 then 9 else 99
def usZ (k i : Int32) : Int32 := if k = 115 then (if i = 0 then 12 else if i = 1 then 30 else if i = 2 then 2 else 10) else if k = 109 then (if i = 1 then 0 else if i = 4 then 4 else 3) else 10
theorem sw_cl (k : Int32) (h : k = 115 ∨ k = 109 ∨ k = 99) : k = 115 ∨ k = 109 ∨ (k = 99 ∧ ¬ k = 115 ∧ ¬ k = 109) := by
  rcases h with rfl | rfl | rfl
  · exact Or.inl rfl
  · exact Or.inr (Or.inl rfl)
  · exact Or.inr (Or.inr ⟨rfl, by decide, by decide⟩)
set_option maxHeartbeats 4000000 in
set_option maxRecDepth 100000 in
theorem e_item {Hp : m_H} {k c : Int32} (hk : k = 115 ∨ k = 109 ∨ k = 99) : Con 1 yX11_itemOf cX11_itemOf 2 (some .int) [.int k, .int c] Hp (fun r_ H_ => r_ = some (.int (itZ k c)) ∧ H_ = Hp) := by
  refine m_con (by decide) (Nat.le_of_ble_eq_true rfl) ?_
  rcases hk with rfl | rfl | rfl
  · refine g_iload_n dX11_itemOf_0 rfl rfl ?_
    refine g_lookup (off := 27) (tgt := 28) dX11_itemOf_1 (by decide) (by decide) (by decide) ?_
    refine g_iload_n dX11_itemOf_28 rfl rfl ?_
    refine g_bipush (v := 109) dX11_itemOf_29 (by decide) ?_
    refine g_icmp_ne (tgt := 38) dX11_itemOf_31 (by decide) (fun c_31 => ?_) (fun c_31 => ?_)
    · refine g_iload_n dX11_itemOf_38 rfl rfl ?_
      refine g_bipush (v := 102) dX11_itemOf_39 (by decide) ?_
      refine g_icmp_ne (tgt := 48) dX11_itemOf_41 (by decide) (fun c_41 => ?_) (fun c_41 => ?_)
      · refine g_iload_n dX11_itemOf_48 rfl rfl ?_
        refine g_bipush (v := 104) dX11_itemOf_49 (by decide) ?_
        refine g_icmp_ne (tgt := 58) dX11_itemOf_51 (by decide) (fun c_51 => ?_) (fun c_51 => ?_)
        · refine g_iload_n dX11_itemOf_58 rfl rfl ?_
          refine g_bipush (v := 112) dX11_itemOf_59 (by decide) ?_
          refine g_icmp_ne (tgt := 68) dX11_itemOf_61 (by decide) (fun c_61 => ?_) (fun c_61 => ?_)
          · refine g_ic_m1 dX11_itemOf_68 ?_
            exact g_iret dX11_itemOf_69 ⟨congrArg (fun z => some (Value.int z)) (by simp [itZ, c_31, c_41, c_51, c_61]), rfl⟩
          · refine g_ic_3 dX11_itemOf_64 ?_
            refine g_goto (tgt := 69) dX11_itemOf_65 (by decide) ?_
            exact g_iret dX11_itemOf_69 ⟨congrArg (fun z => some (Value.int z)) (by simp [itZ, c_31, c_41, c_51, c_61]), rfl⟩
        · refine g_ic_2 dX11_itemOf_54 ?_
          refine g_goto (tgt := 69) dX11_itemOf_55 (by decide) ?_
          exact g_iret dX11_itemOf_69 ⟨congrArg (fun z => some (Value.int z)) (by simp [itZ, c_31, c_41, c_51]), rfl⟩
      · refine g_ic_1 dX11_itemOf_44 ?_
        refine g_goto (tgt := 69) dX11_itemOf_45 (by decide) ?_
        exact g_iret dX11_itemOf_69 ⟨congrArg (fun z => some (Value.int z)) (by simp [itZ, c_31, c_41]), rfl⟩
    · refine g_ic_0 dX11_itemOf_34 ?_
      refine g_goto (tgt := 69) dX11_itemOf_35 (by decide) ?_
      exact g_iret dX11_itemOf_69 ⟨congrArg (fun z => some (Value.int z)) (by simp [itZ, c_31]), rfl⟩
  · refine g_iload_n dX11_itemOf_0 rfl rfl ?_
    refine g_lookup (off := 69) (tgt := 70) dX11_itemOf_1 (by decide) (by decide) (by decide) ?_
    refine g_iload_n dX11_itemOf_70 rfl rfl ?_
    refine g_bipush (v := 108) dX11_itemOf_71 (by decide) ?_
    refine g_icmp_ne (tgt := 80) dX11_itemOf_73 (by decide) (fun c_73 => ?_) (fun c_73 => ?_)
    · refine g_iload_n dX11_itemOf_80 rfl rfl ?_
      refine g_bipush (v := 103) dX11_itemOf_81 (by decide) ?_
      refine g_icmp_ne (tgt := 90) dX11_itemOf_83 (by decide) (fun c_83 => ?_) (fun c_83 => ?_)
      · refine g_iload_n dX11_itemOf_90 rfl rfl ?_
        refine g_bipush (v := 115) dX11_itemOf_91 (by decide) ?_
        refine g_icmp_ne (tgt := 100) dX11_itemOf_93 (by decide) (fun c_93 => ?_) (fun c_93 => ?_)
        · refine g_iload_n dX11_itemOf_100 rfl rfl ?_
          refine g_bipush (v := 114) dX11_itemOf_101 (by decide) ?_
          refine g_icmp_ne (tgt := 110) dX11_itemOf_103 (by decide) (fun c_103 => ?_) (fun c_103 => ?_)
          · refine g_iload_n dX11_itemOf_110 rfl rfl ?_
            refine g_bipush (v := 112) dX11_itemOf_111 (by decide) ?_
            refine g_icmp_ne (tgt := 120) dX11_itemOf_113 (by decide) (fun c_113 => ?_) (fun c_113 => ?_)
            · refine g_ic_m1 dX11_itemOf_120 ?_
              exact g_iret dX11_itemOf_121 ⟨congrArg (fun z => some (Value.int z)) (by simp [itZ, c_73, c_83, c_93, c_103, c_113]), rfl⟩
            · refine g_ic_4 dX11_itemOf_116 ?_
              refine g_goto (tgt := 121) dX11_itemOf_117 (by decide) ?_
              exact g_iret dX11_itemOf_121 ⟨congrArg (fun z => some (Value.int z)) (by simp [itZ, c_73, c_83, c_93, c_103, c_113]), rfl⟩
          · refine g_ic_3 dX11_itemOf_106 ?_
            refine g_goto (tgt := 121) dX11_itemOf_107 (by decide) ?_
            exact g_iret dX11_itemOf_121 ⟨congrArg (fun z => some (Value.int z)) (by simp [itZ, c_73, c_83, c_93, c_103]), rfl⟩
        · refine g_ic_2 dX11_itemOf_96 ?_
          refine g_goto (tgt := 121) dX11_itemOf_97 (by decide) ?_
          exact g_iret dX11_itemOf_121 ⟨congrArg (fun z => some (Value.int z)) (by simp [itZ, c_73, c_83, c_93]), rfl⟩
      · refine g_ic_1 dX11_itemOf_86 ?_
        refine g_goto (tgt := 121) dX11_itemOf_87 (by decide) ?_
        exact g_iret dX11_itemOf_121 ⟨congrArg (fun z => some (Value.int z)) (by simp [itZ, c_73, c_83]), rfl⟩
    · refine g_ic_0 dX11_itemOf_76 ?_
      refine g_goto (tgt := 121) dX11_itemOf_77 (by decide) ?_
      exact g_iret dX11_itemOf_121 ⟨congrArg (fun z => some (Value.int z)) (by simp [itZ, c_73]), rfl⟩
  · refine g_iload_n dX11_itemOf_0 rfl rfl ?_
    refine g_lookup (off := 121) (tgt := 122) dX11_itemOf_1 (by decide) (by decide) (by decide) ?_
    refine g_iload_n dX11_itemOf_122 rfl rfl ?_
    refine g_bipush (v := 115) dX11_itemOf_123 (by decide) ?_
    refine g_icmp_ne (tgt := 132) dX11_itemOf_125 (by decide) (fun c_125 => ?_) (fun c_125 => ?_)
    · refine g_iload_n dX11_itemOf_132 rfl rfl ?_
      refine g_bipush (v := 114) dX11_itemOf_133 (by decide) ?_
      refine g_icmp_ne (tgt := 142) dX11_itemOf_135 (by decide) (fun c_135 => ?_) (fun c_135 => ?_)
      · refine g_iload_n dX11_itemOf_142 rfl rfl ?_
        refine g_bipush (v := 118) dX11_itemOf_143 (by decide) ?_
        refine g_icmp_ne (tgt := 152) dX11_itemOf_145 (by decide) (fun c_145 => ?_) (fun c_145 => ?_)
        · refine g_ic_m1 dX11_itemOf_152 ?_
          exact g_iret dX11_itemOf_153 ⟨congrArg (fun z => some (Value.int z)) (by simp [itZ, c_125, c_135, c_145]), rfl⟩
        · refine g_ic_2 dX11_itemOf_148 ?_
          refine g_goto (tgt := 153) dX11_itemOf_149 (by decide) ?_
          exact g_iret dX11_itemOf_153 ⟨congrArg (fun z => some (Value.int z)) (by simp [itZ, c_125, c_135, c_145]), rfl⟩
      · refine g_ic_1 dX11_itemOf_138 ?_
        refine g_goto (tgt := 153) dX11_itemOf_139 (by decide) ?_
        exact g_iret dX11_itemOf_153 ⟨congrArg (fun z => some (Value.int z)) (by simp [itZ, c_125, c_135]), rfl⟩
    · refine g_ic_0 dX11_itemOf_128 ?_
      refine g_goto (tgt := 153) dX11_itemOf_129 (by decide) ?_
      exact g_iret dX11_itemOf_153 ⟨congrArg (fun z => some (Value.int z)) (by simp [itZ, c_125]), rfl⟩

set_option maxHeartbeats 4000000 in
set_option maxRecDepth 100000 in
theorem e_high {Hp : m_H} {k c : Int32} (hk : k = 115 ∨ k = 109 ∨ k = 99) : Con 1 yX11_highest cX11_highest 2 (some .int) [.int k, .int c] Hp (fun r_ H_ => r_ = some (.int (hiZ k c)) ∧ H_ = Hp) := by
  refine m_con (by decide) (Nat.le_of_ble_eq_true rfl) ?_
  rcases hk with rfl | rfl | rfl
  · refine g_iload_n dX11_highest_0 rfl rfl ?_
    refine g_lookup (off := 27) (tgt := 28) dX11_highest_1 (by decide) (by decide) (by decide) ?_
    refine g_iload_n dX11_highest_28 rfl rfl ?_
    refine g_if_ne (tgt := 37) dX11_highest_29 (by decide) (fun c_29 => ?_) (fun c_29 => ?_)
    · refine g_iload_n dX11_highest_37 rfl rfl ?_
      refine g_ic_2 dX11_highest_38 ?_
      refine g_icmp_ne (tgt := 47) dX11_highest_39 (by decide) (fun c_39 => ?_) (fun c_39 => ?_)
      · refine g_bipush (v := 99) dX11_highest_47 (by decide) ?_
        exact g_iret dX11_highest_49 ⟨congrArg (fun z => some (Value.int z)) (by simp [hiZ, c_29, c_39]), rfl⟩
      · refine g_bipush (v := 9) dX11_highest_42 (by decide) ?_
        refine g_goto (tgt := 49) dX11_highest_44 (by decide) ?_
        exact g_iret dX11_highest_49 ⟨congrArg (fun z => some (Value.int z)) (by simp [hiZ, c_29, c_39]), rfl⟩
    · refine g_bipush (v := 30) dX11_highest_32 (by decide) ?_
      refine g_goto (tgt := 49) dX11_highest_34 (by decide) ?_
      exact g_iret dX11_highest_49 ⟨congrArg (fun z => some (Value.int z)) (by simp [hiZ, c_29]), rfl⟩
  · refine g_iload_n dX11_highest_0 rfl rfl ?_
    refine g_lookup (off := 49) (tgt := 50) dX11_highest_1 (by decide) (by decide) (by decide) ?_
    refine g_bipush (v := 9) dX11_highest_50 (by decide) ?_
    exact g_iret dX11_highest_52 ⟨congrArg (fun z => some (Value.int z)) (by simp [hiZ]), rfl⟩
  · refine g_iload_n dX11_highest_0 rfl rfl ?_
    refine g_lookup (off := 52) (tgt := 53) dX11_highest_1 (by decide) (by decide) (by decide) ?_
    refine g_bipush (v := 99) dX11_highest_53 (by decide) ?_
    exact g_iret dX11_highest_55 ⟨congrArg (fun z => some (Value.int z)) (by simp [hiZ]), rfl⟩

set_option maxHeartbeats 4000000 in
set_option maxRecDepth 100000 in
theorem e_usual {Hp : m_H} {k c : Int32} (hk : k = 115 ∨ k = 109 ∨ k = 99) : Con 1 yX11_usual cX11_usual 2 (some .int) [.int k, .int c] Hp (fun r_ H_ => r_ = some (.int (usZ k c)) ∧ H_ = Hp) := by
  refine m_con (by decide) (Nat.le_of_ble_eq_true rfl) ?_
  rcases hk with rfl | rfl | rfl
  · refine g_iload_n dX11_usual_0 rfl rfl ?_
    refine g_lookup (off := 27) (tgt := 28) dX11_usual_1 (by decide) (by decide) (by decide) ?_
    refine g_iload_n dX11_usual_28 rfl rfl ?_
    refine g_if_ne (tgt := 37) dX11_usual_29 (by decide) (fun c_29 => ?_) (fun c_29 => ?_)
    · refine g_iload_n dX11_usual_37 rfl rfl ?_
      refine g_ic_1 dX11_usual_38 ?_
      refine g_icmp_ne (tgt := 47) dX11_usual_39 (by decide) (fun c_39 => ?_) (fun c_39 => ?_)
      · refine g_iload_n dX11_usual_47 rfl rfl ?_
        refine g_ic_2 dX11_usual_48 ?_
        refine g_icmp_ne (tgt := 56) dX11_usual_49 (by decide) (fun c_49 => ?_) (fun c_49 => ?_)
        · refine g_bipush (v := 10) dX11_usual_56 (by decide) ?_
          exact g_iret dX11_usual_58 ⟨congrArg (fun z => some (Value.int z)) (by simp [usZ, c_29, c_39, c_49]), rfl⟩
        · refine g_ic_2 dX11_usual_52 ?_
          refine g_goto (tgt := 58) dX11_usual_53 (by decide) ?_
          exact g_iret dX11_usual_58 ⟨congrArg (fun z => some (Value.int z)) (by simp [usZ, c_29, c_39, c_49]), rfl⟩
      · refine g_bipush (v := 30) dX11_usual_42 (by decide) ?_
        refine g_goto (tgt := 58) dX11_usual_44 (by decide) ?_
        exact g_iret dX11_usual_58 ⟨congrArg (fun z => some (Value.int z)) (by simp [usZ, c_29, c_39]), rfl⟩
    · refine g_bipush (v := 12) dX11_usual_32 (by decide) ?_
      refine g_goto (tgt := 58) dX11_usual_34 (by decide) ?_
      exact g_iret dX11_usual_58 ⟨congrArg (fun z => some (Value.int z)) (by simp [usZ, c_29]), rfl⟩
  · refine g_iload_n dX11_usual_0 rfl rfl ?_
    refine g_lookup (off := 58) (tgt := 59) dX11_usual_1 (by decide) (by decide) (by decide) ?_
    refine g_iload_n dX11_usual_59 rfl rfl ?_
    refine g_ic_1 dX11_usual_60 ?_
    refine g_icmp_ne (tgt := 68) dX11_usual_61 (by decide) (fun c_61 => ?_) (fun c_61 => ?_)
    · refine g_iload_n dX11_usual_68 rfl rfl ?_
      refine g_ic_4 dX11_usual_69 ?_
      refine g_icmp_ne (tgt := 77) dX11_usual_70 (by decide) (fun c_70 => ?_) (fun c_70 => ?_)
      · refine g_ic_3 dX11_usual_77 ?_
        exact g_iret dX11_usual_78 ⟨congrArg (fun z => some (Value.int z)) (by simp [usZ, c_61, c_70]), rfl⟩
      · refine g_ic_4 dX11_usual_73 ?_
        refine g_goto (tgt := 78) dX11_usual_74 (by decide) ?_
        exact g_iret dX11_usual_78 ⟨congrArg (fun z => some (Value.int z)) (by simp [usZ, c_61, c_70]), rfl⟩
    · refine g_ic_0 dX11_usual_64 ?_
      refine g_goto (tgt := 78) dX11_usual_65 (by decide) ?_
      exact g_iret dX11_usual_78 ⟨congrArg (fun z => some (Value.int z)) (by simp [usZ, c_61]), rfl⟩
  · refine g_iload_n dX11_usual_0 rfl rfl ?_
    refine g_lookup (off := 78) (tgt := 79) dX11_usual_1 (by decide) (by decide) (by decide) ?_
    refine g_bipush (v := 10) dX11_usual_79 (by decide) ?_
    exact g_iret dX11_usual_81 ⟨congrArg (fun z => some (Value.int z)) (by simp [usZ]), rfl⟩

set_option maxHeartbeats 4000000 in
set_option maxRecDepth 100000 in
theorem e_low {Hp : m_H} {k c : Int32} (hk : k = 115 ∨ k = 109 ∨ k = 99) : Con 1 yX11_lowest cX11_lowest 2 (some .int) [.int k, .int c] Hp (fun r_ H_ => r_ = some (.int (lwZ k c)) ∧ H_ = Hp) := by
  refine m_con (by decide) (Nat.le_of_ble_eq_true rfl) ?_
  refine g_iload_n dX11_lowest_0 rfl rfl ?_
  refine g_bipush (v := 115) dX11_lowest_1 (by decide) ?_
  refine g_icmp_ne (tgt := 10) dX11_lowest_3 (by decide) (fun c_3 => ?_) (fun c_3 => ?_)
  · refine g_iload_n dX11_lowest_10 rfl rfl ?_
    refine g_bipush (v := 109) dX11_lowest_11 (by decide) ?_
    refine g_icmp_ne (tgt := 29) dX11_lowest_13 (by decide) (fun c_13 => ?_) (fun c_13 => ?_)
    · refine g_ic_0 dX11_lowest_29 ?_
      exact g_iret dX11_lowest_30 ⟨congrArg (fun z => some (Value.int z)) (by rcases hk with rfl | rfl | rfl <;> simp_all [lwZ]), rfl⟩
    · refine g_iload_n dX11_lowest_16 rfl rfl ?_
      refine g_if_eq (tgt := 25) dX11_lowest_17 (by decide) (fun c_17 => ?_) (fun c_17 => ?_)
      · refine g_ic_1 dX11_lowest_25 ?_
        refine g_goto (tgt := 30) dX11_lowest_26 (by decide) ?_
        exact g_iret dX11_lowest_30 ⟨congrArg (fun z => some (Value.int z)) (by rcases hk with rfl | rfl | rfl <;> simp_all [lwZ]), rfl⟩
      · refine g_iload_n dX11_lowest_20 rfl rfl ?_
        refine g_ic_4 dX11_lowest_21 ?_
        refine g_icmp_ne (tgt := 29) dX11_lowest_22 (by decide) (fun c_22 => ?_) (fun c_22 => ?_)
        · refine g_ic_0 dX11_lowest_29 ?_
          exact g_iret dX11_lowest_30 ⟨congrArg (fun z => some (Value.int z)) (by rcases hk with rfl | rfl | rfl <;> simp_all [lwZ]), rfl⟩
        · refine g_ic_1 dX11_lowest_25 ?_
          refine g_goto (tgt := 30) dX11_lowest_26 (by decide) ?_
          exact g_iret dX11_lowest_30 ⟨congrArg (fun z => some (Value.int z)) (by rcases hk with rfl | rfl | rfl <;> simp_all [lwZ]), rfl⟩
  · refine g_iload_n dX11_lowest_6 rfl rfl ?_
    refine g_if_eq (tgt := 25) dX11_lowest_7 (by decide) (fun c_7 => ?_) (fun c_7 => ?_)
    · refine g_ic_1 dX11_lowest_25 ?_
      refine g_goto (tgt := 30) dX11_lowest_26 (by decide) ?_
      exact g_iret dX11_lowest_30 ⟨congrArg (fun z => some (Value.int z)) (by rcases hk with rfl | rfl | rfl <;> simp_all [lwZ]), rfl⟩
    · refine g_iload_n dX11_lowest_10 rfl rfl ?_
      refine g_bipush (v := 109) dX11_lowest_11 (by decide) ?_
      refine g_icmp_ne (tgt := 29) dX11_lowest_13 (by decide) (fun c_13 => ?_) (fun c_13 => ?_)
      · refine g_ic_0 dX11_lowest_29 ?_
        exact g_iret dX11_lowest_30 ⟨congrArg (fun z => some (Value.int z)) (by rcases hk with rfl | rfl | rfl <;> simp_all [lwZ]), rfl⟩
      · refine g_iload_n dX11_lowest_16 rfl rfl ?_
        refine g_if_eq (tgt := 25) dX11_lowest_17 (by decide) (fun c_17 => ?_) (fun c_17 => ?_)
        · refine g_ic_1 dX11_lowest_25 ?_
          refine g_goto (tgt := 30) dX11_lowest_26 (by decide) ?_
          exact g_iret dX11_lowest_30 ⟨congrArg (fun z => some (Value.int z)) (by rcases hk with rfl | rfl | rfl <;> simp_all [lwZ]), rfl⟩
        · refine g_iload_n dX11_lowest_20 rfl rfl ?_
          refine g_ic_4 dX11_lowest_21 ?_
          refine g_icmp_ne (tgt := 29) dX11_lowest_22 (by decide) (fun c_22 => ?_) (fun c_22 => ?_)
          · refine g_ic_0 dX11_lowest_29 ?_
            exact g_iret dX11_lowest_30 ⟨congrArg (fun z => some (Value.int z)) (by rcases hk with rfl | rfl | rfl <;> simp_all [lwZ]), rfl⟩
          · refine g_ic_1 dX11_lowest_25 ?_
            refine g_goto (tgt := 30) dX11_lowest_26 (by decide) ?_
            exact g_iret dX11_lowest_30 ⟨congrArg (fun z => some (Value.int z)) (by rcases hk with rfl | rfl | rfl <;> simp_all [lwZ]), rfl⟩
