section M2
variable {d : Nat} {own : String} {cc : ByteArray} {nL : Nat} {ret : Option FieldType} {Q : Option Value → m_H → Prop} {pc : Nat} {ls : List (Option Value)} {st : List Value} {Hp : m_H}

theorem g_ic_m1 (hd : decode cc pc = .ok (.iconst (-1), 1)) (k : G d own cc nL ret Q (pc + 1) ls (.int (-1) :: st) Hp) : G d own cc nL ret Q pc ls st Hp := g_iconst hd (by decide) k
theorem g_ic_0 (hd : decode cc pc = .ok (.iconst (0), 1)) (k : G d own cc nL ret Q (pc + 1) ls (.int (0) :: st) Hp) : G d own cc nL ret Q pc ls st Hp := g_iconst hd (by decide) k
theorem g_ic_1 (hd : decode cc pc = .ok (.iconst (1), 1)) (k : G d own cc nL ret Q (pc + 1) ls (.int (1) :: st) Hp) : G d own cc nL ret Q pc ls st Hp := g_iconst hd (by decide) k
theorem g_ic_2 (hd : decode cc pc = .ok (.iconst (2), 1)) (k : G d own cc nL ret Q (pc + 1) ls (.int (2) :: st) Hp) : G d own cc nL ret Q pc ls st Hp := g_iconst hd (by decide) k
theorem g_ic_3 (hd : decode cc pc = .ok (.iconst (3), 1)) (k : G d own cc nL ret Q (pc + 1) ls (.int (3) :: st) Hp) : G d own cc nL ret Q pc ls st Hp := g_iconst hd (by decide) k
theorem g_ic_4 (hd : decode cc pc = .ok (.iconst (4), 1)) (k : G d own cc nL ret Q (pc + 1) ls (.int (4) :: st) Hp) : G d own cc nL ret Q pc ls st Hp := g_iconst hd (by decide) k
theorem g_ic_5 (hd : decode cc pc = .ok (.iconst (5), 1)) (k : G d own cc nL ret Q (pc + 1) ls (.int (5) :: st) Hp) : G d own cc nL ret Q pc ls st Hp := g_iconst hd (by decide) k
theorem g_iinc1 {i : Nat} {x : Int32} (hd : decode cc pc = .ok (.iinc i 1, 3)) (hl : ls[i]? = some (some (.int x))) (hn : i < nL) (k : G d own cc nL ret Q (pc + 3) (m_st1 ls i (.int (x + 1))) st Hp) : G d own cc nL ret Q pc ls st Hp := g_iinc hd hl (by rw [show Int32.ofInt 1 = (1 : Int32) by decide]) hn k
theorem g_iincm {i : Nat} {x : Int32} (hd : decode cc pc = .ok (.iinc i (-1), 3)) (hl : ls[i]? = some (some (.int x))) (hn : i < nL) (k : G d own cc nL ret Q (pc + 3) (m_st1 ls i (.int (x + (-1)))) st Hp) : G d own cc nL ret Q pc ls st Hp := g_iinc hd hl (by rw [show Int32.ofInt (-1) = (-1 : Int32) by decide]) hn k
theorem g_jk (k : m_jk Hp → G d own cc nL ret Q pc ls st Hp) : G d own cc nL ret Q pc ls st Hp := by
  intro p l e s m args below meth c D α τ H locs lsM hAt hL hP hS hJ
  exact k hJ p l e s m args below meth c D α τ H locs lsM hAt hL hP hS hJ
theorem m_ar_of {a N : Nat} {f : Nat → Int32} (hJ : m_jk Hp) (h : Hp a = .inl (.int, (N, .inl f))) : m_ar Hp a = some (N, f) := by
  have hlt : a < 78 := m_lt hJ h (by intro z; cases z)
  unfold m_ar
  rw [if_neg (by omega), if_neg (by omega), if_neg (by omega), h]
theorem m_set_at {i : Nat} {x : m_E} : m_set Hp i x i = x := if_pos rfl
theorem m_set_ne {i j : Nat} {x : m_E} (h : j ≠ i) : m_set Hp i x j = Hp j := if_neg h
theorem m_set_self {i : Nat} {x : m_E} (h : Hp i = x) : m_set Hp i x = Hp := by
  funext j
  by_cases hj : j = i
  · subst hj; rw [m_set_at, h]
  · rw [m_set_ne hj]
theorem m_set_set {i : Nat} {x y : m_E} : m_set (m_set Hp i x) i y = m_set Hp i y := by
  funext j
  by_cases hj : j = i
  · subst hj; rw [m_set_at, m_set_at]
  · rw [m_set_ne hj, m_set_ne hj, m_set_ne hj]
theorem m_set_comm {i j : Nat} {x y : m_E} (h : i ≠ j) : m_set (m_set Hp i x) j y = m_set (m_set Hp j y) i x := by
  funext k
  by_cases hk : k = j
  · subst hk; rw [m_set_at, m_set_ne (Ne.symm h), m_set_at]
  · rw [m_set_ne hk]
    by_cases hki : k = i
    · subst hki; rw [m_set_at, m_set_at]
    · rw [m_set_ne hki, m_set_ne hki, m_set_ne hk]
theorem m_jk_of_set {i : Nat} {x : m_E} (hJ : m_jk (m_set Hp i x)) (hx : x ≠ m_junk) : i < 78 := m_lt hJ m_set_at hx
theorem g_ilenW {a N : Nat} {f : Nat → Int32} {v : Int32} (hd : decode cc pc = .ok (.arraylength, 1)) (ha : Hp a = .inl (.int, (N, .inl f))) (hv : Int32.ofNat N = v) (k : G d own cc nL ret Q (pc + 1) ls (.int v :: st) Hp) : G d own cc nL ret Q pc ls (.ref a :: st) Hp := g_jk fun hJ => g_ilen hd (m_ar_of hJ ha) hv k
theorem g_ialdW {a N : Nat} {f : Nat → Int32} {i : Int32} (hd : decode cc pc = .ok (.iaload, 1)) (ha : Hp a = .inl (.int, (N, .inl f))) (hin : vp_in i N) (k : G d own cc nL ret Q (pc + 1) ls (.int (f i.toNatClampNeg) :: st) Hp) : G d own cc nL ret Q pc ls (.int i :: .ref a :: st) Hp := g_jk fun hJ => g_iald hd (m_ar_of hJ ha) hin k
end M2
/-- an int array of the heap; an object -/
abbrev ia (N : Nat) (f : Nat → Int32) : m_E := .inl (.int, (N, .inl f))
abbrev la (N : Nat) (f : Nat → Int64) : m_E := .inl (.long, (N, .inr (.inl f)))
abbrev za (N : Nat) (f : Nat → Int32) : m_E := .inl (.boolean, (N, .inl f))
abbrev ob (c : Nat) (fs : List Value) : m_E := .inr (c, fs)
/-- a contract that says what comes out -/
abbrev Fun (d : Nat) (y : MethodName) (cc : ByteArray) (nL : Nat) (ret : Option FieldType) (args : List Value) (Hp : m_H) (r : Option Value) (H' : m_H) : Prop := Con d y cc nL ret args Hp (fun r' H'' => r' = r ∧ H'' = H')
theorem Con.mono {d : Nat} {y : MethodName} {cc : ByteArray} {nL : Nat} {ret : Option FieldType} {args : List Value} {Hp : m_H} {Q Q' : Option Value → m_H → Prop} (h : ∀ r H', Q r H' → Q' r H') (k : Con d y cc nL ret args Hp Q) : Con d y cc nL ret args Hp Q' := by
  intro l D α τ hi
  have h1 := k l D α τ hi
  intro p e ha hc hk s m a below hf happ hpre _
  obtain ⟨t, o, b1, b2, b3, ⟨⟨r, Hp', q1, q2, q3⟩, b5⟩⟩ := h1 p e ha hc hk s m a below hf happ hpre trivial
  exact ⟨t, o, b1, b2, b3, ⟨⟨r, Hp', q1, h _ _ q2, q3⟩, b5⟩⟩
