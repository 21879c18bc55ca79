section M3
variable {d : Nat} {own : String} {cc : ByteArray} {nL : Nat} {ret : Option FieldType} {Q : Option Value → m_H → Prop} {pc : Nat} {ls : List (Option Value)} {st : List Value} {Hp : m_H}
theorem g_ldcw {idx : Nat} {v : Int32} (hd : decode cc pc = .ok (.ldc_w idx, 3)) (hc : Cond.constant own idx v ∈ m_T) (k : G d own cc nL ret Q (pc + 3) ls (.int v :: st) Hp) : G d own cc nL ret Q pc ls st Hp := by
  intro p l e s m args below meth c D α τ H locs lsM hAt hL hP hS hJ
  exact lv_ldcw hAt.1 hAt.2.1 hAt.2.2.2.2.1 (hAt.2.2.2.2.2.1 _ hc) hd (k p l e s m args below meth c D α τ H locs lsM hAt hL hP hS hJ)
/-- what lies behind an array's end may be told anew -/
theorem m_ext {D : va_G} {α : Nat → Nat} {τ : FieldType → ClassId} {a N : Nat} {f f' : Nat → Int32} {H : Heap} (ha : Hp a = ia N f) (he : ∀ j, j < N → f j = f' j) (hP : va_P D m_cl (m_w α τ Hp) H) : va_P D m_cl (m_w α τ (m_set Hp a (ia N f'))) H := by
  intro k q hq
  obtain ⟨hk, rfl⟩ := m_w_in hq
  have h1 := hP k (α k, m_e α τ (Hp k)) (m_w_at hk)
  by_cases hka : k = a
  · subst hka
    rw [m_set_at]
    rw [ha] at h1
    have h2 : H[α k]? = some (vp_cell (τ .int) (N, .inl f)) := h1
    show H[α k]? = some (vp_cell (τ .int) (N, .inl f'))
    rw [h2]
    have e : ∀ g : Nat → Int32, vp_cell (τ .int) (N, .inl g) = arrV (τ .int) N (fun j => .int (g j)) := fun g => rfl
    rw [e, e]
    congr 1
    unfold arrV
    congr 1
    apply Array.ext
    · simp
    · intro i h3 h4
      simp at h3
      simp [he i h3]
  · rw [m_set_ne hka]
    exact h1
theorem g_ext {a N : Nat} {f : Nat → Int32} (f' : Nat → Int32) (ha : Hp a = ia N f) (he : ∀ j, j < N → f j = f' j) (k : G d own cc nL ret Q pc ls st (m_set Hp a (ia N f'))) : G d own cc nL ret Q pc ls st Hp := by
  intro p l e s m args below meth c D α τ H locs lsM hAt hL hP hS hJ
  exact k p l e s m args below meth c D α τ H locs lsM hAt hL (m_ext ha he hP) hS (m_jk_set hJ (m_lt hJ ha (by intro z; cases z)))
end M3
theorem lit_nI (n : Nat) : (OfNat.ofNat n : Int32) = nI n := rfl
theorem nI_ltn {k : Nat} {n : Int32} (hk : k < 2 ^ 31) : nI k < n ↔ k < n.toNatClampNeg := by
  rw [Int32.lt_iff_toInt_lt, nI_toInt hk]
  have e : n.toNatClampNeg = n.toInt.toNat := rfl
  rw [e]
  omega
theorem nI_gen {k : Nat} {n : Int32} (hk : k < 2 ^ 31) : n ≤ nI k ↔ n.toNatClampNeg ≤ k := by
  rw [Int32.le_iff_toInt_le, nI_toInt hk]
  have e : n.toNatClampNeg = n.toInt.toNat := rfl
  rw [e]
  omega
theorem clamp_lt (n : Int32) : n.toNatClampNeg < 2 ^ 31 := by
  have e : n.toNatClampNeg = n.toInt.toNat := rfl
  have := n.toInt_lt
  rw [e]
  omega
