/-! THE MINI MACHINE: values whose references are small numbers (ids), a heap that is a function of ids, and a judgement G over them ('from this frame the method comes to its end with an answer and a heap of which Q holds'), each rule of which is a row of the kit. -/
abbrev m_E : Type := (FieldType × vp_A) ⊕ (Nat × List Value)
abbrev m_H : Type := Nat → m_E
def m_set (Hp : m_H) (i : Nat) (x : m_E) : m_H := fun j => if j = i then x else Hp j
def m_v (α : Nat → Nat) (v : Value) : Value := match v with
  | .ref i => .ref (α i)
  | w => w
def m_e (α : Nat → Nat) (τ : FieldType → ClassId) (x : m_E) : va_E := match x with
  | .inl (ty, a) => .inl (τ ty, a)
  | .inr (c, fs) => .inr (c, fs.map (m_v α))
abbrev m_NW : Nat := 78
/-- links between the classes of one nest: carried on apart -/
def m_nest (w : Cond) : Bool := match w with
  | .fieldLinkNest _ _ _ _ _ _ => true
  | .methodLinkNest _ _ _ _ => true
  | _ => false
def m_N : List Cond := lw_tbl.filter m_nest
theorem m_N_of {w : Cond} (i : Nat) (h : lw_tbl[i]? = some w) (g : m_nest w = true) : w ∈ m_N := List.mem_filter.mpr ⟨List.mem_of_getElem? h, g⟩
/-- the tables' words that a call carries on -/
def m_T : List Cond := lw_tbl.filter goodWord
theorem m_T_of {w : Cond} (i : Nat) (h : lw_tbl[i]? = some w) (g : goodWord w = true) : w ∈ m_T := List.mem_filter.mpr ⟨List.mem_of_getElem? h, g⟩
abbrev m_junk : m_E := .inr (999, [])
def m_jk (Hp : m_H) : Prop := ∀ i, m_NW ≤ i → Hp i = m_junk
theorem m_T_0 {w : Cond} (i : Nat) (h : (k2_sels lw_privs)[i]? = some w) (g : goodWord w = true) : w ∈ m_T := List.mem_filter.mpr ⟨List.mem_append_left _ (List.mem_of_getElem? h), g⟩
theorem m_N_0 {w : Cond} (i : Nat) (h : (k2_sels lw_privs)[i]? = some w) (g : m_nest w = true) : w ∈ m_N := List.mem_filter.mpr ⟨List.mem_append_left _ (List.mem_of_getElem? h), g⟩
theorem m_T_1 {w : Cond} (i : Nat) (h : tables_1_1[i]? = some w) (g : goodWord w = true) : w ∈ m_T := List.mem_filter.mpr ⟨List.mem_append_right _ (List.mem_append_left _ (List.mem_of_getElem? h)), g⟩
theorem m_N_1 {w : Cond} (i : Nat) (h : tables_1_1[i]? = some w) (g : m_nest w = true) : w ∈ m_N := List.mem_filter.mpr ⟨List.mem_append_right _ (List.mem_append_left _ (List.mem_of_getElem? h)), g⟩
theorem m_T_2 {w : Cond} (i : Nat) (h : tables_1_2[i]? = some w) (g : goodWord w = true) : w ∈ m_T := List.mem_filter.mpr ⟨List.mem_append_right _ (List.mem_append_right _ (List.mem_append_left _ (List.mem_of_getElem? h))), g⟩
theorem m_N_2 {w : Cond} (i : Nat) (h : tables_1_2[i]? = some w) (g : m_nest w = true) : w ∈ m_N := List.mem_filter.mpr ⟨List.mem_append_right _ (List.mem_append_right _ (List.mem_append_left _ (List.mem_of_getElem? h))), g⟩
theorem m_T_3 {w : Cond} (i : Nat) (h : tables_1_3[i]? = some w) (g : goodWord w = true) : w ∈ m_T := List.mem_filter.mpr ⟨List.mem_append_right _ (List.mem_append_right _ (List.mem_append_right _ (List.mem_append_left _ (List.mem_of_getElem? h)))), g⟩
theorem m_N_3 {w : Cond} (i : Nat) (h : tables_1_3[i]? = some w) (g : m_nest w = true) : w ∈ m_N := List.mem_filter.mpr ⟨List.mem_append_right _ (List.mem_append_right _ (List.mem_append_right _ (List.mem_append_left _ (List.mem_of_getElem? h)))), g⟩
theorem m_T_4 {w : Cond} (i : Nat) (h : tables_1_4[i]? = some w) (g : goodWord w = true) : w ∈ m_T := List.mem_filter.mpr ⟨List.mem_append_right _ (List.mem_append_right _ (List.mem_append_right _ (List.mem_append_right _ (List.mem_append_left _ (List.mem_of_getElem? h))))), g⟩
theorem m_N_4 {w : Cond} (i : Nat) (h : tables_1_4[i]? = some w) (g : m_nest w = true) : w ∈ m_N := List.mem_filter.mpr ⟨List.mem_append_right _ (List.mem_append_right _ (List.mem_append_right _ (List.mem_append_right _ (List.mem_append_left _ (List.mem_of_getElem? h))))), g⟩
theorem m_T_5 {w : Cond} (i : Nat) (h : tables_1_5[i]? = some w) (g : goodWord w = true) : w ∈ m_T := List.mem_filter.mpr ⟨List.mem_append_right _ (List.mem_append_right _ (List.mem_append_right _ (List.mem_append_right _ (List.mem_append_right _ (List.mem_append_left _ (List.mem_of_getElem? h)))))), g⟩
theorem m_N_5 {w : Cond} (i : Nat) (h : tables_1_5[i]? = some w) (g : m_nest w = true) : w ∈ m_N := List.mem_filter.mpr ⟨List.mem_append_right _ (List.mem_append_right _ (List.mem_append_right _ (List.mem_append_right _ (List.mem_append_right _ (List.mem_append_left _ (List.mem_of_getElem? h)))))), g⟩
theorem m_T_6 {w : Cond} (i : Nat) (h : tables_1_6[i]? = some w) (g : goodWord w = true) : w ∈ m_T := List.mem_filter.mpr ⟨List.mem_append_right _ (List.mem_append_right _ (List.mem_append_right _ (List.mem_append_right _ (List.mem_append_right _ (List.mem_append_right _ (List.mem_append_left _ (List.mem_of_getElem? h))))))), g⟩
theorem m_N_6 {w : Cond} (i : Nat) (h : tables_1_6[i]? = some w) (g : m_nest w = true) : w ∈ m_N := List.mem_filter.mpr ⟨List.mem_append_right _ (List.mem_append_right _ (List.mem_append_right _ (List.mem_append_right _ (List.mem_append_right _ (List.mem_append_right _ (List.mem_append_left _ (List.mem_of_getElem? h))))))), g⟩
theorem m_T_7 {w : Cond} (i : Nat) (h : tables_1_7[i]? = some w) (g : goodWord w = true) : w ∈ m_T := List.mem_filter.mpr ⟨List.mem_append_right _ (List.mem_append_right _ (List.mem_append_right _ (List.mem_append_right _ (List.mem_append_right _ (List.mem_append_right _ (List.mem_append_right _ (List.mem_append_left _ (List.mem_of_getElem? h)))))))), g⟩
theorem m_N_7 {w : Cond} (i : Nat) (h : tables_1_7[i]? = some w) (g : m_nest w = true) : w ∈ m_N := List.mem_filter.mpr ⟨List.mem_append_right _ (List.mem_append_right _ (List.mem_append_right _ (List.mem_append_right _ (List.mem_append_right _ (List.mem_append_right _ (List.mem_append_right _ (List.mem_append_left _ (List.mem_of_getElem? h)))))))), g⟩
theorem m_T_8 {w : Cond} (i : Nat) (h : tables_1_8[i]? = some w) (g : goodWord w = true) : w ∈ m_T := List.mem_filter.mpr ⟨List.mem_append_right _ (List.mem_append_right _ (List.mem_append_right _ (List.mem_append_right _ (List.mem_append_right _ (List.mem_append_right _ (List.mem_append_right _ (List.mem_append_right _ ((List.mem_of_getElem? h))))))))), g⟩
theorem m_N_8 {w : Cond} (i : Nat) (h : tables_1_8[i]? = some w) (g : m_nest w = true) : w ∈ m_N := List.mem_filter.mpr ⟨List.mem_append_right _ (List.mem_append_right _ (List.mem_append_right _ (List.mem_append_right _ (List.mem_append_right _ (List.mem_append_right _ (List.mem_append_right _ (List.mem_append_right _ ((List.mem_of_getElem? h))))))))), g⟩
def m_w (α : Nat → Nat) (τ : FieldType → ClassId) (Hp : m_H) : va_W := (List.range m_NW).map fun i => (α i, m_e α τ (Hp i))
def m_A (α : Nat → Nat) : Nat → Prop := fun q => ∃ k, k < m_NW ∧ q = α k
def m_cl : List vw_C := [(RX0, TX0, 3), (RX1, TX1, 3), (RX2, TX2, 1), (RX3, TX3, 8), (RX4, TX4, 3), (RX5, TX5, 7), (RX6, TX6, 3), (RX7, TX7, 2), (RX8, TX8, 2), (RX9, TX9, 10), (RX10, TX10, 16), (RX11, TX11, 51)]
def m_tys (τ : FieldType → ClassId) : List (ClassId × FieldType) := [(τ .int, .int), (τ .long, .long), (τ .boolean, .boolean)]
def m_us : Nat → Int32 := fun j => ([12, 30, 2, 10, 0, 3, 0, 3, 3, 4, 10, 10, 10, 0, 0] : List Int32).getD j 0
def m_lo : Nat → Int32 := fun j => ([1, 0, 0, 0, 0, 1, 0, 0, 0, 1, 0, 0, 0, 0, 0] : List Int32).getD j 0
def m_hi : Nat → Int32 := fun j => ([30, 99, 9, 99, 0, 9, 9, 9, 9, 9, 99, 99, 99, 0, 0] : List Int32).getD j 0
/-- texts: mfhp, lgsrp, srv, smc, mfgldk -/
def m_sl : List Nat := [4, 5, 3, 3, 6]
def m_sb : List (List Int32) := [[109, 102, 104, 112], [108, 103, 115, 114, 112], [115, 114, 118], [115, 109, 99], [109, 102, 103, 108, 100, 107]]
def m_so : Nat → String × Nat × String := fun i => match i with
  | 0 => (RX6, 88, "mfhp")
  | 1 => (RX6, 90, "lgsrp")
  | 2 => (RX6, 92, "srv")
  | 3 => (RX6, 94, "smc")
  | _ => (RX4, 93, "mfgldk")
def m_Ro (α : Nat → Nat) (A : Nat → Prop) (U : State) (H : Heap) : Prop :=
  (va_Z RX6 "USUAL" "[I" (.ref (α 1000)) A U H ∧ va_T .int (α 1000) 15 (fun j => .int (m_us j)) A U H) ∧
  (va_Z RX6 "LOWEST" "[I" (.ref (α 1001)) A U H ∧ va_T .int (α 1001) 15 (fun j => .int (m_lo j)) A U H) ∧
  (va_Z RX6 "HIGHEST" "[I" (.ref (α 1002)) A U H ∧ va_T .int (α 1002) 15 (fun j => .int (m_hi j)) A U H) ∧
  (vk_S 5 m_sl m_sb (fun i => α (2000 + i)) (fun i => α (3000 + i)) A U H ∧ va_Z "java/lang/String" "COMPACT_STRINGS" "Z" (.int 1) A U H) ∧
  (∀ i, i < 5 → vk_R (m_so i).1 (m_so i).2.1 (m_so i).2.2 (α (2000 + i)) U) ∧ ∀ w ∈ m_N, va_Nw w U
/-- an int array that can be read: of the world, or one of the three static ones -/
def m_ar (Hp : m_H) (q : Nat) : Option (Nat × (Nat → Int32)) := if q = 1000 then some (15, m_us) else if q = 1001 then some (15, m_lo) else if q = 1002 then some (15, m_hi) else match Hp q with
  | .inl (.int, (n, .inl f)) => some (n, f)
  | _ => none
def m_L (α : Nat → Nat) (lsM : Array Slot) (nL : Nat) (ls : List (Option Value)) : Prop := lsM.size = nL ∧ lv_wf lsM ∧ ∀ (i : Nat) (v : Value), ls[i]? = some (some v) → lsM[i]? = some (.val (m_v α v))
def m_kill (ls : List (Option Value)) (i : Nat) : List (Option Value) := match i with
  | 0 => ls
  | j + 1 => match ls[j]? with
    | some (some (.long _)) => ls.set j none
    | some (some (.double _)) => ls.set j none
    | _ => ls
def m_st1 (ls : List (Option Value)) (i : Nat) (v : Value) : List (Option Value) := (m_kill ls i).set i (some v)
def m_st2 (ls : List (Option Value)) (i : Nat) (v : Value) : List (Option Value) := ((m_kill ls i).set i (some v)).set (i + 1) none
def m_rm (d : Nat) : Room := { frames := d, cells := 0, slots := 0, locals := 40 * d + 20 }
def m_At (p : Program) (s : State) (m : MethodId) (args : Array Value) (meth : Method) (c : Code) (own : String) (cc : ByteArray) (nL : Nat) (ret : Option FieldType) (D : va_G) (α : Nat → Nat) (τ : FieldType → ClassId) : Prop :=
  p.tables.exec = Jvm.exec ∧ c.code = cc ∧ c.maxLocals = nL ∧ meth.sig.returnType = ret ∧ s.vm.findClass own = some m.cls ∧ (∀ w ∈ m_T, w.before args s = true) ∧ meth.locks = false ∧ va_K D m_cl (m_tys τ) s ∧ m_Ro α (m_A α) s s.heap ∧ ∀ i j, i < m_NW → j < m_NW → α i = α j → i = j
def m_Q (D : va_G) (α : Nat → Nat) (τ : FieldType → ClassId) (Q : Option Value → m_H → Prop) : Array Value → State → Outcome → State → Prop := fun _ st o t =>
  ∃ (r : Option Value) (Hp : m_H), o = .returned (r.map (m_v α)) ∧ Q r Hp ∧ m_jk Hp ∧ va_P D m_cl (m_w α τ Hp) t.heap ∧ va_F (m_A α) st t
def m_Pc (D : va_G) (α : Nat → Nat) (τ : FieldType → ClassId) (args : List Value) (Hp : m_H) : Array Value → State → Prop :=
  va_Pc (args.map (m_v α)) (fun U => m_jk Hp ∧ va_P D m_cl (m_w α τ Hp) U.heap ∧ va_K D m_cl (m_tys τ) U ∧ m_Ro α (m_A α) U U.heap)
/-- a method's contract: called with these, it returns, and Q -/
def Con (d : Nat) (y : MethodName) (cc : ByteArray) (nL : Nat) (ret : Option FieldType) (args : List Value) (Hp : m_H) (Q : Option Value → m_H → Prop) : Prop :=
  ∀ (l : Launch) (D : va_G) (α : Nat → Nat) (τ : FieldType → ClassId), (∀ i j, i < m_NW → j < m_NW → α i = α j → i = j) → Met l y (Cond.code y cc nL ret :: m_T) (m_rm d) (m_Pc D α τ args Hp) (m_Q D α τ Q) 0 0 (m_A α)
/-- from this frame: the end, and Q -/
def G (d : Nat) (own : String) (cc : ByteArray) (nL : Nat) (ret : Option FieldType) (Q : Option Value → m_H → Prop) (pc : Nat) (ls : List (Option Value)) (st : List Value) (Hp : m_H) : Prop :=
  ∀ (p : Program) (l : Launch) (e : Env) (s : State) (m : MethodId) (args : Array Value) (below : List Frame) (meth : Method) (c : Code) (D : va_G) (α : Nat → Nat) (τ : FieldType → ClassId) (H : Heap) (locs : List Loc) (lsM : Array Slot),
    m_At p s m args meth c own cc nL ret D α τ → m_L α lsM nL ls → va_P D m_cl (m_w α τ Hp) H → va_S (m_A α) s.heap H locs → m_jk Hp →
      W p l e (m_rm d) s m args below meth c H locs 0 0 (MQ below (m_Q D α τ Q) args s 0 0 (m_A α)) (F0 m pc lsM (st.map (m_v α)))

theorem m_v_cat (α : Nat → Nat) (v : Value) : (m_v α v).category = v.category := by cases v <;> rfl
theorem m_cat_sum (α : Nat → Nat) (st : List Value) : ((st.map (m_v α)).map fun v => v.category).sum = (st.map fun v => v.category).sum := by
  rw [List.map_map]
  congr 1
  exact List.map_congr_left fun v _ => m_v_cat α v
theorem m_w_at {α : Nat → Nat} {τ : FieldType → ClassId} {Hp : m_H} {i : Nat} (h : i < m_NW) : (m_w α τ Hp)[i]? = some (α i, m_e α τ (Hp i)) := by
  unfold m_w
  rw [List.getElem?_map, List.getElem?_range h]
  rfl
theorem m_w_in {α : Nat → Nat} {τ : FieldType → ClassId} {Hp : m_H} {k : Nat} {q : Nat × va_E} (h : (m_w α τ Hp)[k]? = some q) : k < m_NW ∧ q = (α k, m_e α τ (Hp k)) := by
  have hk : k < m_NW := by
    have h1 := (List.getElem?_eq_some_iff.mp h).1
    simpa [m_w] using h1
  rw [m_w_at hk] at h
  exact ⟨hk, (Option.some.inj h).symm⟩
theorem m_w_set {α : Nat → Nat} {τ : FieldType → ClassId} {Hp : m_H} {i : Nat} {x : m_E} (h : i < m_NW) : (m_w α τ Hp).set i (α i, m_e α τ x) = m_w α τ (m_set Hp i x) := by
  apply List.ext_getElem?
  intro k
  rw [List.getElem?_set]
  by_cases hk : k < m_NW
  · rw [m_w_at hk, m_w_at hk]
    by_cases hik : i = k
    · subst hik
      simp [m_set, m_w, h]
    · have hki : ¬ k = i := fun z => hik z.symm
      simp [m_set, hik, hki]
  · have hl : (m_w α τ Hp).length = m_NW := by simp [m_w]
    have hl2 : (m_w α τ (m_set Hp i x)).length = m_NW := by simp [m_w]
    have hik : ¬ i = k := by omega
    rw [if_neg hik, List.getElem?_eq_none (by omega), List.getElem?_eq_none (by omega)]
theorem m_D {α : Nat → Nat} {τ : FieldType → ClassId} {Hp : m_H} (hi : ∀ i j, i < m_NW → j < m_NW → α i = α j → i = j) : va_D (m_A α) (m_w α τ Hp) := by
  refine ⟨fun i j p q h1 h2 h3 => ?_, fun k q h => ?_⟩
  · obtain ⟨a1, rfl⟩ := m_w_in h1
    obtain ⟨a2, rfl⟩ := m_w_in h2
    exact hi i j a1 a2 h3
  · obtain ⟨a1, rfl⟩ := m_w_in h
    exact ⟨k, a1, rfl⟩
theorem m_lt {Hp : m_H} {i : Nat} {x : m_E} (hJ : m_jk Hp) (h : Hp i = x) (hx : x ≠ m_junk) : i < m_NW := by
  rcases Nat.lt_or_ge i m_NW with q | q
  · exact q
  · exact absurd (h.symm.trans (hJ i q)) hx
theorem m_jk_set {Hp : m_H} {i : Nat} {x : m_E} (hJ : m_jk Hp) (h : i < m_NW) : m_jk (m_set Hp i x) := fun j hj => by
  have hji : ¬ j = i := by omega
  simp only [m_set, if_neg hji]
  exact hJ j hj
theorem m_Ro.moved {α : Nat → Nat} {A : Nat → Prop} {u U : State} {H : Heap} (hvm : u.vm.Alike U.vm) (hR : ∀ i, i < 5 → vk_R (m_so i).1 (m_so i).2.1 (m_so i).2.2 (α (2000 + i)) U) (hN : ∀ w ∈ m_N, va_Nw w U) (h : m_Ro α A u H) : m_Ro α A U H :=
  ⟨⟨h.1.1.moved hvm, h.1.2.moved hvm⟩, ⟨h.2.1.1.moved hvm, h.2.1.2.moved hvm⟩, ⟨h.2.2.1.1.moved hvm, h.2.2.1.2.moved hvm⟩, ⟨h.2.2.2.1.1.moved hvm, h.2.2.2.1.2.moved hvm⟩, hR, hN⟩
theorem m_nest_on {w : Cond} (h : m_nest w = true) : w.onTables = true := by
  cases w <;> first | rfl | (simp [m_nest] at h)
theorem m_Ro.warm {α : Nat → Nat} {A : Nat → Prop} {s U : State} {H : Heap} (hW : s.WarmedH U.vm) (h : m_Ro α A s H) : m_Ro α A U H := by
  refine m_Ro.moved (u := s) hW.alike (fun i hi => vk_R.warm hW (h.2.2.2.2.1 i hi)) (fun w hw => ?_) h
  have h1 := (List.mem_filter.mp hw).2
  have h2 := h.2.2.2.2.2 w hw
  cases w <;> first | exact va_Nw.warmF hW h2 | exact va_Nw.warmM hW h2 | (simp [m_nest] at h1)
theorem m_Ro.kept {α : Nat → Nat} {A : Nat → Prop} {U : State} {H H1 : Heap} (h : m_Ro α A U H) (hq : ∀ a : Nat, a < H.size → ¬ A a → H1[a]? = H[a]?) : m_Ro α A U H1 :=
  ⟨⟨h.1.1.kept hq, h.1.2.kept hq⟩, ⟨h.2.1.1.kept hq, h.2.1.2.kept hq⟩, ⟨h.2.2.1.1.kept hq, h.2.2.1.2.kept hq⟩, ⟨h.2.2.2.1.1.kept hq, h.2.2.2.1.2.kept hq⟩, h.2.2.2.2⟩

/-- locals: the place-wise list as the kit's list of pairs -/
def m_as (α : Nat → Nat) (ls : List (Option Value)) : List (Nat × Value) := (List.range ls.length).filterMap fun i => (ls[i]?.join).map fun v => (i, m_v α v)
theorem m_as_mem {α : Nat → Nat} {ls : List (Option Value)} {i : Nat} {w : Value} : (i, w) ∈ m_as α ls ↔ ∃ v, ls[i]? = some (some v) ∧ w = m_v α v := by
  unfold m_as
  rw [List.mem_filterMap]
  constructor
  · rintro ⟨j, -, h⟩
    cases hj : ls[j]? with
    | none => simp [hj] at h
    | some o =>
      cases o with
      | none => simp [hj] at h
      | some v =>
        simp [hj] at h
        obtain ⟨rfl, rfl⟩ := h
        exact ⟨v, hj, rfl⟩
  · rintro ⟨v, h, rfl⟩
    exact ⟨i, List.mem_range.mpr (List.getElem?_eq_some_iff.mp h).1, by simp [h]⟩
theorem m_as_has {α : Nat → Nat} {lsM : Array Slot} {nL : Nat} {ls : List (Option Value)} (h : m_L α lsM nL ls) : lv_has lsM nL (m_as α ls) := by
  refine ⟨h.1, h.2.1, fun q hq => ?_⟩
  obtain ⟨i, w⟩ := q
  obtain ⟨v, h1, rfl⟩ := m_as_mem.mp hq
  exact h.2.2 i v h1
theorem m_kill_at {ls : List (Option Value)} {i j : Nat} {v : Value} (h : (m_kill ls i)[j]? = some (some v)) : ls[j]? = some (some v) ∧ ¬ (j + 1 = i ∧ v.category = 2) := by
  unfold m_kill at h
  split at h
  · exact ⟨h, by omega⟩
  · rename_i k
    split at h
    · rw [List.getElem?_set] at h
      by_cases hk : k = j
      · subst hk
        rw [if_pos rfl] at h
        split at h <;> cases h
      · rw [if_neg hk] at h
        exact ⟨h, by omega⟩
    · rw [List.getElem?_set] at h
      by_cases hk : k = j
      · subst hk
        rw [if_pos rfl] at h
        split at h <;> cases h
      · rw [if_neg hk] at h
        exact ⟨h, by omega⟩
    · rename_i h1 h2
      refine ⟨h, fun ⟨e, hc⟩ => ?_⟩
      have e2 : k = j := by omega
      subst e2
      cases v with
      | long x => exact h1 x h
      | double x => exact h2 x h
      | _ => simp [Value.category] at hc
theorem m_L_st1 {α : Nat → Nat} {lsM : Array Slot} {nL : Nat} {ls : List (Option Value)} {i : Nat} {v : Value} (h : lv_has lsM nL ((i, m_v α v) :: (m_as α ls).filter (fun q => !(q.1 == i) && !(q.1 + 1 == i && q.2.category == 2)))) : m_L α lsM nL (m_st1 ls i v) := by
  refine ⟨h.1, h.2.1, fun j w hj => ?_⟩
  unfold m_st1 at hj
  rw [List.getElem?_set] at hj
  by_cases hij : i = j
  · subst hij
    split at hj
    · split at hj
      · cases hj
        exact h.2.2 _ List.mem_cons_self
      · cases hj
    · omega
  · rw [if_neg hij] at hj
    obtain ⟨h1, h2⟩ := m_kill_at hj
    refine h.2.2 (j, m_v α w) (List.mem_cons_of_mem _ (List.mem_filter.mpr ⟨m_as_mem.mpr ⟨w, h1, rfl⟩, ?_⟩))
    have hji : ¬ j = i := fun z => hij z.symm
    simp only [m_v_cat]
    by_cases e1 : j + 1 = i
    · have e2 : ¬ w.category = 2 := fun z => h2 ⟨e1, z⟩
      simp [hji, e2]
    · simp [hji, e1]
theorem m_L_st2 {α : Nat → Nat} {lsM : Array Slot} {nL : Nat} {ls : List (Option Value)} {i : Nat} {v : Value} (h : lv_has lsM nL ((i, m_v α v) :: (m_as α ls).filter (fun q => !(q.1 == i) && (!(q.1 == i + 1) && !(q.1 + 1 == i && q.2.category == 2))))) : m_L α lsM nL (m_st2 ls i v) := by
  refine ⟨h.1, h.2.1, fun j w hj => ?_⟩
  unfold m_st2 at hj
  rw [List.getElem?_set] at hj
  by_cases hi1 : i + 1 = j
  · subst hi1
    split at hj
    · split at hj <;> simp at hj
    · omega
  · rw [if_neg hi1, List.getElem?_set] at hj
    by_cases hij : i = j
    · subst hij
      split at hj
      · split at hj
        · cases hj
          exact h.2.2 _ List.mem_cons_self
        · cases hj
      · omega
    · rw [if_neg hij] at hj
      obtain ⟨h1, h2⟩ := m_kill_at hj
      refine h.2.2 (j, m_v α w) (List.mem_cons_of_mem _ (List.mem_filter.mpr ⟨m_as_mem.mpr ⟨w, h1, rfl⟩, ?_⟩))
      have hji : ¬ j = i := fun z => hij z.symm
      have hji1 : ¬ j = i + 1 := fun z => hi1 z.symm
      simp only [m_v_cat]
      by_cases e1 : j + 1 = i
      · have e2 : ¬ w.category = 2 := fun z => h2 ⟨e1, z⟩
        simp [hji, hji1, e2]
      · simp [hji, hji1, e1]
/-- the locals at a method's entry -/
def m_ent1 (args : List Value) : List (Option Value) := args.flatMap fun v => match v with
  | .long x => [some (.long x), none]
  | .double x => [some (.double x), none]
  | v => [some v]
def m_ent (args : List Value) (nL : Nat) : List (Option Value) := m_ent1 args ++ List.replicate (nL - (m_ent1 args).length) none
theorem m_ent1_mem (α : Nat → Nat) : ∀ (as : List Value) (k i : Nat) (v : Value), (m_ent1 as)[i]? = some (some v) → (k + i, m_v α v) ∈ lv_args k (as.map (m_v α))
  | [], k, i, v, h => by simp [m_ent1] at h
  | a :: t, k, i, v, h => by
    have ih := m_ent1_mem α t
    have hc := m_v_cat α a
    have one : ∀ (w : Value), w.category = 1 → m_ent1 (w :: t) = some w :: m_ent1 t := by
      intro w hw
      cases w <;> first | rfl | (simp [Value.category] at hw)
    have two : ∀ (w : Value), w.category = 2 → m_ent1 (w :: t) = some w :: none :: m_ent1 t := by
      intro w hw
      cases w <;> first | rfl | (simp [Value.category] at hw)
    show _ ∈ (k, m_v α a) :: lv_args (if (m_v α a).category = 2 then k + 2 else k + 1) (t.map (m_v α))
    rw [hc]
    rcases lv_cat a with h1 | h1
    · rw [one a h1] at h
      rw [if_neg (by omega)]
      cases i with
      | zero =>
        cases h
        exact List.mem_cons_self
      | succ j =>
        rw [List.getElem?_cons_succ] at h
        have h2 := ih (k + 1) j v h
        rw [show k + 1 + j = k + (j + 1) by omega] at h2
        exact List.mem_cons_of_mem _ h2
    · rw [two a h1] at h
      rw [if_pos h1]
      cases i with
      | zero =>
        cases h
        exact List.mem_cons_self
      | succ j =>
        rw [List.getElem?_cons_succ] at h
        cases j with
        | zero => cases h
        | succ j2 =>
          rw [List.getElem?_cons_succ] at h
          have h2 := ih (k + 2) j2 v h
          rw [show k + 2 + j2 = k + (j2 + 1 + 1) by omega] at h2
          exact List.mem_cons_of_mem _ h2
theorem m_ent_mem {α : Nat → Nat} {as : List Value} {nL i : Nat} {v : Value} (h : (m_ent as nL)[i]? = some (some v)) : (i, m_v α v) ∈ lv_args 0 (as.map (m_v α)) := by
  unfold m_ent at h
  by_cases hi : i < (m_ent1 as).length
  · rw [List.getElem?_append_left hi] at h
    have h2 := m_ent1_mem α as 0 i v h
    rw [Nat.zero_add] at h2
    exact h2
  · rw [List.getElem?_append_right (by omega), List.getElem?_replicate] at h
    split at h <;> simp at h
theorem m_sl_len (α : Nat → Nat) : ∀ as : List Value, (lg_sl (as.map (m_v α))).length = (m_ent1 as).length
  | [] => rfl
  | a :: t => by
    have ih := m_sl_len α t
    simp only [lg_sl, m_ent1, List.map_cons, List.flatMap_cons, List.length_append] at ih ⊢
    rw [ih]
    cases a <;> rfl
theorem m_good : m_T.all goodWord = true := List.all_eq_true.mpr fun _ h => (List.mem_filter.mp h).2
theorem m_goodIn {y : MethodName} {cc : ByteArray} {nL : Nat} {ret : Option FieldType} (h : Cond.code y cc nL ret ∈ m_T) : GoodIn m_T (Cond.code y cc nL ret :: m_T) := by
  intro w hw
  rcases List.mem_cons.mp hw with rfl | hw
  · exact ⟨h, good_of_word (List.all_eq_true.mp m_good _ h)⟩
  · exact ⟨hw, good_of_word (List.all_eq_true.mp m_good _ hw)⟩
theorem m_con {d : Nat} {y : MethodName} {cc : ByteArray} {nL : Nat} {ret : Option FieldType} {as : List Value} {Hp : m_H} {Q : Option Value → m_H → Prop} (hy : plainName y.cls = true) (hl : (m_ent1 as).length ≤ nL) (g : G d y.cls cc nL ret Q 0 (m_ent as nL) [] Hp) : Con d y cc nL ret as Hp Q := by
  intro l D α τ hi
  refine Met.ofW (cc := cc) (maxL := nL) (ret := ret) hy rfl ?_
  intro p e s m args below meth c s₁ B hml hv
  obtain ⟨rfl, hJ, hP, hK, hRo⟩ := hv
  have hts := atoms_spec (ws := Cond.code y cc nL ret :: m_T) B.pre
  have hown : s.vm.findClass y.cls = some m.cls := findClass_of_methodNamed B.named
  have hl' := lv_entry (as.map (m_v α)) (n := nL) (by rw [m_sl_len]; exact hl)
  rw [lg_entry_eq]
  exact g p l e s m _ below meth c D α τ s.heap [] _ ⟨B.exec, B.bytes, hml, B.returns, hown, fun w hw => hts w (List.mem_cons_of_mem _ hw), B.notSynchronized, hK, hRo, hi⟩ ⟨hl'.1, hl'.2.1, fun i v h => hl'.2.2 _ (m_ent_mem h)⟩ hP va_S.rf hJ
theorem m_blind {D : va_G} {α : Nat → Nat} {τ : FieldType → ClassId} {as : List Value} {Hp : m_H} : FrameBlind (m_Pc D α τ as Hp) := by
  intro a U g mk ⟨h0, hJ, hP, hK, hRo⟩
  refine ⟨h0, hJ, hP, va_K.moved (u := U) (U := U.calling g mk a) (Vm.Alike.refl U.vm) hK, ?_⟩
  exact m_Ro.moved (u := U) (U := U.calling g mk a) (Vm.Alike.refl U.vm) (fun i hi => vk_R.same (u := U) (U := U.calling g mk a) rfl (hRo.2.2.2.2.1 i hi)) (fun w hw => va_Nw.same (m_nest_on (List.mem_filter.mp hw).2) (u := U) (U := U.calling g mk a) rfl (hRo.2.2.2.2.2 w hw)) hRo
