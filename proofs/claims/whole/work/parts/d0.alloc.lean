/-! MAKING THE WORLD: constructors, over worlds that grow -/
def n_At (p : Program) (s : State) (m : MethodId) (args : Array Value) (c : Code) (own : String) (cc : ByteArray) (nL : Nat) (D : va_G) (τ : FieldType → ClassId) : Prop :=
  p.tables.exec = Jvm.exec ∧ c.code = cc ∧ c.maxLocals = nL ∧ s.vm.findClass own = some m.cls ∧ (∀ w ∈ m_T, w.before args s = true) ∧ va_K D m_cl (m_tys τ) s ∧ ∀ w ∈ m_N, va_Nw w s
/-- a constructor's start: its object alone -/
def n_Pc (D : va_G) (τ : FieldType → ClassId) (q0 : Nat) (e0 : va_E) (As : List Value) (sz : Nat) : Array Value → State → Prop :=
  va_Pc (.ref q0 :: As) (fun U => U.heap.size = sz ∧ va_P D m_cl [(q0, e0)] U.heap ∧ va_K D m_cl (m_tys τ) U ∧ va_D (fun _ => True) [(q0, e0)] ∧ ∀ w ∈ m_N, va_Nw w U)
/-- and its end: the cells Wn u, of which the first is the object -/
def n_Qc {S : Type} (D : va_G) (q0 : Nat) (e0 : va_E) (sz : Nat) (Wn : S → va_W) : Array Value → State → Outcome → State → Prop :=
  va_Qv (fun _ : S => True) (fun u t => va_P D m_cl (Wn u) t.heap ∧ va_D (va_A [(q0, e0)] sz) (Wn u)) (va_A [(q0, e0)] sz)
def NCon {S : Type} (d mc ms : Nat) (y : MethodName) (cc : ByteArray) (nL : Nat) (e0 : va_E) (As : List Value) (Wn : (FieldType → ClassId) → Nat → S → va_W) : Prop :=
  ∀ (l : Launch) (D : va_G) (τ : FieldType → ClassId) (q0 sz : Nat), Met l y (Cond.code y cc nL none :: m_T) { frames := d, cells := mc, slots := ms, locals := 40 * d + 20 } (n_Pc D τ q0 e0 As sz) (n_Qc D q0 e0 sz (Wn τ q0)) mc ms (va_A [(q0, e0)] sz)
theorem n_blind {D : va_G} {τ : FieldType → ClassId} {q0 : Nat} {e0 : va_E} {As : List Value} {sz : Nat} : FrameBlind (n_Pc D τ q0 e0 As sz) := by
  intro a U g mk ⟨h0, h1, hP, hK, hD, hN⟩
  exact ⟨h0, h1, hP, va_K.moved (u := U) (U := U.calling g mk a) (Vm.Alike.refl U.vm) hK, hD, fun w hw => va_Nw.same (m_nest_on (List.mem_filter.mp hw).2) (u := U) (U := U.calling g mk a) rfl (hN w hw)⟩
theorem n_warm {s U : State} (hW : s.WarmedH U.vm) (h : ∀ w ∈ m_N, va_Nw w s) : ∀ w ∈ m_N, va_Nw w U := fun w hw => by
  have h1 := (List.mem_filter.mp hw).2
  have h2 := h w hw
  cases w <;> first | exact va_Nw.warmF hW h2 | exact va_Nw.warmM hW h2 | (simp [m_nest] at h1)
theorem n_goodIn {y y2 : MethodName} {cc cc2 : ByteArray} {nL nL2 : Nat} {ret ret2 : Option FieldType} (h : Cond.code y cc nL ret ∈ m_T) : GoodIn m_T (Cond.code y cc nL ret :: m_T) := m_goodIn h
section NR
variable {p : Program} {l : Launch} {e : Env} {R : Room} {s : State} {m : MethodId} {args : Array Value} {below : List Frame} {meth : Method} {c : Code} {H : Heap} {locs : List Loc} {cells slots : Nat} {Q : State → Prop} {pc : Nat} {ls : Array Slot} {rest : List Value} {own : String} {cc : ByteArray} {nL : Nat} {D : va_G} {τ : FieldType → ClassId} {A : Nat → Prop} {ws wr : va_W}
theorem n_newa (hn : n_At p s m args c own cc nL D τ) (hA : ∀ q, s.heap.size ≤ q → A q) (hP : va_P D m_cl ws H) (hD : va_D A ws) (hS : va_S A s.heap H locs) {atype : ArrayType} {ty : FieldType} {n : Int32} {N' k0 : Nat} {a0 : vp_A} (harr : Cond.arrayClass (newarray.typeOf atype) ∈ m_T) (hty : newarray.typeOf atype = ty) (ht3 : ty = .int ∨ ty = .long ∨ ty = .boolean) (hk0 : (m_tys τ)[k0]? = some (τ ty, ty)) (ha : ∀ cA : ClassId, vp_cell cA a0 = arrV cA N' (fun _ => defaultValue ty)) (hneg : ¬ n < 0) (hN : n.toNatClampNeg = N') (hbytes : N' * componentBytes ty ≤ 536870912) (hcells : cells + 1 ≤ R.cells) (hslots : slots + N' ≤ R.slots) (hdg : decode cc pc = .ok (.newarray atype, 2))
    (kk : ∀ (q : Nat) (H1 : Heap), va_P D m_cl (ws ++ [(q, .inl (τ ty, a0))]) H1 → va_D A (ws ++ [(q, .inl (τ ty, a0))]) → va_S A s.heap H1 locs → W p l e R s m args below meth c H1 locs (cells + 1) (slots + N') Q (F0 m (pc + 2) ls (.ref q :: rest))) : W p l e R s m args below meth c H locs cells slots Q (F0 m pc ls (.int n :: rest)) := by
  obtain ⟨hx, hb, hml, hown, hts, hK, hN2⟩ := hn
  refine va_newa hx hb (hts _ harr) hty hK hP hD hS hA ha hneg hN hbytes hcells hslots hdg (fun q cA H1 hK1 hP1 hD1 hS1 => ?_)
  have e1 : cA = τ ty := by
    have h1 := (hK.2 k0 _ hk0).2
    have h2 := (hK1.2 (m_tys τ).length (cA, ty) (by rw [List.getElem?_append_right (Nat.le_refl _), Nat.sub_self]; rfl)).2
    rcases ht3 with rfl | rfl | rfl <;> exact Option.some.inj (Eq.trans (Eq.symm h2) h1)
  subst e1
  exact kk q H1 hP1 hD1 hS1
/-- a constructor is called on a new object, the last of the world -/
theorem n_fin {S : Type} {d' mc ms : Nat} {y : MethodName} {q0 : Nat} {e0 : va_E} {As : List Value} {Wn : (FieldType → ClassId) → Nat → S → va_W} (hA : ∀ q, s.heap.size ≤ q → A q) (hP : va_P D m_cl (wr ++ [(q0, e0)]) H) (hD : va_D A (wr ++ [(q0, e0)])) (hS : va_S A s.heap H locs) (hr : va_Run p l e R s m args below meth c H locs cells slots mc ms (F0 m pc ls (As.reverse ++ .ref q0 :: rest)) rest (n_Qc D q0 e0 H.size (Wn τ q0) (Value.ref q0 :: As).toArray) (va_A [(q0, e0)] H.size))
    (kk : ∀ (u : S) (H1 : Heap) (locs1 : List Loc), va_P D m_cl (wr ++ Wn τ q0 u) H1 → va_D A (wr ++ Wn τ q0 u) → va_S A s.heap H1 locs1 → W p l e R s m args below meth c H1 locs1 (cells + mc) (slots + ms) Q (F0 m (pc + 3) ls rest)) : W p l e R s m args below meth c H locs cells slots Q (F0 m pc ls (As.reverse ++ .ref q0 :: rest)) := by
  have hl : (wr ++ [(q0, e0)])[wr.length]? = some (q0, e0) := by rw [List.getElem?_append_right (Nat.le_refl _), Nat.sub_self]; rfl
  have hF : ∀ q, va_A [(q0, e0)] H.size q → A q := fun q h => by
    rcases h with ⟨k, e1, h⟩ | h
    · have hk : k = 0 := by
        have := (List.getElem?_eq_some_iff.mp h).1
        simp at this
        omega
      subst hk
      cases h
      exact hD.2 _ _ hl
    · exact hA q (Nat.le_trans hS.1 h)
  refine va_callv hr hS (fun q _ h => hF q h) hF (fun u t H1 locs1 ht hvm hw hB hz1 hk1 hS1 => ?_)
  obtain ⟨hP1, hD1⟩ := hB
  rw [ht] at hP1
  have hwr : ∀ (k : Nat) (x : Nat × va_E), wr[k]? = some x → (wr ++ [(q0, e0)])[k]? = some x ∧ k < wr.length := fun k x h => by
    have h1 := (List.getElem?_eq_some_iff.mp h).1
    rw [List.getElem?_append_left h1]
    exact ⟨h, h1⟩
  have hap : ∀ (k : Nat) (x : Nat × va_E), wr[k]? = some x → x.1 < H.size ∧ ¬ va_A [(q0, e0)] H.size x.1 := fun k x h => by
    obtain ⟨h1, h2⟩ := hwr k x h
    have h3 := (hP k x h1).lt
    refine ⟨h3, fun z => ?_⟩
    rcases z with ⟨k2, e2, z⟩ | z
    · have hk2 : k2 = 0 := by
        have := (List.getElem?_eq_some_iff.mp z).1
        simp at this
        omega
      subst hk2
      have z1 : (q0, e0) = (x.1, e2) := Option.some.inj z
      have z2 : x.1 = q0 := (congrArg Prod.fst z1).symm
      have := hD.1 k wr.length x (q0, e0) h1 hl z2
      omega
    · omega
  refine kk u H1 locs1 ?_ ?_ hS1
  · refine va_P.app (fun k x h => ?_) hP1
    obtain ⟨g1, g2⟩ := hap k x h
    exact (hP k x (hwr k x h).1).kept (hk1 x.1 g1 g2)
  · refine va_D.app ⟨fun i j a b ha hb => hD.1 i j a b (hwr i a ha).1 (hwr j b hb).1, fun k x h => hD.2 k x (hwr k x h).1⟩ (hD1.weaken (fun k x _ h => hF x.1 h)) (fun i j a b ha hb hab => ?_)
    exact (hap i a ha).2 (by rw [hab]; exact hD1.2 j b hb)
theorem n_pre {S : Type} {d' mc ms : Nat} {q0 : Nat} {e0 : va_E} {As : List Value} (hn : n_At p s m args c own cc nL D τ) (hP : va_P D m_cl (wr ++ [(q0, e0)]) H) : PreS s H (n_Pc D τ q0 e0 As H.size) (.ref q0 :: As) := by
  have hl : (wr ++ [(q0, e0)])[wr.length]? = some (q0, e0) := by rw [List.getElem?_append_right (Nat.le_refl _), Nat.sub_self]; rfl
  refine ⟨n_blind, fun U hU hW => ⟨rfl, by rw [hU], fun k x h => ?_, va_K.moved hW.alike hn.2.2.2.2.2.1, ⟨fun i j a b ha hb _ => ?_, fun _ _ _ => trivial⟩, n_warm hW hn.2.2.2.2.2.2⟩⟩
  · have hk : k = 0 := by
      have := (List.getElem?_eq_some_iff.mp h).1
      simp at this
      omega
    subst hk
    cases h
    rw [hU]
    exact hP _ _ hl
  · have h1 := (List.getElem?_eq_some_iff.mp ha).1
    have h2 := (List.getElem?_eq_some_iff.mp hb).1
    simp at h1 h2
    omega
theorem n_initN (hn : n_At p s m args c own cc nL D τ) (hA : ∀ q, s.heap.size ≤ q → A q) {S : Type} {d' mc ms idx nL' n : Nat} {y : MethodName} {cc' : ByteArray} {host : String} {q0 : Nat} {e0 : va_E} {As : List Value} {Wn : (FieldType → ClassId) → Nat → S → va_W} (hP : va_P D m_cl (wr ++ [(q0, e0)]) H) (hD : va_D A (wr ++ [(q0, e0)])) (hS : va_S A s.heap H locs) (hM : NCon d' mc ms y cc' nL' e0 As Wn) (hlink : Cond.methodLinkNest own idx y host ∈ m_N) (hini : Cond.initialized y.cls ∈ m_T) (hcode : Cond.code y cc' nL' none ∈ m_T) (hinst : Cond.instanceMethod y ∈ m_T) (hyn : y.name = "<init>") (hy : y.cls ≠ "java/lang/invoke/MethodHandle" ∧ y.cls ≠ "java/lang/invoke/VarHandle" ∧ (parseMethodDescriptor y.desc).map (fun d => d.parameters.length) = some n) (hR : d' + 1 ≤ R.frames ∧ 8 + (nL' + 11) + (40 * d' + 20) ≤ R.locals) (hAs : As.length = n) (hsz : ls.size = nL) (hrm : (rest.map fun v => v.category).sum ≤ 8) (hdg : decode cc pc = .ok (.invokespecial idx, 3)) (hf : cells + mc ≤ R.cells ∧ slots + ms ≤ R.slots)
    (kk : ∀ (u : S) (H1 : Heap) (locs1 : List Loc), va_P D m_cl (wr ++ Wn τ q0 u) H1 → va_D A (wr ++ Wn τ q0 u) → va_S A s.heap H1 locs1 → W p l e R s m args below meth c H1 locs1 (cells + mc) (slots + ms) Q (F0 m (pc + 3) ls rest)) : W p l e R s m args below meth c H locs cells slots Q (F0 m pc ls (As.reverse ++ .ref q0 :: rest)) := by
  obtain ⟨hx, hb, hml, hown, hts, hK, hN2⟩ := id hn
  exact n_fin (d' := d') (y := y) hA hP hD hS (va_runIN (host := host) (As := As) (rest := rest) ⟨hx, hb, hml, hown, hts⟩ (hM l D τ q0 H.size) ⟨va_cnB n hts (m_goodIn hcode) rfl rfl rfl (hN2 _ hlink) (hts _ hini) hy hR, hyn, hts _ hinst⟩ (n_pre (S := S) (d' := d') (mc := mc) (ms := ms) hn hP) rfl hAs hsz rfl (lv_room hrm) hdg hf) kk
theorem n_initI (hn : n_At p s m args c own cc nL D τ) (hA : ∀ q, s.heap.size ≤ q → A q) {S : Type} {d' mc ms idx nL' n : Nat} {y : MethodName} {cc' : ByteArray} {q0 : Nat} {e0 : va_E} {As : List Value} {Wn : (FieldType → ClassId) → Nat → S → va_W} (hP : va_P D m_cl (wr ++ [(q0, e0)]) H) (hD : va_D A (wr ++ [(q0, e0)])) (hS : va_S A s.heap H locs) (hM : NCon d' mc ms y cc' nL' e0 As Wn) (hlink : Cond.methodLink own idx y ∈ m_T) (hini : Cond.initialized y.cls ∈ m_T) (hcode : Cond.code y cc' nL' none ∈ m_T) (hinst : Cond.instanceMethod y ∈ m_T) (hyn : y.name = "<init>") (hy : y.cls ≠ "java/lang/invoke/MethodHandle" ∧ y.cls ≠ "java/lang/invoke/VarHandle" ∧ (parseMethodDescriptor y.desc).map (fun d => d.parameters.length) = some n) (hR : d' + 1 ≤ R.frames ∧ 8 + (nL' + 11) + (40 * d' + 20) ≤ R.locals) (hAs : As.length = n) (hsz : ls.size = nL) (hrm : (rest.map fun v => v.category).sum ≤ 8) (hdg : decode cc pc = .ok (.invokespecial idx, 3)) (hf : cells + mc ≤ R.cells ∧ slots + ms ≤ R.slots)
    (kk : ∀ (u : S) (H1 : Heap) (locs1 : List Loc), va_P D m_cl (wr ++ Wn τ q0 u) H1 → va_D A (wr ++ Wn τ q0 u) → va_S A s.heap H1 locs1 → W p l e R s m args below meth c H1 locs1 (cells + mc) (slots + ms) Q (F0 m (pc + 3) ls rest)) : W p l e R s m args below meth c H locs cells slots Q (F0 m pc ls (As.reverse ++ .ref q0 :: rest)) := by
  obtain ⟨hx, hb, hml, hown, hts, hK, hN2⟩ := id hn
  exact n_fin (d' := d') (y := y) hA hP hD hS (va_runI (As := As) (rest := rest) ⟨hx, hb, hml, hown, hts⟩ (hM l D τ q0 H.size) (cwI n hts (m_goodIn hcode) rfl rfl rfl (hts _ hini) (hts _ hlink) (hts _ hinst) hyn hy hR) (n_pre (S := S) (d' := d') (mc := mc) (ms := ms) hn hP) rfl hAs hsz rfl (lv_room hrm) hdg hf) kk
end NR
