/-! THE STATE: ids 0 .. 45 the class's object and all below it, 46 .. 76 the reference's, 77 the law's row of one long. A: int arrays (and the boolean one), L: long arrays, I: whole fields by object and place, X: the one long field of an object -/
def hK (i : Nat) : Nat := (if i < 64 then (if i < 32 then (if i < 16 then (if i < 8 then (if i < 4 then (if i < 2 then 4 else (if i < 3 then 1 else 4)) else (if i < 6 then 4 else 1)) else (if i < 12 then (if i < 10 then 4 else (if i < 11 then 1 else 4)) else 1)) else (if i < 24 then (if i < 20 then (if i < 18 then (if i < 17 then 4 else 1) else (if i < 19 then 1 else 4)) else (if i < 22 then 1 else (if i < 23 then 4 else 1))) else (if i < 28 then (if i < 26 then (if i < 25 then 1 else 4) else (if i < 27 then 1 else 4)) else (if i < 30 then (if i < 29 then 4 else 1) else 1)))) else (if i < 48 then (if i < 40 then (if i < 36 then (if i < 34 then (if i < 33 then 1 else 2) else 4) else 1) else (if i < 44 then 1 else (if i < 46 then (if i < 45 then 4 else 1) else (if i < 47 then 4 else 1)))) else 1)) else (if i < 96 then (if i < 80 then (if i < 72 then 1 else (if i < 76 then (if i < 74 then (if i < 73 then 1 else 3) else (if i < 75 then 1 else 2)) else (if i < 78 then (if i < 77 then 1 else 2) else 0))) else 0) else 0))
def hN (i : Nat) : Nat := (if i < 64 then (if i < 32 then (if i < 16 then (if i < 8 then (if i < 4 then (if i < 2 then 0 else (if i < 3 then 240 else 0)) else (if i < 6 then 0 else (if i < 7 then 143 else 8))) else (if i < 12 then (if i < 10 then 0 else (if i < 11 then 240 else 0)) else (if i < 14 then (if i < 13 then 960 else 4) else (if i < 15 then 6 else 64)))) else (if i < 24 then (if i < 20 then (if i < 18 then (if i < 17 then 0 else 143) else (if i < 19 then 8 else 0)) else (if i < 22 then (if i < 21 then 143 else 8) else (if i < 23 then 0 else 143))) else (if i < 28 then (if i < 26 then (if i < 25 then 8 else 0) else (if i < 27 then 5720 else 0)) else (if i < 30 then (if i < 29 then 0 else 143) else (if i < 31 then 8 else 19))))) else (if i < 48 then (if i < 40 then (if i < 36 then (if i < 34 then (if i < 33 then 19 else 31) else 0) else (if i < 38 then (if i < 37 then 143 else 8) else 10)) else (if i < 44 then (if i < 42 then (if i < 41 then 10 else 369) else (if i < 43 then 9 else 8)) else (if i < 46 then (if i < 45 then 0 else 5) else (if i < 47 then 0 else 240)))) else (if i < 56 then (if i < 52 then (if i < 50 then 2600 else 5) else (if i < 54 then 700 else (if i < 55 then 700 else 6))) else (if i < 60 then (if i < 58 then (if i < 57 then 80 else 4) else (if i < 59 then 40 else 15)) else (if i < 62 then (if i < 61 then 4 else 40) else (if i < 63 then 15 else 284)))))) else (if i < 96 then (if i < 80 then (if i < 72 then (if i < 68 then (if i < 66 then (if i < 65 then 5 else 8) else (if i < 67 then 11360 else 43)) else (if i < 70 then (if i < 69 then 3 else 19) else (if i < 71 then 19 else 10))) else (if i < 76 then (if i < 74 then 10 else (if i < 75 then 410 else 31)) else (if i < 78 then (if i < 77 then 284 else 1) else 0))) else 0) else 0))
def hC (i : Nat) : Nat := (if i < 64 then (if i < 32 then (if i < 16 then (if i < 8 then (if i < 4 then (if i < 2 then (if i < 1 then 10 else 8) else (if i < 3 then 0 else 6)) else (if i < 6 then (if i < 5 then 1 else 7) else 0)) else (if i < 12 then (if i < 10 then (if i < 9 then 4 else 1) else (if i < 11 then 0 else 5)) else 0)) else (if i < 24 then (if i < 20 then (if i < 18 then (if i < 17 then 7 else 0) else (if i < 19 then 0 else 7)) else (if i < 22 then 0 else (if i < 23 then 7 else 0))) else (if i < 28 then (if i < 26 then 0 else (if i < 27 then 0 else 3)) else (if i < 30 then (if i < 29 then 7 else 0) else 0)))) else (if i < 48 then (if i < 40 then (if i < 36 then (if i < 34 then 0 else (if i < 35 then 9 else 7)) else 0) else (if i < 44 then 0 else (if i < 46 then (if i < 45 then 2 else 0) else (if i < 47 then 11 else 0)))) else 0)) else 0)
def hT (i : Nat) : List Nat := (if i < 64 then (if i < 32 then (if i < 16 then (if i < 8 then (if i < 4 then (if i < 2 then (if i < 1 then [3, 5, 10, 13, 18, 21, 24, 27, 29, 36, 46, 47, 0, 0, 0, 0] else [4, 0]) else (if i < 3 then [] else [6, 7, 0])) else (if i < 6 then (if i < 5 then [3, 0, 0] else [8, 9]) else [])) else (if i < 12 then (if i < 10 then (if i < 9 then [11, 12, 0] else [3, 0, 0]) else (if i < 11 then [] else [14, 15, 16, 17, 0, 0, 0])) else [])) else (if i < 24 then (if i < 20 then (if i < 18 then (if i < 17 then [19, 20] else []) else (if i < 19 then [] else [22, 23])) else (if i < 22 then [] else (if i < 23 then [25, 26] else []))) else (if i < 28 then (if i < 26 then (if i < 25 then [] else [28, 0, 0]) else (if i < 27 then [] else [21, 13, 30, 33, 34, 35, 0, 0])) else (if i < 30 then (if i < 29 then [31, 32] else []) else [])))) else (if i < 48 then (if i < 40 then (if i < 36 then (if i < 34 then [] else (if i < 35 then [18, 13, 37, 40, 41, 42, 43, 44, 45, 0] else [38, 39])) else []) else (if i < 44 then [] else (if i < 46 then (if i < 45 then [1] else []) else (if i < 47 then [0, 49, 0, 0, 0, 0, 50, 51, 52, 53, 54, 55, 56, 0, 0, 57, 58, 59, 60, 61, 0, 0, 62, 63, 64, 0, 0, 65, 66, 0, 0, 0, 67, 0, 68, 0, 1, 69, 70, 0, 0, 71, 72, 73, 74, 75, 0, 76, 77, 78, 0] else [])))) else [])) else [])
def hF (I : Nat → Nat → Int32) (X : Nat → Int64) (i : Nat) : List Nat → Nat → List Value
  | [], _ => []
  | 0 :: t, k => .int (I i k) :: hF I X i t (k + 1)
  | 1 :: t, k => .long (X i) :: hF I X i t (k + 1)
  | (r + 2) :: t, k => .ref r :: hF I X i t (k + 1)
def hp (A : Nat → Nat → Int32) (L : Nat → Nat → Int64) (I : Nat → Nat → Int32) (X : Nat → Int64) : m_H := fun i => match hK i with
  | 1 => ia (hN i) (A i)
  | 2 => la (hN i) (L i)
  | 3 => za (hN i) (A i)
  | 4 => ob (hC i) (hF I X i (hT i) 0)
  | _ => m_junk
def up {σ : Type} (A : Nat → σ) (i : Nat) (f : σ) : Nat → σ := fun j => if j = i then f else A j
def up2 {σ : Type} (I : Nat → Nat → σ) (i k : Nat) (v : σ) : Nat → Nat → σ := fun j l => if j = i ∧ l = k then v else I j l
theorem up_at {σ : Type} {A : Nat → σ} {i : Nat} {f : σ} : up A i f i = f := if_pos rfl
theorem up_ne {σ : Type} {A : Nat → σ} {i j : Nat} {f : σ} (h : j ≠ i) : up A i f j = A j := if_neg h
theorem up2_at {σ : Type} {I : Nat → Nat → σ} {i k : Nat} {v : σ} : up2 I i k v i k = v := if_pos ⟨rfl, rfl⟩
theorem up_self {σ : Type} {A : Nat → σ} {i : Nat} : up A i (A i) = A := by
  funext j; unfold up; split
  · rename_i h; rw [h]
  · rfl
theorem up_up {σ : Type} {A : Nat → σ} {i : Nat} {f g : σ} : up (up A i f) i g = up A i g := by
  funext j; unfold up; split <;> rfl
theorem up2_up2 {σ : Type} {I : Nat → Nat → σ} {i k : Nat} {v w : σ} : up2 (up2 I i k v) i k w = up2 I i k w := by
  funext j l; unfold up2; split <;> rfl
theorem up2_self {σ : Type} {I : Nat → Nat → σ} {i k : Nat} : up2 I i k (I i k) = I := by
  funext j l; unfold up2; split
  · rename_i h; rw [h.1, h.2]
  · rfl
section HP
variable {A : Nat → Nat → Int32} {L : Nat → Nat → Int64} {I : Nat → Nat → Int32} {X : Nat → Int64}
theorem hp_ia {i : Nat} (h : hK i = 1) : hp A L I X i = ia (hN i) (A i) := by unfold hp; rw [h]; rfl
theorem hp_setA {i : Nat} {f : Nat → Int32} (h : hK i = 1) : m_set (hp A L I X) i (ia (hN i) f) = hp (up A i f) L I X := by
  funext j
  by_cases hj : j = i
  · subst hj; rw [m_set_at, hp_ia h, up_at]
  · rw [m_set_ne hj]; unfold hp; rw [up_ne hj]
theorem hp_setZ {i : Nat} {f : Nat → Int32} (h : hK i = 3) : m_set (hp A L I X) i (za (hN i) f) = hp (up A i f) L I X := by
  funext j
  by_cases hj : j = i
  · subst hj; rw [m_set_at]; unfold hp; rw [h, up_at]; rfl
  · rw [m_set_ne hj]; unfold hp; rw [up_ne hj]
theorem hp_setL {i : Nat} {f : Nat → Int64} (h : hK i = 2) : m_set (hp A L I X) i (la (hN i) f) = hp A (up L i f) I X := by
  funext j
  by_cases hj : j = i
  · subst hj; rw [m_set_at]; unfold hp; rw [h, up_at]; rfl
  · rw [m_set_ne hj]; unfold hp; rw [up_ne hj]
theorem hF_set {i : Nat} {v : Int32} : ∀ (t : List Nat) (k l : Nat), t[l]? = some 0 → (hF I X i t k).set l (.int v) = hF (up2 I i (k + l) v) X i t k
  | [], k, l, h => by cases h
  | 0 :: t, k, 0, h => by
    have e : ∀ (t : List Nat) (m : Nat), k < m → hF I X i t m = hF (up2 I i k v) X i t m := by
      intro t
      induction t with
      | nil => intro m _; rfl
      | cons a t ih =>
        intro m hm
        match a with
        | 0 =>
          show Value.int (I i m) :: hF I X i t (m + 1) = Value.int (up2 I i k v i m) :: hF (up2 I i k v) X i t (m + 1)
          rw [ih (m + 1) (by omega)]
          have e2 : up2 I i k v i m = I i m := if_neg (fun z => by omega)
          rw [e2]
        | 1 => show _ :: _ = _ :: _; rw [ih (m + 1) (by omega)]
        | r + 2 => show _ :: _ = _ :: _; rw [ih (m + 1) (by omega)]
    show Value.int v :: hF I X i t (k + 1) = Value.int (up2 I i (k + 0) v i k) :: hF (up2 I i (k + 0) v) X i t (k + 1)
    have e3 : up2 I i (k + 0) v i k = v := up2_at
    rw [e3]
    show _ = Value.int v :: hF (up2 I i k v) X i t (k + 1)
    rw [← e t (k + 1) (Nat.lt_succ_self k)]
  | a :: t, k, l + 1, h => by
    have ih := hF_set (i := i) (v := v) t (k + 1) l h
    rw [show k + 1 + l = k + (l + 1) by omega] at ih
    match a with
    | 0 =>
      show Value.int (I i k) :: (hF I X i t (k + 1)).set l (.int v) = Value.int (up2 I i (k + (l + 1)) v i k) :: hF (up2 I i (k + (l + 1)) v) X i t (k + 1)
      have e2 : up2 I i (k + (l + 1)) v i k = I i k := if_neg (fun z => by omega)
      rw [ih, e2]
    | 1 => show _ :: _ = _ :: _; rw [ih]
    | r + 2 => show _ :: _ = _ :: _; rw [ih]
theorem hp_setI {i l : Nat} {v : Int32} (h : hK i = 4) (hl : (hT i)[l]? = some 0) : m_set (hp A L I X) i (ob (hC i) ((hF I X i (hT i) 0).set l (.int v))) = hp A L (up2 I i l v) X := by
  funext j
  by_cases hj : j = i
  · subst hj; rw [m_set_at]; unfold hp; rw [h, hF_set _ _ _ hl, Nat.zero_add]; rfl
  · rw [m_set_ne hj]; unfold hp
    have e : ∀ (t : List Nat) (m : Nat), hF I X j t m = hF (up2 I i l v) X j t m := by
      intro t
      induction t with
      | nil => intro m; rfl
      | cons a t ih =>
        intro m
        match a with
        | 0 =>
          show Value.int (I j m) :: hF I X j t (m + 1) = Value.int (up2 I i l v j m) :: hF (up2 I i l v) X j t (m + 1)
          have e2 : up2 I i l v j m = I j m := if_neg (fun z => hj z.1)
          rw [ih, e2]
        | 1 => show _ :: _ = _ :: _; rw [ih]
        | r + 2 => show _ :: _ = _ :: _; rw [ih]
    rw [e]
theorem hF_X {i : Nat} {Y : Nat → Int64} (h : Y i = X i) : ∀ (t : List Nat) (m : Nat), hF I X i t m = hF I Y i t m := by
  intro t
  induction t with
  | nil => intro m; rfl
  | cons a t ih =>
    intro m
    match a with
    | 0 => show _ :: _ = _ :: _; rw [ih]
    | 1 => show Value.long (X i) :: _ = Value.long (Y i) :: _; rw [ih, h]
    | r + 2 => show _ :: _ = _ :: _; rw [ih]
theorem hp_setX {i : Nat} {v : Int64} {fs : List Value} (h : hK i = 4) (hfs : fs = hF I (up X i v) i (hT i) 0) : m_set (hp A L I X) i (ob (hC i) fs) = hp A L I (up X i v) := by
  funext j
  by_cases hj : j = i
  · subst hj; rw [m_set_at]; unfold hp; rw [h, hfs]; rfl
  · rw [m_set_ne hj]; unfold hp; rw [hF_X (up_ne hj)]

theorem hp_0 : hp A L I X 0 = ob 10 [.ref 1, .ref 3, .ref 8, .ref 11, .ref 16, .ref 19, .ref 22, .ref 25, .ref 27, .ref 34, .ref 44, .ref 45, .int (I 0 12), .int (I 0 13), .int (I 0 14), .int (I 0 15)] := rfl
theorem hq_0_12 {v : Int32} : m_set (hp A L I X) 0 (ob 10 (List.set [.ref 1, .ref 3, .ref 8, .ref 11, .ref 16, .ref 19, .ref 22, .ref 25, .ref 27, .ref 34, .ref 44, .ref 45, .int (I 0 12), .int (I 0 13), .int (I 0 14), .int (I 0 15)] 12 (.int v))) = hp A L (up2 I 0 12 v) X := hp_setI (i := 0) (l := 12) rfl rfl
theorem hq_0_13 {v : Int32} : m_set (hp A L I X) 0 (ob 10 (List.set [.ref 1, .ref 3, .ref 8, .ref 11, .ref 16, .ref 19, .ref 22, .ref 25, .ref 27, .ref 34, .ref 44, .ref 45, .int (I 0 12), .int (I 0 13), .int (I 0 14), .int (I 0 15)] 13 (.int v))) = hp A L (up2 I 0 13 v) X := hp_setI (i := 0) (l := 13) rfl rfl
theorem hq_0_14 {v : Int32} : m_set (hp A L I X) 0 (ob 10 (List.set [.ref 1, .ref 3, .ref 8, .ref 11, .ref 16, .ref 19, .ref 22, .ref 25, .ref 27, .ref 34, .ref 44, .ref 45, .int (I 0 12), .int (I 0 13), .int (I 0 14), .int (I 0 15)] 14 (.int v))) = hp A L (up2 I 0 14 v) X := hp_setI (i := 0) (l := 14) rfl rfl
theorem hq_0_15 {v : Int32} : m_set (hp A L I X) 0 (ob 10 (List.set [.ref 1, .ref 3, .ref 8, .ref 11, .ref 16, .ref 19, .ref 22, .ref 25, .ref 27, .ref 34, .ref 44, .ref 45, .int (I 0 12), .int (I 0 13), .int (I 0 14), .int (I 0 15)] 15 (.int v))) = hp A L (up2 I 0 15 v) X := hp_setI (i := 0) (l := 15) rfl rfl
theorem hp_1 : hp A L I X 1 = ob 8 [.ref 2, .int (I 1 1)] := rfl
theorem hq_1_1 {v : Int32} : m_set (hp A L I X) 1 (ob 8 (List.set [.ref 2, .int (I 1 1)] 1 (.int v))) = hp A L (up2 I 1 1 v) X := hp_setI (i := 1) (l := 1) rfl rfl
theorem hp_3 : hp A L I X 3 = ob 6 [.ref 4, .ref 5, .int (I 3 2)] := rfl
theorem hq_3_2 {v : Int32} : m_set (hp A L I X) 3 (ob 6 (List.set [.ref 4, .ref 5, .int (I 3 2)] 2 (.int v))) = hp A L (up2 I 3 2 v) X := hp_setI (i := 3) (l := 2) rfl rfl
theorem hp_4 : hp A L I X 4 = ob 1 [.ref 1, .int (I 4 1), .int (I 4 2)] := rfl
theorem hq_4_1 {v : Int32} : m_set (hp A L I X) 4 (ob 1 (List.set [.ref 1, .int (I 4 1), .int (I 4 2)] 1 (.int v))) = hp A L (up2 I 4 1 v) X := hp_setI (i := 4) (l := 1) rfl rfl
theorem hq_4_2 {v : Int32} : m_set (hp A L I X) 4 (ob 1 (List.set [.ref 1, .int (I 4 1), .int (I 4 2)] 2 (.int v))) = hp A L (up2 I 4 2 v) X := hp_setI (i := 4) (l := 2) rfl rfl
theorem hp_5 : hp A L I X 5 = ob 7 [.ref 6, .ref 7] := rfl
theorem hp_8 : hp A L I X 8 = ob 4 [.ref 9, .ref 10, .int (I 8 2)] := rfl
theorem hq_8_2 {v : Int32} : m_set (hp A L I X) 8 (ob 4 (List.set [.ref 9, .ref 10, .int (I 8 2)] 2 (.int v))) = hp A L (up2 I 8 2 v) X := hp_setI (i := 8) (l := 2) rfl rfl
theorem hp_9 : hp A L I X 9 = ob 1 [.ref 1, .int (I 9 1), .int (I 9 2)] := rfl
theorem hq_9_1 {v : Int32} : m_set (hp A L I X) 9 (ob 1 (List.set [.ref 1, .int (I 9 1), .int (I 9 2)] 1 (.int v))) = hp A L (up2 I 9 1 v) X := hp_setI (i := 9) (l := 1) rfl rfl
theorem hq_9_2 {v : Int32} : m_set (hp A L I X) 9 (ob 1 (List.set [.ref 1, .int (I 9 1), .int (I 9 2)] 2 (.int v))) = hp A L (up2 I 9 2 v) X := hp_setI (i := 9) (l := 2) rfl rfl
theorem hp_11 : hp A L I X 11 = ob 5 [.ref 12, .ref 13, .ref 14, .ref 15, .int (I 11 4), .int (I 11 5), .int (I 11 6)] := rfl
theorem hq_11_4 {v : Int32} : m_set (hp A L I X) 11 (ob 5 (List.set [.ref 12, .ref 13, .ref 14, .ref 15, .int (I 11 4), .int (I 11 5), .int (I 11 6)] 4 (.int v))) = hp A L (up2 I 11 4 v) X := hp_setI (i := 11) (l := 4) rfl rfl
theorem hq_11_5 {v : Int32} : m_set (hp A L I X) 11 (ob 5 (List.set [.ref 12, .ref 13, .ref 14, .ref 15, .int (I 11 4), .int (I 11 5), .int (I 11 6)] 5 (.int v))) = hp A L (up2 I 11 5 v) X := hp_setI (i := 11) (l := 5) rfl rfl
theorem hq_11_6 {v : Int32} : m_set (hp A L I X) 11 (ob 5 (List.set [.ref 12, .ref 13, .ref 14, .ref 15, .int (I 11 4), .int (I 11 5), .int (I 11 6)] 6 (.int v))) = hp A L (up2 I 11 6 v) X := hp_setI (i := 11) (l := 6) rfl rfl
theorem hp_16 : hp A L I X 16 = ob 7 [.ref 17, .ref 18] := rfl
theorem hp_19 : hp A L I X 19 = ob 7 [.ref 20, .ref 21] := rfl
theorem hp_22 : hp A L I X 22 = ob 7 [.ref 23, .ref 24] := rfl
theorem hp_25 : hp A L I X 25 = ob 0 [.ref 26, .int (I 25 1), .int (I 25 2)] := rfl
theorem hq_25_1 {v : Int32} : m_set (hp A L I X) 25 (ob 0 (List.set [.ref 26, .int (I 25 1), .int (I 25 2)] 1 (.int v))) = hp A L (up2 I 25 1 v) X := hp_setI (i := 25) (l := 1) rfl rfl
theorem hq_25_2 {v : Int32} : m_set (hp A L I X) 25 (ob 0 (List.set [.ref 26, .int (I 25 1), .int (I 25 2)] 2 (.int v))) = hp A L (up2 I 25 2 v) X := hp_setI (i := 25) (l := 2) rfl rfl
theorem hp_27 : hp A L I X 27 = ob 3 [.ref 19, .ref 11, .ref 28, .ref 31, .ref 32, .ref 33, .int (I 27 6), .int (I 27 7)] := rfl
theorem hq_27_6 {v : Int32} : m_set (hp A L I X) 27 (ob 3 (List.set [.ref 19, .ref 11, .ref 28, .ref 31, .ref 32, .ref 33, .int (I 27 6), .int (I 27 7)] 6 (.int v))) = hp A L (up2 I 27 6 v) X := hp_setI (i := 27) (l := 6) rfl rfl
theorem hq_27_7 {v : Int32} : m_set (hp A L I X) 27 (ob 3 (List.set [.ref 19, .ref 11, .ref 28, .ref 31, .ref 32, .ref 33, .int (I 27 6), .int (I 27 7)] 7 (.int v))) = hp A L (up2 I 27 7 v) X := hp_setI (i := 27) (l := 7) rfl rfl
theorem hp_28 : hp A L I X 28 = ob 7 [.ref 29, .ref 30] := rfl
theorem hp_34 : hp A L I X 34 = ob 9 [.ref 16, .ref 11, .ref 35, .ref 38, .ref 39, .ref 40, .ref 41, .ref 42, .ref 43, .int (I 34 9)] := rfl
theorem hq_34_9 {v : Int32} : m_set (hp A L I X) 34 (ob 9 (List.set [.ref 16, .ref 11, .ref 35, .ref 38, .ref 39, .ref 40, .ref 41, .ref 42, .ref 43, .int (I 34 9)] 9 (.int v))) = hp A L (up2 I 34 9 v) X := hp_setI (i := 34) (l := 9) rfl rfl
theorem hp_35 : hp A L I X 35 = ob 7 [.ref 36, .ref 37] := rfl
theorem hp_44 : hp A L I X 44 = ob 2 [.long (X 44)] := rfl
theorem hq_44_0 {v : Int64} : m_set (hp A L I X) 44 (ob 2 (List.set [.long (X 44)] 0 (.long v))) = hp A L I (up X 44 v) := hp_setX (i := 44) rfl rfl
theorem hp_46 : hp A L I X 46 = ob 11 [.int (I 46 0), .ref 47, .int (I 46 2), .int (I 46 3), .int (I 46 4), .int (I 46 5), .ref 48, .ref 49, .ref 50, .ref 51, .ref 52, .ref 53, .ref 54, .int (I 46 13), .int (I 46 14), .ref 55, .ref 56, .ref 57, .ref 58, .ref 59, .int (I 46 20), .int (I 46 21), .ref 60, .ref 61, .ref 62, .int (I 46 25), .int (I 46 26), .ref 63, .ref 64, .int (I 46 29), .int (I 46 30), .int (I 46 31), .ref 65, .int (I 46 33), .ref 66, .int (I 46 35), .long (X 46), .ref 67, .ref 68, .int (I 46 39), .int (I 46 40), .ref 69, .ref 70, .ref 71, .ref 72, .ref 73, .int (I 46 46), .ref 74, .ref 75, .ref 76, .int (I 46 50)] := rfl
theorem hq_46_0 {v : Int32} : m_set (hp A L I X) 46 (ob 11 (List.set [.int (I 46 0), .ref 47, .int (I 46 2), .int (I 46 3), .int (I 46 4), .int (I 46 5), .ref 48, .ref 49, .ref 50, .ref 51, .ref 52, .ref 53, .ref 54, .int (I 46 13), .int (I 46 14), .ref 55, .ref 56, .ref 57, .ref 58, .ref 59, .int (I 46 20), .int (I 46 21), .ref 60, .ref 61, .ref 62, .int (I 46 25), .int (I 46 26), .ref 63, .ref 64, .int (I 46 29), .int (I 46 30), .int (I 46 31), .ref 65, .int (I 46 33), .ref 66, .int (I 46 35), .long (X 46), .ref 67, .ref 68, .int (I 46 39), .int (I 46 40), .ref 69, .ref 70, .ref 71, .ref 72, .ref 73, .int (I 46 46), .ref 74, .ref 75, .ref 76, .int (I 46 50)] 0 (.int v))) = hp A L (up2 I 46 0 v) X := hp_setI (i := 46) (l := 0) rfl rfl
theorem hq_46_2 {v : Int32} : m_set (hp A L I X) 46 (ob 11 (List.set [.int (I 46 0), .ref 47, .int (I 46 2), .int (I 46 3), .int (I 46 4), .int (I 46 5), .ref 48, .ref 49, .ref 50, .ref 51, .ref 52, .ref 53, .ref 54, .int (I 46 13), .int (I 46 14), .ref 55, .ref 56, .ref 57, .ref 58, .ref 59, .int (I 46 20), .int (I 46 21), .ref 60, .ref 61, .ref 62, .int (I 46 25), .int (I 46 26), .ref 63, .ref 64, .int (I 46 29), .int (I 46 30), .int (I 46 31), .ref 65, .int (I 46 33), .ref 66, .int (I 46 35), .long (X 46), .ref 67, .ref 68, .int (I 46 39), .int (I 46 40), .ref 69, .ref 70, .ref 71, .ref 72, .ref 73, .int (I 46 46), .ref 74, .ref 75, .ref 76, .int (I 46 50)] 2 (.int v))) = hp A L (up2 I 46 2 v) X := hp_setI (i := 46) (l := 2) rfl rfl
theorem hq_46_3 {v : Int32} : m_set (hp A L I X) 46 (ob 11 (List.set [.int (I 46 0), .ref 47, .int (I 46 2), .int (I 46 3), .int (I 46 4), .int (I 46 5), .ref 48, .ref 49, .ref 50, .ref 51, .ref 52, .ref 53, .ref 54, .int (I 46 13), .int (I 46 14), .ref 55, .ref 56, .ref 57, .ref 58, .ref 59, .int (I 46 20), .int (I 46 21), .ref 60, .ref 61, .ref 62, .int (I 46 25), .int (I 46 26), .ref 63, .ref 64, .int (I 46 29), .int (I 46 30), .int (I 46 31), .ref 65, .int (I 46 33), .ref 66, .int (I 46 35), .long (X 46), .ref 67, .ref 68, .int (I 46 39), .int (I 46 40), .ref 69, .ref 70, .ref 71, .ref 72, .ref 73, .int (I 46 46), .ref 74, .ref 75, .ref 76, .int (I 46 50)] 3 (.int v))) = hp A L (up2 I 46 3 v) X := hp_setI (i := 46) (l := 3) rfl rfl
theorem hq_46_4 {v : Int32} : m_set (hp A L I X) 46 (ob 11 (List.set [.int (I 46 0), .ref 47, .int (I 46 2), .int (I 46 3), .int (I 46 4), .int (I 46 5), .ref 48, .ref 49, .ref 50, .ref 51, .ref 52, .ref 53, .ref 54, .int (I 46 13), .int (I 46 14), .ref 55, .ref 56, .ref 57, .ref 58, .ref 59, .int (I 46 20), .int (I 46 21), .ref 60, .ref 61, .ref 62, .int (I 46 25), .int (I 46 26), .ref 63, .ref 64, .int (I 46 29), .int (I 46 30), .int (I 46 31), .ref 65, .int (I 46 33), .ref 66, .int (I 46 35), .long (X 46), .ref 67, .ref 68, .int (I 46 39), .int (I 46 40), .ref 69, .ref 70, .ref 71, .ref 72, .ref 73, .int (I 46 46), .ref 74, .ref 75, .ref 76, .int (I 46 50)] 4 (.int v))) = hp A L (up2 I 46 4 v) X := hp_setI (i := 46) (l := 4) rfl rfl
theorem hq_46_5 {v : Int32} : m_set (hp A L I X) 46 (ob 11 (List.set [.int (I 46 0), .ref 47, .int (I 46 2), .int (I 46 3), .int (I 46 4), .int (I 46 5), .ref 48, .ref 49, .ref 50, .ref 51, .ref 52, .ref 53, .ref 54, .int (I 46 13), .int (I 46 14), .ref 55, .ref 56, .ref 57, .ref 58, .ref 59, .int (I 46 20), .int (I 46 21), .ref 60, .ref 61, .ref 62, .int (I 46 25), .int (I 46 26), .ref 63, .ref 64, .int (I 46 29), .int (I 46 30), .int (I 46 31), .ref 65, .int (I 46 33), .ref 66, .int (I 46 35), .long (X 46), .ref 67, .ref 68, .int (I 46 39), .int (I 46 40), .ref 69, .ref 70, .ref 71, .ref 72, .ref 73, .int (I 46 46), .ref 74, .ref 75, .ref 76, .int (I 46 50)] 5 (.int v))) = hp A L (up2 I 46 5 v) X := hp_setI (i := 46) (l := 5) rfl rfl
theorem hq_46_13 {v : Int32} : m_set (hp A L I X) 46 (ob 11 (List.set [.int (I 46 0), .ref 47, .int (I 46 2), .int (I 46 3), .int (I 46 4), .int (I 46 5), .ref 48, .ref 49, .ref 50, .ref 51, .ref 52, .ref 53, .ref 54, .int (I 46 13), .int (I 46 14), .ref 55, .ref 56, .ref 57, .ref 58, .ref 59, .int (I 46 20), .int (I 46 21), .ref 60, .ref 61, .ref 62, .int (I 46 25), .int (I 46 26), .ref 63, .ref 64, .int (I 46 29), .int (I 46 30), .int (I 46 31), .ref 65, .int (I 46 33), .ref 66, .int (I 46 35), .long (X 46), .ref 67, .ref 68, .int (I 46 39), .int (I 46 40), .ref 69, .ref 70, .ref 71, .ref 72, .ref 73, .int (I 46 46), .ref 74, .ref 75, .ref 76, .int (I 46 50)] 13 (.int v))) = hp A L (up2 I 46 13 v) X := hp_setI (i := 46) (l := 13) rfl rfl
theorem hq_46_14 {v : Int32} : m_set (hp A L I X) 46 (ob 11 (List.set [.int (I 46 0), .ref 47, .int (I 46 2), .int (I 46 3), .int (I 46 4), .int (I 46 5), .ref 48, .ref 49, .ref 50, .ref 51, .ref 52, .ref 53, .ref 54, .int (I 46 13), .int (I 46 14), .ref 55, .ref 56, .ref 57, .ref 58, .ref 59, .int (I 46 20), .int (I 46 21), .ref 60, .ref 61, .ref 62, .int (I 46 25), .int (I 46 26), .ref 63, .ref 64, .int (I 46 29), .int (I 46 30), .int (I 46 31), .ref 65, .int (I 46 33), .ref 66, .int (I 46 35), .long (X 46), .ref 67, .ref 68, .int (I 46 39), .int (I 46 40), .ref 69, .ref 70, .ref 71, .ref 72, .ref 73, .int (I 46 46), .ref 74, .ref 75, .ref 76, .int (I 46 50)] 14 (.int v))) = hp A L (up2 I 46 14 v) X := hp_setI (i := 46) (l := 14) rfl rfl
theorem hq_46_20 {v : Int32} : m_set (hp A L I X) 46 (ob 11 (List.set [.int (I 46 0), .ref 47, .int (I 46 2), .int (I 46 3), .int (I 46 4), .int (I 46 5), .ref 48, .ref 49, .ref 50, .ref 51, .ref 52, .ref 53, .ref 54, .int (I 46 13), .int (I 46 14), .ref 55, .ref 56, .ref 57, .ref 58, .ref 59, .int (I 46 20), .int (I 46 21), .ref 60, .ref 61, .ref 62, .int (I 46 25), .int (I 46 26), .ref 63, .ref 64, .int (I 46 29), .int (I 46 30), .int (I 46 31), .ref 65, .int (I 46 33), .ref 66, .int (I 46 35), .long (X 46), .ref 67, .ref 68, .int (I 46 39), .int (I 46 40), .ref 69, .ref 70, .ref 71, .ref 72, .ref 73, .int (I 46 46), .ref 74, .ref 75, .ref 76, .int (I 46 50)] 20 (.int v))) = hp A L (up2 I 46 20 v) X := hp_setI (i := 46) (l := 20) rfl rfl
theorem hq_46_21 {v : Int32} : m_set (hp A L I X) 46 (ob 11 (List.set [.int (I 46 0), .ref 47, .int (I 46 2), .int (I 46 3), .int (I 46 4), .int (I 46 5), .ref 48, .ref 49, .ref 50, .ref 51, .ref 52, .ref 53, .ref 54, .int (I 46 13), .int (I 46 14), .ref 55, .ref 56, .ref 57, .ref 58, .ref 59, .int (I 46 20), .int (I 46 21), .ref 60, .ref 61, .ref 62, .int (I 46 25), .int (I 46 26), .ref 63, .ref 64, .int (I 46 29), .int (I 46 30), .int (I 46 31), .ref 65, .int (I 46 33), .ref 66, .int (I 46 35), .long (X 46), .ref 67, .ref 68, .int (I 46 39), .int (I 46 40), .ref 69, .ref 70, .ref 71, .ref 72, .ref 73, .int (I 46 46), .ref 74, .ref 75, .ref 76, .int (I 46 50)] 21 (.int v))) = hp A L (up2 I 46 21 v) X := hp_setI (i := 46) (l := 21) rfl rfl
theorem hq_46_25 {v : Int32} : m_set (hp A L I X) 46 (ob 11 (List.set [.int (I 46 0), .ref 47, .int (I 46 2), .int (I 46 3), .int (I 46 4), .int (I 46 5), .ref 48, .ref 49, .ref 50, .ref 51, .ref 52, .ref 53, .ref 54, .int (I 46 13), .int (I 46 14), .ref 55, .ref 56, .ref 57, .ref 58, .ref 59, .int (I 46 20), .int (I 46 21), .ref 60, .ref 61, .ref 62, .int (I 46 25), .int (I 46 26), .ref 63, .ref 64, .int (I 46 29), .int (I 46 30), .int (I 46 31), .ref 65, .int (I 46 33), .ref 66, .int (I 46 35), .long (X 46), .ref 67, .ref 68, .int (I 46 39), .int (I 46 40), .ref 69, .ref 70, .ref 71, .ref 72, .ref 73, .int (I 46 46), .ref 74, .ref 75, .ref 76, .int (I 46 50)] 25 (.int v))) = hp A L (up2 I 46 25 v) X := hp_setI (i := 46) (l := 25) rfl rfl
theorem hq_46_26 {v : Int32} : m_set (hp A L I X) 46 (ob 11 (List.set [.int (I 46 0), .ref 47, .int (I 46 2), .int (I 46 3), .int (I 46 4), .int (I 46 5), .ref 48, .ref 49, .ref 50, .ref 51, .ref 52, .ref 53, .ref 54, .int (I 46 13), .int (I 46 14), .ref 55, .ref 56, .ref 57, .ref 58, .ref 59, .int (I 46 20), .int (I 46 21), .ref 60, .ref 61, .ref 62, .int (I 46 25), .int (I 46 26), .ref 63, .ref 64, .int (I 46 29), .int (I 46 30), .int (I 46 31), .ref 65, .int (I 46 33), .ref 66, .int (I 46 35), .long (X 46), .ref 67, .ref 68, .int (I 46 39), .int (I 46 40), .ref 69, .ref 70, .ref 71, .ref 72, .ref 73, .int (I 46 46), .ref 74, .ref 75, .ref 76, .int (I 46 50)] 26 (.int v))) = hp A L (up2 I 46 26 v) X := hp_setI (i := 46) (l := 26) rfl rfl
theorem hq_46_29 {v : Int32} : m_set (hp A L I X) 46 (ob 11 (List.set [.int (I 46 0), .ref 47, .int (I 46 2), .int (I 46 3), .int (I 46 4), .int (I 46 5), .ref 48, .ref 49, .ref 50, .ref 51, .ref 52, .ref 53, .ref 54, .int (I 46 13), .int (I 46 14), .ref 55, .ref 56, .ref 57, .ref 58, .ref 59, .int (I 46 20), .int (I 46 21), .ref 60, .ref 61, .ref 62, .int (I 46 25), .int (I 46 26), .ref 63, .ref 64, .int (I 46 29), .int (I 46 30), .int (I 46 31), .ref 65, .int (I 46 33), .ref 66, .int (I 46 35), .long (X 46), .ref 67, .ref 68, .int (I 46 39), .int (I 46 40), .ref 69, .ref 70, .ref 71, .ref 72, .ref 73, .int (I 46 46), .ref 74, .ref 75, .ref 76, .int (I 46 50)] 29 (.int v))) = hp A L (up2 I 46 29 v) X := hp_setI (i := 46) (l := 29) rfl rfl
theorem hq_46_30 {v : Int32} : m_set (hp A L I X) 46 (ob 11 (List.set [.int (I 46 0), .ref 47, .int (I 46 2), .int (I 46 3), .int (I 46 4), .int (I 46 5), .ref 48, .ref 49, .ref 50, .ref 51, .ref 52, .ref 53, .ref 54, .int (I 46 13), .int (I 46 14), .ref 55, .ref 56, .ref 57, .ref 58, .ref 59, .int (I 46 20), .int (I 46 21), .ref 60, .ref 61, .ref 62, .int (I 46 25), .int (I 46 26), .ref 63, .ref 64, .int (I 46 29), .int (I 46 30), .int (I 46 31), .ref 65, .int (I 46 33), .ref 66, .int (I 46 35), .long (X 46), .ref 67, .ref 68, .int (I 46 39), .int (I 46 40), .ref 69, .ref 70, .ref 71, .ref 72, .ref 73, .int (I 46 46), .ref 74, .ref 75, .ref 76, .int (I 46 50)] 30 (.int v))) = hp A L (up2 I 46 30 v) X := hp_setI (i := 46) (l := 30) rfl rfl
theorem hq_46_31 {v : Int32} : m_set (hp A L I X) 46 (ob 11 (List.set [.int (I 46 0), .ref 47, .int (I 46 2), .int (I 46 3), .int (I 46 4), .int (I 46 5), .ref 48, .ref 49, .ref 50, .ref 51, .ref 52, .ref 53, .ref 54, .int (I 46 13), .int (I 46 14), .ref 55, .ref 56, .ref 57, .ref 58, .ref 59, .int (I 46 20), .int (I 46 21), .ref 60, .ref 61, .ref 62, .int (I 46 25), .int (I 46 26), .ref 63, .ref 64, .int (I 46 29), .int (I 46 30), .int (I 46 31), .ref 65, .int (I 46 33), .ref 66, .int (I 46 35), .long (X 46), .ref 67, .ref 68, .int (I 46 39), .int (I 46 40), .ref 69, .ref 70, .ref 71, .ref 72, .ref 73, .int (I 46 46), .ref 74, .ref 75, .ref 76, .int (I 46 50)] 31 (.int v))) = hp A L (up2 I 46 31 v) X := hp_setI (i := 46) (l := 31) rfl rfl
theorem hq_46_33 {v : Int32} : m_set (hp A L I X) 46 (ob 11 (List.set [.int (I 46 0), .ref 47, .int (I 46 2), .int (I 46 3), .int (I 46 4), .int (I 46 5), .ref 48, .ref 49, .ref 50, .ref 51, .ref 52, .ref 53, .ref 54, .int (I 46 13), .int (I 46 14), .ref 55, .ref 56, .ref 57, .ref 58, .ref 59, .int (I 46 20), .int (I 46 21), .ref 60, .ref 61, .ref 62, .int (I 46 25), .int (I 46 26), .ref 63, .ref 64, .int (I 46 29), .int (I 46 30), .int (I 46 31), .ref 65, .int (I 46 33), .ref 66, .int (I 46 35), .long (X 46), .ref 67, .ref 68, .int (I 46 39), .int (I 46 40), .ref 69, .ref 70, .ref 71, .ref 72, .ref 73, .int (I 46 46), .ref 74, .ref 75, .ref 76, .int (I 46 50)] 33 (.int v))) = hp A L (up2 I 46 33 v) X := hp_setI (i := 46) (l := 33) rfl rfl
theorem hq_46_35 {v : Int32} : m_set (hp A L I X) 46 (ob 11 (List.set [.int (I 46 0), .ref 47, .int (I 46 2), .int (I 46 3), .int (I 46 4), .int (I 46 5), .ref 48, .ref 49, .ref 50, .ref 51, .ref 52, .ref 53, .ref 54, .int (I 46 13), .int (I 46 14), .ref 55, .ref 56, .ref 57, .ref 58, .ref 59, .int (I 46 20), .int (I 46 21), .ref 60, .ref 61, .ref 62, .int (I 46 25), .int (I 46 26), .ref 63, .ref 64, .int (I 46 29), .int (I 46 30), .int (I 46 31), .ref 65, .int (I 46 33), .ref 66, .int (I 46 35), .long (X 46), .ref 67, .ref 68, .int (I 46 39), .int (I 46 40), .ref 69, .ref 70, .ref 71, .ref 72, .ref 73, .int (I 46 46), .ref 74, .ref 75, .ref 76, .int (I 46 50)] 35 (.int v))) = hp A L (up2 I 46 35 v) X := hp_setI (i := 46) (l := 35) rfl rfl
theorem hq_46_36 {v : Int64} : m_set (hp A L I X) 46 (ob 11 (List.set [.int (I 46 0), .ref 47, .int (I 46 2), .int (I 46 3), .int (I 46 4), .int (I 46 5), .ref 48, .ref 49, .ref 50, .ref 51, .ref 52, .ref 53, .ref 54, .int (I 46 13), .int (I 46 14), .ref 55, .ref 56, .ref 57, .ref 58, .ref 59, .int (I 46 20), .int (I 46 21), .ref 60, .ref 61, .ref 62, .int (I 46 25), .int (I 46 26), .ref 63, .ref 64, .int (I 46 29), .int (I 46 30), .int (I 46 31), .ref 65, .int (I 46 33), .ref 66, .int (I 46 35), .long (X 46), .ref 67, .ref 68, .int (I 46 39), .int (I 46 40), .ref 69, .ref 70, .ref 71, .ref 72, .ref 73, .int (I 46 46), .ref 74, .ref 75, .ref 76, .int (I 46 50)] 36 (.long v))) = hp A L I (up X 46 v) := hp_setX (i := 46) rfl rfl
theorem hq_46_39 {v : Int32} : m_set (hp A L I X) 46 (ob 11 (List.set [.int (I 46 0), .ref 47, .int (I 46 2), .int (I 46 3), .int (I 46 4), .int (I 46 5), .ref 48, .ref 49, .ref 50, .ref 51, .ref 52, .ref 53, .ref 54, .int (I 46 13), .int (I 46 14), .ref 55, .ref 56, .ref 57, .ref 58, .ref 59, .int (I 46 20), .int (I 46 21), .ref 60, .ref 61, .ref 62, .int (I 46 25), .int (I 46 26), .ref 63, .ref 64, .int (I 46 29), .int (I 46 30), .int (I 46 31), .ref 65, .int (I 46 33), .ref 66, .int (I 46 35), .long (X 46), .ref 67, .ref 68, .int (I 46 39), .int (I 46 40), .ref 69, .ref 70, .ref 71, .ref 72, .ref 73, .int (I 46 46), .ref 74, .ref 75, .ref 76, .int (I 46 50)] 39 (.int v))) = hp A L (up2 I 46 39 v) X := hp_setI (i := 46) (l := 39) rfl rfl
theorem hq_46_40 {v : Int32} : m_set (hp A L I X) 46 (ob 11 (List.set [.int (I 46 0), .ref 47, .int (I 46 2), .int (I 46 3), .int (I 46 4), .int (I 46 5), .ref 48, .ref 49, .ref 50, .ref 51, .ref 52, .ref 53, .ref 54, .int (I 46 13), .int (I 46 14), .ref 55, .ref 56, .ref 57, .ref 58, .ref 59, .int (I 46 20), .int (I 46 21), .ref 60, .ref 61, .ref 62, .int (I 46 25), .int (I 46 26), .ref 63, .ref 64, .int (I 46 29), .int (I 46 30), .int (I 46 31), .ref 65, .int (I 46 33), .ref 66, .int (I 46 35), .long (X 46), .ref 67, .ref 68, .int (I 46 39), .int (I 46 40), .ref 69, .ref 70, .ref 71, .ref 72, .ref 73, .int (I 46 46), .ref 74, .ref 75, .ref 76, .int (I 46 50)] 40 (.int v))) = hp A L (up2 I 46 40 v) X := hp_setI (i := 46) (l := 40) rfl rfl
theorem hq_46_46 {v : Int32} : m_set (hp A L I X) 46 (ob 11 (List.set [.int (I 46 0), .ref 47, .int (I 46 2), .int (I 46 3), .int (I 46 4), .int (I 46 5), .ref 48, .ref 49, .ref 50, .ref 51, .ref 52, .ref 53, .ref 54, .int (I 46 13), .int (I 46 14), .ref 55, .ref 56, .ref 57, .ref 58, .ref 59, .int (I 46 20), .int (I 46 21), .ref 60, .ref 61, .ref 62, .int (I 46 25), .int (I 46 26), .ref 63, .ref 64, .int (I 46 29), .int (I 46 30), .int (I 46 31), .ref 65, .int (I 46 33), .ref 66, .int (I 46 35), .long (X 46), .ref 67, .ref 68, .int (I 46 39), .int (I 46 40), .ref 69, .ref 70, .ref 71, .ref 72, .ref 73, .int (I 46 46), .ref 74, .ref 75, .ref 76, .int (I 46 50)] 46 (.int v))) = hp A L (up2 I 46 46 v) X := hp_setI (i := 46) (l := 46) rfl rfl
theorem hq_46_50 {v : Int32} : m_set (hp A L I X) 46 (ob 11 (List.set [.int (I 46 0), .ref 47, .int (I 46 2), .int (I 46 3), .int (I 46 4), .int (I 46 5), .ref 48, .ref 49, .ref 50, .ref 51, .ref 52, .ref 53, .ref 54, .int (I 46 13), .int (I 46 14), .ref 55, .ref 56, .ref 57, .ref 58, .ref 59, .int (I 46 20), .int (I 46 21), .ref 60, .ref 61, .ref 62, .int (I 46 25), .int (I 46 26), .ref 63, .ref 64, .int (I 46 29), .int (I 46 30), .int (I 46 31), .ref 65, .int (I 46 33), .ref 66, .int (I 46 35), .long (X 46), .ref 67, .ref 68, .int (I 46 39), .int (I 46 40), .ref 69, .ref 70, .ref 71, .ref 72, .ref 73, .int (I 46 46), .ref 74, .ref 75, .ref 76, .int (I 46 50)] 50 (.int v))) = hp A L (up2 I 46 50 v) X := hp_setI (i := 46) (l := 50) rfl rfl
theorem hp_2 : hp A L I X 2 = ia 240 (A 2) := rfl
theorem hq_2 {f : Nat → Int32} : m_set (hp A L I X) 2 (ia 240 f) = hp (up A 2 f) L I X := hp_setA (i := 2) rfl
theorem ha_2 : m_ar (hp A L I X) 2 = some (240, A 2) := rfl
theorem hp_6 : hp A L I X 6 = ia 143 (A 6) := rfl
theorem hq_6 {f : Nat → Int32} : m_set (hp A L I X) 6 (ia 143 f) = hp (up A 6 f) L I X := hp_setA (i := 6) rfl
theorem ha_6 : m_ar (hp A L I X) 6 = some (143, A 6) := rfl
theorem hp_7 : hp A L I X 7 = ia 8 (A 7) := rfl
theorem hq_7 {f : Nat → Int32} : m_set (hp A L I X) 7 (ia 8 f) = hp (up A 7 f) L I X := hp_setA (i := 7) rfl
theorem ha_7 : m_ar (hp A L I X) 7 = some (8, A 7) := rfl
theorem hp_10 : hp A L I X 10 = ia 240 (A 10) := rfl
theorem hq_10 {f : Nat → Int32} : m_set (hp A L I X) 10 (ia 240 f) = hp (up A 10 f) L I X := hp_setA (i := 10) rfl
theorem ha_10 : m_ar (hp A L I X) 10 = some (240, A 10) := rfl
theorem hp_12 : hp A L I X 12 = ia 960 (A 12) := rfl
theorem hq_12 {f : Nat → Int32} : m_set (hp A L I X) 12 (ia 960 f) = hp (up A 12 f) L I X := hp_setA (i := 12) rfl
theorem ha_12 : m_ar (hp A L I X) 12 = some (960, A 12) := rfl
theorem hp_13 : hp A L I X 13 = ia 4 (A 13) := rfl
theorem hq_13 {f : Nat → Int32} : m_set (hp A L I X) 13 (ia 4 f) = hp (up A 13 f) L I X := hp_setA (i := 13) rfl
theorem ha_13 : m_ar (hp A L I X) 13 = some (4, A 13) := rfl
theorem hp_14 : hp A L I X 14 = ia 6 (A 14) := rfl
theorem hq_14 {f : Nat → Int32} : m_set (hp A L I X) 14 (ia 6 f) = hp (up A 14 f) L I X := hp_setA (i := 14) rfl
theorem ha_14 : m_ar (hp A L I X) 14 = some (6, A 14) := rfl
theorem hp_15 : hp A L I X 15 = ia 64 (A 15) := rfl
theorem hq_15 {f : Nat → Int32} : m_set (hp A L I X) 15 (ia 64 f) = hp (up A 15 f) L I X := hp_setA (i := 15) rfl
theorem ha_15 : m_ar (hp A L I X) 15 = some (64, A 15) := rfl
theorem hp_17 : hp A L I X 17 = ia 143 (A 17) := rfl
theorem hq_17 {f : Nat → Int32} : m_set (hp A L I X) 17 (ia 143 f) = hp (up A 17 f) L I X := hp_setA (i := 17) rfl
theorem ha_17 : m_ar (hp A L I X) 17 = some (143, A 17) := rfl
theorem hp_18 : hp A L I X 18 = ia 8 (A 18) := rfl
theorem hq_18 {f : Nat → Int32} : m_set (hp A L I X) 18 (ia 8 f) = hp (up A 18 f) L I X := hp_setA (i := 18) rfl
theorem ha_18 : m_ar (hp A L I X) 18 = some (8, A 18) := rfl
theorem hp_20 : hp A L I X 20 = ia 143 (A 20) := rfl
theorem hq_20 {f : Nat → Int32} : m_set (hp A L I X) 20 (ia 143 f) = hp (up A 20 f) L I X := hp_setA (i := 20) rfl
theorem ha_20 : m_ar (hp A L I X) 20 = some (143, A 20) := rfl
theorem hp_21 : hp A L I X 21 = ia 8 (A 21) := rfl
theorem hq_21 {f : Nat → Int32} : m_set (hp A L I X) 21 (ia 8 f) = hp (up A 21 f) L I X := hp_setA (i := 21) rfl
theorem ha_21 : m_ar (hp A L I X) 21 = some (8, A 21) := rfl
theorem hp_23 : hp A L I X 23 = ia 143 (A 23) := rfl
theorem hq_23 {f : Nat → Int32} : m_set (hp A L I X) 23 (ia 143 f) = hp (up A 23 f) L I X := hp_setA (i := 23) rfl
theorem ha_23 : m_ar (hp A L I X) 23 = some (143, A 23) := rfl
theorem hp_24 : hp A L I X 24 = ia 8 (A 24) := rfl
theorem hq_24 {f : Nat → Int32} : m_set (hp A L I X) 24 (ia 8 f) = hp (up A 24 f) L I X := hp_setA (i := 24) rfl
theorem ha_24 : m_ar (hp A L I X) 24 = some (8, A 24) := rfl
theorem hp_26 : hp A L I X 26 = ia 5720 (A 26) := rfl
theorem hq_26 {f : Nat → Int32} : m_set (hp A L I X) 26 (ia 5720 f) = hp (up A 26 f) L I X := hp_setA (i := 26) rfl
theorem ha_26 : m_ar (hp A L I X) 26 = some (5720, A 26) := rfl
theorem hp_29 : hp A L I X 29 = ia 143 (A 29) := rfl
theorem hq_29 {f : Nat → Int32} : m_set (hp A L I X) 29 (ia 143 f) = hp (up A 29 f) L I X := hp_setA (i := 29) rfl
theorem ha_29 : m_ar (hp A L I X) 29 = some (143, A 29) := rfl
theorem hp_30 : hp A L I X 30 = ia 8 (A 30) := rfl
theorem hq_30 {f : Nat → Int32} : m_set (hp A L I X) 30 (ia 8 f) = hp (up A 30 f) L I X := hp_setA (i := 30) rfl
theorem ha_30 : m_ar (hp A L I X) 30 = some (8, A 30) := rfl
theorem hp_31 : hp A L I X 31 = ia 19 (A 31) := rfl
theorem hq_31 {f : Nat → Int32} : m_set (hp A L I X) 31 (ia 19 f) = hp (up A 31 f) L I X := hp_setA (i := 31) rfl
theorem ha_31 : m_ar (hp A L I X) 31 = some (19, A 31) := rfl
theorem hp_32 : hp A L I X 32 = ia 19 (A 32) := rfl
theorem hq_32 {f : Nat → Int32} : m_set (hp A L I X) 32 (ia 19 f) = hp (up A 32 f) L I X := hp_setA (i := 32) rfl
theorem ha_32 : m_ar (hp A L I X) 32 = some (19, A 32) := rfl
theorem hp_36 : hp A L I X 36 = ia 143 (A 36) := rfl
theorem hq_36 {f : Nat → Int32} : m_set (hp A L I X) 36 (ia 143 f) = hp (up A 36 f) L I X := hp_setA (i := 36) rfl
theorem ha_36 : m_ar (hp A L I X) 36 = some (143, A 36) := rfl
theorem hp_37 : hp A L I X 37 = ia 8 (A 37) := rfl
theorem hq_37 {f : Nat → Int32} : m_set (hp A L I X) 37 (ia 8 f) = hp (up A 37 f) L I X := hp_setA (i := 37) rfl
theorem ha_37 : m_ar (hp A L I X) 37 = some (8, A 37) := rfl
theorem hp_38 : hp A L I X 38 = ia 10 (A 38) := rfl
theorem hq_38 {f : Nat → Int32} : m_set (hp A L I X) 38 (ia 10 f) = hp (up A 38 f) L I X := hp_setA (i := 38) rfl
theorem ha_38 : m_ar (hp A L I X) 38 = some (10, A 38) := rfl
theorem hp_39 : hp A L I X 39 = ia 10 (A 39) := rfl
theorem hq_39 {f : Nat → Int32} : m_set (hp A L I X) 39 (ia 10 f) = hp (up A 39 f) L I X := hp_setA (i := 39) rfl
theorem ha_39 : m_ar (hp A L I X) 39 = some (10, A 39) := rfl
theorem hp_40 : hp A L I X 40 = ia 10 (A 40) := rfl
theorem hq_40 {f : Nat → Int32} : m_set (hp A L I X) 40 (ia 10 f) = hp (up A 40 f) L I X := hp_setA (i := 40) rfl
theorem ha_40 : m_ar (hp A L I X) 40 = some (10, A 40) := rfl
theorem hp_41 : hp A L I X 41 = ia 369 (A 41) := rfl
theorem hq_41 {f : Nat → Int32} : m_set (hp A L I X) 41 (ia 369 f) = hp (up A 41 f) L I X := hp_setA (i := 41) rfl
theorem ha_41 : m_ar (hp A L I X) 41 = some (369, A 41) := rfl
theorem hp_42 : hp A L I X 42 = ia 9 (A 42) := rfl
theorem hq_42 {f : Nat → Int32} : m_set (hp A L I X) 42 (ia 9 f) = hp (up A 42 f) L I X := hp_setA (i := 42) rfl
theorem ha_42 : m_ar (hp A L I X) 42 = some (9, A 42) := rfl
theorem hp_43 : hp A L I X 43 = ia 8 (A 43) := rfl
theorem hq_43 {f : Nat → Int32} : m_set (hp A L I X) 43 (ia 8 f) = hp (up A 43 f) L I X := hp_setA (i := 43) rfl
theorem ha_43 : m_ar (hp A L I X) 43 = some (8, A 43) := rfl
theorem hp_45 : hp A L I X 45 = ia 5 (A 45) := rfl
theorem hq_45 {f : Nat → Int32} : m_set (hp A L I X) 45 (ia 5 f) = hp (up A 45 f) L I X := hp_setA (i := 45) rfl
theorem ha_45 : m_ar (hp A L I X) 45 = some (5, A 45) := rfl
theorem hp_47 : hp A L I X 47 = ia 240 (A 47) := rfl
theorem hq_47 {f : Nat → Int32} : m_set (hp A L I X) 47 (ia 240 f) = hp (up A 47 f) L I X := hp_setA (i := 47) rfl
theorem ha_47 : m_ar (hp A L I X) 47 = some (240, A 47) := rfl
theorem hp_48 : hp A L I X 48 = ia 2600 (A 48) := rfl
theorem hq_48 {f : Nat → Int32} : m_set (hp A L I X) 48 (ia 2600 f) = hp (up A 48 f) L I X := hp_setA (i := 48) rfl
theorem ha_48 : m_ar (hp A L I X) 48 = some (2600, A 48) := rfl
theorem hp_49 : hp A L I X 49 = ia 2600 (A 49) := rfl
theorem hq_49 {f : Nat → Int32} : m_set (hp A L I X) 49 (ia 2600 f) = hp (up A 49 f) L I X := hp_setA (i := 49) rfl
theorem ha_49 : m_ar (hp A L I X) 49 = some (2600, A 49) := rfl
theorem hp_50 : hp A L I X 50 = ia 5 (A 50) := rfl
theorem hq_50 {f : Nat → Int32} : m_set (hp A L I X) 50 (ia 5 f) = hp (up A 50 f) L I X := hp_setA (i := 50) rfl
theorem ha_50 : m_ar (hp A L I X) 50 = some (5, A 50) := rfl
theorem hp_51 : hp A L I X 51 = ia 5 (A 51) := rfl
theorem hq_51 {f : Nat → Int32} : m_set (hp A L I X) 51 (ia 5 f) = hp (up A 51 f) L I X := hp_setA (i := 51) rfl
theorem ha_51 : m_ar (hp A L I X) 51 = some (5, A 51) := rfl
theorem hp_52 : hp A L I X 52 = ia 700 (A 52) := rfl
theorem hq_52 {f : Nat → Int32} : m_set (hp A L I X) 52 (ia 700 f) = hp (up A 52 f) L I X := hp_setA (i := 52) rfl
theorem ha_52 : m_ar (hp A L I X) 52 = some (700, A 52) := rfl
theorem hp_53 : hp A L I X 53 = ia 700 (A 53) := rfl
theorem hq_53 {f : Nat → Int32} : m_set (hp A L I X) 53 (ia 700 f) = hp (up A 53 f) L I X := hp_setA (i := 53) rfl
theorem ha_53 : m_ar (hp A L I X) 53 = some (700, A 53) := rfl
theorem hp_54 : hp A L I X 54 = ia 700 (A 54) := rfl
theorem hq_54 {f : Nat → Int32} : m_set (hp A L I X) 54 (ia 700 f) = hp (up A 54 f) L I X := hp_setA (i := 54) rfl
theorem ha_54 : m_ar (hp A L I X) 54 = some (700, A 54) := rfl
theorem hp_55 : hp A L I X 55 = ia 6 (A 55) := rfl
theorem hq_55 {f : Nat → Int32} : m_set (hp A L I X) 55 (ia 6 f) = hp (up A 55 f) L I X := hp_setA (i := 55) rfl
theorem ha_55 : m_ar (hp A L I X) 55 = some (6, A 55) := rfl
theorem hp_56 : hp A L I X 56 = ia 80 (A 56) := rfl
theorem hq_56 {f : Nat → Int32} : m_set (hp A L I X) 56 (ia 80 f) = hp (up A 56 f) L I X := hp_setA (i := 56) rfl
theorem ha_56 : m_ar (hp A L I X) 56 = some (80, A 56) := rfl
theorem hp_57 : hp A L I X 57 = ia 4 (A 57) := rfl
theorem hq_57 {f : Nat → Int32} : m_set (hp A L I X) 57 (ia 4 f) = hp (up A 57 f) L I X := hp_setA (i := 57) rfl
theorem ha_57 : m_ar (hp A L I X) 57 = some (4, A 57) := rfl
theorem hp_58 : hp A L I X 58 = ia 40 (A 58) := rfl
theorem hq_58 {f : Nat → Int32} : m_set (hp A L I X) 58 (ia 40 f) = hp (up A 58 f) L I X := hp_setA (i := 58) rfl
theorem ha_58 : m_ar (hp A L I X) 58 = some (40, A 58) := rfl
theorem hp_59 : hp A L I X 59 = ia 15 (A 59) := rfl
theorem hq_59 {f : Nat → Int32} : m_set (hp A L I X) 59 (ia 15 f) = hp (up A 59 f) L I X := hp_setA (i := 59) rfl
theorem ha_59 : m_ar (hp A L I X) 59 = some (15, A 59) := rfl
theorem hp_60 : hp A L I X 60 = ia 4 (A 60) := rfl
theorem hq_60 {f : Nat → Int32} : m_set (hp A L I X) 60 (ia 4 f) = hp (up A 60 f) L I X := hp_setA (i := 60) rfl
theorem ha_60 : m_ar (hp A L I X) 60 = some (4, A 60) := rfl
theorem hp_61 : hp A L I X 61 = ia 40 (A 61) := rfl
theorem hq_61 {f : Nat → Int32} : m_set (hp A L I X) 61 (ia 40 f) = hp (up A 61 f) L I X := hp_setA (i := 61) rfl
theorem ha_61 : m_ar (hp A L I X) 61 = some (40, A 61) := rfl
theorem hp_62 : hp A L I X 62 = ia 15 (A 62) := rfl
theorem hq_62 {f : Nat → Int32} : m_set (hp A L I X) 62 (ia 15 f) = hp (up A 62 f) L I X := hp_setA (i := 62) rfl
theorem ha_62 : m_ar (hp A L I X) 62 = some (15, A 62) := rfl
theorem hp_63 : hp A L I X 63 = ia 284 (A 63) := rfl
theorem hq_63 {f : Nat → Int32} : m_set (hp A L I X) 63 (ia 284 f) = hp (up A 63 f) L I X := hp_setA (i := 63) rfl
theorem ha_63 : m_ar (hp A L I X) 63 = some (284, A 63) := rfl
theorem hp_64 : hp A L I X 64 = ia 5 (A 64) := rfl
theorem hq_64 {f : Nat → Int32} : m_set (hp A L I X) 64 (ia 5 f) = hp (up A 64 f) L I X := hp_setA (i := 64) rfl
theorem ha_64 : m_ar (hp A L I X) 64 = some (5, A 64) := rfl
theorem hp_65 : hp A L I X 65 = ia 8 (A 65) := rfl
theorem hq_65 {f : Nat → Int32} : m_set (hp A L I X) 65 (ia 8 f) = hp (up A 65 f) L I X := hp_setA (i := 65) rfl
theorem ha_65 : m_ar (hp A L I X) 65 = some (8, A 65) := rfl
theorem hp_66 : hp A L I X 66 = ia 11360 (A 66) := rfl
theorem hq_66 {f : Nat → Int32} : m_set (hp A L I X) 66 (ia 11360 f) = hp (up A 66 f) L I X := hp_setA (i := 66) rfl
theorem ha_66 : m_ar (hp A L I X) 66 = some (11360, A 66) := rfl
theorem hp_67 : hp A L I X 67 = ia 43 (A 67) := rfl
theorem hq_67 {f : Nat → Int32} : m_set (hp A L I X) 67 (ia 43 f) = hp (up A 67 f) L I X := hp_setA (i := 67) rfl
theorem ha_67 : m_ar (hp A L I X) 67 = some (43, A 67) := rfl
theorem hp_68 : hp A L I X 68 = ia 3 (A 68) := rfl
theorem hq_68 {f : Nat → Int32} : m_set (hp A L I X) 68 (ia 3 f) = hp (up A 68 f) L I X := hp_setA (i := 68) rfl
theorem ha_68 : m_ar (hp A L I X) 68 = some (3, A 68) := rfl
theorem hp_69 : hp A L I X 69 = ia 19 (A 69) := rfl
theorem hq_69 {f : Nat → Int32} : m_set (hp A L I X) 69 (ia 19 f) = hp (up A 69 f) L I X := hp_setA (i := 69) rfl
theorem ha_69 : m_ar (hp A L I X) 69 = some (19, A 69) := rfl
theorem hp_70 : hp A L I X 70 = ia 19 (A 70) := rfl
theorem hq_70 {f : Nat → Int32} : m_set (hp A L I X) 70 (ia 19 f) = hp (up A 70 f) L I X := hp_setA (i := 70) rfl
theorem ha_70 : m_ar (hp A L I X) 70 = some (19, A 70) := rfl
theorem hp_71 : hp A L I X 71 = ia 10 (A 71) := rfl
theorem hq_71 {f : Nat → Int32} : m_set (hp A L I X) 71 (ia 10 f) = hp (up A 71 f) L I X := hp_setA (i := 71) rfl
theorem ha_71 : m_ar (hp A L I X) 71 = some (10, A 71) := rfl
theorem hp_72 : hp A L I X 72 = ia 10 (A 72) := rfl
theorem hq_72 {f : Nat → Int32} : m_set (hp A L I X) 72 (ia 10 f) = hp (up A 72 f) L I X := hp_setA (i := 72) rfl
theorem ha_72 : m_ar (hp A L I X) 72 = some (10, A 72) := rfl
theorem hp_74 : hp A L I X 74 = ia 410 (A 74) := rfl
theorem hq_74 {f : Nat → Int32} : m_set (hp A L I X) 74 (ia 410 f) = hp (up A 74 f) L I X := hp_setA (i := 74) rfl
theorem ha_74 : m_ar (hp A L I X) 74 = some (410, A 74) := rfl
theorem hp_76 : hp A L I X 76 = ia 284 (A 76) := rfl
theorem hq_76 {f : Nat → Int32} : m_set (hp A L I X) 76 (ia 284 f) = hp (up A 76 f) L I X := hp_setA (i := 76) rfl
theorem ha_76 : m_ar (hp A L I X) 76 = some (284, A 76) := rfl
theorem hp_33 : hp A L I X 33 = la 31 (L 33) := rfl
theorem hq_33 {f : Nat → Int64} : m_set (hp A L I X) 33 (la 31 f) = hp A (up L 33 f) I X := hp_setL (i := 33) rfl
theorem hp_75 : hp A L I X 75 = la 31 (L 75) := rfl
theorem hq_75 {f : Nat → Int64} : m_set (hp A L I X) 75 (la 31 f) = hp A (up L 75 f) I X := hp_setL (i := 75) rfl
theorem hp_77 : hp A L I X 77 = la 1 (L 77) := rfl
theorem hq_77 {f : Nat → Int64} : m_set (hp A L I X) 77 (la 1 f) = hp A (up L 77 f) I X := hp_setL (i := 77) rfl
theorem hp_73 : hp A L I X 73 = za 10 (A 73) := rfl
theorem hq_73 {f : Nat → Int32} : m_set (hp A L I X) 73 (za 10 f) = hp (up A 73 f) L I X := hp_setZ (i := 73) rfl
/-- the six seasons -/
def isS (q r c : Nat) : Prop := (q = 5 ∧ r = 6 ∧ c = 7) ∨ (q = 16 ∧ r = 17 ∧ c = 18) ∨ (q = 19 ∧ r = 20 ∧ c = 21) ∨ (q = 22 ∧ r = 23 ∧ c = 24) ∨ (q = 28 ∧ r = 29 ∧ c = 30) ∨ (q = 35 ∧ r = 36 ∧ c = 37)
theorem isS_k {q r c : Nat} (h : isS q r c) : sK (hp A L I X) q r c := by
  rcases h with ⟨rfl, rfl, rfl⟩ | ⟨rfl, rfl, rfl⟩ | ⟨rfl, rfl, rfl⟩ | ⟨rfl, rfl, rfl⟩ | ⟨rfl, rfl, rfl⟩ | ⟨rfl, rfl, rfl⟩ <;> exact ⟨rfl, by decide, by decide, by decide, by decide, by decide⟩
theorem isS_q {q r c : Nat} (h : isS q r c) : hp A L I X q = ob 7 [.ref r, .ref c] := (isS_k h).1
theorem isS_r {q r c : Nat} (h : isS q r c) : hp A L I X r = ia 143 (A r) := by
  rcases h with ⟨rfl, rfl, rfl⟩ | ⟨rfl, rfl, rfl⟩ | ⟨rfl, rfl, rfl⟩ | ⟨rfl, rfl, rfl⟩ | ⟨rfl, rfl, rfl⟩ | ⟨rfl, rfl, rfl⟩ <;> rfl
theorem isS_c {q r c : Nat} (h : isS q r c) : hp A L I X c = ia 8 (A c) := by
  rcases h with ⟨rfl, rfl, rfl⟩ | ⟨rfl, rfl, rfl⟩ | ⟨rfl, rfl, rfl⟩ | ⟨rfl, rfl, rfl⟩ | ⟨rfl, rfl, rfl⟩ | ⟨rfl, rfl, rfl⟩ <;> rfl
/-- a season's row and days, told anew -/
def upS (A : Nat → Nat → Int32) (r c : Nat) (f g : Nat → Int32) : Nat → Nat → Int32 := up (up A r f) c g
theorem isS_in {q r c : Nat} (h : isS q r c) : sH (hp A L I X) r c (A r) (A c) = hp A L I X := sH_self (isS_r h) (isS_c h)
theorem isS_out {q r c : Nat} {f g : Nat → Int32} (h : isS q r c) : sH (hp A L I X) r c f g = hp (upS A r c f g) L I X := by
  unfold sH upS
  rcases h with ⟨rfl, rfl, rfl⟩ | ⟨rfl, rfl, rfl⟩ | ⟨rfl, rfl, rfl⟩ | ⟨rfl, rfl, rfl⟩ | ⟨rfl, rfl, rfl⟩ | ⟨rfl, rfl, rfl⟩
  · rw [hq_6, hq_7]
  · rw [hq_17, hq_18]
  · rw [hq_20, hq_21]
  · rw [hq_23, hq_24]
  · rw [hq_29, hq_30]
  · rw [hq_36, hq_37]
theorem upS_r {r c : Nat} {f g : Nat → Int32} (h : r ≠ c) : upS A r c f g r = f := by unfold upS; rw [up_ne h, up_at]
theorem upS_c {r c : Nat} {f g : Nat → Int32} : upS A r c f g c = g := up_at
theorem upS_ne {r c j : Nat} {f g : Nat → Int32} (h : j ≠ r) (h2 : j ≠ c) : upS A r c f g j = A j := by unfold upS; rw [up_ne h2, up_ne h]
theorem upS_upS {r c : Nat} {f g f' g' : Nat → Int32} (h : r ≠ c) : upS (upS A r c f g) r c f' g' = upS A r c f' g' := by
  funext j
  by_cases h2 : j = c
  · subst h2; rw [upS_c, upS_c]
  · by_cases h1 : j = r
    · subst h1; rw [upS_r h, upS_r h]
    · rw [upS_ne h1 h2, upS_ne h1 h2, upS_ne h1 h2]
theorem upS_self {r c : Nat} : upS A r c (A r) (A c) = A := by
  unfold upS
  rw [up_self, up_self]
end HP

theorem h_get {A : Nat → Nat → Int32} {L : Nat → Nat → Int64} {I : Nat → Nat → Int32} {X : Nat → Int64} {q r c : Nat} {i : Int32} (hs : isS q r c) : Con 2 yX7_get cX7_get 2 (some .int) [.ref q, .int i] (hp A L I X) (fun r_ H_ => r_ = some (.int (gt 143 (A r) i)) ∧ H_ = hp A L I X) := by
  have h := s_get (i := i) (f := A r) (g := A c) (isS_k (A := A) (L := L) (I := I) (X := X) hs)
  rw [isS_in hs] at h
  exact h

theorem h_put {A : Nat → Nat → Int32} {L : Nat → Nat → Int64} {I : Nat → Nat → Int32} {X : Nat → Int64} {q r c : Nat} {i v : Int32} (hs : isS q r c) : Con 2 yX7_put cX7_put 3 none [.ref q, .int i, .int v] (hp A L I X) (fun r_ H_ => r_ = none ∧ H_ = hp (upS A r c (pt 143 (A r) i v) (A c)) L I X) := by
  have h := s_put (i := i) (v := v) (f := A r) (g := A c) (isS_k (A := A) (L := L) (I := I) (X := X) hs)
  rw [isS_in hs, isS_out hs] at h
  exact h

theorem h_add {A : Nat → Nat → Int32} {L : Nat → Nat → Int64} {I : Nat → Nat → Int32} {X : Nat → Int64} {q r c : Nat} {i v : Int32} (hs : isS q r c) : Con 2 yX7_add cX7_add 3 none [.ref q, .int i, .int v] (hp A L I X) (fun r_ H_ => r_ = none ∧ H_ = hp (upS A r c (pt 143 (A r) i (gt 143 (A r) i + v)) (A c)) L I X) := by
  have h := s_add (i := i) (v := v) (f := A r) (g := A c) (isS_k (A := A) (L := L) (I := I) (X := X) hs)
  rw [isS_in hs, isS_out hs] at h
  exact h

theorem h_oM {A : Nat → Nat → Int32} {L : Nat → Nat → Int64} {I : Nat → Nat → Int32} {X : Nat → Int64} {q r c : Nat} {i v : Int32} (hs : isS q r c) : Con 2 yX7_ofMonth cX7_ofMonth 3 (some .int) [.ref q, .int i, .int v] (hp A L I X) (fun r_ H_ => r_ = some (.int (oM (A r) i v)) ∧ H_ = hp A L I X) := by
  have h := s_oM (i := i) (v := v) (f := A r) (g := A c) (isS_k (A := A) (L := L) (I := I) (X := X) hs)
  rw [isS_in hs] at h
  exact h

theorem h_oC {A : Nat → Nat → Int32} {L : Nat → Nat → Int64} {I : Nat → Nat → Int32} {X : Nat → Int64} {q r c : Nat} {i v : Int32} (hs : isS q r c) : Con 2 yX7_ofCrop cX7_ofCrop 3 (some .int) [.ref q, .int i, .int v] (hp A L I X) (fun r_ H_ => r_ = some (.int (oC (A r) i v)) ∧ H_ = hp A L I X) := by
  have h := s_oC (i := i) (v := v) (f := A r) (g := A c) (isS_k (A := A) (L := L) (I := I) (X := X) hs)
  rw [isS_in hs] at h
  exact h

theorem h_grease {A : Nat → Nat → Int32} {L : Nat → Nat → Int64} {I : Nat → Nat → Int32} {X : Nat → Int64} {q r c : Nat} {i v : Int32} (hs : isS q r c) : Con 3 yX7_greaseMonth cX7_greaseMonth 3 none [.ref q, .int i, .int v] (hp A L I X) (fun r_ H_ => r_ = none ∧ H_ = hp (upS A r c (gsM (A r) i v) (A c)) L I X) := by
  have h := s_grease (i := i) (v := v) (f := A r) (g := A c) (isS_k (A := A) (L := L) (I := I) (X := X) hs)
  rw [isS_in hs, isS_out hs] at h
  exact h

theorem h_chip {A : Nat → Nat → Int32} {L : Nat → Nat → Int64} {I : Nat → Nat → Int32} {X : Nat → Int64} {q r c : Nat} {i : Int32} (hs : isS q r c) : Con 3 yX7_chipMonth cX7_chipMonth 2 none [.ref q, .int i] (hp A L I X) (fun r_ H_ => r_ = none ∧ H_ = hp (upS A r c (chM (A r) i) (A c)) L I X) := by
  have h := s_chip (i := i) (f := A r) (g := A c) (isS_k (A := A) (L := L) (I := I) (X := X) hs)
  rw [isS_in hs, isS_out hs] at h
  exact h

theorem h_turnRound {A : Nat → Nat → Int32} {L : Nat → Nat → Int64} {I : Nat → Nat → Int32} {X : Nat → Int64} {q r c : Nat}  (hs : isS q r c) : Con 3 yX7_turnRound cX7_turnRound 1 none [.ref q] (hp A L I X) (fun r_ H_ => r_ = none ∧ H_ = hp (upS A r c (trn (A r)) (A c)) L I X) := by
  have h := s_turnRound (f := A r) (g := A c) (isS_k (A := A) (L := L) (I := I) (X := X) hs)
  rw [isS_in hs, isS_out hs] at h
  exact h

theorem h_sow {A : Nat → Nat → Int32} {L : Nat → Nat → Int64} {I : Nat → Nat → Int32} {X : Nat → Int64} {q r c : Nat} {i : Int32} (hs : isS q r c) : Con 3 yX7_sowCrop cX7_sowCrop 2 none [.ref q, .int i] (hp A L I X) (fun r_ H_ => r_ = none ∧ H_ = hp (upS A r c (swC (A r) i) (A c)) L I X) := by
  have h := s_sow (i := i) (f := A r) (g := A c) (isS_k (A := A) (L := L) (I := I) (X := X) hs)
  rw [isS_in hs, isS_out hs] at h
  exact h

theorem h_hasMonth {A : Nat → Nat → Int32} {L : Nat → Nat → Int64} {I : Nat → Nat → Int32} {X : Nat → Int64} {q r c : Nat} {i : Int32} (hs : isS q r c) : Con 3 yX7_hasMonth cX7_hasMonth 2 (some .boolean) [.ref q, .int i] (hp A L I X) (fun r_ H_ => r_ = some (.int (hasM (A r) i)) ∧ H_ = hp A L I X) := by
  have h := s_hasMonth (i := i) (f := A r) (g := A c) (isS_k (A := A) (L := L) (I := I) (X := X) hs)
  rw [isS_in hs] at h
  exact h

theorem h_hasCrop {A : Nat → Nat → Int32} {L : Nat → Nat → Int64} {I : Nat → Nat → Int32} {X : Nat → Int64} {q r c : Nat} {i : Int32} (hs : isS q r c) : Con 3 yX7_hasCrop cX7_hasCrop 2 (some .boolean) [.ref q, .int i] (hp A L I X) (fun r_ H_ => r_ = some (.int (hasC (A r) i)) ∧ H_ = hp A L I X) := by
  have h := s_hasCrop (i := i) (f := A r) (g := A c) (isS_k (A := A) (L := L) (I := I) (X := X) hs)
  rw [isS_in hs] at h
  exact h

theorem h_came {A : Nat → Nat → Int32} {L : Nat → Nat → Int64} {I : Nat → Nat → Int32} {X : Nat → Int64} {q r c : Nat} {i : Int32} (hs : isS q r c) : Con 2 yX7_came cX7_came 2 (some .int) [.ref q, .int i] (hp A L I X) (fun r_ H_ => r_ = some (.int (gt 8 (A c) i)) ∧ H_ = hp A L I X) := by
  have h := s_came (i := i) (f := A r) (g := A c) (isS_k (A := A) (L := L) (I := I) (X := X) hs)
  rw [isS_in hs] at h
  exact h

theorem h_takeDay {A : Nat → Nat → Int32} {L : Nat → Nat → Int64} {I : Nat → Nat → Int32} {X : Nat → Int64} {q r c : Nat}  (hs : isS q r c) : Con 3 yX7_takeDay cX7_takeDay 4 none [.ref q] (hp A L I X) (fun r_ H_ => r_ = none ∧ H_ = hp (upS A r c (tdF (A r)) (tdG (A r) (A c))) L I X) := by
  have h := s_takeDay (f := A r) (g := A c) (isS_k (A := A) (L := L) (I := I) (X := X) hs)
  rw [isS_in hs, isS_out hs] at h
  exact h

theorem h_eatHay {A : Nat → Nat → Int32} {L : Nat → Nat → Int64} {I : Nat → Nat → Int32} {X : Nat → Int64} {q r c : Nat}  (hs : isS q r c) : Con 3 yX7_eatHay cX7_eatHay 2 none [.ref q] (hp A L I X) (fun r_ H_ => r_ = none ∧ H_ = hp (upS A r c (ehF (A r)) (A c)) L I X) := by
  have h := s_eatHay (f := A r) (g := A c) (isS_k (A := A) (L := L) (I := I) (X := X) hs)
  rw [isS_in hs, isS_out hs] at h
  exact h

theorem h_writeLog {A : Nat → Nat → Int32} {L : Nat → Nat → Int64} {I : Nat → Nat → Int32} {X : Nat → Int64} {q r c : Nat} {i v : Int32} (hs : isS q r c) : Con 3 yX7_writeLog cX7_writeLog 4 none [.ref q, .int i, .int v] (hp A L I X) (fun r_ H_ => r_ = none ∧ H_ = hp (upS A r c (wlF (A r) i v) (A c)) L I X) := by
  have h := s_writeLog (p := i) (b := v) (f := A r) (g := A c) (isS_k (A := A) (L := L) (I := I) (X := X) hs)
  rw [isS_in hs, isS_out hs] at h
  exact h

theorem h_logged {A : Nat → Nat → Int32} {L : Nat → Nat → Int64} {I : Nat → Nat → Int32} {X : Nat → Int64} {q r c : Nat} {i v : Int32} (hs : isS q r c) : Con 3 yX7_logged cX7_logged 4 (some .int) [.ref q, .int i, .int v] (hp A L I X) (fun r_ H_ => r_ = some (.int (lgF (A r) i v)) ∧ H_ = hp A L I X) := by
  have h := s_logged (i := i) (w := v) (f := A r) (g := A c) (isS_k (A := A) (L := L) (I := I) (X := X) hs)
  rw [isS_in hs] at h
  exact h

theorem h_clear {A : Nat → Nat → Int32} {L : Nat → Nat → Int64} {I : Nat → Nat → Int32} {X : Nat → Int64} {q r c : Nat}  (hs : isS q r c) : Con 3 yX7_clear cX7_clear 2 none [.ref q] (hp A L I X) (fun r_ H_ => r_ = none ∧ H_ = hp (upS A r c (fun _ => 0) (A c)) L I X) := by
  have h := s_clear (f := A r) (g := A c) (isS_k (A := A) (L := L) (I := I) (X := X) hs)
  rw [isS_in hs, isS_out hs] at h
  exact h

theorem h_become {A : Nat → Nat → Int32} {L : Nat → Nat → Int64} {I : Nat → Nat → Int32} {X : Nat → Int64} {q r c : Nat} {q2 r2 c2 : Nat} (hs : isS q r c) (hs2 : isS q2 r2 c2) (hne : q ≠ q2) : Con 3 yX7_become cX7_become 3 none [.ref q, .ref q2] (hp A L I X) (fun r_ H_ => r_ = none ∧ H_ = hp (upS A r c (A r2) (fun _ => 0)) L I X) := by
  have hd : q2 ≠ r ∧ q2 ≠ c ∧ r2 ≠ r ∧ r2 ≠ c := by
    rcases hs with ⟨rfl, rfl, rfl⟩ | ⟨rfl, rfl, rfl⟩ | ⟨rfl, rfl, rfl⟩ | ⟨rfl, rfl, rfl⟩ | ⟨rfl, rfl, rfl⟩ | ⟨rfl, rfl, rfl⟩ <;> rcases hs2 with ⟨rfl, rfl, rfl⟩ | ⟨rfl, rfl, rfl⟩ | ⟨rfl, rfl, rfl⟩ | ⟨rfl, rfl, rfl⟩ | ⟨rfl, rfl, rfl⟩ | ⟨rfl, rfl, rfl⟩ <;> first | (exact absurd rfl hne) | decide
  have h := s_become (f := A r) (g := A c) (isS_k (A := A) (L := L) (I := I) (X := X) hs) q2 r2 c2 (A r2) (isS_q hs2) (isS_r hs2) hd.1 hd.2.1 hd.2.2.1 hd.2.2.2
  rw [isS_in hs, isS_out hs] at h
  exact h
