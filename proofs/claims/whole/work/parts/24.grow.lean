/-- one crop on one day -/
def grC (mS mR : Int32) (k : Nat) (s : (Nat → Int32) × Int32) : (Nat → Int32) × Int32 :=
  if oC s.1 (nI k) 5 = 0 then
    (let a := mn 999 (oC s.1 (nI k) 3 + mS)
     let b := mn 999 (oC s.1 (nI k) 4 + mR)
     let f2 := pC (pC s.1 (nI k) 3 a) (nI k) 4 b
     if a < oC f2 (nI k) 0 then (f2, s.2) else if b < oC f2 (nI k) 1 then (f2, s.2) else
       (let f3 := pC f2 (nI k) 5 1
        (pt 143 f3 3 (mn 999 (gt 143 f3 3 + oC f3 (nI k) 2)), s.2 ||| (1 <<< (nI k &&& 31)))))
  else s
theorem grC_0 {mS mR : Int32} {k : Nat} {s : (Nat → Int32) × Int32} (h : ¬ oC s.1 (nI k) 5 = 0) : grC mS mR k s = s := if_neg h
def grT (mS mR : Int32) (k : Nat) (f : Nat → Int32) : Nat → Int32 := pC (pC f (nI k) 3 (mn 999 (oC f (nI k) 3 + mS))) (nI k) 4 (mn 999 (oC f (nI k) 4 + mR))
def grU (mS mR : Int32) (k : Nat) (f : Nat → Int32) : Nat → Int32 := pt 143 (pC (grT mS mR k f) (nI k) 5 1) 3 (mn 999 (gt 143 (pC (grT mS mR k f) (nI k) 5 1) 3 + oC (pC (grT mS mR k f) (nI k) 5 1) (nI k) 2))
theorem grC_1 {mS mR : Int32} {k : Nat} {s : (Nat → Int32) × Int32} (h : oC s.1 (nI k) 5 = 0) (h1 : mn 999 (oC s.1 (nI k) 3 + mS) < oC (grT mS mR k s.1) (nI k) 0) : grC mS mR k s = (grT mS mR k s.1, s.2) := (if_pos h).trans (if_pos h1)
theorem grC_2 {mS mR : Int32} {k : Nat} {s : (Nat → Int32) × Int32} (h : oC s.1 (nI k) 5 = 0) (h1 : ¬ mn 999 (oC s.1 (nI k) 3 + mS) < oC (grT mS mR k s.1) (nI k) 0) (h2 : mn 999 (oC s.1 (nI k) 4 + mR) < oC (grT mS mR k s.1) (nI k) 1) : grC mS mR k s = (grT mS mR k s.1, s.2) := (if_pos h).trans ((if_neg h1).trans (if_pos h2))
theorem grC_3 {mS mR : Int32} {k : Nat} {s : (Nat → Int32) × Int32} (h : oC s.1 (nI k) 5 = 0) (h1 : ¬ mn 999 (oC s.1 (nI k) 3 + mS) < oC (grT mS mR k s.1) (nI k) 0) (h2 : ¬ mn 999 (oC s.1 (nI k) 4 + mR) < oC (grT mS mR k s.1) (nI k) 1) : grC mS mR k s = (grU mS mR k s.1, s.2 ||| (1 <<< (nI k &&& 31))) := (if_pos h).trans ((if_neg h1).trans (if_neg h2))
def grS (f : Nat → Int32) (m : Int32) : (Nat → Int32) × Int32 := itn (grC (oM f m 2) (oM f m 3)) (gt 143 f 10).toNatClampNeg (f, 0)

set_option maxHeartbeats 4000000 in
set_option maxRecDepth 100000 in
theorem s_grow_loop {Hp : m_H} {q r c : Nat} {f g : Nat → Int32} {Q : Option Value → m_H → Prop} {m mS mR n0 : Int32} (hk : sK Hp q r c) (hQ : Q (some (.int (itn (grC mS mR) n0.toNatClampNeg (f, 0)).2)) (sH Hp r c (itn (grC mS mR) n0.toNatClampNeg (f, 0)).1 g)) : ∀ n k, k ≤ n0.toNatClampNeg → n0.toNatClampNeg - k < n → G 4 RX7 cX7_growCrops 9 (some .int) Q 28 [some (.ref q), some (.int m), some (.int mS), some (.int mR), some (.int n0), some (.int ((itn (grC mS mR) k (f, 0)).2)), some (.int (nI k)), none, none] [] (sH Hp r c (itn (grC mS mR) k (f, 0)).1 g) := by
  intro n
  induction n with
  | zero => intro k h1 h2; omega
  | succ n ih =>
    intro k h1 h2
    have hb := clamp_lt n0
    refine (fun (J : k < n0.toNatClampNeg → ∀ s : (Nat → Int32) × Int32, s = grC mS mR k (itn (grC mS mR) k (f, 0)) → G 4 RX7 cX7_growCrops 9 (some .int) Q 171 [some (.ref q), some (.int m), some (.int mS), some (.int mR), some (.int n0), some (.int (s.2)), some (.int (nI k)), none, none] [] (sH Hp r c s.1 g)) => ?_) ?_
    · skip
      refine g_iload dX7_growCrops_28 rfl ?_
      refine g_iload dX7_growCrops_30 rfl ?_
      refine g_icmp_ge (tgt := 177) dX7_growCrops_32 (by decide) (fun c_32 => ?_) (fun c_32 => ?_)
      · have h6 := (nI_gen (k := k) (by omega)).mp c_32
        have hkn : k = n0.toNatClampNeg := by omega
        subst hkn
        refine g_iload dX7_growCrops_177 rfl ?_
        exact g_iret dX7_growCrops_179 hQ
      · have hlt : k < n0.toNatClampNeg := Nat.not_le.mp (fun z => c_32 ((nI_gen (by omega)).mpr z))
        refine g_aload_n dX7_growCrops_35 rfl rfl ?_
        refine g_iload dX7_growCrops_36 rfl ?_
        refine g_ic_5 dX7_growCrops_38 ?_
        refine g_callV dX7_growCrops_39 cv_X7_70 (as' := [_, _]) (sH_q hk) rfl (s_oC hk) (by decide) rfl rfl (Nat.le_of_ble_eq_true rfl) ?_
        rintro _ _ ⟨rfl, rfl⟩
        refine g_if_ne (tgt := 171) dX7_growCrops_42 (by decide) (fun c_42 => ?_) (fun c_42 => ?_)
        · exact J hlt (_, _) (grC_0 c_42).symm
        · refine g_sipush (v := 999) dX7_growCrops_45 (by decide) ?_
          refine g_aload_n dX7_growCrops_48 rfl rfl ?_
          refine g_iload dX7_growCrops_49 rfl ?_
          refine g_ic_3 dX7_growCrops_51 ?_
          refine g_callV dX7_growCrops_52 cv_X7_70 (as' := [_, _]) (sH_q hk) rfl (s_oC hk) (by decide) rfl rfl (Nat.le_of_ble_eq_true rfl) ?_
          rintro _ _ ⟨rfl, rfl⟩
          refine g_iload_n dX7_growCrops_55 rfl rfl ?_
          refine g_iadd dX7_growCrops_56 ?_
          refine g_min dX7_growCrops_57 ml_X7_44 ms_min mi_math mc_min (by decide) (Nat.le_of_ble_eq_true rfl) ?_
          refine g_istore dX7_growCrops_60 (by decide) ?_
          refine g_sipush (v := 999) dX7_growCrops_62 (by decide) ?_
          refine g_aload_n dX7_growCrops_65 rfl rfl ?_
          refine g_iload dX7_growCrops_66 rfl ?_
          refine g_ic_4 dX7_growCrops_68 ?_
          refine g_callV dX7_growCrops_69 cv_X7_70 (as' := [_, _]) (sH_q hk) rfl (s_oC hk) (by decide) rfl rfl (Nat.le_of_ble_eq_true rfl) ?_
          rintro _ _ ⟨rfl, rfl⟩
          refine g_iload_n dX7_growCrops_72 rfl rfl ?_
          refine g_iadd dX7_growCrops_73 ?_
          refine g_min dX7_growCrops_74 ml_X7_44 ms_min mi_math mc_min (by decide) (Nat.le_of_ble_eq_true rfl) ?_
          refine g_istore dX7_growCrops_77 (by decide) ?_
          refine g_aload_n dX7_growCrops_79 rfl rfl ?_
          refine g_iload dX7_growCrops_80 rfl ?_
          refine g_ic_3 dX7_growCrops_82 ?_
          refine g_callS dX7_growCrops_83 cs_X7_38 (as := [_, _]) k_pC (by decide) rfl rfl (Nat.le_of_ble_eq_true rfl) ?_
          rintro _ _ ⟨rfl, rfl⟩
          refine g_iload dX7_growCrops_86 rfl ?_
          refine g_callV dX7_growCrops_88 cv_X7_26 (as' := [_, _]) (sH_q hk) rfl (s_put hk) (by decide) rfl rfl (Nat.le_of_ble_eq_true rfl) ?_
          rintro _ _ ⟨rfl, rfl⟩
          refine g_aload_n dX7_growCrops_91 rfl rfl ?_
          refine g_iload dX7_growCrops_92 rfl ?_
          refine g_ic_4 dX7_growCrops_94 ?_
          refine g_callS dX7_growCrops_95 cs_X7_38 (as := [_, _]) k_pC (by decide) rfl rfl (Nat.le_of_ble_eq_true rfl) ?_
          rintro _ _ ⟨rfl, rfl⟩
          refine g_iload dX7_growCrops_98 rfl ?_
          refine g_callV dX7_growCrops_100 cv_X7_26 (as' := [_, _]) (sH_q hk) rfl (s_put hk) (by decide) rfl rfl (Nat.le_of_ble_eq_true rfl) ?_
          rintro _ _ ⟨rfl, rfl⟩
          refine g_iload dX7_growCrops_103 rfl ?_
          refine g_aload_n dX7_growCrops_105 rfl rfl ?_
          refine g_iload dX7_growCrops_106 rfl ?_
          refine g_ic_0 dX7_growCrops_108 ?_
          refine g_callV dX7_growCrops_109 cv_X7_70 (as' := [_, _]) (sH_q hk) rfl (s_oC hk) (by decide) rfl rfl (Nat.le_of_ble_eq_true rfl) ?_
          rintro _ _ ⟨rfl, rfl⟩
          refine g_icmp_lt (tgt := 171) dX7_growCrops_112 (by decide) (fun c_112 => ?_) (fun c_112 => ?_)
          · refine g_loc (ls' := [some (.ref q), some (.int m), some (.int mS), some (.int mR), some (.int n0), some (.int ((itn (grC mS mR) k (f, 0)).2)), some (.int (nI k)), none, none]) (fun i v h => by rcases i with _|_|_|_|_|_|_|_|_|_ <;> first | exact h | cases h) ?_
            exact J hlt (_, _) (grC_1 c_42 c_112).symm
          · refine g_iload dX7_growCrops_115 rfl ?_
            refine g_aload_n dX7_growCrops_117 rfl rfl ?_
            refine g_iload dX7_growCrops_118 rfl ?_
            refine g_ic_1 dX7_growCrops_120 ?_
            refine g_callV dX7_growCrops_121 cv_X7_70 (as' := [_, _]) (sH_q hk) rfl (s_oC hk) (by decide) rfl rfl (Nat.le_of_ble_eq_true rfl) ?_
            rintro _ _ ⟨rfl, rfl⟩
            refine g_icmp_lt (tgt := 171) dX7_growCrops_124 (by decide) (fun c_124 => ?_) (fun c_124 => ?_)
            · refine g_loc (ls' := [some (.ref q), some (.int m), some (.int mS), some (.int mR), some (.int n0), some (.int ((itn (grC mS mR) k (f, 0)).2)), some (.int (nI k)), none, none]) (fun i v h => by rcases i with _|_|_|_|_|_|_|_|_|_ <;> first | exact h | cases h) ?_
              exact J hlt (_, _) (grC_2 c_42 c_112 c_124).symm
            · refine g_aload_n dX7_growCrops_127 rfl rfl ?_
              refine g_iload dX7_growCrops_128 rfl ?_
              refine g_ic_5 dX7_growCrops_130 ?_
              refine g_callS dX7_growCrops_131 cs_X7_38 (as := [_, _]) k_pC (by decide) rfl rfl (Nat.le_of_ble_eq_true rfl) ?_
              rintro _ _ ⟨rfl, rfl⟩
              refine g_ic_1 dX7_growCrops_134 ?_
              refine g_callV dX7_growCrops_135 cv_X7_26 (as' := [_, _]) (sH_q hk) rfl (s_put hk) (by decide) rfl rfl (Nat.le_of_ble_eq_true rfl) ?_
              rintro _ _ ⟨rfl, rfl⟩
              refine g_aload_n dX7_growCrops_138 rfl rfl ?_
              refine g_ic_3 dX7_growCrops_139 ?_
              refine g_sipush (v := 999) dX7_growCrops_140 (by decide) ?_
              refine g_aload_n dX7_growCrops_143 rfl rfl ?_
              refine g_ic_3 dX7_growCrops_144 ?_
              refine g_callV dX7_growCrops_145 cv_X7_30 (as' := [_]) (sH_q hk) rfl (s_get hk) (by decide) rfl rfl (Nat.le_of_ble_eq_true rfl) ?_
              rintro _ _ ⟨rfl, rfl⟩
              refine g_aload_n dX7_growCrops_148 rfl rfl ?_
              refine g_iload dX7_growCrops_149 rfl ?_
              refine g_ic_2 dX7_growCrops_151 ?_
              refine g_callV dX7_growCrops_152 cv_X7_70 (as' := [_, _]) (sH_q hk) rfl (s_oC hk) (by decide) rfl rfl (Nat.le_of_ble_eq_true rfl) ?_
              rintro _ _ ⟨rfl, rfl⟩
              refine g_iadd dX7_growCrops_155 ?_
              refine g_min dX7_growCrops_156 ml_X7_44 ms_min mi_math mc_min (by decide) (Nat.le_of_ble_eq_true rfl) ?_
              refine g_callV dX7_growCrops_159 cv_X7_26 (as' := [_, _]) (sH_q hk) rfl (s_put hk) (by decide) rfl rfl (Nat.le_of_ble_eq_true rfl) ?_
              rintro _ _ ⟨rfl, rfl⟩
              refine g_iload dX7_growCrops_162 rfl ?_
              refine g_ic_1 dX7_growCrops_164 ?_
              refine g_iload dX7_growCrops_165 rfl ?_
              refine g_ishl dX7_growCrops_167 ?_
              refine g_ior dX7_growCrops_168 ?_
              refine g_istore dX7_growCrops_169 (by decide) ?_
              refine g_loc (ls' := [some (.ref q), some (.int m), some (.int mS), some (.int mR), some (.int n0), some (.int ((itn (grC mS mR) k (f, 0)).2 ||| (1 <<< (nI k &&& 31)))), some (.int (nI k)), none, none]) (fun i v h => by rcases i with _|_|_|_|_|_|_|_|_|_ <;> first | exact h | cases h) ?_
              exact J hlt (_, _) (grC_3 c_42 c_112 c_124).symm
    · intro hlt s hs
      subst hs
      refine g_iinc1 dX7_growCrops_171 rfl (by decide) ?_
      refine g_goto (tgt := 28) dX7_growCrops_174 (by decide) ?_
      rw [nI_1]
      exact ih (k + 1) hlt (by omega)

set_option maxHeartbeats 4000000 in
set_option maxRecDepth 100000 in
theorem s_grow {Hp : m_H} {q r c : Nat} {f g : Nat → Int32} {m : Int32} (hk : sK Hp q r c) : Con 4 yX7_growCrops cX7_growCrops 9 (some .int) [.ref q, .int m] (sH Hp r c f g) (fun r_ H_ => r_ = some (.int (grS f m).2) ∧ H_ = sH Hp r c (grS f m).1 g) := by
  refine m_con (by decide) (Nat.le_of_ble_eq_true rfl) ?_
  refine g_aload_n dX7_growCrops_0 rfl rfl ?_
  refine g_iload_n dX7_growCrops_1 rfl rfl ?_
  refine g_ic_2 dX7_growCrops_2 ?_
  refine g_callV dX7_growCrops_3 cv_X7_41 (as' := [_, _]) (sH_q hk) rfl (s_oM hk) (by decide) rfl rfl (Nat.le_of_ble_eq_true rfl) ?_
  rintro _ _ ⟨rfl, rfl⟩
  refine g_istore_n dX7_growCrops_6 rfl (by decide) ?_
  refine g_aload_n dX7_growCrops_7 rfl rfl ?_
  refine g_iload_n dX7_growCrops_8 rfl rfl ?_
  refine g_ic_3 dX7_growCrops_9 ?_
  refine g_callV dX7_growCrops_10 cv_X7_41 (as' := [_, _]) (sH_q hk) rfl (s_oM hk) (by decide) rfl rfl (Nat.le_of_ble_eq_true rfl) ?_
  rintro _ _ ⟨rfl, rfl⟩
  refine g_istore_n dX7_growCrops_13 rfl (by decide) ?_
  refine g_aload_n dX7_growCrops_14 rfl rfl ?_
  refine g_bipush (v := 10) dX7_growCrops_15 (by decide) ?_
  refine g_callV dX7_growCrops_17 cv_X7_30 (as' := [_]) (sH_q hk) rfl (s_get hk) (by decide) rfl rfl (Nat.le_of_ble_eq_true rfl) ?_
  rintro _ _ ⟨rfl, rfl⟩
  refine g_istore dX7_growCrops_20 (by decide) ?_
  refine g_ic_0 dX7_growCrops_22 ?_
  refine g_istore dX7_growCrops_23 (by decide) ?_
  refine g_ic_0 dX7_growCrops_25 ?_
  refine g_istore dX7_growCrops_26 (by decide) ?_
  exact s_grow_loop hk ⟨rfl, rfl⟩ _ 0 (by omega) (Nat.lt_succ_self _)
