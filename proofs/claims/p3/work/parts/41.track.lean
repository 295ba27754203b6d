
theorem KA {V V' : Wd} {K K2 ci s k : Nat} {fs fs' : List Value} {x : Value} {v : Int32} (eK : V K = cO ci fs) (hs : fs' = fs.set s x) (hk : k ≠ s) (eu : V' K = cO ci fs') (ku : ∀ i, i ≠ K → V' i = V i) (p : fI (V K2) k = v) : fI (V' K2) k = v := by
  by_cases e : K2 = K
  · subst e
    rw [eu, hs]; rw [eK] at p
    simp only [fI, List.getElem?_set_ne (Ne.symm hk)] at p ⊢
    exact p
  · rw [ku _ e]; exact p
def ntF : Nat → Int32 → Int32
  | 0, t => t
  | k + 1, t => if t < 9999 then ntF k (t + 1) else t
theorem ntF_step {H j : Nat} {t t' X : Int32} (hj : j < H) (hc : t < 9999) (e : t' = t + 1) (h : ntF (H - j) t = X) : ntF (H - (j + 1)) t' = X := by
  obtain ⟨m, rfl⟩ : ∃ m, H = j + 1 + m := ⟨H - (j + 1), by omega⟩
  rw [show j + 1 + m - j = m + 1 by omega] at h
  rw [show j + 1 + m - (j + 1) = m by omega, e]
  rw [ntF, if_pos hc] at h
  exact h
theorem ntF_stop {m : Nat} {t X : Int32} (hc : ¬ t < 9999) (h : ntF m t = X) : t = X := by
  cases m with
  | zero => exact h
  | succ m => rw [ntF, if_neg hc] at h; exact h
theorem ntF_end {m : Nat} {t X : Int32} (h : ntF (m - m) t = X) : t = X := by rw [Nat.sub_self] at h; exact h
def TKS (C : Prop) (s s9 : Int32) : Prop := (C ∧ s9 = 0) ∨ (¬ C ∧ s9 = s)
theorem TKS.one {C : Prop} {s s9 t9 : Int32} (h : TKS C s s9) (h' : TKS C s t9) : s9 = t9 := by
  rcases h with ⟨c, e⟩ | ⟨c, e⟩ <;> rcases h' with ⟨c', e'⟩ | ⟨c', e'⟩
  · rw [e, e']
  · exact absurd c c'
  · exact absurd c' c
  · rw [e, e']
theorem nI_a20 (s : Nat) : nI s + 20 = nI (s + 20) := nI_add s 20
def NTS (n t t9 : Int32) : Prop := (1 ≤ n ∧ n ≤ 100 ∧ t9 = ntF (Int32.toNatClampNeg n) t) ∨ (¬ (1 ≤ n ∧ n ≤ 100) ∧ t9 = t)
theorem NTS.one {n t t9 u9 : Int32} (h : NTS n t t9) (h' : NTS n t u9) : t9 = u9 := by
  rcases h with ⟨c, d, e⟩ | ⟨c, e⟩ <;> rcases h' with ⟨c', d', e'⟩ | ⟨c', e'⟩
  · rw [e, e']
  · exact absurd ⟨c, d⟩ c'
  · exact absurd ⟨c', d'⟩ c
  · rw [e, e']
def UND (f t k r t9 : Int32) : Prop := (r = 0 ∧ f = 0 ∧ t9 = t) ∨ (r = 1 ∧ ¬ f = 0 ∧ t9 = k)
theorem UND.one {f t k r r' t9 u9 : Int32} (h : UND f t k r t9) (h' : UND f t k r' u9) : r = r' ∧ t9 = u9 := by
  rcases h with ⟨c, d, e⟩ | ⟨c, d, e⟩ <;> rcases h' with ⟨c', d', e'⟩ | ⟨c', d', e'⟩
  · exact ⟨c.trans c'.symm, e.trans e'.symm⟩
  · exact absurd d d'
  · exact absurd d' d
  · exact ⟨c.trans c'.symm, e.trans e'.symm⟩
def FDS (s r s9 : Int32) : Prop := (240 < s ∧ r = -1 ∧ s9 = s) ∨ (¬ 240 < s ∧ r = s + 20 ∧ s9 = s + 20)
theorem FDS.one {s r r' s9 t9 : Int32} (h : FDS s r s9) (h' : FDS s r' t9) : r = r' ∧ s9 = t9 := by
  rcases h with ⟨c, d, e⟩ | ⟨c, d, e⟩ <;> rcases h' with ⟨c', d', e'⟩ | ⟨c', d', e'⟩
  · exact ⟨d.trans d'.symm, e.trans e'.symm⟩
  · exact absurd c c'
  · exact absurd c' c
  · exact ⟨d.trans d'.symm, e.trans e'.symm⟩
def cIn (n lo hi s : Int32) : Prop := lo ≤ n ∧ n ≤ hi ∧ n ≤ s
def cDr (p n s : Int32) : Prop := 0 ≤ p ∧ p ≤ 11 ∧ 1 ≤ n ∧ n ≤ 120 ∧ n ≤ s
def cRo (n d s : Int32) : Prop := 0 ≤ d ∧ d ≤ 99 ∧ 1 ≤ n ∧ n ≤ 12 ∧ n ≤ s
def cGu (n w s : Int32) : Prop := 1 ≤ n ∧ n ≤ 12 ∧ ((0 ≤ w ∧ w ≤ 15) ∨ (20 ≤ w ∧ w ≤ 35) ∨ w = 100) ∧ 2 * n ≤ s
theorem two_n {n : Int32} (h1 : 1 ≤ n) (h2 : n ≤ 12) : (2 * n).toInt = 2 * n.toInt := by
  have e1 : (1 : Int32).toInt = 1 := by decide
  have e2 : (12 : Int32).toInt = 12 := by decide
  have e3 : (2 : Int32).toInt = 2 := by decide
  rw [Int32.le_iff_toInt_le] at h1 h2
  rw [Int32.toInt_mul, e3, Int.bmod_eq_of_le (by omega) (by omega)]

set_option maxHeartbeats 4000000 in
set_option maxRecDepth 100000 in
theorem g_X0_copyFromK (l : Launch) (D : va_G) (b : Nat) (N : Nat) (V : Wd) (hN : 100 ≤ N) (hW : CW D b V) (c : Nat) (hc : c = 3 ∨ c = 21 ∨ c = 39 ∨ c = 74) (c2 : Nat) (hc2 : c2 = 3 ∨ c2 = 21 ∨ c2 = 39 ∨ c2 = 74)  : MV l D b 1 jX0_copyFrom [.ref (b + c), .ref (b + c2)] N V 0 0 (fun N9 V9 => (fI (V9 c) 7 = fI (V c2) 7) ∧ N = N9 ∧ JW D b N [(c + 2, c + 13, 0, 1000000), (c, c, 5, 5), (c, c, 6, 6), (c, c, 7, 7), (c, c, 8, 8), (c + 15, c + 15, 0, 1000000), (c + 16, c + 16, 0, 1000000), (c + 17, c + 17, 0, 1000000), (c + 14, c + 14, 0, 1000000)] V V9) := by
  have hJ0 : JW D b N [(c + 2, c + 13, 0, 1000000), (c, c, 5, 5), (c, c, 6, 6), (c, c, 7, 7), (c, c, 8, 8), (c + 15, c + 15, 0, 1000000), (c + 16, c + 16, 0, 1000000), (c + 17, c + 17, 0, 1000000), (c + 14, c + 14, 0, 1000000)] V V := JW.rf hW
  refine mw_of (by decide) (by simp [Value.category]) (Nat.le_of_ble_eq_true rfl) ?_
  show AW l D b jX0_copyFrom (fx_rm 1 0 0) none (fx_MQ D b 0 0 (fx_qv (fun N9 V9 => (fI (V9 c) 7 = fI (V c2) 7) ∧ N = N9 ∧ JW D b N [(c + 2, c + 13, 0, 1000000), (c, c, 5, 5), (c, c, 6, 6), (c, c, 7, 7), (c, c, 8, 8), (c + 15, c + 15, 0, 1000000), (c + 16, c + 16, 0, 1000000), (c + 17, c + 17, 0, 1000000), (c + 14, c + 14, 0, 1000000)] V V9))) 0 [some (.ref (b + c)), some (.ref (b + c2)), none] [] N V 0 0
  refine aw_aload_n dX0_copyFrom_0 rfl ?_
  refine aw_aload_n dX0_copyFrom_1 rfl ?_
  obtain ⟨pe_4, dd_4, ni_4, xx_4, e_4⟩ := JW.get hJ0 (ctc_0 hc)
  refine aw_callVv (J' := jX0_copyDreads) (As := [.ref (b + c2)]) (st := []) dX0_copyFrom_2 tb_585 ok_X0_copyDreads ⟨_, e_4⟩ (by omega) rfl rfl (g_X0_copyDreads l D b N V hN hJ0.1 c hc c2 hc2) rfl (Nat.le_of_ble_eq_true rfl) ⟨Nat.le_of_ble_eq_true rfl, Nat.le_of_ble_eq_true rfl, Nat.le_of_ble_eq_true rfl, Nat.le_of_ble_eq_true rfl⟩ (fun  N_5 V_3 q_6 => ?_)
  obtain ⟨rfl, q_1⟩ := q_6
  have j_2 := JW.trans hJ0 (JW.weak q_1 (Sub.cons LM0 (by omega) (by omega) (by decide) (Or.inl rfl) Sub.nil))
  refine aw_iconst (v := 0) dX0_copyFrom_5 (by decide) ?_
  refine aw_istore_n (ls' := [some (.ref (b + c)), some (.ref (b + c2)), some (.int 0)]) dX0_copyFrom_6 (Nat.le_of_ble_eq_true rfl) rfl ?_
  have loop_7_6 : ∀ (g_7 : Nat), ∀ (j7 : Nat)  (V7 : Wd), j7 + g_7 = 12 → (JW D b N [(c + 2, c + 13, 0, 1000000), (c, c, 5, 5), (c, c, 6, 6), (c, c, 7, 7), (c, c, 8, 8), (c + 15, c + 15, 0, 1000000), (c + 16, c + 16, 0, 1000000), (c + 17, c + 17, 0, 1000000), (c + 14, c + 14, 0, 1000000)] V V7) → (fI (V7 c2) 7 = (fI (V c2) 7)) → AW l D b jX0_copyFrom (fx_rm 1 0 0) none (fx_MQ D b 0 0 (fx_qv (fun N9 V9 => (fI (V9 c) 7 = fI (V c2) 7) ∧ N = N9 ∧ JW D b N [(c + 2, c + 13, 0, 1000000), (c, c, 5, 5), (c, c, 6, 6), (c, c, 7, 7), (c, c, 8, 8), (c + 15, c + 15, 0, 1000000), (c + 16, c + 16, 0, 1000000), (c + 17, c + 17, 0, 1000000), (c + 14, c + 14, 0, 1000000)] V V9))) 7 [some (.ref (b + c)), some (.ref (b + c2)), some (.int (nI j7))] [] N V7 0 0 := by
    intro g_7
    induction g_7 with
    | zero =>
      intro j7  V7 hj7 i7_0 i7_1
      obtain rfl : j7 = 12 := by omega
      refine aw_iload_n dX0_copyFrom_7 rfl ?_
      refine aw_bipush (v := 12) dX0_copyFrom_8 (by decide) ?_
      refine aw_icmp_ge (tgt := 31) dX0_copyFrom_10 (by decide) (fun c_9 => ?_) (fun c_9 => ?_)
      rotate_left
      · exact absurd (nI_le (a := 12) (b := 12) (Nat.le_refl _) (by omega)) c_9
      refine aw_iconst (v := 0) dX0_copyFrom_31 (by decide) ?_
      refine aw_istore_n (ls' := [some (.ref (b + c)), some (.ref (b + c2)), some (.int 0)]) dX0_copyFrom_32 (Nat.le_of_ble_eq_true rfl) rfl ?_
      have loop_33_9 : ∀ (g_33 : Nat), ∀ (j33 : Nat)  (V33 : Wd), j33 + g_33 = 16 → (JW D b N [(c + 2, c + 13, 0, 1000000), (c, c, 5, 5), (c, c, 6, 6), (c, c, 7, 7), (c, c, 8, 8), (c + 15, c + 15, 0, 1000000), (c + 16, c + 16, 0, 1000000), (c + 17, c + 17, 0, 1000000), (c + 14, c + 14, 0, 1000000)] V V33) → (fI (V33 c2) 7 = (fI (V c2) 7)) → AW l D b jX0_copyFrom (fx_rm 1 0 0) none (fx_MQ D b 0 0 (fx_qv (fun N9 V9 => (fI (V9 c) 7 = fI (V c2) 7) ∧ N = N9 ∧ JW D b N [(c + 2, c + 13, 0, 1000000), (c, c, 5, 5), (c, c, 6, 6), (c, c, 7, 7), (c, c, 8, 8), (c + 15, c + 15, 0, 1000000), (c + 16, c + 16, 0, 1000000), (c + 17, c + 17, 0, 1000000), (c + 14, c + 14, 0, 1000000)] V V9))) 33 [some (.ref (b + c)), some (.ref (b + c2)), some (.int (nI j33))] [] N V33 0 0 := by
        intro g_33
        induction g_33 with
        | zero =>
          intro j33  V33 hj33 i33_0 i33_1
          obtain rfl : j33 = 16 := by omega
          refine aw_iload_n dX0_copyFrom_33 rfl ?_
          refine aw_bipush (v := 16) dX0_copyFrom_34 (by decide) ?_
          refine aw_icmp_ge (tgt := 81) dX0_copyFrom_36 (by decide) (fun c_12 => ?_) (fun c_12 => ?_)
          rotate_left
          · exact absurd (nI_le (a := 16) (b := 16) (Nat.le_refl _) (by omega)) c_12
          refine aw_aload_n dX0_copyFrom_81 rfl ?_
          refine aw_aload_n dX0_copyFrom_82 rfl ?_
          obtain ⟨pe_13, dd_13, ni_13, xx_13, e_13⟩ := JW.get i33_0 (ctc_0 hc2)
          refine aw_get dX0_copyFrom_83 fl_X0_29 e_13 (by omega) rfl ?_
          obtain ⟨pe_14, dd_14, ni_14, xx_14, e_14⟩ := JW.get i33_0 (ctc_0 hc)
          refine aw_put dX0_copyFrom_86 fp_X0_29 e_14 (by omega) rfl rfl (Nat.le_of_ble_eq_true rfl) rfl ?_
          refine aw_up i33_0 (ctc_0 hc) ⟨_, _, _, _, rfl⟩ (WO (s := 5) (x := .int pe_13) e_14 rfl (LMs LM0) (by omega) (by omega) (by decide) (Or.inl (by decide))) (fun V_15 j_15 k_15 e_15 => ?_)
          refine aw_aload_n dX0_copyFrom_89 rfl ?_
          refine aw_aload_n dX0_copyFrom_90 rfl ?_
          obtain ⟨pe_16, dd_16, ni_16, xx_16, e_16⟩ := JW.get j_15 (ctc_0 hc2)
          refine aw_get dX0_copyFrom_91 fl_X0_33 e_16 (by omega) rfl ?_
          refine aw_put dX0_copyFrom_94 fp_X0_33 e_15 (by omega) rfl rfl (Nat.le_of_ble_eq_true rfl) rfl ?_
          refine aw_up j_15 (ctc_0 hc) ⟨_, _, _, _, rfl⟩ (WO (s := 6) (x := .int dd_16) e_15 rfl (LMs (LMs LM0)) (by omega) (by omega) (by decide) (Or.inl (by decide))) (fun V_17 j_17 k_17 e_17 => ?_)
          refine aw_aload_n dX0_copyFrom_97 rfl ?_
          refine aw_aload_n dX0_copyFrom_98 rfl ?_
          obtain ⟨pe_18, dd_18, ni_18, xx_18, e_18⟩ := JW.get j_17 (ctc_0 hc2)
          refine aw_get dX0_copyFrom_99 fl_X0_36 e_18 (by omega) rfl ?_
          refine aw_eqi (y := (fI (V c2) 7)) ((Eq.symm (congrArg (fun z => fI z 7) e_18)).trans (KA (s := 6) (x := .int dd_16) e_15 rfl (by decide) e_17 k_17 (KA (s := 5) (x := .int pe_13) e_14 rfl (by decide) e_15 k_15 i33_1))) ?_
          refine aw_put dX0_copyFrom_102 fp_X0_36 e_17 (by omega) rfl rfl (Nat.le_of_ble_eq_true rfl) rfl ?_
          refine aw_up j_17 (ctc_0 hc) ⟨_, _, _, _, rfl⟩ (WO (s := 7) (x := .int (fI (V c2) 7)) e_17 rfl (LMs (LMs (LMs LM0))) (by omega) (by omega) (by decide) (Or.inl (by decide))) (fun V_19 j_19 k_19 e_19 => ?_)
          refine aw_aload_n dX0_copyFrom_105 rfl ?_
          refine aw_aload_n dX0_copyFrom_106 rfl ?_
          obtain ⟨pe_20, dd_20, ni_20, xx_20, e_20⟩ := JW.get j_19 (ctc_0 hc2)
          refine aw_get dX0_copyFrom_107 fl_X0_39 e_20 (by omega) rfl ?_
          refine aw_put dX0_copyFrom_110 fp_X0_39 e_19 (by omega) rfl rfl (Nat.le_of_ble_eq_true rfl) rfl ?_
          refine aw_up j_19 (ctc_0 hc) ⟨_, _, _, _, rfl⟩ (WO (s := 8) (x := .int xx_20) e_19 rfl (LMs (LMs (LMs (LMs LM0)))) (by omega) (by omega) (by decide) (Or.inl (by decide))) (fun V_21 j_21 k_21 e_21 => ?_)
          refine aw_vreti dX0_copyFrom_113 rfl (Nat.le_of_ble_eq_true rfl) (Nat.le_of_ble_eq_true rfl) ?_
          exact ⟨((congrArg (fun z => fI z 7) e_21).trans rfl), rfl, j_21⟩
        | succ g_33 ih_33_10 =>
          intro j33  V33 hj33 i33_0 i33_1
          have hlj33 : j33 < 16 := by omega
          refine aw_iload_n dX0_copyFrom_33 rfl ?_
          refine aw_bipush (v := 16) dX0_copyFrom_34 (by decide) ?_
          refine aw_icmp_ge (tgt := 81) dX0_copyFrom_36 (by decide) (fun c_22 => ?_) (fun c_22 => ?_)
          · exact absurd c_22 (nI_ge (a := j33) (b := 16) (by omega) (by omega))
          refine aw_aload_n dX0_copyFrom_39 rfl ?_
          obtain ⟨pe_23, dd_23, ni_23, xx_23, e_23⟩ := JW.get i33_0 (ctc_0 hc)
          refine aw_get dX0_copyFrom_40 fl_X0_20 e_23 (by omega) rfl ?_
          refine aw_iload_n dX0_copyFrom_43 rfl ?_
          refine aw_aload_n dX0_copyFrom_44 rfl ?_
          obtain ⟨pe_24, dd_24, ni_24, xx_24, e_24⟩ := JW.get i33_0 (ctc_0 hc2)
          refine aw_get dX0_copyFrom_45 fl_X0_20 e_24 (by omega) rfl ?_
          refine aw_iload_n dX0_copyFrom_48 rfl ?_
          obtain ⟨g_25, e_25⟩ := JW.get i33_0 (ctc_15 hc2)
          refine aw_iald (v := (g_25 j33)) dX0_copyFrom_49 e_25 (by omega) (vp_in_nI (n := j33) (by omega) (by omega)) (congrArg g_25 (nI_clamp (n := j33) (by omega))) ?_
          obtain ⟨g_26, e_26⟩ := JW.get i33_0 (ctc_15 hc)
          refine aw_iast dX0_copyFrom_50 e_26 (by omega) (vp_in_nI (n := j33) (by omega) (by omega)) ?_
          refine aw_up i33_0 (ctc_15 hc) ⟨_, rfl⟩ (WA (LMs (LMs (LMs (LMs (LMs LM0))))) (by omega) (by omega)) (fun V_27 j_27 k_27 e_27 => ?_)
          refine aw_aload_n dX0_copyFrom_51 rfl ?_
          refine aw_get dX0_copyFrom_52 fl_X0_23 ((k_27 _ (by omega)).trans e_23) (by omega) rfl ?_
          refine aw_iload_n dX0_copyFrom_55 rfl ?_
          refine aw_aload_n dX0_copyFrom_56 rfl ?_
          obtain ⟨pe_28, dd_28, ni_28, xx_28, e_28⟩ := JW.get j_27 (ctc_0 hc2)
          refine aw_get dX0_copyFrom_57 fl_X0_23 e_28 (by omega) rfl ?_
          refine aw_iload_n dX0_copyFrom_60 rfl ?_
          obtain ⟨g_29, e_29⟩ := JW.get j_27 (ctc_16 hc2)
          refine aw_iald (v := (g_29 j33)) dX0_copyFrom_61 e_29 (by omega) (vp_in_nI (n := j33) (by omega) (by omega)) (congrArg g_29 (nI_clamp (n := j33) (by omega))) ?_
          obtain ⟨g_30, e_30⟩ := JW.get j_27 (ctc_16 hc)
          refine aw_iast dX0_copyFrom_62 e_30 (by omega) (vp_in_nI (n := j33) (by omega) (by omega)) ?_
          refine aw_up j_27 (ctc_16 hc) ⟨_, rfl⟩ (WA (LMs (LMs (LMs (LMs (LMs (LMs LM0)))))) (by omega) (by omega)) (fun V_31 j_31 k_31 e_31 => ?_)
          refine aw_aload_n dX0_copyFrom_63 rfl ?_
          refine aw_get dX0_copyFrom_64 fl_X0_26 ((k_31 _ (by omega)).trans ((k_27 _ (by omega)).trans e_23)) (by omega) rfl ?_
          refine aw_iload_n dX0_copyFrom_67 rfl ?_
          refine aw_aload_n dX0_copyFrom_68 rfl ?_
          obtain ⟨pe_32, dd_32, ni_32, xx_32, e_32⟩ := JW.get j_31 (ctc_0 hc2)
          refine aw_get dX0_copyFrom_69 fl_X0_26 e_32 (by omega) rfl ?_
          refine aw_iload_n dX0_copyFrom_72 rfl ?_
          obtain ⟨g_33, e_33⟩ := JW.get j_31 (ctc_17 hc2)
          refine aw_iald (v := (g_33 j33)) dX0_copyFrom_73 e_33 (by omega) (vp_in_nI (n := j33) (by omega) (by omega)) (congrArg g_33 (nI_clamp (n := j33) (by omega))) ?_
          obtain ⟨g_34, e_34⟩ := JW.get j_31 (ctc_17 hc)
          refine aw_iast dX0_copyFrom_74 e_34 (by omega) (vp_in_nI (n := j33) (by omega) (by omega)) ?_
          refine aw_up j_31 (ctc_17 hc) ⟨_, rfl⟩ (WA (LMs (LMs (LMs (LMs (LMs (LMs (LMs LM0))))))) (by omega) (by omega)) (fun V_35 j_35 k_35 e_35 => ?_)
          refine aw_iinc (v := (nI (j33 + 1))) (ls' := [some (.ref (b + c)), some (.ref (b + c2)), some (.int (nI (j33 + 1)))]) dX0_copyFrom_75 rfl (fx_up_1 _) (Nat.le_of_ble_eq_true rfl) rfl ?_
          refine aw_goto (tgt := 33) dX0_copyFrom_78 (by decide) ?_
          refine aw_le ?_ (ih_33_10 (j33 + 1)  V_35 (by omega) (j_35) (((congrArg (fun z => fI z 7) (k_35 _ (by omega))).trans ((congrArg (fun z => fI z 7) (k_31 _ (by omega))).trans ((congrArg (fun z => fI z 7) (k_27 _ (by omega))).trans i33_1)))))
          exact ⟨rfl, ⟨rfl, ⟨rfl, trivial⟩⟩⟩
      refine aw_le ?_ (loop_33_9 16 0  V7 (by omega) (i7_0) (i7_1))
      exact ⟨rfl, ⟨rfl, ⟨rfl, trivial⟩⟩⟩
    | succ g_7 ih_7_7 =>
      intro j7  V7 hj7 i7_0 i7_1
      have hlj7 : j7 < 12 := by omega
      refine aw_iload_n dX0_copyFrom_7 rfl ?_
      refine aw_bipush (v := 12) dX0_copyFrom_8 (by decide) ?_
      refine aw_icmp_ge (tgt := 31) dX0_copyFrom_10 (by decide) (fun c_36 => ?_) (fun c_36 => ?_)
      · exact absurd c_36 (nI_ge (a := j7) (b := 12) (by omega) (by omega))
      refine aw_aload_n dX0_copyFrom_13 rfl ?_
      obtain ⟨pe_37, dd_37, ni_37, xx_37, e_37⟩ := JW.get i7_0 (ctc_0 hc)
      refine aw_get dX0_copyFrom_14 fl_X0_16 e_37 (by omega) rfl ?_
      refine aw_iload_n dX0_copyFrom_17 rfl ?_
      refine aw_aload_n dX0_copyFrom_18 rfl ?_
      obtain ⟨pe_38, dd_38, ni_38, xx_38, e_38⟩ := JW.get i7_0 (ctc_0 hc2)
      refine aw_get dX0_copyFrom_19 fl_X0_16 e_38 (by omega) rfl ?_
      refine aw_iload_n dX0_copyFrom_22 rfl ?_
      obtain ⟨g_39, e_39⟩ := JW.get i7_0 (ctc_14 hc2)
      refine aw_iald (v := (g_39 j7)) dX0_copyFrom_23 e_39 (by omega) (vp_in_nI (n := j7) (by omega) (by omega)) (congrArg g_39 (nI_clamp (n := j7) (by omega))) ?_
      obtain ⟨g_40, e_40⟩ := JW.get i7_0 (ctc_14 hc)
      refine aw_iast dX0_copyFrom_24 e_40 (by omega) (vp_in_nI (n := j7) (by omega) (by omega)) ?_
      refine aw_up i7_0 (ctc_14 hc) ⟨_, rfl⟩ (WA (LMs (LMs (LMs (LMs (LMs (LMs (LMs (LMs LM0)))))))) (by omega) (by omega)) (fun V_41 j_41 k_41 e_41 => ?_)
      refine aw_iinc (v := (nI (j7 + 1))) (ls' := [some (.ref (b + c)), some (.ref (b + c2)), some (.int (nI (j7 + 1)))]) dX0_copyFrom_25 rfl (fx_up_1 _) (Nat.le_of_ble_eq_true rfl) rfl ?_
      refine aw_goto (tgt := 7) dX0_copyFrom_28 (by decide) ?_
      refine aw_le ?_ (ih_7_7 (j7 + 1)  V_41 (by omega) (j_41) (((congrArg (fun z => fI z 7) (k_41 _ (by omega))).trans i7_1)))
      exact ⟨rfl, ⟨rfl, ⟨rfl, trivial⟩⟩⟩
  refine aw_le ?_ (loop_7_6 12 0  V_3 (by omega) (j_2) (((JW.fI q_1 (by omega) (nfc (by omega) nf0)).trans (Eq.refl (fI (V c2) 7)))))
  exact ⟨rfl, ⟨rfl, ⟨rfl, trivial⟩⟩⟩

set_option maxHeartbeats 4000000 in
set_option maxRecDepth 100000 in
theorem g_X0_goBackToK (l : Launch) (D : va_G) (b : Nat) (N : Nat) (V : Wd) (hN : 100 ≤ N) (hW : CW D b V) (c : Nat) (hc : c = 3 ∨ c = 21 ∨ c = 39 ∨ c = 74) (c2 : Nat) (hc2 : c2 = 3 ∨ c2 = 21 ∨ c2 = 39 ∨ c2 = 74)  : MV l D b 2 jX0_goBackTo [.ref (b + c), .ref (b + c2)] N V 0 0 (fun N9 V9 => (fI (V9 c) 7 = fI (V c2) 7) ∧ N = N9 ∧ JW D b N [(c + 2, c + 13, 0, 1000000), (c, c, 7, 7), (c, c, 8, 8), (c + 17, c + 17, 0, 1000000)] V V9) := by
  have hJ0 : JW D b N [(c + 2, c + 13, 0, 1000000), (c, c, 7, 7), (c, c, 8, 8), (c + 17, c + 17, 0, 1000000)] V V := JW.rf hW
  refine mw_of (by decide) (by simp [Value.category]) (Nat.le_of_ble_eq_true rfl) ?_
  show AW l D b jX0_goBackTo (fx_rm 2 0 0) none (fx_MQ D b 0 0 (fx_qv (fun N9 V9 => (fI (V9 c) 7 = fI (V c2) 7) ∧ N = N9 ∧ JW D b N [(c + 2, c + 13, 0, 1000000), (c, c, 7, 7), (c, c, 8, 8), (c + 17, c + 17, 0, 1000000)] V V9))) 0 [some (.ref (b + c)), some (.ref (b + c2)), none] [] N V 0 0
  refine aw_aload_n dX0_goBackTo_0 rfl ?_
  refine aw_aload_n dX0_goBackTo_1 rfl ?_
  obtain ⟨pe_4, dd_4, ni_4, xx_4, e_4⟩ := JW.get hJ0 (ctc_0 hc)
  refine aw_callVv (J' := jX0_copyDreads) (As := [.ref (b + c2)]) (st := []) dX0_goBackTo_2 tb_585 ok_X0_copyDreads ⟨_, e_4⟩ (by omega) rfl rfl (g_X0_copyDreads l D b N V hN hJ0.1 c hc c2 hc2) rfl (Nat.le_of_ble_eq_true rfl) ⟨Nat.le_of_ble_eq_true rfl, Nat.le_of_ble_eq_true rfl, Nat.le_of_ble_eq_true rfl, Nat.le_of_ble_eq_true rfl⟩ (fun  N_5 V_3 q_6 => ?_)
  obtain ⟨rfl, q_1⟩ := q_6
  have j_2 := JW.trans hJ0 (JW.weak q_1 (Sub.cons LM0 (by omega) (by omega) (by decide) (Or.inl rfl) Sub.nil))
  refine aw_iconst (v := 0) dX0_goBackTo_5 (by decide) ?_
  refine aw_istore_n (ls' := [some (.ref (b + c)), some (.ref (b + c2)), some (.int 0)]) dX0_goBackTo_6 (Nat.le_of_ble_eq_true rfl) rfl ?_
  have loop_7_6 : ∀ (g_7 : Nat), ∀ (j7 : Nat)  (V7 : Wd), j7 + g_7 = 16 → (JW D b N [(c + 2, c + 13, 0, 1000000), (c, c, 7, 7), (c, c, 8, 8), (c + 17, c + 17, 0, 1000000)] V V7) → (fI (V7 c2) 7 = (fI (V c2) 7)) → AW l D b jX0_goBackTo (fx_rm 2 0 0) none (fx_MQ D b 0 0 (fx_qv (fun N9 V9 => (fI (V9 c) 7 = fI (V c2) 7) ∧ N = N9 ∧ JW D b N [(c + 2, c + 13, 0, 1000000), (c, c, 7, 7), (c, c, 8, 8), (c + 17, c + 17, 0, 1000000)] V V9))) 7 [some (.ref (b + c)), some (.ref (b + c2)), some (.int (nI j7))] [] N V7 0 0 := by
    intro g_7
    induction g_7 with
    | zero =>
      intro j7  V7 hj7 i7_0 i7_1
      obtain rfl : j7 = 16 := by omega
      refine aw_iload_n dX0_goBackTo_7 rfl ?_
      refine aw_bipush (v := 16) dX0_goBackTo_8 (by decide) ?_
      refine aw_icmp_ge (tgt := 43) dX0_goBackTo_10 (by decide) (fun c_9 => ?_) (fun c_9 => ?_)
      rotate_left
      · exact absurd (nI_le (a := 16) (b := 16) (Nat.le_refl _) (by omega)) c_9
      refine aw_aload_n dX0_goBackTo_43 rfl ?_
      refine aw_aload_n dX0_goBackTo_44 rfl ?_
      obtain ⟨pe_10, dd_10, ni_10, xx_10, e_10⟩ := JW.get i7_0 (ctc_0 hc2)
      refine aw_get dX0_goBackTo_45 fl_X0_36 e_10 (by omega) rfl ?_
      refine aw_eqi (y := (fI (V c2) 7)) ((Eq.symm (congrArg (fun z => fI z 7) e_10)).trans i7_1) ?_
      obtain ⟨pe_11, dd_11, ni_11, xx_11, e_11⟩ := JW.get i7_0 (ctc_0 hc)
      refine aw_put dX0_goBackTo_48 fp_X0_36 e_11 (by omega) rfl rfl (Nat.le_of_ble_eq_true rfl) rfl ?_
      refine aw_up i7_0 (ctc_0 hc) ⟨_, _, _, _, rfl⟩ (WO (s := 7) (x := .int (fI (V c2) 7)) e_11 rfl (LMs LM0) (by omega) (by omega) (by decide) (Or.inl (by decide))) (fun V_12 j_12 k_12 e_12 => ?_)
      refine aw_aload_n dX0_goBackTo_51 rfl ?_
      refine aw_aload_n dX0_goBackTo_52 rfl ?_
      obtain ⟨pe_13, dd_13, ni_13, xx_13, e_13⟩ := JW.get j_12 (ctc_0 hc2)
      refine aw_get dX0_goBackTo_53 fl_X0_39 e_13 (by omega) rfl ?_
      refine aw_put dX0_goBackTo_56 fp_X0_39 e_12 (by omega) rfl rfl (Nat.le_of_ble_eq_true rfl) rfl ?_
      refine aw_up j_12 (ctc_0 hc) ⟨_, _, _, _, rfl⟩ (WO (s := 8) (x := .int xx_13) e_12 rfl (LMs (LMs LM0)) (by omega) (by omega) (by decide) (Or.inl (by decide))) (fun V_14 j_14 k_14 e_14 => ?_)
      refine aw_vreti dX0_goBackTo_59 rfl (Nat.le_of_ble_eq_true rfl) (Nat.le_of_ble_eq_true rfl) ?_
      exact ⟨((congrArg (fun z => fI z 7) e_14).trans rfl), rfl, j_14⟩
    | succ g_7 ih_7_7 =>
      intro j7  V7 hj7 i7_0 i7_1
      have hlj7 : j7 < 16 := by omega
      refine aw_iload_n dX0_goBackTo_7 rfl ?_
      refine aw_bipush (v := 16) dX0_goBackTo_8 (by decide) ?_
      refine aw_icmp_ge (tgt := 43) dX0_goBackTo_10 (by decide) (fun c_15 => ?_) (fun c_15 => ?_)
      · exact absurd c_15 (nI_ge (a := j7) (b := 16) (by omega) (by omega))
      refine aw_aload_n dX0_goBackTo_13 rfl ?_
      obtain ⟨pe_16, dd_16, ni_16, xx_16, e_16⟩ := JW.get i7_0 (ctc_0 hc)
      refine aw_get dX0_goBackTo_14 fl_X0_26 e_16 (by omega) rfl ?_
      refine aw_iload_n dX0_goBackTo_17 rfl ?_
      refine aw_aload_n dX0_goBackTo_18 rfl ?_
      refine aw_iload_n dX0_goBackTo_19 rfl ?_
      obtain ⟨pe_20, dd_20, ni_20, xx_20, e_20⟩ := JW.get i7_0 (ctc_0 hc2)
      refine aw_callVi (J' := jX0_isDoor) (As := [.int (nI j7)]) (st := [.int (nI j7), .ref (b + (c + 17))]) dX0_goBackTo_20 tb_718 ok_X0_isDoor ⟨_, e_20⟩ (by omega) rfl rfl (g_X0_isDoor l D b N V7 hN i7_0.1 c2 hc2 (nI j7)) rfl (Nat.le_of_ble_eq_true rfl) ⟨Nat.le_of_ble_eq_true rfl, Nat.le_of_ble_eq_true rfl, Nat.le_of_ble_eq_true rfl, Nat.le_of_ble_eq_true rfl⟩ (fun r_21 N_22 V_23 q_24 => ?_)
      obtain ⟨⟨z_19, h_18⟩, rfl, rfl⟩ := q_24
      refine aw_if_eq (tgt := 35) dX0_goBackTo_23 (by decide) (fun c_25 => ?_) (fun c_25 => ?_)
      · skip
        refine aw_iconst (v := 0) dX0_goBackTo_35 (by decide) ?_
        obtain ⟨g_26, e_26⟩ := JW.get i7_0 (ctc_17 hc)
        refine aw_iast dX0_goBackTo_36 e_26 (by omega) (vp_in_nI (n := j7) (by omega) (by omega)) ?_
        refine aw_up i7_0 (ctc_17 hc) ⟨_, rfl⟩ (WA (LMs (LMs (LMs LM0))) (by omega) (by omega)) (fun V_27 j_27 k_27 e_27 => ?_)
        refine aw_iinc (v := (nI (j7 + 1))) (ls' := [some (.ref (b + c)), some (.ref (b + c2)), some (.int (nI (j7 + 1)))]) dX0_goBackTo_37 rfl (fx_up_1 _) (Nat.le_of_ble_eq_true rfl) rfl ?_
        refine aw_goto (tgt := 7) dX0_goBackTo_40 (by decide) ?_
        refine aw_le ?_ (ih_7_7 (j7 + 1)  V_27 (by omega) (j_27) (((congrArg (fun z => fI z 7) (k_27 _ (by omega))).trans i7_1)))
        exact ⟨rfl, ⟨rfl, ⟨rfl, trivial⟩⟩⟩
      · skip
        refine aw_aload_n dX0_goBackTo_26 rfl ?_
        refine aw_get dX0_goBackTo_27 fl_X0_26 e_20 (by omega) rfl ?_
        refine aw_iload_n dX0_goBackTo_30 rfl ?_
        obtain ⟨g_28, e_28⟩ := JW.get i7_0 (ctc_17 hc2)
        refine aw_iald (v := (g_28 j7)) dX0_goBackTo_31 e_28 (by omega) (vp_in_nI (n := j7) (by omega) (by omega)) (congrArg g_28 (nI_clamp (n := j7) (by omega))) ?_
        refine aw_goto (tgt := 36) dX0_goBackTo_32 (by decide) ?_
        obtain ⟨g_29, e_29⟩ := JW.get i7_0 (ctc_17 hc)
        refine aw_iast dX0_goBackTo_36 e_29 (by omega) (vp_in_nI (n := j7) (by omega) (by omega)) ?_
        refine aw_up i7_0 (ctc_17 hc) ⟨_, rfl⟩ (WA (LMs (LMs (LMs LM0))) (by omega) (by omega)) (fun V_30 j_30 k_30 e_30 => ?_)
        refine aw_iinc (v := (nI (j7 + 1))) (ls' := [some (.ref (b + c)), some (.ref (b + c2)), some (.int (nI (j7 + 1)))]) dX0_goBackTo_37 rfl (fx_up_1 _) (Nat.le_of_ble_eq_true rfl) rfl ?_
        refine aw_goto (tgt := 7) dX0_goBackTo_40 (by decide) ?_
        refine aw_le ?_ (ih_7_7 (j7 + 1)  V_30 (by omega) (j_30) (((congrArg (fun z => fI z 7) (k_30 _ (by omega))).trans i7_1)))
        exact ⟨rfl, ⟨rfl, ⟨rfl, trivial⟩⟩⟩
  refine aw_le ?_ (loop_7_6 16 0  V_3 (by omega) (j_2) (((JW.fI q_1 (by omega) (nfc (by omega) nf0)).trans (Eq.refl (fI (V c2) 7)))))
  exact ⟨rfl, ⟨rfl, ⟨rfl, trivial⟩⟩⟩

set_option maxHeartbeats 4000000 in
set_option maxRecDepth 100000 in
theorem g_X7_passK (l : Launch) (D : va_G) (b : Nat) (N : Nat) (V : Wd) (hN : 100 ≤ N) (hW : CW D b V) (c : Nat) (hc : c = 3 ∨ c = 21 ∨ c = 39 ∨ c = 74) (x : Nat) (hx : x = 57 ∨ x = 65) (n0 : Int32) (h74 : c ≠ 74) : MV l D b 6 jX7_pass [.ref (b + 73), .ref (b + c), .ref (b + x), .int n0] N V 0 0 (fun N9 V9 => (fI (V9 c) 7 = ntF (Int32.toNatClampNeg n0) (fI (V c) 7)) ∧ N = N9 ∧ JW D b N [(76, 91, 0, 1000000), (73, 73, 1, 1), (73, 73, 2, 2), (74, 74, 5, 5), (74, 74, 6, 6), (74, 74, 7, 7), (74, 74, 8, 8), (x + 6, x + 6, 0, 1000000), (x, x, 9, 9), (x + 7, x + 7, 0, 1000000), (c + 2, c + 13, 0, 1000000), (c, c, 7, 7), (c, c, 8, 8), (c + 17, c + 17, 0, 1000000)] V V9) := by
  have hJ0 : JW D b N [(76, 91, 0, 1000000), (73, 73, 1, 1), (73, 73, 2, 2), (74, 74, 5, 5), (74, 74, 6, 6), (74, 74, 7, 7), (74, 74, 8, 8), (x + 6, x + 6, 0, 1000000), (x, x, 9, 9), (x + 7, x + 7, 0, 1000000), (c + 2, c + 13, 0, 1000000), (c, c, 7, 7), (c, c, 8, 8), (c + 17, c + 17, 0, 1000000)] V V := JW.rf hW
  refine mw_of (by decide) (by simp [Value.category]) (Nat.le_of_ble_eq_true rfl) ?_
  show AW l D b jX7_pass (fx_rm 6 0 0) none (fx_MQ D b 0 0 (fx_qv (fun N9 V9 => (fI (V9 c) 7 = ntF (Int32.toNatClampNeg n0) (fI (V c) 7)) ∧ N = N9 ∧ JW D b N [(76, 91, 0, 1000000), (73, 73, 1, 1), (73, 73, 2, 2), (74, 74, 5, 5), (74, 74, 6, 6), (74, 74, 7, 7), (74, 74, 8, 8), (x + 6, x + 6, 0, 1000000), (x, x, 9, 9), (x + 7, x + 7, 0, 1000000), (c + 2, c + 13, 0, 1000000), (c, c, 7, 7), (c, c, 8, 8), (c + 17, c + 17, 0, 1000000)] V V9))) 0 [some (.ref (b + 73)), some (.ref (b + c)), some (.ref (b + x)), some (.int n0), none, none] [] N V 0 0
  refine aw_aload_n dX7_pass_0 rfl ?_
  refine aw_iconst (v := 0) dX7_pass_1 (by decide) ?_
  obtain ⟨no_1, nf_1, e_1⟩ := JW.get hJ0 ct_73
  refine aw_put dX7_pass_2 fp_X7_18 e_1 (by omega) rfl rfl (Nat.le_of_ble_eq_true rfl) rfl ?_
  refine aw_up hJ0 ct_73 ⟨_, _, rfl⟩ (WO (s := 1) (x := .int 0) e_1 rfl (LMs LM0) (by decide) (by decide) (by decide) (Or.inl (by decide))) (fun V_2 j_2 k_2 e_2 => ?_)
  refine aw_aload_n dX7_pass_5 rfl ?_
  refine aw_iconst (v := 0) dX7_pass_6 (by decide) ?_
  refine aw_put dX7_pass_7 fp_X7_22 e_2 (by omega) rfl rfl (Nat.le_of_ble_eq_true rfl) rfl ?_
  refine aw_up j_2 ct_73 ⟨_, _, rfl⟩ (WO (s := 2) (x := .int 0) e_2 rfl (LMs (LMs LM0)) (by decide) (by decide) (by decide) (Or.inl (by decide))) (fun V_3 j_3 k_3 e_3 => ?_)
  refine aw_iconst (v := 0) dX7_pass_10 (by decide) ?_
  refine aw_istore (ls' := [some (.ref (b + 73)), some (.ref (b + c)), some (.ref (b + x)), some (.int n0), some (.int 0), none]) dX7_pass_11 (Nat.le_of_ble_eq_true rfl) rfl ?_
  have hb_4 := fx_clt n0
  have loop_13_4 : ∀ (g_13 : Nat), ∀ (j13 : Nat)  (V13 : Wd), j13 + g_13 = (Int32.toNatClampNeg n0) → (ntF ((Int32.toNatClampNeg n0) - j13) (fI (V13 c) 7) = ntF (Int32.toNatClampNeg n0) (fI (V c) 7)) → (JW D b N [(76, 91, 0, 1000000), (73, 73, 1, 1), (73, 73, 2, 2), (74, 74, 5, 5), (74, 74, 6, 6), (74, 74, 7, 7), (74, 74, 8, 8), (x + 6, x + 6, 0, 1000000), (x, x, 9, 9), (x + 7, x + 7, 0, 1000000), (c + 2, c + 13, 0, 1000000), (c, c, 7, 7), (c, c, 8, 8), (c + 17, c + 17, 0, 1000000)] V V13) → AW l D b jX7_pass (fx_rm 6 0 0) none (fx_MQ D b 0 0 (fx_qv (fun N9 V9 => (fI (V9 c) 7 = ntF (Int32.toNatClampNeg n0) (fI (V c) 7)) ∧ N = N9 ∧ JW D b N [(76, 91, 0, 1000000), (73, 73, 1, 1), (73, 73, 2, 2), (74, 74, 5, 5), (74, 74, 6, 6), (74, 74, 7, 7), (74, 74, 8, 8), (x + 6, x + 6, 0, 1000000), (x, x, 9, 9), (x + 7, x + 7, 0, 1000000), (c + 2, c + 13, 0, 1000000), (c, c, 7, 7), (c, c, 8, 8), (c + 17, c + 17, 0, 1000000)] V V9))) 13 [some (.ref (b + 73)), some (.ref (b + c)), some (.ref (b + x)), some (.int n0), some (.int (nI j13)), none] [] N V13 0 0 := by
    intro g_13
    induction g_13 with
    | zero =>
      intro j13  V13 hj13 i13_0 i13_1
      obtain rfl : j13 = (Int32.toNatClampNeg n0) := by omega
      refine aw_iload dX7_pass_13 rfl ?_
      refine aw_iload_n dX7_pass_15 rfl ?_
      refine aw_icmp_ge (tgt := 84) dX7_pass_16 (by decide) (fun c_7 => ?_) (fun c_7 => ?_)
      rotate_left
      · exact absurd (fx_gec n0) c_7
      refine aw_vreti dX7_pass_84 rfl (Nat.le_of_ble_eq_true rfl) (Nat.le_of_ble_eq_true rfl) ?_
      exact ⟨(ntF_end i13_0), rfl, i13_1⟩
    | succ g_13 ih_13_5 =>
      intro j13  V13 hj13 i13_0 i13_1
      have hlj13 : j13 < (Int32.toNatClampNeg n0) := by omega
      refine aw_iload dX7_pass_13 rfl ?_
      refine aw_iload_n dX7_pass_15 rfl ?_
      refine aw_icmp_ge (tgt := 84) dX7_pass_16 (by decide) (fun c_8 => ?_) (fun c_8 => ?_)
      · exact absurd c_8 (fx_gej (by omega))
      refine aw_aload_n dX7_pass_19 rfl ?_
      obtain ⟨pe_9, dd_9, ni_9, xx_9, e_9⟩ := JW.get i13_1 (ctc_0 hc)
      refine aw_get dX7_pass_20 fl_X7_25 e_9 (by omega) rfl ?_
      refine aw_eqi (y := (fI (V13 c) 7)) ((Eq.symm (congrArg (fun z => fI z 7) e_9)).trans (Eq.refl (fI (V13 c) 7))) ?_
      refine aw_sipush (v := 9999) dX7_pass_23 (by decide) ?_
      refine aw_icmp_ge (tgt := 84) dX7_pass_26 (by decide) (fun c_10 => ?_) (fun c_10 => ?_)
      · skip
        refine aw_vreti dX7_pass_84 rfl (Nat.le_of_ble_eq_true rfl) (Nat.le_of_ble_eq_true rfl) ?_
        exact ⟨(ntF_stop (Int32.not_lt.mpr c_10) i13_0), rfl, i13_1⟩
      · skip
        refine aw_iconst (v := 0) dX7_pass_29 (by decide) ?_
        refine aw_istore (ls' := [some (.ref (b + 73)), some (.ref (b + c)), some (.ref (b + x)), some (.int n0), some (.int (nI j13)), some (.int 0)]) dX7_pass_30 (Nat.le_of_ble_eq_true rfl) rfl ?_
        have loop_32_10 : ∀ (g_32 : Nat), ∀ (j32 : Nat)  (V32 : Wd), j32 + g_32 = 12 → (JW D b N [(76, 91, 0, 1000000), (73, 73, 1, 1), (73, 73, 2, 2), (74, 74, 5, 5), (74, 74, 6, 6), (74, 74, 7, 7), (74, 74, 8, 8), (x + 6, x + 6, 0, 1000000), (x, x, 9, 9), (x + 7, x + 7, 0, 1000000), (c + 2, c + 13, 0, 1000000), (c, c, 7, 7), (c, c, 8, 8), (c + 17, c + 17, 0, 1000000)] V V32) → (fI (V32 c) 7 = (fI (V13 c) 7)) → AW l D b jX7_pass (fx_rm 6 0 0) none (fx_MQ D b 0 0 (fx_qv (fun N9 V9 => (fI (V9 c) 7 = ntF (Int32.toNatClampNeg n0) (fI (V c) 7)) ∧ N = N9 ∧ JW D b N [(76, 91, 0, 1000000), (73, 73, 1, 1), (73, 73, 2, 2), (74, 74, 5, 5), (74, 74, 6, 6), (74, 74, 7, 7), (74, 74, 8, 8), (x + 6, x + 6, 0, 1000000), (x, x, 9, 9), (x + 7, x + 7, 0, 1000000), (c + 2, c + 13, 0, 1000000), (c, c, 7, 7), (c, c, 8, 8), (c + 17, c + 17, 0, 1000000)] V V9))) 32 [some (.ref (b + 73)), some (.ref (b + c)), some (.ref (b + x)), some (.int n0), some (.int (nI j13)), some (.int (nI j32))] [] N V32 0 0 := by
          intro g_32
          induction g_32 with
          | zero =>
            intro j32  V32 hj32 i32_0 i32_1
            obtain rfl : j32 = 12 := by omega
            refine aw_iload dX7_pass_32 rfl ?_
            refine aw_bipush (v := 12) dX7_pass_34 (by decide) ?_
            refine aw_icmp_ge (tgt := 62) dX7_pass_36 (by decide) (fun c_13 => ?_) (fun c_13 => ?_)
            rotate_left
            · exact absurd (nI_le (a := 12) (b := 12) (Nat.le_refl _) (by omega)) c_13
            refine aw_aload_n dX7_pass_62 rfl ?_
            refine aw_aload_n dX7_pass_63 rfl ?_
            refine aw_aload_n dX7_pass_64 rfl ?_
            obtain ⟨no_17, nf_17, e_17⟩ := JW.get i32_0 ct_73
            refine aw_callVv (J' := jX7_spreadDread) (As := [.ref (b + c), .ref (b + x)]) (st := []) dX7_pass_65 tb_726 ok_X7_spreadDread ⟨_, e_17⟩ (by omega) rfl rfl (g_X7_spreadDread l D b N V32 hN i32_0.1 c hc x hx) rfl (Nat.le_of_ble_eq_true rfl) ⟨Nat.le_of_ble_eq_true rfl, Nat.le_of_ble_eq_true rfl, Nat.le_of_ble_eq_true rfl, Nat.le_of_ble_eq_true rfl⟩ (fun  N_18 V_16 q_19 => ?_)
            obtain ⟨rfl, q_14⟩ := q_19
            have j_15 := JW.trans i32_0 (JW.weak q_14 (Sub.cons LM0 (by decide) (by decide) (by decide) (Or.inl rfl) (Sub.cons (LMs (LMs (LMs LM0))) (by decide) (by decide) (by decide) (Or.inr ⟨by decide, by decide⟩) (Sub.cons (LMs (LMs (LMs (LMs LM0)))) (by decide) (by decide) (by decide) (Or.inr ⟨by decide, by decide⟩) (Sub.cons (LMs (LMs (LMs (LMs (LMs LM0))))) (by decide) (by decide) (by decide) (Or.inr ⟨by decide, by decide⟩) (Sub.cons (LMs (LMs (LMs (LMs (LMs (LMs LM0)))))) (by decide) (by decide) (by decide) (Or.inr ⟨by decide, by decide⟩) (Sub.cons (LMs (LMs (LMs (LMs (LMs (LMs (LMs LM0))))))) (by omega) (by omega) (by decide) (Or.inl rfl) (Sub.cons (LMs (LMs (LMs (LMs (LMs (LMs (LMs (LMs LM0)))))))) (by omega) (by omega) (by decide) (Or.inr ⟨by decide, by decide⟩) (Sub.cons (LMs (LMs (LMs (LMs (LMs (LMs (LMs (LMs (LMs LM0))))))))) (by omega) (by omega) (by decide) (Or.inl rfl) (Sub.cons (LMs (LMs (LMs (LMs (LMs (LMs (LMs (LMs (LMs (LMs LM0)))))))))) (by omega) (by omega) (by decide) (Or.inl rfl) Sub.nil))))))))))
            refine aw_aload_n dX7_pass_68 rfl ?_
            refine aw_dup dX7_pass_69 rfl ?_
            obtain ⟨pe_20, dd_20, ni_20, xx_20, e_20⟩ := JW.get j_15 (ctc_0 hc)
            refine aw_get dX7_pass_70 fl_X7_25 e_20 (by omega) rfl ?_
            refine aw_eqi (y := (fI (V13 c) 7)) ((Eq.symm (congrArg (fun z => fI z 7) e_20)).trans ((JW.fI q_14 (by omega) (nfc (by omega) (nfc (by omega) (nfc (by omega) (nfc (by omega) (nfc (by omega) (nfc (by omega) (nfc (by omega) (nfc (by omega) (nfc (by omega) nf0)))))))))).trans i32_1)) ?_
            refine aw_iconst (v := 1) dX7_pass_73 (by decide) ?_
            refine aw_iadd dX7_pass_74 ?_
            refine aw_put dX7_pass_75 fp_X7_25 e_20 (by omega) rfl rfl (Nat.le_of_ble_eq_true rfl) rfl ?_
            refine aw_up j_15 (ctc_0 hc) ⟨_, _, _, _, rfl⟩ (WO (s := 7) (x := .int ((fI (V13 c) 7) + 1)) e_20 rfl (LMs (LMs (LMs (LMs (LMs (LMs (LMs (LMs (LMs (LMs (LMs LM0))))))))))) (by omega) (by omega) (by decide) (Or.inl (by decide))) (fun V_21 j_21 k_21 e_21 => ?_)
            refine aw_iinc (v := (nI (j13 + 1))) (ls' := [some (.ref (b + 73)), some (.ref (b + c)), some (.ref (b + x)), some (.int n0), some (.int (nI (j13 + 1))), some (.int (nI 12))]) dX7_pass_78 rfl (fx_up_1 _) (Nat.le_of_ble_eq_true rfl) rfl ?_
            refine aw_goto (tgt := 13) dX7_pass_81 (by decide) ?_
            refine aw_le ?_ (ih_13_5 (j13 + 1)  V_21 (by omega) (ntF_step (by omega) (Int32.not_le.mp c_10) ((congrArg (fun z => fI z 7) e_21).trans rfl) i13_0) (j_21))
            exact ⟨rfl, ⟨rfl, ⟨rfl, ⟨rfl, ⟨rfl, trivial⟩⟩⟩⟩⟩
          | succ g_32 ih_32_11 =>
            intro j32  V32 hj32 i32_0 i32_1
            have hlj32 : j32 < 12 := by omega
            refine aw_iload dX7_pass_32 rfl ?_
            refine aw_bipush (v := 12) dX7_pass_34 (by decide) ?_
            refine aw_icmp_ge (tgt := 62) dX7_pass_36 (by decide) (fun c_22 => ?_) (fun c_22 => ?_)
            · exact absurd c_22 (nI_ge (a := j32) (b := 12) (by omega) (by omega))
            refine aw_aload_n dX7_pass_39 rfl ?_
            refine aw_iload dX7_pass_40 rfl ?_
            obtain ⟨pe_26, dd_26, ni_26, xx_26, e_26⟩ := JW.get i32_0 (ctc_0 hc)
            refine aw_callVi (J' := jX0_isPerson) (As := [.int (nI j32)]) (st := []) dX7_pass_42 tb_630 ok_X0_isPerson ⟨_, e_26⟩ (by omega) rfl rfl (g_X0_isPerson l D b N V32 hN i32_0.1 c hc (nI j32)) rfl (Nat.le_of_ble_eq_true rfl) ⟨Nat.le_of_ble_eq_true rfl, Nat.le_of_ble_eq_true rfl, Nat.le_of_ble_eq_true rfl, Nat.le_of_ble_eq_true rfl⟩ (fun r_27 N_28 V_29 q_30 => ?_)
            obtain ⟨⟨z_25, h_24⟩, rfl, rfl⟩ := q_30
            refine aw_if_eq (tgt := 56) dX7_pass_45 (by decide) (fun c_31 => ?_) (fun c_31 => ?_)
            · skip
              refine aw_iinc (v := (nI (j32 + 1))) (ls' := [some (.ref (b + 73)), some (.ref (b + c)), some (.ref (b + x)), some (.int n0), some (.int (nI j13)), some (.int (nI (j32 + 1)))]) dX7_pass_56 rfl (fx_up_1 _) (Nat.le_of_ble_eq_true rfl) rfl ?_
              refine aw_goto (tgt := 32) dX7_pass_59 (by decide) ?_
              refine aw_le ?_ (ih_32_11 (j32 + 1)  V32 (by omega) (i32_0) (i32_1))
              exact ⟨rfl, ⟨rfl, ⟨rfl, ⟨rfl, ⟨rfl, ⟨rfl, trivial⟩⟩⟩⟩⟩⟩
            · skip
              refine aw_aload_n dX7_pass_48 rfl ?_
              refine aw_aload_n dX7_pass_49 rfl ?_
              refine aw_aload_n dX7_pass_50 rfl ?_
              refine aw_iload dX7_pass_51 rfl ?_
              obtain ⟨no_35, nf_35, e_35⟩ := JW.get i32_0 ct_73
              refine aw_callVv (J' := jX7_goOut) (As := [.ref (b + c), .ref (b + x), .int (nI j32)]) (st := []) dX7_pass_53 tb_631 ok_X7_goOut ⟨_, e_35⟩ (by omega) rfl rfl (g_X7_goOut l D b N V32 hN i32_0.1 c hc x hx (nI j32)) rfl (Nat.le_of_ble_eq_true rfl) ⟨Nat.le_of_ble_eq_true rfl, Nat.le_of_ble_eq_true rfl, Nat.le_of_ble_eq_true rfl, Nat.le_of_ble_eq_true rfl⟩ (fun  N_36 V_34 q_37 => ?_)
              obtain ⟨rfl, q_32⟩ := q_37
              have j_33 := JW.trans i32_0 (JW.weak q_32 (Sub.cons (LMs (LMs (LMs (LMs (LMs (LMs (LMs LM0))))))) (by omega) (by omega) (by decide) (Or.inl rfl) (Sub.cons (LMs (LMs (LMs (LMs (LMs (LMs (LMs (LMs (LMs (LMs (LMs (LMs LM0)))))))))))) (by omega) (by omega) (by decide) (Or.inr ⟨by decide, by decide⟩) (Sub.cons (LMs (LMs (LMs (LMs (LMs (LMs (LMs (LMs LM0)))))))) (by omega) (by omega) (by decide) (Or.inr ⟨by decide, by decide⟩) (Sub.cons (LMs (LMs (LMs (LMs (LMs (LMs (LMs (LMs (LMs LM0))))))))) (by omega) (by omega) (by decide) (Or.inl rfl) (Sub.cons (LMs (LMs LM0)) (by decide) (by decide) (by decide) (Or.inr ⟨by decide, by decide⟩) (Sub.cons (LMs (LMs (LMs (LMs (LMs (LMs (LMs (LMs (LMs (LMs LM0)))))))))) (by omega) (by omega) (by decide) (Or.inl rfl) (Sub.cons (LMs LM0) (by decide) (by decide) (by decide) (Or.inr ⟨by decide, by decide⟩) (Sub.cons (LMs (LMs (LMs (LMs (LMs (LMs (LMs (LMs (LMs (LMs (LMs (LMs (LMs LM0))))))))))))) (by omega) (by omega) (by decide) (Or.inl rfl) Sub.nil)))))))))
              refine aw_iinc (v := (nI (j32 + 1))) (ls' := [some (.ref (b + 73)), some (.ref (b + c)), some (.ref (b + x)), some (.int n0), some (.int (nI j13)), some (.int (nI (j32 + 1)))]) dX7_pass_56 rfl (fx_up_1 _) (Nat.le_of_ble_eq_true rfl) rfl ?_
              refine aw_goto (tgt := 32) dX7_pass_59 (by decide) ?_
              refine aw_le ?_ (ih_32_11 (j32 + 1)  V_34 (by omega) (j_33) (((JW.fI q_32 (by omega) (nfc (by omega) (nfc (by omega) (nfc (by omega) (nfc (by omega) (nfc (by omega) (nfc (by omega) (nfc (by omega) (nfc (by omega) nf0))))))))).trans i32_1)))
              exact ⟨rfl, ⟨rfl, ⟨rfl, ⟨rfl, ⟨rfl, ⟨rfl, trivial⟩⟩⟩⟩⟩⟩
        refine aw_le ?_ (loop_32_10 12 0  V13 (by omega) (i13_1) ((Eq.refl (fI (V13 c) 7))))
        exact ⟨rfl, ⟨rfl, ⟨rfl, ⟨rfl, ⟨rfl, ⟨rfl, trivial⟩⟩⟩⟩⟩⟩
  refine aw_le ?_ (loop_13_4 (Int32.toNatClampNeg n0) 0  V_3 (by omega) (congrArg (ntF (Int32.toNatClampNeg n0)) (KA (s := 2) (x := .int 0) e_2 rfl (by decide) e_3 k_3 (KA (s := 1) (x := .int 0) e_1 rfl (by decide) e_2 k_2 (Eq.refl (fI (V c) 7))))) (j_3))
  exact ⟨rfl, ⟨rfl, ⟨rfl, ⟨rfl, ⟨rfl, trivial⟩⟩⟩⟩⟩

set_option maxHeartbeats 4000000 in
set_option maxRecDepth 100000 in
theorem g_X11_nightsK (l : Launch) (D : va_G) (b : Nat) (N : Nat) (V : Wd) (hN : 100 ≤ N) (hW : CW D b V) (n0 : Int32)  : MI l D b 7 jX11_nights [.ref (b + 0), .int n0] N V 0 0 (fun r N9 V9 => (NTS n0 (fI (V 3) 7) (fI (V9 3) 7)) ∧ N = N9 ∧ JW D b N [(5, 16, 0, 1000000), (20, 20, 0, 1000000), (57, 72, 0, 1000000), (76, 91, 0, 1000000), (73, 73, 1, 1), (73, 73, 2, 2), (74, 74, 5, 5), (74, 74, 6, 6), (74, 74, 7, 7), (74, 74, 8, 8), (3, 3, 7, 7), (3, 3, 8, 8)] V V9) := by
  have hJ0 : JW D b N [(5, 16, 0, 1000000), (20, 20, 0, 1000000), (57, 72, 0, 1000000), (76, 91, 0, 1000000), (73, 73, 1, 1), (73, 73, 2, 2), (74, 74, 5, 5), (74, 74, 6, 6), (74, 74, 7, 7), (74, 74, 8, 8), (3, 3, 7, 7), (3, 3, 8, 8)] V V := JW.rf hW
  refine mw_of (by decide) (by simp [Value.category]) (Nat.le_of_ble_eq_true rfl) ?_
  show AW l D b jX11_nights (fx_rm 7 0 0) none (fx_MQ D b 0 0 (fx_qi (fun r N9 V9 => (NTS n0 (fI (V 3) 7) (fI (V9 3) 7)) ∧ N = N9 ∧ JW D b N [(5, 16, 0, 1000000), (20, 20, 0, 1000000), (57, 72, 0, 1000000), (76, 91, 0, 1000000), (73, 73, 1, 1), (73, 73, 2, 2), (74, 74, 5, 5), (74, 74, 6, 6), (74, 74, 7, 7), (74, 74, 8, 8), (3, 3, 7, 7), (3, 3, 8, 8)] V V9))) 0 [some (.ref (b + 0)), some (.int n0)] [] N V 0 0
  refine aw_iload_n dX11_nights_0 rfl ?_
  refine aw_iconst (v := 1) dX11_nights_1 (by decide) ?_
  refine aw_icmp_lt (tgt := 11) dX11_nights_2 (by decide) (fun c_1 => ?_) (fun c_1 => ?_)
  · skip
    refine aw_iconst (v := (-1)) dX11_nights_11 (by decide) ?_
    refine aw_ireti dX11_nights_12 rfl (Nat.le_of_ble_eq_true rfl) (Nat.le_of_ble_eq_true rfl) ?_
    exact ⟨Or.inr ⟨(by have e1 : (1 : Int32).toInt = 1 := (by decide); have e100 : (100 : Int32).toInt = 100 := (by decide); have q0 := c_1; simp only [← Int32.toInt_inj, Int32.le_iff_toInt_le, Int32.lt_iff_toInt_lt] at q0 ⊢; omega), (Eq.refl (fI (V 3) 7))⟩, rfl, hJ0⟩
  · skip
    refine aw_iload_n dX11_nights_5 rfl ?_
    refine aw_bipush (v := 100) dX11_nights_6 (by decide) ?_
    refine aw_icmp_le (tgt := 13) dX11_nights_8 (by decide) (fun c_2 => ?_) (fun c_2 => ?_)
    · skip
      refine aw_aload_n dX11_nights_13 rfl ?_
      obtain ⟨ek_3, x_3, y_3, e_3, hx_3, hy_3⟩ := JW.get hJ0 ct_0
      refine aw_get dX11_nights_14 fl_X11_46 e_3 (by omega) rfl ?_
      refine aw_aload_n dX11_nights_17 rfl ?_
      refine aw_get dX11_nights_18 fl_X11_19 e_3 (by omega) rfl ?_
      refine aw_aload_n dX11_nights_21 rfl ?_
      refine aw_get dX11_nights_22 fl_X11_36 e_3 (by omega) rfl ?_
      refine aw_iload_n dX11_nights_25 rfl ?_
      obtain ⟨no_8, nf_8, e_8⟩ := JW.get hJ0 ct_73
      refine aw_callVv (J' := jX7_pass) (As := [.ref (b + 3), .ref (b + x_3), .int n0]) (st := []) dX11_nights_26 tb_626 ok_X7_pass ⟨_, e_8⟩ (by omega) rfl rfl (g_X7_passK l D b N V hN hJ0.1 3 cA_3 x_3 hx_3 n0 (by decide)) rfl (Nat.le_of_ble_eq_true rfl) ⟨Nat.le_of_ble_eq_true rfl, Nat.le_of_ble_eq_true rfl, Nat.le_of_ble_eq_true rfl, Nat.le_of_ble_eq_true rfl⟩ (fun  N_9 V_7 q_10 => ?_)
      obtain ⟨h_5, rfl, q_4⟩ := q_10
      have j_6 := JW.trans hJ0 (JW.weak q_4 (Sub.cons (LMs (LMs (LMs LM0))) (by decide) (by decide) (by decide) (Or.inl rfl) (Sub.cons (LMs (LMs (LMs (LMs LM0)))) (by decide) (by decide) (by decide) (Or.inr ⟨by decide, by decide⟩) (Sub.cons (LMs (LMs (LMs (LMs (LMs LM0))))) (by decide) (by decide) (by decide) (Or.inr ⟨by decide, by decide⟩) (Sub.cons (LMs (LMs (LMs (LMs (LMs (LMs LM0)))))) (by decide) (by decide) (by decide) (Or.inr ⟨by decide, by decide⟩) (Sub.cons (LMs (LMs (LMs (LMs (LMs (LMs (LMs LM0))))))) (by decide) (by decide) (by decide) (Or.inr ⟨by decide, by decide⟩) (Sub.cons (LMs (LMs (LMs (LMs (LMs (LMs (LMs (LMs LM0)))))))) (by decide) (by decide) (by decide) (Or.inr ⟨by decide, by decide⟩) (Sub.cons (LMs (LMs (LMs (LMs (LMs (LMs (LMs (LMs (LMs LM0))))))))) (by decide) (by decide) (by decide) (Or.inr ⟨by decide, by decide⟩) (Sub.cons (LMs (LMs LM0)) (by omega) (by omega) (by decide) (Or.inl rfl) (Sub.cons (LMs (LMs LM0)) (by omega) (by omega) (by decide) (Or.inl rfl) (Sub.cons (LMs (LMs LM0)) (by omega) (by omega) (by decide) (Or.inl rfl) (Sub.cons LM0 (by decide) (by decide) (by decide) (Or.inl rfl) (Sub.cons (LMs (LMs (LMs (LMs (LMs (LMs (LMs (LMs (LMs (LMs LM0)))))))))) (by decide) (by decide) (by decide) (Or.inr ⟨by decide, by decide⟩) (Sub.cons (LMs (LMs (LMs (LMs (LMs (LMs (LMs (LMs (LMs (LMs (LMs LM0))))))))))) (by decide) (by decide) (by decide) (Or.inr ⟨by decide, by decide⟩) (Sub.cons (LMs LM0) (by decide) (by decide) (by decide) (Or.inl rfl) Sub.nil)))))))))))))))
      refine aw_aload_n dX11_nights_29 rfl ?_
      obtain ⟨ek_11, x_11, y_11, e_11, hx_11, hy_11⟩ := JW.get j_6 ct_0
      refine aw_get dX11_nights_30 fl_X11_46 e_11 (by omega) rfl ?_
      obtain ⟨no_12, nf_12, e_12⟩ := JW.get j_6 ct_73
      refine aw_get dX11_nights_33 fl_X11_118 e_12 (by omega) rfl ?_
      refine aw_ireti dX11_nights_36 rfl (Nat.le_of_ble_eq_true rfl) (Nat.le_of_ble_eq_true rfl) ?_
      exact ⟨Or.inl ⟨(by have e1 : (1 : Int32).toInt = 1 := (by decide); have e100 : (100 : Int32).toInt = 100 := (by decide); have q0 := c_1; have q1 := c_2; simp only [← Int32.toInt_inj, Int32.le_iff_toInt_le, Int32.lt_iff_toInt_lt] at q0 q1 ⊢; omega), (by have e1 : (1 : Int32).toInt = 1 := (by decide); have e100 : (100 : Int32).toInt = 100 := (by decide); have q0 := c_1; have q1 := c_2; simp only [← Int32.toInt_inj, Int32.le_iff_toInt_le, Int32.lt_iff_toInt_lt] at q0 q1 ⊢; omega), (h_5.trans (congrArg (ntF (Int32.toNatClampNeg n0)) (Eq.refl (fI (V 3) 7))))⟩, rfl, j_6⟩
    · skip
      refine aw_iconst (v := (-1)) dX11_nights_11 (by decide) ?_
      refine aw_ireti dX11_nights_12 rfl (Nat.le_of_ble_eq_true rfl) (Nat.le_of_ble_eq_true rfl) ?_
      exact ⟨Or.inr ⟨(by have e1 : (1 : Int32).toInt = 1 := (by decide); have e100 : (100 : Int32).toInt = 100 := (by decide); have q0 := c_1; have q1 := c_2; simp only [← Int32.toInt_inj, Int32.le_iff_toInt_le, Int32.lt_iff_toInt_lt] at q0 q1 ⊢; omega), (Eq.refl (fI (V 3) 7))⟩, rfl, hJ0⟩

set_option maxHeartbeats 4000000 in
set_option maxRecDepth 100000 in
theorem g_X11_undoK (l : Launch) (D : va_G) (b : Nat) (N : Nat) (V : Wd) (hN : 100 ≤ N) (hW : CW D b V)   : MI l D b 3 jX11_undo [.ref (b + 0)] N V 0 0 (fun r N9 V9 => ((r = 0 ∨ r = 1) ∧ (UND (fI (V 0) 4) (fI (V 3) 7) (fI (V 39) 7) r (fI (V9 3) 7))) ∧ N = N9 ∧ JW D b N [(5, 16, 0, 1000000), (20, 20, 0, 1000000), (3, 3, 7, 7), (3, 3, 8, 8)] V V9) := by
  have hJ0 : JW D b N [(5, 16, 0, 1000000), (20, 20, 0, 1000000), (3, 3, 7, 7), (3, 3, 8, 8)] V V := JW.rf hW
  refine mw_of (by decide) (by simp [Value.category]) (Nat.le_of_ble_eq_true rfl) ?_
  show AW l D b jX11_undo (fx_rm 3 0 0) none (fx_MQ D b 0 0 (fx_qi (fun r N9 V9 => ((r = 0 ∨ r = 1) ∧ (UND (fI (V 0) 4) (fI (V 3) 7) (fI (V 39) 7) r (fI (V9 3) 7))) ∧ N = N9 ∧ JW D b N [(5, 16, 0, 1000000), (20, 20, 0, 1000000), (3, 3, 7, 7), (3, 3, 8, 8)] V V9))) 0 [some (.ref (b + 0))] [] N V 0 0
  refine aw_aload_n dX11_undo_0 rfl ?_
  obtain ⟨ek_1, x_1, y_1, e_1, hx_1, hy_1⟩ := JW.get hJ0 ct_0
  refine aw_get dX11_undo_1 fl_X11_29 e_1 (by omega) rfl ?_
  refine aw_eqi (y := (fI (V 0) 4)) ((Eq.symm (congrArg (fun z => fI z 4) e_1)).trans (Eq.refl (fI (V 0) 4))) ?_
  refine aw_if_ne (tgt := 9) dX11_undo_4 (by decide) (fun c_2 => ?_) (fun c_2 => ?_)
  · skip
    refine aw_aload_n dX11_undo_9 rfl ?_
    refine aw_get dX11_undo_10 fl_X11_19 e_1 (by omega) rfl ?_
    refine aw_aload_n dX11_undo_13 rfl ?_
    refine aw_get dX11_undo_14 fl_X11_26 e_1 (by omega) rfl ?_
    obtain ⟨pe_7, dd_7, ni_7, xx_7, e_7⟩ := JW.get hJ0 (ctc_0 cA_3)
    refine aw_callVv (J' := jX0_goBackTo) (As := [.ref (b + 39)]) (st := []) dX11_undo_17 tb_1011 ok_X0_goBackTo ⟨_, e_7⟩ (by omega) rfl rfl (g_X0_goBackToK l D b N V hN hJ0.1 3 cA_3 39 cA_39) rfl (Nat.le_of_ble_eq_true rfl) ⟨Nat.le_of_ble_eq_true rfl, Nat.le_of_ble_eq_true rfl, Nat.le_of_ble_eq_true rfl, Nat.le_of_ble_eq_true rfl⟩ (fun  N_8 V_6 q_9 => ?_)
    obtain ⟨h_4, rfl, q_3⟩ := q_9
    have j_5 := JW.trans hJ0 (JW.weak q_3 (Sub.cons LM0 (by decide) (by decide) (by decide) (Or.inl rfl) (Sub.cons (LMs (LMs LM0)) (by decide) (by decide) (by decide) (Or.inr ⟨by decide, by decide⟩) (Sub.cons (LMs (LMs (LMs LM0))) (by decide) (by decide) (by decide) (Or.inr ⟨by decide, by decide⟩) (Sub.cons (LMs LM0) (by decide) (by decide) (by decide) (Or.inl rfl) Sub.nil)))))
    refine aw_iconst (v := 1) dX11_undo_20 (by decide) ?_
    refine aw_zreti dX11_undo_21 rfl (by first | exact Or.inl rfl | exact Or.inr rfl | assumption) (Nat.le_of_ble_eq_true rfl) (Nat.le_of_ble_eq_true rfl) ?_
    exact ⟨⟨(by first | exact Or.inl rfl | exact Or.inr rfl | assumption), Or.inr ⟨rfl, c_2, (h_4.trans (Eq.refl (fI (V 39) 7)))⟩⟩, rfl, j_5⟩
  · skip
    refine aw_iconst (v := 0) dX11_undo_7 (by decide) ?_
    refine aw_zreti dX11_undo_8 rfl (by first | exact Or.inl rfl | exact Or.inr rfl | assumption) (Nat.le_of_ble_eq_true rfl) (Nat.le_of_ble_eq_true rfl) ?_
    exact ⟨⟨(by first | exact Or.inl rfl | exact Or.inr rfl | assumption), Or.inl ⟨rfl, by first | exact c_2 | exact Decidable.not_not.mp c_2, (Eq.refl (fI (V 3) 7))⟩⟩, rfl, hJ0⟩

set_option maxHeartbeats 4000000 in
set_option maxRecDepth 100000 in
theorem g_X11_keepK (l : Launch) (D : va_G) (b : Nat) (N : Nat) (V : Wd) (hN : 100 ≤ N) (hW : CW D b V)   : MI l D b 2 jX11_keep [.ref (b + 0)] N V 0 0 (fun r N9 V9 => (r = fI (V 3) 7 ∧ fI (V9 39) 7 = fI (V 3) 7 ∧ fI (V9 0) 4 = 1) ∧ N = N9 ∧ JW D b N [(41, 56, 0, 1000000), (39, 39, 5, 5), (39, 39, 6, 6), (39, 39, 7, 7), (39, 39, 8, 8), (0, 0, 4, 4)] V V9) := by
  have hJ0 : JW D b N [(41, 56, 0, 1000000), (39, 39, 5, 5), (39, 39, 6, 6), (39, 39, 7, 7), (39, 39, 8, 8), (0, 0, 4, 4)] V V := JW.rf hW
  refine mw_of (by decide) (by simp [Value.category]) (Nat.le_of_ble_eq_true rfl) ?_
  show AW l D b jX11_keep (fx_rm 2 0 0) none (fx_MQ D b 0 0 (fx_qi (fun r N9 V9 => (r = fI (V 3) 7 ∧ fI (V9 39) 7 = fI (V 3) 7 ∧ fI (V9 0) 4 = 1) ∧ N = N9 ∧ JW D b N [(41, 56, 0, 1000000), (39, 39, 5, 5), (39, 39, 6, 6), (39, 39, 7, 7), (39, 39, 8, 8), (0, 0, 4, 4)] V V9))) 0 [some (.ref (b + 0))] [] N V 0 0
  refine aw_aload_n dX11_keep_0 rfl ?_
  obtain ⟨ek_1, x_1, y_1, e_1, hx_1, hy_1⟩ := JW.get hJ0 ct_0
  refine aw_get dX11_keep_1 fl_X11_26 e_1 (by omega) rfl ?_
  refine aw_aload_n dX11_keep_4 rfl ?_
  refine aw_get dX11_keep_5 fl_X11_19 e_1 (by omega) rfl ?_
  obtain ⟨pe_6, dd_6, ni_6, xx_6, e_6⟩ := JW.get hJ0 (ctc_0 cA_39)
  refine aw_callVv (J' := jX0_copyFrom) (As := [.ref (b + 3)]) (st := []) dX11_keep_8 tb_581 ok_X0_copyFrom ⟨_, e_6⟩ (by omega) rfl rfl (g_X0_copyFromK l D b N V hN hJ0.1 39 cA_39 3 cA_3) rfl (Nat.le_of_ble_eq_true rfl) ⟨Nat.le_of_ble_eq_true rfl, Nat.le_of_ble_eq_true rfl, Nat.le_of_ble_eq_true rfl, Nat.le_of_ble_eq_true rfl⟩ (fun  N_7 V_5 q_8 => ?_)
  obtain ⟨h_3, rfl, q_2⟩ := q_8
  have j_4 := JW.trans hJ0 (JW.weak q_2 (Sub.cons LM0 (by decide) (by decide) (by decide) (Or.inl rfl) (Sub.cons (LMs LM0) (by decide) (by decide) (by decide) (Or.inr ⟨by decide, by decide⟩) (Sub.cons (LMs (LMs LM0)) (by decide) (by decide) (by decide) (Or.inr ⟨by decide, by decide⟩) (Sub.cons (LMs (LMs (LMs LM0))) (by decide) (by decide) (by decide) (Or.inr ⟨by decide, by decide⟩) (Sub.cons (LMs (LMs (LMs (LMs LM0)))) (by decide) (by decide) (by decide) (Or.inr ⟨by decide, by decide⟩) (Sub.cons LM0 (by decide) (by decide) (by decide) (Or.inl rfl) (Sub.cons LM0 (by decide) (by decide) (by decide) (Or.inl rfl) (Sub.cons LM0 (by decide) (by decide) (by decide) (Or.inl rfl) (Sub.cons LM0 (by decide) (by decide) (by decide) (Or.inl rfl) Sub.nil))))))))))
  refine aw_aload_n dX11_keep_11 rfl ?_
  refine aw_iconst (v := 1) dX11_keep_12 (by decide) ?_
  obtain ⟨ek_9, x_9, y_9, e_9, hx_9, hy_9⟩ := JW.get j_4 ct_0
  refine aw_put dX11_keep_13 fp_X11_29 e_9 (by omega) (by decide) rfl (Nat.le_of_ble_eq_true rfl) rfl ?_
  refine aw_up j_4 ct_0 ⟨_, _, _, rfl, hx_9, hy_9⟩ (WO (s := 4) (x := .int 1) e_9 rfl (LMs (LMs (LMs (LMs (LMs LM0))))) (by decide) (by decide) (by decide) (Or.inl (by decide))) (fun V_10 j_10 k_10 e_10 => ?_)
  refine aw_aload_n dX11_keep_16 rfl ?_
  refine aw_get dX11_keep_17 fl_X11_19 e_10 (by omega) rfl ?_
  obtain ⟨pe_11, dd_11, ni_11, xx_11, e_11⟩ := JW.get j_10 (ctc_0 cA_3)
  refine aw_get dX11_keep_20 fl_X11_268 e_11 (by omega) rfl ?_
  refine aw_eqi (y := (fI (V 3) 7)) ((Eq.symm (congrArg (fun z => fI z 7) e_11)).trans (KA (s := 4) (x := .int 1) e_9 rfl (by decide) e_10 k_10 ((JW.fI q_2 (by omega) (nfc (by omega) (nfc (by omega) (nfc (by omega) (nfc (by omega) (nfc (by omega) (nfc (by omega) (nfc (by omega) (nfc (by omega) (nfc (by omega) nf0)))))))))).trans (Eq.refl (fI (V 3) 7))))) ?_
  refine aw_ireti dX11_keep_23 rfl (Nat.le_of_ble_eq_true rfl) (Nat.le_of_ble_eq_true rfl) ?_
  exact ⟨⟨rfl, (KA (s := 4) (x := .int 1) e_9 rfl (by decide) e_10 k_10 (h_3.trans (Eq.refl (fI (V 3) 7)))), ((congrArg (fun z => fI z 4) e_10).trans rfl)⟩, rfl, j_10⟩
