set_option maxHeartbeats 4000000 in
set_option maxRecDepth 100000 in
theorem g_X11_lawK (l : Launch) (D : va_G) (b : Nat) (N : Nat) (V : Wd) (hN : 100 ≤ N) (hW : CW D b V) (n0 : Int32)  : MI l D b 29 jX11_law [.ref (b + 0), .int n0] N V 1 2 (fun r N9 V9 => N ≤ N9 ∧ N9 ≤ N + 1 ∧ TKS (cIn n0 1 240 (fI (V 1) 1)) (fI (V 1) 1) (fI (V9 1) 1) ∧ JW D b N [(57, 72, 0, 1000000), (1, 1, 2, 2), (1, 1, 3, 3), (1, 1, 4, 4), (1, 1, 1, 1), (0, 0, 5, 5), (0, 0, 6, 6)] V V9) := by
  have hJ0 : JW D b N [(57, 72, 0, 1000000), (1, 1, 2, 2), (1, 1, 3, 3), (1, 1, 4, 4), (1, 1, 1, 1), (0, 0, 5, 5), (0, 0, 6, 6)] V V := JW.rf hW
  refine mw_of (by decide) (by simp [Value.category]) (Nat.le_of_ble_eq_true rfl) ?_
  show AW l D b jX11_law (fx_rm 29 1 2) none (fx_MQ D b 1 2 (fx_qi (fun r N9 V9 => N ≤ N9 ∧ N9 ≤ N + 1 ∧ TKS (cIn n0 1 240 (fI (V 1) 1)) (fI (V 1) 1) (fI (V9 1) 1) ∧ JW D b N [(57, 72, 0, 1000000), (1, 1, 2, 2), (1, 1, 3, 3), (1, 1, 4, 4), (1, 1, 1, 1), (0, 0, 5, 5), (0, 0, 6, 6)] V V9))) 0 [some (.ref (b + 0)), some (.int n0), none, none] [] N V 0 0
  refine aw_aload_n dX11_law_0 rfl ?_
  obtain ⟨ek_1, x_1, y_1, e_1, hx_1, hy_1⟩ := JW.get hJ0 ct_0
  refine aw_get dX11_law_1 fl_X11_12 e_1 (by omega) rfl ?_
  refine aw_iload_n dX11_law_4 rfl ?_
  refine aw_iconst (v := 1) dX11_law_5 (by decide) ?_
  refine aw_sipush (v := 240) dX11_law_6 (by decide) ?_
  obtain ⟨ts_5, tn_5, tf_5, ta_5, e_5, hta_5⟩ := JW.get hJ0 ct_1
  refine aw_callVi (J' := jX10_holds) (As := [.int n0, .int 1, .int 240]) (st := []) dX11_law_9 tb_267 ok_X10_holds ⟨_, e_5⟩ (by omega) rfl rfl (g_X10_holdsK l D b N V hN hJ0.1 n0 1 240) rfl (Nat.le_of_ble_eq_true rfl) ⟨Nat.le_of_ble_eq_true rfl, Nat.le_of_ble_eq_true rfl, Nat.le_of_ble_eq_true rfl, Nat.le_of_ble_eq_true rfl⟩ (fun r_6 N_7 V_8 q_9 => ?_)
  obtain ⟨⟨z_4, h_3⟩, rfl, rfl⟩ := q_9
  refine aw_if_ne (tgt := 17) dX11_law_12 (by decide) (fun c_10 => ?_) (fun c_10 => ?_)
  · skip
    refine aw_aload_n dX11_law_17 rfl ?_
    refine aw_get dX11_law_18 fl_X11_12 e_1 (by omega) rfl ?_
    refine aw_iload_n dX11_law_21 rfl ?_
    refine aw_callVv (J' := jX10_take) (As := [.int n0]) (st := []) dX11_law_22 tb_271 ok_X10_take ⟨_, e_5⟩ (by omega) rfl rfl (g_X10_takeK l D b N V hN hJ0.1 n0) rfl (Nat.le_of_ble_eq_true rfl) ⟨Nat.le_of_ble_eq_true rfl, Nat.le_of_ble_eq_true rfl, Nat.le_of_ble_eq_true rfl, Nat.le_of_ble_eq_true rfl⟩ (fun  N_15 V_14 q_16 => ?_)
    obtain ⟨h_12, rfl, q_11⟩ := q_16
    have j_13 := JW.trans hJ0 (JW.weak q_11 (Sub.cons (LMs LM0) (by decide) (by decide) (by decide) (Or.inr ⟨by decide, by decide⟩) (Sub.cons (LMs (LMs LM0)) (by decide) (by decide) (by decide) (Or.inr ⟨by decide, by decide⟩) (Sub.cons (LMs (LMs (LMs LM0))) (by decide) (by decide) (by decide) (Or.inr ⟨by decide, by decide⟩) (Sub.cons (LMs (LMs (LMs (LMs LM0)))) (by decide) (by decide) (by decide) (Or.inr ⟨by decide, by decide⟩) Sub.nil)))))
    refine aw_aload_n dX11_law_25 rfl ?_
    obtain ⟨ek_17, x_17, y_17, e_17, hx_17, hy_17⟩ := JW.get j_13 ct_0
    refine aw_get dX11_law_26 fl_X11_40 e_17 (by omega) rfl ?_
    obtain ⟨s8_21, r8_21, h8_21, e_21, hs_21, hr_21⟩ := JW.get j_13 (ctl_0 hy_17)
    refine aw_callVv (J' := jX4_clear) (As := []) (st := []) dX11_law_29 tb_275 ok_X4_clear ⟨_, e_21⟩ (by omega) rfl rfl (g_X4_clear l D b N V_14 hN j_13.1 y_17 hy_17) rfl (Nat.le_of_ble_eq_true rfl) ⟨Nat.le_of_ble_eq_true rfl, Nat.le_of_ble_eq_true rfl, Nat.le_of_ble_eq_true rfl, Nat.le_of_ble_eq_true rfl⟩ (fun  N_22 V_20 q_23 => ?_)
    obtain ⟨rfl, q_18⟩ := q_23
    have j_19 := JW.trans j_13 (JW.weak q_18 (Sub.cons LM0 (by omega) (by omega) (by decide) (Or.inl rfl) (Sub.cons LM0 (by omega) (by omega) (by decide) (Or.inl rfl) Sub.nil)))
    refine aw_new dX11_law_32 nw_X11_89 (Nat.le_of_ble_eq_true rfl) (Nat.le_of_ble_eq_true rfl) ?_
    refine aw_newJ j_19 hN (fun V_24 j_24 e_24 k_24 => ?_)
    refine aw_dup dX11_law_35 rfl ?_
    refine aw_aload_n dX11_law_36 rfl ?_
    obtain ⟨ek_25, x_25, y_25, e_25, hx_25, hy_25⟩ := JW.get j_24 ct_0
    refine aw_get dX11_law_37 fl_X11_12 e_25 (by omega) rfl ?_
    refine aw_aload_n dX11_law_40 rfl ?_
    refine aw_get dX11_law_41 fl_X11_40 e_25 (by omega) rfl ?_
    refine aw_callIv (As := [.ref (b + 1), .ref (b + y_25)]) (st := [.ref (b + N)]) dX11_law_44 tb_281 ok_X5_init rfl (g_X5_init l D b (N + 1) V_24 N (by omega) y_25 e_24) rfl (Nat.le_of_ble_eq_true rfl) ⟨Nat.le_of_ble_eq_true rfl, Nat.le_of_ble_eq_true rfl, Nat.le_of_ble_eq_true rfl, Nat.le_of_ble_eq_true rfl⟩ (fun  N_31 V_30 q_32 => ?_)
    obtain ⟨rfl, h_26, f_27⟩ := q_32
    have jA_28 := JW.skip j_24 f_27 hN
    have jB_29 : JW D b (N + 1) [(57, 72, 0, 1000000), (1, 1, 2, 2), (1, 1, 3, 3), (1, 1, 4, 4), (1, 1, 1, 1), (0, 0, 5, 5), (0, 0, 6, 6)] V_30 V_30 := JW.rf jA_28.1
    refine aw_bipush (v := 16) dX11_law_47 (by decide) ?_
    refine aw_callWi (J' := jX6_readLines) (y := ({ cls := "FearLocks$LawReader", name := "readLines", desc := "(I)I" } : Jvm.MethodName)) (RC := "FearLocks$LawReader") (owner := "FearLocks$LinesReader") (As := [.int 16]) (st := []) dX11_law_49 tb_301 okW_X6_readLines_X5 ⟨_, ((jB_29.2.1 _ (by omega) (by omega)).trans h_26)⟩ (by omega) rfl rfl (g_X6_readLines_L l D b (N + 1) V_30 (by omega) jB_29.1 N y_25 ⟨by omega, by omega⟩ hy_25 ((jB_29.2.1 _ (by omega) (by omega)).trans h_26)) rfl (Nat.le_of_ble_eq_true rfl) ⟨Nat.le_of_ble_eq_true rfl, Nat.le_of_ble_eq_true rfl, Nat.le_of_ble_eq_true rfl, Nat.le_of_ble_eq_true rfl⟩ (fun r_36 N_37 V_35 q_38 => ?_)
    obtain ⟨rfl, q_33⟩ := q_38
    have j_34 := JW.trans jB_29 (JW.weak q_33 (Sub.cons (LMs (LMs LM0)) (by decide) (by decide) (by decide) (Or.inr ⟨by decide, by decide⟩) (Sub.cons LM0 (by omega) (by omega) (by decide) (Or.inl rfl) (Sub.cons LM0 (by omega) (by omega) (by decide) (Or.inl rfl) (Sub.cons LM0 (by omega) (by omega) (by decide) (Or.inl rfl) (Sub.cons LM0 (by omega) (by omega) (by decide) (Or.inl rfl) (Sub.cons LM0 (by omega) (by omega) (by decide) (Or.inl rfl) (Sub.cons LM0 (by omega) (by omega) (by decide) (Or.inl rfl) (Sub.cons (LMs (LMs (LMs LM0))) (by decide) (by decide) (by decide) (Or.inr ⟨by decide, by decide⟩) (Sub.cons LM0 (by omega) (by omega) (by decide) (Or.inl rfl) Sub.nil))))))))))
    refine aw_istore_n (ls' := [some (.ref (b + 0)), some (.int n0), some (.int r_36), none]) dX11_law_52 (Nat.le_of_ble_eq_true rfl) rfl ?_
    refine aw_iload_n dX11_law_53 rfl ?_
    refine aw_if_le (tgt := 75) dX11_law_54 (by decide) (fun c_39 => ?_) (fun c_39 => ?_)
    · skip
      refine aw_iload_n dX11_law_75 rfl ?_
      refine aw_ireti dX11_law_76 rfl (Nat.le_of_ble_eq_true rfl) (Nat.le_of_ble_eq_true rfl) ?_
      exact ⟨Nat.le_succ _, Nat.le_refl _, Or.inl ⟨(by have e0 : (0 : Int32).toInt = 0 := (by decide); have e1 : (1 : Int32).toInt = 1 := (by decide); have e240 : (240 : Int32).toInt = 240 := (by decide); have q0 := c_10; have q1 := h_3; simp only [cIn, ← Int32.toInt_inj, Int32.le_iff_toInt_le, Int32.lt_iff_toInt_lt] at q0 q1 ⊢; omega), ((JW.fI q_33 (by omega) (nfc (by omega) (nfc (by omega) (nfc (by omega) (nfc (by omega) (nfc (by omega) (nfc (by omega) (nfc (by omega) (nfc (by omega) (nfc (by omega) nf0)))))))))).trans ((congrArg (fun z => fI z 1) (f_27 _ (by omega))).trans ((congrArg (fun z => fI z 1) (k_24 _ (by omega))).trans ((JW.fI q_18 (by omega) (nfc (by omega) (nfc (by omega) nf0))).trans h_12))))⟩, JW.trans jA_28 (JW.weakN j_34)⟩
    · skip
      refine aw_aload_n dX11_law_57 rfl ?_
      obtain ⟨ek_40, x_40, y_40, e_40, hx_40, hy_40⟩ := JW.get j_34 ct_0
      refine aw_get dX11_law_58 fl_X11_36 e_40 (by omega) rfl ?_
      refine aw_astore_n (ls' := [some (.ref (b + 0)), some (.int n0), some (.int r_36), some (.ref (b + x_40))]) dX11_law_61 (Nat.le_of_ble_eq_true rfl) rfl ?_
      refine aw_aload_n dX11_law_62 rfl ?_
      refine aw_aload_n dX11_law_63 rfl ?_
      refine aw_get dX11_law_64 fl_X11_40 e_40 (by omega) rfl ?_
      refine aw_put dX11_law_67 fp_X11_36 e_40 (by omega) rfl rfl (Nat.le_of_ble_eq_true rfl) rfl ?_
      refine aw_up j_34 ct_0 ⟨_, _, _, rfl, hy_40, hy_40⟩ (WO (s := 5) (x := .ref (b + y_40)) e_40 rfl (LMs (LMs (LMs (LMs (LMs LM0))))) (by decide) (by decide) (by decide) (Or.inl (by decide))) (fun V_41 j_41 k_41 e_41 => ?_)
      refine aw_aload_n dX11_law_70 rfl ?_
      refine aw_aload_n dX11_law_71 rfl ?_
      refine aw_put dX11_law_72 fp_X11_40 e_41 (by omega) rfl rfl (Nat.le_of_ble_eq_true rfl) rfl ?_
      refine aw_up j_41 ct_0 ⟨_, _, _, rfl, hy_40, hx_40⟩ (WO (s := 6) (x := .ref (b + x_40)) e_41 rfl (LMs (LMs (LMs (LMs (LMs (LMs LM0)))))) (by decide) (by decide) (by decide) (Or.inl (by decide))) (fun V_42 j_42 k_42 e_42 => ?_)
      refine aw_iload_n dX11_law_75 rfl ?_
      refine aw_ireti dX11_law_76 rfl (Nat.le_of_ble_eq_true rfl) (Nat.le_of_ble_eq_true rfl) ?_
      exact ⟨Nat.le_succ _, Nat.le_refl _, Or.inl ⟨(by have e0 : (0 : Int32).toInt = 0 := (by decide); have e1 : (1 : Int32).toInt = 1 := (by decide); have e240 : (240 : Int32).toInt = 240 := (by decide); have q0 := c_10; have q1 := h_3; simp only [cIn, ← Int32.toInt_inj, Int32.le_iff_toInt_le, Int32.lt_iff_toInt_lt] at q0 q1 ⊢; omega), (KA (s := 6) (x := .ref (b + x_40)) e_41 rfl (by decide) e_42 k_42 (KA (s := 5) (x := .ref (b + y_40)) e_40 rfl (by decide) e_41 k_41 ((JW.fI q_33 (by omega) (nfc (by omega) (nfc (by omega) (nfc (by omega) (nfc (by omega) (nfc (by omega) (nfc (by omega) (nfc (by omega) (nfc (by omega) (nfc (by omega) nf0)))))))))).trans ((congrArg (fun z => fI z 1) (f_27 _ (by omega))).trans ((congrArg (fun z => fI z 1) (k_24 _ (by omega))).trans ((JW.fI q_18 (by omega) (nfc (by omega) (nfc (by omega) nf0))).trans h_12))))))⟩, JW.trans jA_28 (JW.weakN j_42)⟩
  · skip
    refine aw_iconst (v := (-1)) dX11_law_15 (by decide) ?_
    refine aw_ireti dX11_law_16 rfl (Nat.le_of_ble_eq_true rfl) (Nat.le_of_ble_eq_true rfl) ?_
    exact ⟨Nat.le_refl _, Nat.le_succ _, Or.inr ⟨(by have e0 : (0 : Int32).toInt = 0 := (by decide); have e1 : (1 : Int32).toInt = 1 := (by decide); have e240 : (240 : Int32).toInt = 240 := (by decide); have q0 := c_10; have q1 := h_3; simp only [cIn, ← Int32.toInt_inj, Int32.le_iff_toInt_le, Int32.lt_iff_toInt_lt] at q0 q1 ⊢; omega), (Eq.refl (fI (V 1) 1))⟩, hJ0⟩

set_option maxHeartbeats 4000000 in
set_option maxRecDepth 100000 in
theorem g_X11_dreadsK (l : Launch) (D : va_G) (b : Nat) (N : Nat) (V : Wd) (hN : 100 ≤ N) (hW : CW D b V) (n0 : Int32) (n1 : Int32)  : MI l D b 5 jX11_dreads [.ref (b + 0), .int n0, .int n1] N V 1 3 (fun r N9 V9 => N ≤ N9 ∧ N9 ≤ N + 1 ∧ TKS (cDr n0 n1 (fI (V 1) 1)) (fI (V 1) 1) (fI (V9 1) 1) ∧ fI (V9 3) 7 = fI (V 3) 7 ∧ JW D b N [(5, 20, 0, 1000000), (23, 38, 0, 1000000), (1, 1, 2, 2), (1, 1, 3, 3), (1, 1, 4, 4), (1, 1, 1, 1), (21, 21, 5, 5), (21, 21, 6, 6), (21, 21, 7, 7), (21, 21, 8, 8), (3, 3, 5, 5), (3, 3, 6, 6), (3, 3, 7, 7), (3, 3, 8, 8)] V V9) := by
  have hJ0 : JW D b N [(5, 20, 0, 1000000), (23, 38, 0, 1000000), (1, 1, 2, 2), (1, 1, 3, 3), (1, 1, 4, 4), (1, 1, 1, 1), (21, 21, 5, 5), (21, 21, 6, 6), (21, 21, 7, 7), (21, 21, 8, 8), (3, 3, 5, 5), (3, 3, 6, 6), (3, 3, 7, 7), (3, 3, 8, 8)] V V := JW.rf hW
  refine mw_of (by decide) (by simp [Value.category]) (Nat.le_of_ble_eq_true rfl) ?_
  show AW l D b jX11_dreads (fx_rm 5 1 3) none (fx_MQ D b 1 3 (fx_qi (fun r N9 V9 => N ≤ N9 ∧ N9 ≤ N + 1 ∧ TKS (cDr n0 n1 (fI (V 1) 1)) (fI (V 1) 1) (fI (V9 1) 1) ∧ fI (V9 3) 7 = fI (V 3) 7 ∧ JW D b N [(5, 20, 0, 1000000), (23, 38, 0, 1000000), (1, 1, 2, 2), (1, 1, 3, 3), (1, 1, 4, 4), (1, 1, 1, 1), (21, 21, 5, 5), (21, 21, 6, 6), (21, 21, 7, 7), (21, 21, 8, 8), (3, 3, 5, 5), (3, 3, 6, 6), (3, 3, 7, 7), (3, 3, 8, 8)] V V9))) 0 [some (.ref (b + 0)), some (.int n0), some (.int n1), none] [] N V 0 0
  refine aw_iload_n dX11_dreads_0 rfl ?_
  refine aw_if_lt (tgt := 24) dX11_dreads_1 (by decide) (fun c_1 => ?_) (fun c_1 => ?_)
  · skip
    refine aw_iconst (v := (-1)) dX11_dreads_24 (by decide) ?_
    refine aw_ireti dX11_dreads_25 rfl (Nat.le_of_ble_eq_true rfl) (Nat.le_of_ble_eq_true rfl) ?_
    exact ⟨Nat.le_refl _, Nat.le_succ _, Or.inr ⟨(by have e0 : (0 : Int32).toInt = 0 := (by decide); have e1 : (1 : Int32).toInt = 1 := (by decide); have e11 : (11 : Int32).toInt = 11 := (by decide); have e12 : (12 : Int32).toInt = 12 := (by decide); have e120 : (120 : Int32).toInt = 120 := (by decide); have q0 := c_1; simp only [cDr, ← Int32.toInt_inj, Int32.le_iff_toInt_le, Int32.lt_iff_toInt_lt] at q0 ⊢; omega), (Eq.refl (fI (V 1) 1))⟩, (Eq.refl (fI (V 3) 7)), hJ0⟩
  · skip
    refine aw_iload_n dX11_dreads_4 rfl ?_
    refine aw_bipush (v := 12) dX11_dreads_5 (by decide) ?_
    refine aw_icmp_ge (tgt := 24) dX11_dreads_7 (by decide) (fun c_2 => ?_) (fun c_2 => ?_)
    · skip
      refine aw_iconst (v := (-1)) dX11_dreads_24 (by decide) ?_
      refine aw_ireti dX11_dreads_25 rfl (Nat.le_of_ble_eq_true rfl) (Nat.le_of_ble_eq_true rfl) ?_
      exact ⟨Nat.le_refl _, Nat.le_succ _, Or.inr ⟨(by have e0 : (0 : Int32).toInt = 0 := (by decide); have e1 : (1 : Int32).toInt = 1 := (by decide); have e11 : (11 : Int32).toInt = 11 := (by decide); have e12 : (12 : Int32).toInt = 12 := (by decide); have e120 : (120 : Int32).toInt = 120 := (by decide); have q0 := c_1; have q1 := c_2; simp only [cDr, ← Int32.toInt_inj, Int32.le_iff_toInt_le, Int32.lt_iff_toInt_lt] at q0 q1 ⊢; omega), (Eq.refl (fI (V 1) 1))⟩, (Eq.refl (fI (V 3) 7)), hJ0⟩
    · skip
      refine aw_aload_n dX11_dreads_10 rfl ?_
      obtain ⟨ek_3, x_3, y_3, e_3, hx_3, hy_3⟩ := JW.get hJ0 ct_0
      refine aw_get dX11_dreads_11 fl_X11_12 e_3 (by omega) rfl ?_
      refine aw_iload_n dX11_dreads_14 rfl ?_
      refine aw_iconst (v := 1) dX11_dreads_15 (by decide) ?_
      refine aw_bipush (v := 120) dX11_dreads_16 (by decide) ?_
      obtain ⟨ts_7, tn_7, tf_7, ta_7, e_7, hta_7⟩ := JW.get hJ0 ct_1
      refine aw_callVi (J' := jX10_holds) (As := [.int n1, .int 1, .int 120]) (st := []) dX11_dreads_18 tb_267 ok_X10_holds ⟨_, e_7⟩ (by omega) rfl rfl (g_X10_holdsK l D b N V hN hJ0.1 n1 1 120) rfl (Nat.le_of_ble_eq_true rfl) ⟨Nat.le_of_ble_eq_true rfl, Nat.le_of_ble_eq_true rfl, Nat.le_of_ble_eq_true rfl, Nat.le_of_ble_eq_true rfl⟩ (fun r_8 N_9 V_10 q_11 => ?_)
      obtain ⟨⟨z_6, h_5⟩, rfl, rfl⟩ := q_11
      refine aw_if_ne (tgt := 26) dX11_dreads_21 (by decide) (fun c_12 => ?_) (fun c_12 => ?_)
      · skip
        refine aw_aload_n dX11_dreads_26 rfl ?_
        refine aw_get dX11_dreads_27 fl_X11_12 e_3 (by omega) rfl ?_
        refine aw_iload_n dX11_dreads_30 rfl ?_
        refine aw_callVv (J' := jX10_take) (As := [.int n1]) (st := []) dX11_dreads_31 tb_271 ok_X10_take ⟨_, e_7⟩ (by omega) rfl rfl (g_X10_takeK l D b N V hN hJ0.1 n1) rfl (Nat.le_of_ble_eq_true rfl) ⟨Nat.le_of_ble_eq_true rfl, Nat.le_of_ble_eq_true rfl, Nat.le_of_ble_eq_true rfl, Nat.le_of_ble_eq_true rfl⟩ (fun  N_17 V_16 q_18 => ?_)
        obtain ⟨h_14, rfl, q_13⟩ := q_18
        have j_15 := JW.trans hJ0 (JW.weak q_13 (Sub.cons (LMs (LMs LM0)) (by decide) (by decide) (by decide) (Or.inr ⟨by decide, by decide⟩) (Sub.cons (LMs (LMs (LMs LM0))) (by decide) (by decide) (by decide) (Or.inr ⟨by decide, by decide⟩) (Sub.cons (LMs (LMs (LMs (LMs LM0)))) (by decide) (by decide) (by decide) (Or.inr ⟨by decide, by decide⟩) (Sub.cons (LMs (LMs (LMs (LMs (LMs LM0))))) (by decide) (by decide) (by decide) (Or.inr ⟨by decide, by decide⟩) Sub.nil)))))
        refine aw_aload_n dX11_dreads_34 rfl ?_
        obtain ⟨ek_19, x_19, y_19, e_19, hx_19, hy_19⟩ := JW.get j_15 ct_0
        refine aw_get dX11_dreads_35 fl_X11_23 e_19 (by omega) rfl ?_
        refine aw_aload_n dX11_dreads_38 rfl ?_
        refine aw_get dX11_dreads_39 fl_X11_19 e_19 (by omega) rfl ?_
        obtain ⟨pe_24, dd_24, ni_24, xx_24, e_24⟩ := JW.get j_15 (ctc_0 cA_21)
        refine aw_callVv (J' := jX0_copyFrom) (As := [.ref (b + 3)]) (st := []) dX11_dreads_42 tb_581 ok_X0_copyFrom ⟨_, e_24⟩ (by omega) rfl rfl (g_X0_copyFromK l D b N V_16 hN j_15.1 21 cA_21 3 cA_3) rfl (Nat.le_of_ble_eq_true rfl) ⟨Nat.le_of_ble_eq_true rfl, Nat.le_of_ble_eq_true rfl, Nat.le_of_ble_eq_true rfl, Nat.le_of_ble_eq_true rfl⟩ (fun  N_25 V_23 q_26 => ?_)
        obtain ⟨h_21, rfl, q_20⟩ := q_26
        have j_22 := JW.trans j_15 (JW.weak q_20 (Sub.cons (LMs LM0) (by decide) (by decide) (by decide) (Or.inl rfl) (Sub.cons (LMs (LMs (LMs (LMs (LMs (LMs LM0)))))) (by decide) (by decide) (by decide) (Or.inr ⟨by decide, by decide⟩) (Sub.cons (LMs (LMs (LMs (LMs (LMs (LMs (LMs LM0))))))) (by decide) (by decide) (by decide) (Or.inr ⟨by decide, by decide⟩) (Sub.cons (LMs (LMs (LMs (LMs (LMs (LMs (LMs (LMs LM0)))))))) (by decide) (by decide) (by decide) (Or.inr ⟨by decide, by decide⟩) (Sub.cons (LMs (LMs (LMs (LMs (LMs (LMs (LMs (LMs (LMs LM0))))))))) (by decide) (by decide) (by decide) (Or.inr ⟨by decide, by decide⟩) (Sub.cons (LMs LM0) (by decide) (by decide) (by decide) (Or.inl rfl) (Sub.cons (LMs LM0) (by decide) (by decide) (by decide) (Or.inl rfl) (Sub.cons (LMs LM0) (by decide) (by decide) (by decide) (Or.inl rfl) (Sub.cons (LMs LM0) (by decide) (by decide) (by decide) (Or.inl rfl) Sub.nil))))))))))
        refine aw_new dX11_dreads_45 nw_X11_102 (Nat.le_of_ble_eq_true rfl) (Nat.le_of_ble_eq_true rfl) ?_
        refine aw_newJ j_22 hN (fun V_27 j_27 e_27 k_27 => ?_)
        refine aw_dup dX11_dreads_48 rfl ?_
        refine aw_aload_n dX11_dreads_49 rfl ?_
        obtain ⟨ek_28, x_28, y_28, e_28, hx_28, hy_28⟩ := JW.get j_27 ct_0
        refine aw_get dX11_dreads_50 fl_X11_12 e_28 (by omega) rfl ?_
        refine aw_aload_n dX11_dreads_53 rfl ?_
        refine aw_get dX11_dreads_54 fl_X11_23 e_28 (by omega) rfl ?_
        refine aw_iload_n dX11_dreads_57 rfl ?_
        refine aw_callIv (As := [.ref (b + 1), .ref (b + 21), .int n0]) (st := [.ref (b + N)]) dX11_dreads_58 tb_590 ok_X2_init rfl (g_X2_init l D b (N + 1) V_27 N (by omega) 21 n0 e_27) rfl (Nat.le_of_ble_eq_true rfl) ⟨Nat.le_of_ble_eq_true rfl, Nat.le_of_ble_eq_true rfl, Nat.le_of_ble_eq_true rfl, Nat.le_of_ble_eq_true rfl⟩ (fun  N_34 V_33 q_35 => ?_)
        obtain ⟨rfl, h_29, f_30⟩ := q_35
        have jA_31 := JW.skip j_27 f_30 hN
        have jB_32 : JW D b (N + 1) [(5, 20, 0, 1000000), (23, 38, 0, 1000000), (1, 1, 2, 2), (1, 1, 3, 3), (1, 1, 4, 4), (1, 1, 1, 1), (21, 21, 5, 5), (21, 21, 6, 6), (21, 21, 7, 7), (21, 21, 8, 8), (3, 3, 5, 5), (3, 3, 6, 6), (3, 3, 7, 7), (3, 3, 8, 8)] V_33 V_33 := JW.rf jA_31.1
        refine aw_bipush (v := 20) dX11_dreads_61 (by decide) ?_
        refine aw_callWi (J' := jX6_readLines) (y := ({ cls := "FearLocks$DreadsReader", name := "readLines", desc := "(I)I" } : Jvm.MethodName)) (RC := "FearLocks$DreadsReader") (owner := "FearLocks$LinesReader") (As := [.int 20]) (st := []) dX11_dreads_63 tb_602 okW_X6_readLines_X2 ⟨_, ((jB_32.2.1 _ (by omega) (by omega)).trans h_29)⟩ (by omega) rfl rfl (g_X6_readLines_D l D b (N + 1) V_33 (by omega) jB_32.1 N 21 n0 ⟨by omega, by omega⟩ cA_21 ((jB_32.2.1 _ (by omega) (by omega)).trans h_29)) rfl (Nat.le_of_ble_eq_true rfl) ⟨Nat.le_of_ble_eq_true rfl, Nat.le_of_ble_eq_true rfl, Nat.le_of_ble_eq_true rfl, Nat.le_of_ble_eq_true rfl⟩ (fun r_39 N_40 V_38 q_41 => ?_)
        obtain ⟨rfl, q_36⟩ := q_41
        have j_37 := JW.trans jB_32 (JW.weak q_36 (Sub.cons (LMs (LMs (LMs LM0))) (by decide) (by decide) (by decide) (Or.inr ⟨by decide, by decide⟩) (Sub.cons (LMs (LMs (LMs (LMs LM0)))) (by decide) (by decide) (by decide) (Or.inr ⟨by decide, by decide⟩) (Sub.cons (LMs (LMs (LMs (LMs (LMs (LMs LM0)))))) (by decide) (by decide) (by decide) (Or.inr ⟨by decide, by decide⟩) (Sub.cons (LMs LM0) (by decide) (by decide) (by decide) (Or.inl rfl) Sub.nil)))))
        refine aw_istore_n (ls' := [some (.ref (b + 0)), some (.int n0), some (.int n1), some (.int r_39)]) dX11_dreads_66 (Nat.le_of_ble_eq_true rfl) rfl ?_
        refine aw_iload_n dX11_dreads_67 rfl ?_
        refine aw_if_le (tgt := 82) dX11_dreads_68 (by decide) (fun c_42 => ?_) (fun c_42 => ?_)
        · skip
          refine aw_iload_n dX11_dreads_82 rfl ?_
          refine aw_ireti dX11_dreads_83 rfl (Nat.le_of_ble_eq_true rfl) (Nat.le_of_ble_eq_true rfl) ?_
          exact ⟨Nat.le_succ _, Nat.le_refl _, Or.inl ⟨(by have e0 : (0 : Int32).toInt = 0 := (by decide); have e1 : (1 : Int32).toInt = 1 := (by decide); have e11 : (11 : Int32).toInt = 11 := (by decide); have e12 : (12 : Int32).toInt = 12 := (by decide); have e120 : (120 : Int32).toInt = 120 := (by decide); have q0 := c_1; have q1 := c_2; have q2 := c_12; have q3 := h_5; simp only [cDr, ← Int32.toInt_inj, Int32.le_iff_toInt_le, Int32.lt_iff_toInt_lt] at q0 q1 q2 q3 ⊢; omega), ((JW.fI q_36 (by omega) (nfc (by omega) (nfc (by omega) (nfc (by omega) (nfc (by omega) nf0))))).trans ((congrArg (fun z => fI z 1) (f_30 _ (by omega))).trans ((congrArg (fun z => fI z 1) (k_27 _ (by omega))).trans ((JW.fI q_20 (by omega) (nfc (by omega) (nfc (by omega) (nfc (by omega) (nfc (by omega) (nfc (by omega) (nfc (by omega) (nfc (by omega) (nfc (by omega) (nfc (by omega) nf0)))))))))).trans h_14))))⟩, ((JW.fI q_36 (by omega) (nfc (by omega) (nfc (by omega) (nfc (by omega) (nfc (by omega) nf0))))).trans ((congrArg (fun z => fI z 7) (f_30 _ (by omega))).trans ((congrArg (fun z => fI z 7) (k_27 _ (by omega))).trans ((JW.fI q_20 (by omega) (nfc (by omega) (nfc (by omega) (nfc (by omega) (nfc (by omega) (nfc (by omega) (nfc (by omega) (nfc (by omega) (nfc (by omega) (nfc (by omega) nf0)))))))))).trans ((JW.fI q_13 (by omega) (nfc (by omega) (nfc (by omega) (nfc (by omega) (nfc (by omega) nf0))))).trans (Eq.refl (fI (V 3) 7))))))), JW.trans jA_31 (JW.weakN j_37)⟩
        · skip
          refine aw_aload_n dX11_dreads_71 rfl ?_
          obtain ⟨ek_43, x_43, y_43, e_43, hx_43, hy_43⟩ := JW.get j_37 ct_0
          refine aw_get dX11_dreads_72 fl_X11_19 e_43 (by omega) rfl ?_
          refine aw_aload_n dX11_dreads_75 rfl ?_
          refine aw_get dX11_dreads_76 fl_X11_23 e_43 (by omega) rfl ?_
          obtain ⟨pe_48, dd_48, ni_48, xx_48, e_48⟩ := JW.get j_37 (ctc_0 cA_3)
          refine aw_callVv (J' := jX0_copyFrom) (As := [.ref (b + 21)]) (st := []) dX11_dreads_79 tb_581 ok_X0_copyFrom ⟨_, e_48⟩ (by omega) rfl rfl (g_X0_copyFromK l D b (N + 1) V_38 (by omega) j_37.1 3 cA_3 21 cA_21) rfl (Nat.le_of_ble_eq_true rfl) ⟨Nat.le_of_ble_eq_true rfl, Nat.le_of_ble_eq_true rfl, Nat.le_of_ble_eq_true rfl, Nat.le_of_ble_eq_true rfl⟩ (fun  N_49 V_47 q_50 => ?_)
          obtain ⟨h_45, rfl, q_44⟩ := q_50
          have j_46 := JW.trans j_37 (JW.weak q_44 (Sub.cons LM0 (by decide) (by decide) (by decide) (Or.inl rfl) (Sub.cons (LMs (LMs (LMs (LMs (LMs (LMs (LMs (LMs (LMs (LMs LM0)))))))))) (by decide) (by decide) (by decide) (Or.inr ⟨by decide, by decide⟩) (Sub.cons (LMs (LMs (LMs (LMs (LMs (LMs (LMs (LMs (LMs (LMs (LMs LM0))))))))))) (by decide) (by decide) (by decide) (Or.inr ⟨by decide, by decide⟩) (Sub.cons (LMs (LMs (LMs (LMs (LMs (LMs (LMs (LMs (LMs (LMs (LMs (LMs LM0)))))))))))) (by decide) (by decide) (by decide) (Or.inr ⟨by decide, by decide⟩) (Sub.cons (LMs (LMs (LMs (LMs (LMs (LMs (LMs (LMs (LMs (LMs (LMs (LMs (LMs LM0))))))))))))) (by decide) (by decide) (by decide) (Or.inr ⟨by decide, by decide⟩) (Sub.cons LM0 (by decide) (by decide) (by decide) (Or.inl rfl) (Sub.cons LM0 (by decide) (by decide) (by decide) (Or.inl rfl) (Sub.cons LM0 (by decide) (by decide) (by decide) (Or.inl rfl) (Sub.cons LM0 (by decide) (by decide) (by decide) (Or.inl rfl) Sub.nil))))))))))
          refine aw_iload_n dX11_dreads_82 rfl ?_
          refine aw_ireti dX11_dreads_83 rfl (Nat.le_of_ble_eq_true rfl) (Nat.le_of_ble_eq_true rfl) ?_
          exact ⟨Nat.le_succ _, Nat.le_refl _, Or.inl ⟨(by have e0 : (0 : Int32).toInt = 0 := (by decide); have e1 : (1 : Int32).toInt = 1 := (by decide); have e11 : (11 : Int32).toInt = 11 := (by decide); have e12 : (12 : Int32).toInt = 12 := (by decide); have e120 : (120 : Int32).toInt = 120 := (by decide); have q0 := c_1; have q1 := c_2; have q2 := c_12; have q3 := h_5; simp only [cDr, ← Int32.toInt_inj, Int32.le_iff_toInt_le, Int32.lt_iff_toInt_lt] at q0 q1 q2 q3 ⊢; omega), ((JW.fI q_44 (by omega) (nfc (by omega) (nfc (by omega) (nfc (by omega) (nfc (by omega) (nfc (by omega) (nfc (by omega) (nfc (by omega) (nfc (by omega) (nfc (by omega) nf0)))))))))).trans ((JW.fI q_36 (by omega) (nfc (by omega) (nfc (by omega) (nfc (by omega) (nfc (by omega) nf0))))).trans ((congrArg (fun z => fI z 1) (f_30 _ (by omega))).trans ((congrArg (fun z => fI z 1) (k_27 _ (by omega))).trans ((JW.fI q_20 (by omega) (nfc (by omega) (nfc (by omega) (nfc (by omega) (nfc (by omega) (nfc (by omega) (nfc (by omega) (nfc (by omega) (nfc (by omega) (nfc (by omega) nf0)))))))))).trans h_14)))))⟩, (h_45.trans ((JW.fI q_36 (by omega) (nfc (by omega) (nfc (by omega) (nfc (by omega) (nfc (by omega) nf0))))).trans ((congrArg (fun z => fI z 7) (f_30 _ (by omega))).trans ((congrArg (fun z => fI z 7) (k_27 _ (by omega))).trans (h_21.trans ((JW.fI q_13 (by omega) (nfc (by omega) (nfc (by omega) (nfc (by omega) (nfc (by omega) nf0))))).trans (Eq.refl (fI (V 3) 7)))))))), JW.trans jA_31 (JW.weakN j_46)⟩
      · skip
        refine aw_iconst (v := (-1)) dX11_dreads_24 (by decide) ?_
        refine aw_ireti dX11_dreads_25 rfl (Nat.le_of_ble_eq_true rfl) (Nat.le_of_ble_eq_true rfl) ?_
        exact ⟨Nat.le_refl _, Nat.le_succ _, Or.inr ⟨(by have e0 : (0 : Int32).toInt = 0 := (by decide); have e1 : (1 : Int32).toInt = 1 := (by decide); have e11 : (11 : Int32).toInt = 11 := (by decide); have e12 : (12 : Int32).toInt = 12 := (by decide); have e120 : (120 : Int32).toInt = 120 := (by decide); have q0 := c_1; have q1 := c_2; have q2 := c_12; have q3 := h_5; simp only [cDr, ← Int32.toInt_inj, Int32.le_iff_toInt_le, Int32.lt_iff_toInt_lt] at q0 q1 q2 q3 ⊢; omega), (Eq.refl (fI (V 1) 1))⟩, (Eq.refl (fI (V 3) 7)), hJ0⟩

set_option maxHeartbeats 4000000 in
set_option maxRecDepth 100000 in
theorem g_X11_ordersK (l : Launch) (D : va_G) (b : Nat) (N : Nat) (V : Wd) (hN : 100 ≤ N) (hW : CW D b V) (n0 : Int32)  : MI l D b 6 jX11_orders [.ref (b + 0), .int n0] N V 1 2 (fun r N9 V9 => N ≤ N9 ∧ N9 ≤ N + 1 ∧ TKS (cIn n0 1 120 (fI (V 1) 1)) (fI (V 1) 1) (fI (V9 1) 1) ∧ fI (V9 3) 7 = fI (V 3) 7 ∧ JW D b N [(5, 20, 0, 1000000), (23, 38, 0, 1000000), (1, 1, 2, 2), (1, 1, 3, 3), (1, 1, 4, 4), (1, 1, 1, 1), (21, 21, 5, 5), (21, 21, 6, 6), (21, 21, 7, 7), (21, 21, 8, 8), (3, 3, 5, 5), (3, 3, 6, 6), (3, 3, 7, 7), (3, 3, 8, 8)] V V9) := by
  have hJ0 : JW D b N [(5, 20, 0, 1000000), (23, 38, 0, 1000000), (1, 1, 2, 2), (1, 1, 3, 3), (1, 1, 4, 4), (1, 1, 1, 1), (21, 21, 5, 5), (21, 21, 6, 6), (21, 21, 7, 7), (21, 21, 8, 8), (3, 3, 5, 5), (3, 3, 6, 6), (3, 3, 7, 7), (3, 3, 8, 8)] V V := JW.rf hW
  refine mw_of (by decide) (by simp [Value.category]) (Nat.le_of_ble_eq_true rfl) ?_
  show AW l D b jX11_orders (fx_rm 6 1 2) none (fx_MQ D b 1 2 (fx_qi (fun r N9 V9 => N ≤ N9 ∧ N9 ≤ N + 1 ∧ TKS (cIn n0 1 120 (fI (V 1) 1)) (fI (V 1) 1) (fI (V9 1) 1) ∧ fI (V9 3) 7 = fI (V 3) 7 ∧ JW D b N [(5, 20, 0, 1000000), (23, 38, 0, 1000000), (1, 1, 2, 2), (1, 1, 3, 3), (1, 1, 4, 4), (1, 1, 1, 1), (21, 21, 5, 5), (21, 21, 6, 6), (21, 21, 7, 7), (21, 21, 8, 8), (3, 3, 5, 5), (3, 3, 6, 6), (3, 3, 7, 7), (3, 3, 8, 8)] V V9))) 0 [some (.ref (b + 0)), some (.int n0), none] [] N V 0 0
  refine aw_aload_n dX11_orders_0 rfl ?_
  obtain ⟨ek_1, x_1, y_1, e_1, hx_1, hy_1⟩ := JW.get hJ0 ct_0
  refine aw_get dX11_orders_1 fl_X11_12 e_1 (by omega) rfl ?_
  refine aw_iload_n dX11_orders_4 rfl ?_
  refine aw_iconst (v := 1) dX11_orders_5 (by decide) ?_
  refine aw_bipush (v := 120) dX11_orders_6 (by decide) ?_
  obtain ⟨ts_5, tn_5, tf_5, ta_5, e_5, hta_5⟩ := JW.get hJ0 ct_1
  refine aw_callVi (J' := jX10_holds) (As := [.int n0, .int 1, .int 120]) (st := []) dX11_orders_8 tb_267 ok_X10_holds ⟨_, e_5⟩ (by omega) rfl rfl (g_X10_holdsK l D b N V hN hJ0.1 n0 1 120) rfl (Nat.le_of_ble_eq_true rfl) ⟨Nat.le_of_ble_eq_true rfl, Nat.le_of_ble_eq_true rfl, Nat.le_of_ble_eq_true rfl, Nat.le_of_ble_eq_true rfl⟩ (fun r_6 N_7 V_8 q_9 => ?_)
  obtain ⟨⟨z_4, h_3⟩, rfl, rfl⟩ := q_9
  refine aw_if_ne (tgt := 16) dX11_orders_11 (by decide) (fun c_10 => ?_) (fun c_10 => ?_)
  · skip
    refine aw_aload_n dX11_orders_16 rfl ?_
    refine aw_get dX11_orders_17 fl_X11_12 e_1 (by omega) rfl ?_
    refine aw_iload_n dX11_orders_20 rfl ?_
    refine aw_callVv (J' := jX10_take) (As := [.int n0]) (st := []) dX11_orders_21 tb_271 ok_X10_take ⟨_, e_5⟩ (by omega) rfl rfl (g_X10_takeK l D b N V hN hJ0.1 n0) rfl (Nat.le_of_ble_eq_true rfl) ⟨Nat.le_of_ble_eq_true rfl, Nat.le_of_ble_eq_true rfl, Nat.le_of_ble_eq_true rfl, Nat.le_of_ble_eq_true rfl⟩ (fun  N_15 V_14 q_16 => ?_)
    obtain ⟨h_12, rfl, q_11⟩ := q_16
    have j_13 := JW.trans hJ0 (JW.weak q_11 (Sub.cons (LMs (LMs LM0)) (by decide) (by decide) (by decide) (Or.inr ⟨by decide, by decide⟩) (Sub.cons (LMs (LMs (LMs LM0))) (by decide) (by decide) (by decide) (Or.inr ⟨by decide, by decide⟩) (Sub.cons (LMs (LMs (LMs (LMs LM0)))) (by decide) (by decide) (by decide) (Or.inr ⟨by decide, by decide⟩) (Sub.cons (LMs (LMs (LMs (LMs (LMs LM0))))) (by decide) (by decide) (by decide) (Or.inr ⟨by decide, by decide⟩) Sub.nil)))))
    refine aw_aload_n dX11_orders_24 rfl ?_
    obtain ⟨ek_17, x_17, y_17, e_17, hx_17, hy_17⟩ := JW.get j_13 ct_0
    refine aw_get dX11_orders_25 fl_X11_23 e_17 (by omega) rfl ?_
    refine aw_aload_n dX11_orders_28 rfl ?_
    refine aw_get dX11_orders_29 fl_X11_19 e_17 (by omega) rfl ?_
    obtain ⟨pe_22, dd_22, ni_22, xx_22, e_22⟩ := JW.get j_13 (ctc_0 cA_21)
    refine aw_callVv (J' := jX0_copyFrom) (As := [.ref (b + 3)]) (st := []) dX11_orders_32 tb_581 ok_X0_copyFrom ⟨_, e_22⟩ (by omega) rfl rfl (g_X0_copyFromK l D b N V_14 hN j_13.1 21 cA_21 3 cA_3) rfl (Nat.le_of_ble_eq_true rfl) ⟨Nat.le_of_ble_eq_true rfl, Nat.le_of_ble_eq_true rfl, Nat.le_of_ble_eq_true rfl, Nat.le_of_ble_eq_true rfl⟩ (fun  N_23 V_21 q_24 => ?_)
    obtain ⟨h_19, rfl, q_18⟩ := q_24
    have j_20 := JW.trans j_13 (JW.weak q_18 (Sub.cons (LMs LM0) (by decide) (by decide) (by decide) (Or.inl rfl) (Sub.cons (LMs (LMs (LMs (LMs (LMs (LMs LM0)))))) (by decide) (by decide) (by decide) (Or.inr ⟨by decide, by decide⟩) (Sub.cons (LMs (LMs (LMs (LMs (LMs (LMs (LMs LM0))))))) (by decide) (by decide) (by decide) (Or.inr ⟨by decide, by decide⟩) (Sub.cons (LMs (LMs (LMs (LMs (LMs (LMs (LMs (LMs LM0)))))))) (by decide) (by decide) (by decide) (Or.inr ⟨by decide, by decide⟩) (Sub.cons (LMs (LMs (LMs (LMs (LMs (LMs (LMs (LMs (LMs LM0))))))))) (by decide) (by decide) (by decide) (Or.inr ⟨by decide, by decide⟩) (Sub.cons (LMs LM0) (by decide) (by decide) (by decide) (Or.inl rfl) (Sub.cons (LMs LM0) (by decide) (by decide) (by decide) (Or.inl rfl) (Sub.cons (LMs LM0) (by decide) (by decide) (by decide) (Or.inl rfl) (Sub.cons (LMs LM0) (by decide) (by decide) (by decide) (Or.inl rfl) Sub.nil))))))))))
    refine aw_new dX11_orders_35 nw_X11_108 (Nat.le_of_ble_eq_true rfl) (Nat.le_of_ble_eq_true rfl) ?_
    refine aw_newJ j_20 hN (fun V_25 j_25 e_25 k_25 => ?_)
    refine aw_dup dX11_orders_38 rfl ?_
    refine aw_aload_n dX11_orders_39 rfl ?_
    obtain ⟨ek_26, x_26, y_26, e_26, hx_26, hy_26⟩ := JW.get j_25 ct_0
    refine aw_get dX11_orders_40 fl_X11_12 e_26 (by omega) rfl ?_
    refine aw_aload_n dX11_orders_43 rfl ?_
    refine aw_get dX11_orders_44 fl_X11_23 e_26 (by omega) rfl ?_
    refine aw_callIv (As := [.ref (b + 1), .ref (b + 21)]) (st := [.ref (b + N)]) dX11_orders_47 tb_610 ok_X8_init rfl (g_X8_init l D b (N + 1) V_25 N (by omega) 21 e_25) rfl (Nat.le_of_ble_eq_true rfl) ⟨Nat.le_of_ble_eq_true rfl, Nat.le_of_ble_eq_true rfl, Nat.le_of_ble_eq_true rfl, Nat.le_of_ble_eq_true rfl⟩ (fun  N_32 V_31 q_33 => ?_)
    obtain ⟨rfl, h_27, f_28⟩ := q_33
    have jA_29 := JW.skip j_25 f_28 hN
    have jB_30 : JW D b (N + 1) [(5, 20, 0, 1000000), (23, 38, 0, 1000000), (1, 1, 2, 2), (1, 1, 3, 3), (1, 1, 4, 4), (1, 1, 1, 1), (21, 21, 5, 5), (21, 21, 6, 6), (21, 21, 7, 7), (21, 21, 8, 8), (3, 3, 5, 5), (3, 3, 6, 6), (3, 3, 7, 7), (3, 3, 8, 8)] V_31 V_31 := JW.rf jA_29.1
    refine aw_bipush (v := 16) dX11_orders_50 (by decide) ?_
    refine aw_callWi (J' := jX6_readLines) (y := ({ cls := "FearLocks$OrdersReader", name := "readLines", desc := "(I)I" } : Jvm.MethodName)) (RC := "FearLocks$OrdersReader") (owner := "FearLocks$LinesReader") (As := [.int 16]) (st := []) dX11_orders_52 tb_619 okW_X6_readLines_X8 ⟨_, ((jB_30.2.1 _ (by omega) (by omega)).trans h_27)⟩ (by omega) rfl rfl (g_X6_readLines_O l D b (N + 1) V_31 (by omega) jB_30.1 N 21 ⟨by omega, by omega⟩ cA_21 ((jB_30.2.1 _ (by omega) (by omega)).trans h_27)) rfl (Nat.le_of_ble_eq_true rfl) ⟨Nat.le_of_ble_eq_true rfl, Nat.le_of_ble_eq_true rfl, Nat.le_of_ble_eq_true rfl, Nat.le_of_ble_eq_true rfl⟩ (fun r_37 N_38 V_36 q_39 => ?_)
    obtain ⟨rfl, q_34⟩ := q_39
    have j_35 := JW.trans jB_30 (JW.weak q_34 (Sub.cons (LMs (LMs (LMs LM0))) (by decide) (by decide) (by decide) (Or.inr ⟨by decide, by decide⟩) (Sub.cons (LMs (LMs (LMs (LMs LM0)))) (by decide) (by decide) (by decide) (Or.inr ⟨by decide, by decide⟩) (Sub.cons (LMs LM0) (by decide) (by decide) (by decide) (Or.inl rfl) (Sub.cons (LMs (LMs (LMs (LMs (LMs (LMs (LMs LM0))))))) (by decide) (by decide) (by decide) (Or.inr ⟨by decide, by decide⟩) (Sub.cons (LMs LM0) (by decide) (by decide) (by decide) (Or.inl rfl) (Sub.cons (LMs LM0) (by decide) (by decide) (by decide) (Or.inl rfl) (Sub.cons (LMs LM0) (by decide) (by decide) (by decide) (Or.inl rfl) Sub.nil))))))))
    refine aw_istore_n (ls' := [some (.ref (b + 0)), some (.int n0), some (.int r_37)]) dX11_orders_55 (Nat.le_of_ble_eq_true rfl) rfl ?_
    refine aw_iload_n dX11_orders_56 rfl ?_
    refine aw_if_le (tgt := 71) dX11_orders_57 (by decide) (fun c_40 => ?_) (fun c_40 => ?_)
    · skip
      refine aw_iload_n dX11_orders_71 rfl ?_
      refine aw_ireti dX11_orders_72 rfl (Nat.le_of_ble_eq_true rfl) (Nat.le_of_ble_eq_true rfl) ?_
      exact ⟨Nat.le_succ _, Nat.le_refl _, Or.inl ⟨(by have e0 : (0 : Int32).toInt = 0 := (by decide); have e1 : (1 : Int32).toInt = 1 := (by decide); have e120 : (120 : Int32).toInt = 120 := (by decide); have q0 := c_10; have q1 := h_3; simp only [cIn, ← Int32.toInt_inj, Int32.le_iff_toInt_le, Int32.lt_iff_toInt_lt] at q0 q1 ⊢; omega), ((JW.fI q_34 (by omega) (nfc (by omega) (nfc (by omega) (nfc (by omega) (nfc (by omega) (nfc (by omega) (nfc (by omega) (nfc (by omega) nf0)))))))).trans ((congrArg (fun z => fI z 1) (f_28 _ (by omega))).trans ((congrArg (fun z => fI z 1) (k_25 _ (by omega))).trans ((JW.fI q_18 (by omega) (nfc (by omega) (nfc (by omega) (nfc (by omega) (nfc (by omega) (nfc (by omega) (nfc (by omega) (nfc (by omega) (nfc (by omega) (nfc (by omega) nf0)))))))))).trans h_12))))⟩, ((JW.fI q_34 (by omega) (nfc (by omega) (nfc (by omega) (nfc (by omega) (nfc (by omega) (nfc (by omega) (nfc (by omega) (nfc (by omega) nf0)))))))).trans ((congrArg (fun z => fI z 7) (f_28 _ (by omega))).trans ((congrArg (fun z => fI z 7) (k_25 _ (by omega))).trans ((JW.fI q_18 (by omega) (nfc (by omega) (nfc (by omega) (nfc (by omega) (nfc (by omega) (nfc (by omega) (nfc (by omega) (nfc (by omega) (nfc (by omega) (nfc (by omega) nf0)))))))))).trans ((JW.fI q_11 (by omega) (nfc (by omega) (nfc (by omega) (nfc (by omega) (nfc (by omega) nf0))))).trans (Eq.refl (fI (V 3) 7))))))), JW.trans jA_29 (JW.weakN j_35)⟩
    · skip
      refine aw_aload_n dX11_orders_60 rfl ?_
      obtain ⟨ek_41, x_41, y_41, e_41, hx_41, hy_41⟩ := JW.get j_35 ct_0
      refine aw_get dX11_orders_61 fl_X11_19 e_41 (by omega) rfl ?_
      refine aw_aload_n dX11_orders_64 rfl ?_
      refine aw_get dX11_orders_65 fl_X11_23 e_41 (by omega) rfl ?_
      obtain ⟨pe_46, dd_46, ni_46, xx_46, e_46⟩ := JW.get j_35 (ctc_0 cA_3)
      refine aw_callVv (J' := jX0_copyFrom) (As := [.ref (b + 21)]) (st := []) dX11_orders_68 tb_581 ok_X0_copyFrom ⟨_, e_46⟩ (by omega) rfl rfl (g_X0_copyFromK l D b (N + 1) V_36 (by omega) j_35.1 3 cA_3 21 cA_21) rfl (Nat.le_of_ble_eq_true rfl) ⟨Nat.le_of_ble_eq_true rfl, Nat.le_of_ble_eq_true rfl, Nat.le_of_ble_eq_true rfl, Nat.le_of_ble_eq_true rfl⟩ (fun  N_47 V_45 q_48 => ?_)
      obtain ⟨h_43, rfl, q_42⟩ := q_48
      have j_44 := JW.trans j_35 (JW.weak q_42 (Sub.cons LM0 (by decide) (by decide) (by decide) (Or.inl rfl) (Sub.cons (LMs (LMs (LMs (LMs (LMs (LMs (LMs (LMs (LMs (LMs LM0)))))))))) (by decide) (by decide) (by decide) (Or.inr ⟨by decide, by decide⟩) (Sub.cons (LMs (LMs (LMs (LMs (LMs (LMs (LMs (LMs (LMs (LMs (LMs LM0))))))))))) (by decide) (by decide) (by decide) (Or.inr ⟨by decide, by decide⟩) (Sub.cons (LMs (LMs (LMs (LMs (LMs (LMs (LMs (LMs (LMs (LMs (LMs (LMs LM0)))))))))))) (by decide) (by decide) (by decide) (Or.inr ⟨by decide, by decide⟩) (Sub.cons (LMs (LMs (LMs (LMs (LMs (LMs (LMs (LMs (LMs (LMs (LMs (LMs (LMs LM0))))))))))))) (by decide) (by decide) (by decide) (Or.inr ⟨by decide, by decide⟩) (Sub.cons LM0 (by decide) (by decide) (by decide) (Or.inl rfl) (Sub.cons LM0 (by decide) (by decide) (by decide) (Or.inl rfl) (Sub.cons LM0 (by decide) (by decide) (by decide) (Or.inl rfl) (Sub.cons LM0 (by decide) (by decide) (by decide) (Or.inl rfl) Sub.nil))))))))))
      refine aw_iload_n dX11_orders_71 rfl ?_
      refine aw_ireti dX11_orders_72 rfl (Nat.le_of_ble_eq_true rfl) (Nat.le_of_ble_eq_true rfl) ?_
      exact ⟨Nat.le_succ _, Nat.le_refl _, Or.inl ⟨(by have e0 : (0 : Int32).toInt = 0 := (by decide); have e1 : (1 : Int32).toInt = 1 := (by decide); have e120 : (120 : Int32).toInt = 120 := (by decide); have q0 := c_10; have q1 := h_3; simp only [cIn, ← Int32.toInt_inj, Int32.le_iff_toInt_le, Int32.lt_iff_toInt_lt] at q0 q1 ⊢; omega), ((JW.fI q_42 (by omega) (nfc (by omega) (nfc (by omega) (nfc (by omega) (nfc (by omega) (nfc (by omega) (nfc (by omega) (nfc (by omega) (nfc (by omega) (nfc (by omega) nf0)))))))))).trans ((JW.fI q_34 (by omega) (nfc (by omega) (nfc (by omega) (nfc (by omega) (nfc (by omega) (nfc (by omega) (nfc (by omega) (nfc (by omega) nf0)))))))).trans ((congrArg (fun z => fI z 1) (f_28 _ (by omega))).trans ((congrArg (fun z => fI z 1) (k_25 _ (by omega))).trans ((JW.fI q_18 (by omega) (nfc (by omega) (nfc (by omega) (nfc (by omega) (nfc (by omega) (nfc (by omega) (nfc (by omega) (nfc (by omega) (nfc (by omega) (nfc (by omega) nf0)))))))))).trans h_12)))))⟩, (h_43.trans ((JW.fI q_34 (by omega) (nfc (by omega) (nfc (by omega) (nfc (by omega) (nfc (by omega) (nfc (by omega) (nfc (by omega) (nfc (by omega) nf0)))))))).trans ((congrArg (fun z => fI z 7) (f_28 _ (by omega))).trans ((congrArg (fun z => fI z 7) (k_25 _ (by omega))).trans (h_19.trans ((JW.fI q_11 (by omega) (nfc (by omega) (nfc (by omega) (nfc (by omega) (nfc (by omega) nf0))))).trans (Eq.refl (fI (V 3) 7)))))))), JW.trans jA_29 (JW.weakN j_44)⟩
  · skip
    refine aw_iconst (v := (-1)) dX11_orders_14 (by decide) ?_
    refine aw_ireti dX11_orders_15 rfl (Nat.le_of_ble_eq_true rfl) (Nat.le_of_ble_eq_true rfl) ?_
    exact ⟨Nat.le_refl _, Nat.le_succ _, Or.inr ⟨(by have e0 : (0 : Int32).toInt = 0 := (by decide); have e1 : (1 : Int32).toInt = 1 := (by decide); have e120 : (120 : Int32).toInt = 120 := (by decide); have q0 := c_10; have q1 := h_3; simp only [cIn, ← Int32.toInt_inj, Int32.le_iff_toInt_le, Int32.lt_iff_toInt_lt] at q0 q1 ⊢; omega), (Eq.refl (fI (V 1) 1))⟩, (Eq.refl (fI (V 3) 7)), hJ0⟩
