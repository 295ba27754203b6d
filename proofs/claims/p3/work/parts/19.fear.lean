
theorem JW.weakN {D : va_G} {b N : Nat} {L : List E4} {V0 V : Wd} (h : JW D b (N + 1) L V0 V) : JW D b N L V0 V := ⟨h.1, fun i h1 h2 => h.2.1 i h1 (by omega), h.2.2⟩
theorem JW.skip {D : va_G} {b N : Nat} {L : List E4} {V0 V V' : Wd} (h : JW D b N L V0 V) (hf : ∀ i, i ≠ N → V' i = V i) (hN : 100 ≤ N) : JW D b N L V0 V' := ⟨h.1.out (fun i hi => hf i (by omega)), fun i h1 h2 => (hf i (by omega)).trans (h.2.1 i h1 h2), fun i k h1 h2 => (congrArg (fun z => pj z k) (hf i (by omega))).trans (h.2.2 i k h1 h2)⟩
theorem aw_newJ {l : Launch} {D : va_G} {b : Nat} {J : Md} {R : Room} {X : Sc} {FQ : Array Value → List Frame → State → State → Prop} {pc : Nat} {ls : List (Option Value)} {st : List Value} {N : Nat} {L : List E4} {V0 V : Wd} {k n : Nat} {e : va_E} (hJ : JW D b N L V0 V) (hN : 100 ≤ N) (h : ∀ V', JW D b N L V0 V' → V' N = e → (∀ i, i ≠ N → V' i = V i) → AW l D b J R X FQ pc ls st (N + 1) V' k n) : AW l D b J R X FQ pc ls st (N + 1) (va_up V N e) k n := h _ (hJ.skip (fun i hi => va_up_ne _ _ hi) hN) (va_up_self _ _ _) (fun i hi => va_up_ne _ _ hi)

set_option maxHeartbeats 4000000 in
set_option maxRecDepth 100000 in
theorem g_X11_law (l : Launch) (D : va_G) (b : Nat) (N : Nat) (V : Wd) (hN : 100 ≤ N) (hW : CW D b V) (n0 : Int32)  : MI l D b 29 jX11_law [.ref (b + 0), .int n0] N V 1 2 (fun r N9 V9 => N ≤ N9 ∧ N9 ≤ N + 1 ∧ JW D b N [(57, 72, 0, 1000000), (1, 1, 2, 2), (1, 1, 3, 3), (1, 1, 4, 4), (1, 1, 1, 1), (0, 0, 5, 5), (0, 0, 6, 6)] V V9) := by
  have hJ0 : JW D b N [(57, 72, 0, 1000000), (1, 1, 2, 2), (1, 1, 3, 3), (1, 1, 4, 4), (1, 1, 1, 1), (0, 0, 5, 5), (0, 0, 6, 6)] V V := JW.rf hW
  refine mw_of (by decide) (by simp [Value.category]) (Nat.le_of_ble_eq_true rfl) ?_
  show AW l D b jX11_law (fx_rm 29 1 2) none (fx_MQ D b 1 2 (fx_qi (fun r N9 V9 => N ≤ N9 ∧ N9 ≤ N + 1 ∧ JW D b N [(57, 72, 0, 1000000), (1, 1, 2, 2), (1, 1, 3, 3), (1, 1, 4, 4), (1, 1, 1, 1), (0, 0, 5, 5), (0, 0, 6, 6)] V V9))) 0 [some (.ref (b + 0)), some (.int n0), none, none] [] N V 0 0
  refine aw_aload_n dX11_law_0 rfl ?_
  obtain ⟨ek_1, x_1, y_1, e_1, hx_1, hy_1⟩ := JW.get hJ0 ct_0
  refine aw_get dX11_law_1 fl_X11_12 e_1 (by omega) rfl ?_
  refine aw_iload_n dX11_law_4 rfl ?_
  refine aw_iconst (v := 1) dX11_law_5 (by decide) ?_
  refine aw_sipush (v := 240) dX11_law_6 (by decide) ?_
  obtain ⟨ts_4, tn_4, tf_4, ta_4, e_4, hta_4⟩ := JW.get hJ0 ct_1
  refine aw_callVi (J' := jX10_holds) (As := [.int n0, .int 1, .int 240]) (st := []) dX11_law_9 tb_267 ok_X10_holds ⟨_, e_4⟩ (by omega) rfl rfl (g_X10_holds l D b N V hN hJ0.1 n0 1 240) rfl (Nat.le_of_ble_eq_true rfl) ⟨Nat.le_of_ble_eq_true rfl, Nat.le_of_ble_eq_true rfl, Nat.le_of_ble_eq_true rfl, Nat.le_of_ble_eq_true rfl⟩ (fun r_5 N_6 V_7 q_8 => ?_)
  obtain ⟨h_3, rfl, rfl⟩ := q_8
  refine aw_if_ne (tgt := 17) dX11_law_12 (by decide) (fun c_9 => ?_) (fun c_9 => ?_)
  · skip
    refine aw_aload_n dX11_law_17 rfl ?_
    refine aw_get dX11_law_18 fl_X11_12 e_1 (by omega) rfl ?_
    refine aw_iload_n dX11_law_21 rfl ?_
    refine aw_callVv (J' := jX10_take) (As := [.int n0]) (st := []) dX11_law_22 tb_271 ok_X10_take ⟨_, e_4⟩ (by omega) rfl rfl (g_X10_take l D b N V hN hJ0.1 n0) rfl (Nat.le_of_ble_eq_true rfl) ⟨Nat.le_of_ble_eq_true rfl, Nat.le_of_ble_eq_true rfl, Nat.le_of_ble_eq_true rfl, Nat.le_of_ble_eq_true rfl⟩ (fun  N_13 V_12 q_14 => ?_)
    obtain ⟨rfl, q_10⟩ := q_14
    have j_11 := JW.trans hJ0 (JW.weak q_10 (Sub.cons (LMs LM0) (by decide) (by decide) (by decide) (Or.inr ⟨by decide, by decide⟩) (Sub.cons (LMs (LMs LM0)) (by decide) (by decide) (by decide) (Or.inr ⟨by decide, by decide⟩) (Sub.cons (LMs (LMs (LMs LM0))) (by decide) (by decide) (by decide) (Or.inr ⟨by decide, by decide⟩) (Sub.cons (LMs (LMs (LMs (LMs LM0)))) (by decide) (by decide) (by decide) (Or.inr ⟨by decide, by decide⟩) Sub.nil)))))
    refine aw_aload_n dX11_law_25 rfl ?_
    obtain ⟨ek_15, x_15, y_15, e_15, hx_15, hy_15⟩ := JW.get j_11 ct_0
    refine aw_get dX11_law_26 fl_X11_40 e_15 (by omega) rfl ?_
    obtain ⟨s8_19, r8_19, h8_19, e_19, hs_19, hr_19⟩ := JW.get j_11 (ctl_0 hy_15)
    refine aw_callVv (J' := jX4_clear) (As := []) (st := []) dX11_law_29 tb_275 ok_X4_clear ⟨_, e_19⟩ (by omega) rfl rfl (g_X4_clear l D b N V_12 hN j_11.1 y_15 hy_15) rfl (Nat.le_of_ble_eq_true rfl) ⟨Nat.le_of_ble_eq_true rfl, Nat.le_of_ble_eq_true rfl, Nat.le_of_ble_eq_true rfl, Nat.le_of_ble_eq_true rfl⟩ (fun  N_20 V_18 q_21 => ?_)
    obtain ⟨rfl, q_16⟩ := q_21
    have j_17 := JW.trans j_11 (JW.weak q_16 (Sub.cons LM0 (by omega) (by omega) (by decide) (Or.inl rfl) (Sub.cons LM0 (by omega) (by omega) (by decide) (Or.inl rfl) Sub.nil)))
    refine aw_new dX11_law_32 nw_X11_89 (Nat.le_of_ble_eq_true rfl) (Nat.le_of_ble_eq_true rfl) ?_
    refine aw_newJ j_17 hN (fun V_22 j_22 e_22 k_22 => ?_)
    refine aw_dup dX11_law_35 rfl ?_
    refine aw_aload_n dX11_law_36 rfl ?_
    obtain ⟨ek_23, x_23, y_23, e_23, hx_23, hy_23⟩ := JW.get j_22 ct_0
    refine aw_get dX11_law_37 fl_X11_12 e_23 (by omega) rfl ?_
    refine aw_aload_n dX11_law_40 rfl ?_
    refine aw_get dX11_law_41 fl_X11_40 e_23 (by omega) rfl ?_
    refine aw_callIv (As := [.ref (b + 1), .ref (b + y_23)]) (st := [.ref (b + N)]) dX11_law_44 tb_281 ok_X5_init rfl (g_X5_init l D b (N + 1) V_22 N (by omega) y_23 e_22) rfl (Nat.le_of_ble_eq_true rfl) ⟨Nat.le_of_ble_eq_true rfl, Nat.le_of_ble_eq_true rfl, Nat.le_of_ble_eq_true rfl, Nat.le_of_ble_eq_true rfl⟩ (fun  N_29 V_28 q_30 => ?_)
    obtain ⟨rfl, h_24, f_25⟩ := q_30
    have jA_26 := JW.skip j_22 f_25 hN
    have jB_27 : JW D b (N + 1) [(57, 72, 0, 1000000), (1, 1, 2, 2), (1, 1, 3, 3), (1, 1, 4, 4), (1, 1, 1, 1), (0, 0, 5, 5), (0, 0, 6, 6)] V_28 V_28 := JW.rf jA_26.1
    refine aw_bipush (v := 16) dX11_law_47 (by decide) ?_
    refine aw_callWi (J' := jX6_readLines) (y := ({ cls := "FearLocks$LawReader", name := "readLines", desc := "(I)I" } : Jvm.MethodName)) (RC := "FearLocks$LawReader") (owner := "FearLocks$LinesReader") (As := [.int 16]) (st := []) dX11_law_49 tb_301 okW_X6_readLines_X5 ⟨_, ((jB_27.2.1 _ (by omega) (by omega)).trans h_24)⟩ (by omega) rfl rfl (g_X6_readLines_L l D b (N + 1) V_28 (by omega) jB_27.1 N y_23 ⟨by omega, by omega⟩ hy_23 ((jB_27.2.1 _ (by omega) (by omega)).trans h_24)) rfl (Nat.le_of_ble_eq_true rfl) ⟨Nat.le_of_ble_eq_true rfl, Nat.le_of_ble_eq_true rfl, Nat.le_of_ble_eq_true rfl, Nat.le_of_ble_eq_true rfl⟩ (fun r_34 N_35 V_33 q_36 => ?_)
    obtain ⟨rfl, q_31⟩ := q_36
    have j_32 := JW.trans jB_27 (JW.weak q_31 (Sub.cons (LMs (LMs LM0)) (by decide) (by decide) (by decide) (Or.inr ⟨by decide, by decide⟩) (Sub.cons LM0 (by omega) (by omega) (by decide) (Or.inl rfl) (Sub.cons LM0 (by omega) (by omega) (by decide) (Or.inl rfl) (Sub.cons LM0 (by omega) (by omega) (by decide) (Or.inl rfl) (Sub.cons LM0 (by omega) (by omega) (by decide) (Or.inl rfl) (Sub.cons LM0 (by omega) (by omega) (by decide) (Or.inl rfl) (Sub.cons LM0 (by omega) (by omega) (by decide) (Or.inl rfl) (Sub.cons (LMs (LMs (LMs LM0))) (by decide) (by decide) (by decide) (Or.inr ⟨by decide, by decide⟩) (Sub.cons LM0 (by omega) (by omega) (by decide) (Or.inl rfl) Sub.nil))))))))))
    refine aw_istore_n (ls' := [some (.ref (b + 0)), some (.int n0), some (.int r_34), none]) dX11_law_52 (Nat.le_of_ble_eq_true rfl) rfl ?_
    refine aw_iload_n dX11_law_53 rfl ?_
    refine aw_if_le (tgt := 75) dX11_law_54 (by decide) (fun c_37 => ?_) (fun c_37 => ?_)
    · skip
      refine aw_iload_n dX11_law_75 rfl ?_
      refine aw_ireti dX11_law_76 rfl (Nat.le_of_ble_eq_true rfl) (Nat.le_of_ble_eq_true rfl) ?_
      exact ⟨Nat.le_succ _, Nat.le_refl _, JW.trans jA_26 (JW.weakN j_32)⟩
    · skip
      refine aw_aload_n dX11_law_57 rfl ?_
      obtain ⟨ek_38, x_38, y_38, e_38, hx_38, hy_38⟩ := JW.get j_32 ct_0
      refine aw_get dX11_law_58 fl_X11_36 e_38 (by omega) rfl ?_
      refine aw_astore_n (ls' := [some (.ref (b + 0)), some (.int n0), some (.int r_34), some (.ref (b + x_38))]) dX11_law_61 (Nat.le_of_ble_eq_true rfl) rfl ?_
      refine aw_aload_n dX11_law_62 rfl ?_
      refine aw_aload_n dX11_law_63 rfl ?_
      refine aw_get dX11_law_64 fl_X11_40 e_38 (by omega) rfl ?_
      refine aw_put dX11_law_67 fp_X11_36 e_38 (by omega) rfl rfl (Nat.le_of_ble_eq_true rfl) rfl ?_
      refine aw_up j_32 ct_0 ⟨_, _, _, rfl, hy_38, hy_38⟩ (WO (s := 5) (x := .ref (b + y_38)) e_38 rfl (LMs (LMs (LMs (LMs (LMs LM0))))) (by decide) (by decide) (by decide) (Or.inl (by decide))) (fun V_39 j_39 k_39 e_39 => ?_)
      refine aw_aload_n dX11_law_70 rfl ?_
      refine aw_aload_n dX11_law_71 rfl ?_
      refine aw_put dX11_law_72 fp_X11_40 e_39 (by omega) rfl rfl (Nat.le_of_ble_eq_true rfl) rfl ?_
      refine aw_up j_39 ct_0 ⟨_, _, _, rfl, hy_38, hx_38⟩ (WO (s := 6) (x := .ref (b + x_38)) e_39 rfl (LMs (LMs (LMs (LMs (LMs (LMs LM0)))))) (by decide) (by decide) (by decide) (Or.inl (by decide))) (fun V_40 j_40 k_40 e_40 => ?_)
      refine aw_iload_n dX11_law_75 rfl ?_
      refine aw_ireti dX11_law_76 rfl (Nat.le_of_ble_eq_true rfl) (Nat.le_of_ble_eq_true rfl) ?_
      exact ⟨Nat.le_succ _, Nat.le_refl _, JW.trans jA_26 (JW.weakN j_40)⟩
  · skip
    refine aw_iconst (v := (-1)) dX11_law_15 (by decide) ?_
    refine aw_ireti dX11_law_16 rfl (Nat.le_of_ble_eq_true rfl) (Nat.le_of_ble_eq_true rfl) ?_
    exact ⟨Nat.le_refl _, Nat.le_succ _, hJ0⟩

set_option maxHeartbeats 4000000 in
set_option maxRecDepth 100000 in
theorem g_X11_dreads (l : Launch) (D : va_G) (b : Nat) (N : Nat) (V : Wd) (hN : 100 ≤ N) (hW : CW D b V) (n0 : Int32) (n1 : Int32)  : MI l D b 5 jX11_dreads [.ref (b + 0), .int n0, .int n1] N V 1 3 (fun r N9 V9 => N ≤ N9 ∧ N9 ≤ N + 1 ∧ JW D b N [(5, 20, 0, 1000000), (23, 38, 0, 1000000), (1, 1, 2, 2), (1, 1, 3, 3), (1, 1, 4, 4), (1, 1, 1, 1), (21, 21, 5, 5), (21, 21, 6, 6), (21, 21, 7, 7), (21, 21, 8, 8), (3, 3, 5, 5), (3, 3, 6, 6), (3, 3, 7, 7), (3, 3, 8, 8)] V V9) := by
  have hJ0 : JW D b N [(5, 20, 0, 1000000), (23, 38, 0, 1000000), (1, 1, 2, 2), (1, 1, 3, 3), (1, 1, 4, 4), (1, 1, 1, 1), (21, 21, 5, 5), (21, 21, 6, 6), (21, 21, 7, 7), (21, 21, 8, 8), (3, 3, 5, 5), (3, 3, 6, 6), (3, 3, 7, 7), (3, 3, 8, 8)] V V := JW.rf hW
  refine mw_of (by decide) (by simp [Value.category]) (Nat.le_of_ble_eq_true rfl) ?_
  show AW l D b jX11_dreads (fx_rm 5 1 3) none (fx_MQ D b 1 3 (fx_qi (fun r N9 V9 => N ≤ N9 ∧ N9 ≤ N + 1 ∧ JW D b N [(5, 20, 0, 1000000), (23, 38, 0, 1000000), (1, 1, 2, 2), (1, 1, 3, 3), (1, 1, 4, 4), (1, 1, 1, 1), (21, 21, 5, 5), (21, 21, 6, 6), (21, 21, 7, 7), (21, 21, 8, 8), (3, 3, 5, 5), (3, 3, 6, 6), (3, 3, 7, 7), (3, 3, 8, 8)] V V9))) 0 [some (.ref (b + 0)), some (.int n0), some (.int n1), none] [] N V 0 0
  refine aw_iload_n dX11_dreads_0 rfl ?_
  refine aw_if_lt (tgt := 24) dX11_dreads_1 (by decide) (fun c_1 => ?_) (fun c_1 => ?_)
  · skip
    refine aw_iconst (v := (-1)) dX11_dreads_24 (by decide) ?_
    refine aw_ireti dX11_dreads_25 rfl (Nat.le_of_ble_eq_true rfl) (Nat.le_of_ble_eq_true rfl) ?_
    exact ⟨Nat.le_refl _, Nat.le_succ _, hJ0⟩
  · skip
    refine aw_iload_n dX11_dreads_4 rfl ?_
    refine aw_bipush (v := 12) dX11_dreads_5 (by decide) ?_
    refine aw_icmp_ge (tgt := 24) dX11_dreads_7 (by decide) (fun c_2 => ?_) (fun c_2 => ?_)
    · skip
      refine aw_iconst (v := (-1)) dX11_dreads_24 (by decide) ?_
      refine aw_ireti dX11_dreads_25 rfl (Nat.le_of_ble_eq_true rfl) (Nat.le_of_ble_eq_true rfl) ?_
      exact ⟨Nat.le_refl _, Nat.le_succ _, hJ0⟩
    · skip
      refine aw_aload_n dX11_dreads_10 rfl ?_
      obtain ⟨ek_3, x_3, y_3, e_3, hx_3, hy_3⟩ := JW.get hJ0 ct_0
      refine aw_get dX11_dreads_11 fl_X11_12 e_3 (by omega) rfl ?_
      refine aw_iload_n dX11_dreads_14 rfl ?_
      refine aw_iconst (v := 1) dX11_dreads_15 (by decide) ?_
      refine aw_bipush (v := 120) dX11_dreads_16 (by decide) ?_
      obtain ⟨ts_6, tn_6, tf_6, ta_6, e_6, hta_6⟩ := JW.get hJ0 ct_1
      refine aw_callVi (J' := jX10_holds) (As := [.int n1, .int 1, .int 120]) (st := []) dX11_dreads_18 tb_267 ok_X10_holds ⟨_, e_6⟩ (by omega) rfl rfl (g_X10_holds l D b N V hN hJ0.1 n1 1 120) rfl (Nat.le_of_ble_eq_true rfl) ⟨Nat.le_of_ble_eq_true rfl, Nat.le_of_ble_eq_true rfl, Nat.le_of_ble_eq_true rfl, Nat.le_of_ble_eq_true rfl⟩ (fun r_7 N_8 V_9 q_10 => ?_)
      obtain ⟨h_5, rfl, rfl⟩ := q_10
      refine aw_if_ne (tgt := 26) dX11_dreads_21 (by decide) (fun c_11 => ?_) (fun c_11 => ?_)
      · skip
        refine aw_aload_n dX11_dreads_26 rfl ?_
        refine aw_get dX11_dreads_27 fl_X11_12 e_3 (by omega) rfl ?_
        refine aw_iload_n dX11_dreads_30 rfl ?_
        refine aw_callVv (J' := jX10_take) (As := [.int n1]) (st := []) dX11_dreads_31 tb_271 ok_X10_take ⟨_, e_6⟩ (by omega) rfl rfl (g_X10_take l D b N V hN hJ0.1 n1) rfl (Nat.le_of_ble_eq_true rfl) ⟨Nat.le_of_ble_eq_true rfl, Nat.le_of_ble_eq_true rfl, Nat.le_of_ble_eq_true rfl, Nat.le_of_ble_eq_true rfl⟩ (fun  N_15 V_14 q_16 => ?_)
        obtain ⟨rfl, q_12⟩ := q_16
        have j_13 := JW.trans hJ0 (JW.weak q_12 (Sub.cons (LMs (LMs LM0)) (by decide) (by decide) (by decide) (Or.inr ⟨by decide, by decide⟩) (Sub.cons (LMs (LMs (LMs LM0))) (by decide) (by decide) (by decide) (Or.inr ⟨by decide, by decide⟩) (Sub.cons (LMs (LMs (LMs (LMs LM0)))) (by decide) (by decide) (by decide) (Or.inr ⟨by decide, by decide⟩) (Sub.cons (LMs (LMs (LMs (LMs (LMs LM0))))) (by decide) (by decide) (by decide) (Or.inr ⟨by decide, by decide⟩) Sub.nil)))))
        refine aw_aload_n dX11_dreads_34 rfl ?_
        obtain ⟨ek_17, x_17, y_17, e_17, hx_17, hy_17⟩ := JW.get j_13 ct_0
        refine aw_get dX11_dreads_35 fl_X11_23 e_17 (by omega) rfl ?_
        refine aw_aload_n dX11_dreads_38 rfl ?_
        refine aw_get dX11_dreads_39 fl_X11_19 e_17 (by omega) rfl ?_
        obtain ⟨pe_21, dd_21, ni_21, xx_21, e_21⟩ := JW.get j_13 (ctc_0 cA_21)
        refine aw_callVv (J' := jX0_copyFrom) (As := [.ref (b + 3)]) (st := []) dX11_dreads_42 tb_581 ok_X0_copyFrom ⟨_, e_21⟩ (by omega) rfl rfl (g_X0_copyFrom l D b N V_14 hN j_13.1 21 cA_21 3 cA_3) rfl (Nat.le_of_ble_eq_true rfl) ⟨Nat.le_of_ble_eq_true rfl, Nat.le_of_ble_eq_true rfl, Nat.le_of_ble_eq_true rfl, Nat.le_of_ble_eq_true rfl⟩ (fun  N_22 V_20 q_23 => ?_)
        obtain ⟨rfl, q_18⟩ := q_23
        have j_19 := JW.trans j_13 (JW.weak q_18 (Sub.cons (LMs LM0) (by decide) (by decide) (by decide) (Or.inl rfl) (Sub.cons (LMs (LMs (LMs (LMs (LMs (LMs LM0)))))) (by decide) (by decide) (by decide) (Or.inr ⟨by decide, by decide⟩) (Sub.cons (LMs (LMs (LMs (LMs (LMs (LMs (LMs LM0))))))) (by decide) (by decide) (by decide) (Or.inr ⟨by decide, by decide⟩) (Sub.cons (LMs (LMs (LMs (LMs (LMs (LMs (LMs (LMs LM0)))))))) (by decide) (by decide) (by decide) (Or.inr ⟨by decide, by decide⟩) (Sub.cons (LMs (LMs (LMs (LMs (LMs (LMs (LMs (LMs (LMs LM0))))))))) (by decide) (by decide) (by decide) (Or.inr ⟨by decide, by decide⟩) (Sub.cons (LMs LM0) (by decide) (by decide) (by decide) (Or.inl rfl) (Sub.cons (LMs LM0) (by decide) (by decide) (by decide) (Or.inl rfl) (Sub.cons (LMs LM0) (by decide) (by decide) (by decide) (Or.inl rfl) (Sub.cons (LMs LM0) (by decide) (by decide) (by decide) (Or.inl rfl) Sub.nil))))))))))
        refine aw_new dX11_dreads_45 nw_X11_102 (Nat.le_of_ble_eq_true rfl) (Nat.le_of_ble_eq_true rfl) ?_
        refine aw_newJ j_19 hN (fun V_24 j_24 e_24 k_24 => ?_)
        refine aw_dup dX11_dreads_48 rfl ?_
        refine aw_aload_n dX11_dreads_49 rfl ?_
        obtain ⟨ek_25, x_25, y_25, e_25, hx_25, hy_25⟩ := JW.get j_24 ct_0
        refine aw_get dX11_dreads_50 fl_X11_12 e_25 (by omega) rfl ?_
        refine aw_aload_n dX11_dreads_53 rfl ?_
        refine aw_get dX11_dreads_54 fl_X11_23 e_25 (by omega) rfl ?_
        refine aw_iload_n dX11_dreads_57 rfl ?_
        refine aw_callIv (As := [.ref (b + 1), .ref (b + 21), .int n0]) (st := [.ref (b + N)]) dX11_dreads_58 tb_590 ok_X2_init rfl (g_X2_init l D b (N + 1) V_24 N (by omega) 21 n0 e_24) rfl (Nat.le_of_ble_eq_true rfl) ⟨Nat.le_of_ble_eq_true rfl, Nat.le_of_ble_eq_true rfl, Nat.le_of_ble_eq_true rfl, Nat.le_of_ble_eq_true rfl⟩ (fun  N_31 V_30 q_32 => ?_)
        obtain ⟨rfl, h_26, f_27⟩ := q_32
        have jA_28 := JW.skip j_24 f_27 hN
        have jB_29 : JW D b (N + 1) [(5, 20, 0, 1000000), (23, 38, 0, 1000000), (1, 1, 2, 2), (1, 1, 3, 3), (1, 1, 4, 4), (1, 1, 1, 1), (21, 21, 5, 5), (21, 21, 6, 6), (21, 21, 7, 7), (21, 21, 8, 8), (3, 3, 5, 5), (3, 3, 6, 6), (3, 3, 7, 7), (3, 3, 8, 8)] V_30 V_30 := JW.rf jA_28.1
        refine aw_bipush (v := 20) dX11_dreads_61 (by decide) ?_
        refine aw_callWi (J' := jX6_readLines) (y := ({ cls := "FearLocks$DreadsReader", name := "readLines", desc := "(I)I" } : Jvm.MethodName)) (RC := "FearLocks$DreadsReader") (owner := "FearLocks$LinesReader") (As := [.int 20]) (st := []) dX11_dreads_63 tb_602 okW_X6_readLines_X2 ⟨_, ((jB_29.2.1 _ (by omega) (by omega)).trans h_26)⟩ (by omega) rfl rfl (g_X6_readLines_D l D b (N + 1) V_30 (by omega) jB_29.1 N 21 n0 ⟨by omega, by omega⟩ cA_21 ((jB_29.2.1 _ (by omega) (by omega)).trans h_26)) rfl (Nat.le_of_ble_eq_true rfl) ⟨Nat.le_of_ble_eq_true rfl, Nat.le_of_ble_eq_true rfl, Nat.le_of_ble_eq_true rfl, Nat.le_of_ble_eq_true rfl⟩ (fun r_36 N_37 V_35 q_38 => ?_)
        obtain ⟨rfl, q_33⟩ := q_38
        have j_34 := JW.trans jB_29 (JW.weak q_33 (Sub.cons (LMs (LMs (LMs LM0))) (by decide) (by decide) (by decide) (Or.inr ⟨by decide, by decide⟩) (Sub.cons (LMs (LMs (LMs (LMs LM0)))) (by decide) (by decide) (by decide) (Or.inr ⟨by decide, by decide⟩) (Sub.cons (LMs (LMs (LMs (LMs (LMs (LMs LM0)))))) (by decide) (by decide) (by decide) (Or.inr ⟨by decide, by decide⟩) (Sub.cons (LMs LM0) (by decide) (by decide) (by decide) (Or.inl rfl) Sub.nil)))))
        refine aw_istore_n (ls' := [some (.ref (b + 0)), some (.int n0), some (.int n1), some (.int r_36)]) dX11_dreads_66 (Nat.le_of_ble_eq_true rfl) rfl ?_
        refine aw_iload_n dX11_dreads_67 rfl ?_
        refine aw_if_le (tgt := 82) dX11_dreads_68 (by decide) (fun c_39 => ?_) (fun c_39 => ?_)
        · skip
          refine aw_iload_n dX11_dreads_82 rfl ?_
          refine aw_ireti dX11_dreads_83 rfl (Nat.le_of_ble_eq_true rfl) (Nat.le_of_ble_eq_true rfl) ?_
          exact ⟨Nat.le_succ _, Nat.le_refl _, JW.trans jA_28 (JW.weakN j_34)⟩
        · skip
          refine aw_aload_n dX11_dreads_71 rfl ?_
          obtain ⟨ek_40, x_40, y_40, e_40, hx_40, hy_40⟩ := JW.get j_34 ct_0
          refine aw_get dX11_dreads_72 fl_X11_19 e_40 (by omega) rfl ?_
          refine aw_aload_n dX11_dreads_75 rfl ?_
          refine aw_get dX11_dreads_76 fl_X11_23 e_40 (by omega) rfl ?_
          obtain ⟨pe_44, dd_44, ni_44, xx_44, e_44⟩ := JW.get j_34 (ctc_0 cA_3)
          refine aw_callVv (J' := jX0_copyFrom) (As := [.ref (b + 21)]) (st := []) dX11_dreads_79 tb_581 ok_X0_copyFrom ⟨_, e_44⟩ (by omega) rfl rfl (g_X0_copyFrom l D b (N + 1) V_35 (by omega) j_34.1 3 cA_3 21 cA_21) rfl (Nat.le_of_ble_eq_true rfl) ⟨Nat.le_of_ble_eq_true rfl, Nat.le_of_ble_eq_true rfl, Nat.le_of_ble_eq_true rfl, Nat.le_of_ble_eq_true rfl⟩ (fun  N_45 V_43 q_46 => ?_)
          obtain ⟨rfl, q_41⟩ := q_46
          have j_42 := JW.trans j_34 (JW.weak q_41 (Sub.cons LM0 (by decide) (by decide) (by decide) (Or.inl rfl) (Sub.cons (LMs (LMs (LMs (LMs (LMs (LMs (LMs (LMs (LMs (LMs LM0)))))))))) (by decide) (by decide) (by decide) (Or.inr ⟨by decide, by decide⟩) (Sub.cons (LMs (LMs (LMs (LMs (LMs (LMs (LMs (LMs (LMs (LMs (LMs LM0))))))))))) (by decide) (by decide) (by decide) (Or.inr ⟨by decide, by decide⟩) (Sub.cons (LMs (LMs (LMs (LMs (LMs (LMs (LMs (LMs (LMs (LMs (LMs (LMs LM0)))))))))))) (by decide) (by decide) (by decide) (Or.inr ⟨by decide, by decide⟩) (Sub.cons (LMs (LMs (LMs (LMs (LMs (LMs (LMs (LMs (LMs (LMs (LMs (LMs (LMs LM0))))))))))))) (by decide) (by decide) (by decide) (Or.inr ⟨by decide, by decide⟩) (Sub.cons LM0 (by decide) (by decide) (by decide) (Or.inl rfl) (Sub.cons LM0 (by decide) (by decide) (by decide) (Or.inl rfl) (Sub.cons LM0 (by decide) (by decide) (by decide) (Or.inl rfl) (Sub.cons LM0 (by decide) (by decide) (by decide) (Or.inl rfl) Sub.nil))))))))))
          refine aw_iload_n dX11_dreads_82 rfl ?_
          refine aw_ireti dX11_dreads_83 rfl (Nat.le_of_ble_eq_true rfl) (Nat.le_of_ble_eq_true rfl) ?_
          exact ⟨Nat.le_succ _, Nat.le_refl _, JW.trans jA_28 (JW.weakN j_42)⟩
      · skip
        refine aw_iconst (v := (-1)) dX11_dreads_24 (by decide) ?_
        refine aw_ireti dX11_dreads_25 rfl (Nat.le_of_ble_eq_true rfl) (Nat.le_of_ble_eq_true rfl) ?_
        exact ⟨Nat.le_refl _, Nat.le_succ _, hJ0⟩

set_option maxHeartbeats 4000000 in
set_option maxRecDepth 100000 in
theorem g_X11_orders (l : Launch) (D : va_G) (b : Nat) (N : Nat) (V : Wd) (hN : 100 ≤ N) (hW : CW D b V) (n0 : Int32)  : MI l D b 6 jX11_orders [.ref (b + 0), .int n0] N V 1 2 (fun r N9 V9 => N ≤ N9 ∧ N9 ≤ N + 1 ∧ JW D b N [(5, 20, 0, 1000000), (23, 38, 0, 1000000), (1, 1, 2, 2), (1, 1, 3, 3), (1, 1, 4, 4), (1, 1, 1, 1), (21, 21, 5, 5), (21, 21, 6, 6), (21, 21, 7, 7), (21, 21, 8, 8), (3, 3, 5, 5), (3, 3, 6, 6), (3, 3, 7, 7), (3, 3, 8, 8)] V V9) := by
  have hJ0 : JW D b N [(5, 20, 0, 1000000), (23, 38, 0, 1000000), (1, 1, 2, 2), (1, 1, 3, 3), (1, 1, 4, 4), (1, 1, 1, 1), (21, 21, 5, 5), (21, 21, 6, 6), (21, 21, 7, 7), (21, 21, 8, 8), (3, 3, 5, 5), (3, 3, 6, 6), (3, 3, 7, 7), (3, 3, 8, 8)] V V := JW.rf hW
  refine mw_of (by decide) (by simp [Value.category]) (Nat.le_of_ble_eq_true rfl) ?_
  show AW l D b jX11_orders (fx_rm 6 1 2) none (fx_MQ D b 1 2 (fx_qi (fun r N9 V9 => N ≤ N9 ∧ N9 ≤ N + 1 ∧ JW D b N [(5, 20, 0, 1000000), (23, 38, 0, 1000000), (1, 1, 2, 2), (1, 1, 3, 3), (1, 1, 4, 4), (1, 1, 1, 1), (21, 21, 5, 5), (21, 21, 6, 6), (21, 21, 7, 7), (21, 21, 8, 8), (3, 3, 5, 5), (3, 3, 6, 6), (3, 3, 7, 7), (3, 3, 8, 8)] V V9))) 0 [some (.ref (b + 0)), some (.int n0), none] [] N V 0 0
  refine aw_aload_n dX11_orders_0 rfl ?_
  obtain ⟨ek_1, x_1, y_1, e_1, hx_1, hy_1⟩ := JW.get hJ0 ct_0
  refine aw_get dX11_orders_1 fl_X11_12 e_1 (by omega) rfl ?_
  refine aw_iload_n dX11_orders_4 rfl ?_
  refine aw_iconst (v := 1) dX11_orders_5 (by decide) ?_
  refine aw_bipush (v := 120) dX11_orders_6 (by decide) ?_
  obtain ⟨ts_4, tn_4, tf_4, ta_4, e_4, hta_4⟩ := JW.get hJ0 ct_1
  refine aw_callVi (J' := jX10_holds) (As := [.int n0, .int 1, .int 120]) (st := []) dX11_orders_8 tb_267 ok_X10_holds ⟨_, e_4⟩ (by omega) rfl rfl (g_X10_holds l D b N V hN hJ0.1 n0 1 120) rfl (Nat.le_of_ble_eq_true rfl) ⟨Nat.le_of_ble_eq_true rfl, Nat.le_of_ble_eq_true rfl, Nat.le_of_ble_eq_true rfl, Nat.le_of_ble_eq_true rfl⟩ (fun r_5 N_6 V_7 q_8 => ?_)
  obtain ⟨h_3, rfl, rfl⟩ := q_8
  refine aw_if_ne (tgt := 16) dX11_orders_11 (by decide) (fun c_9 => ?_) (fun c_9 => ?_)
  · skip
    refine aw_aload_n dX11_orders_16 rfl ?_
    refine aw_get dX11_orders_17 fl_X11_12 e_1 (by omega) rfl ?_
    refine aw_iload_n dX11_orders_20 rfl ?_
    refine aw_callVv (J' := jX10_take) (As := [.int n0]) (st := []) dX11_orders_21 tb_271 ok_X10_take ⟨_, e_4⟩ (by omega) rfl rfl (g_X10_take l D b N V hN hJ0.1 n0) rfl (Nat.le_of_ble_eq_true rfl) ⟨Nat.le_of_ble_eq_true rfl, Nat.le_of_ble_eq_true rfl, Nat.le_of_ble_eq_true rfl, Nat.le_of_ble_eq_true rfl⟩ (fun  N_13 V_12 q_14 => ?_)
    obtain ⟨rfl, q_10⟩ := q_14
    have j_11 := JW.trans hJ0 (JW.weak q_10 (Sub.cons (LMs (LMs LM0)) (by decide) (by decide) (by decide) (Or.inr ⟨by decide, by decide⟩) (Sub.cons (LMs (LMs (LMs LM0))) (by decide) (by decide) (by decide) (Or.inr ⟨by decide, by decide⟩) (Sub.cons (LMs (LMs (LMs (LMs LM0)))) (by decide) (by decide) (by decide) (Or.inr ⟨by decide, by decide⟩) (Sub.cons (LMs (LMs (LMs (LMs (LMs LM0))))) (by decide) (by decide) (by decide) (Or.inr ⟨by decide, by decide⟩) Sub.nil)))))
    refine aw_aload_n dX11_orders_24 rfl ?_
    obtain ⟨ek_15, x_15, y_15, e_15, hx_15, hy_15⟩ := JW.get j_11 ct_0
    refine aw_get dX11_orders_25 fl_X11_23 e_15 (by omega) rfl ?_
    refine aw_aload_n dX11_orders_28 rfl ?_
    refine aw_get dX11_orders_29 fl_X11_19 e_15 (by omega) rfl ?_
    obtain ⟨pe_19, dd_19, ni_19, xx_19, e_19⟩ := JW.get j_11 (ctc_0 cA_21)
    refine aw_callVv (J' := jX0_copyFrom) (As := [.ref (b + 3)]) (st := []) dX11_orders_32 tb_581 ok_X0_copyFrom ⟨_, e_19⟩ (by omega) rfl rfl (g_X0_copyFrom l D b N V_12 hN j_11.1 21 cA_21 3 cA_3) rfl (Nat.le_of_ble_eq_true rfl) ⟨Nat.le_of_ble_eq_true rfl, Nat.le_of_ble_eq_true rfl, Nat.le_of_ble_eq_true rfl, Nat.le_of_ble_eq_true rfl⟩ (fun  N_20 V_18 q_21 => ?_)
    obtain ⟨rfl, q_16⟩ := q_21
    have j_17 := JW.trans j_11 (JW.weak q_16 (Sub.cons (LMs LM0) (by decide) (by decide) (by decide) (Or.inl rfl) (Sub.cons (LMs (LMs (LMs (LMs (LMs (LMs LM0)))))) (by decide) (by decide) (by decide) (Or.inr ⟨by decide, by decide⟩) (Sub.cons (LMs (LMs (LMs (LMs (LMs (LMs (LMs LM0))))))) (by decide) (by decide) (by decide) (Or.inr ⟨by decide, by decide⟩) (Sub.cons (LMs (LMs (LMs (LMs (LMs (LMs (LMs (LMs LM0)))))))) (by decide) (by decide) (by decide) (Or.inr ⟨by decide, by decide⟩) (Sub.cons (LMs (LMs (LMs (LMs (LMs (LMs (LMs (LMs (LMs LM0))))))))) (by decide) (by decide) (by decide) (Or.inr ⟨by decide, by decide⟩) (Sub.cons (LMs LM0) (by decide) (by decide) (by decide) (Or.inl rfl) (Sub.cons (LMs LM0) (by decide) (by decide) (by decide) (Or.inl rfl) (Sub.cons (LMs LM0) (by decide) (by decide) (by decide) (Or.inl rfl) (Sub.cons (LMs LM0) (by decide) (by decide) (by decide) (Or.inl rfl) Sub.nil))))))))))
    refine aw_new dX11_orders_35 nw_X11_108 (Nat.le_of_ble_eq_true rfl) (Nat.le_of_ble_eq_true rfl) ?_
    refine aw_newJ j_17 hN (fun V_22 j_22 e_22 k_22 => ?_)
    refine aw_dup dX11_orders_38 rfl ?_
    refine aw_aload_n dX11_orders_39 rfl ?_
    obtain ⟨ek_23, x_23, y_23, e_23, hx_23, hy_23⟩ := JW.get j_22 ct_0
    refine aw_get dX11_orders_40 fl_X11_12 e_23 (by omega) rfl ?_
    refine aw_aload_n dX11_orders_43 rfl ?_
    refine aw_get dX11_orders_44 fl_X11_23 e_23 (by omega) rfl ?_
    refine aw_callIv (As := [.ref (b + 1), .ref (b + 21)]) (st := [.ref (b + N)]) dX11_orders_47 tb_610 ok_X8_init rfl (g_X8_init l D b (N + 1) V_22 N (by omega) 21 e_22) rfl (Nat.le_of_ble_eq_true rfl) ⟨Nat.le_of_ble_eq_true rfl, Nat.le_of_ble_eq_true rfl, Nat.le_of_ble_eq_true rfl, Nat.le_of_ble_eq_true rfl⟩ (fun  N_29 V_28 q_30 => ?_)
    obtain ⟨rfl, h_24, f_25⟩ := q_30
    have jA_26 := JW.skip j_22 f_25 hN
    have jB_27 : JW D b (N + 1) [(5, 20, 0, 1000000), (23, 38, 0, 1000000), (1, 1, 2, 2), (1, 1, 3, 3), (1, 1, 4, 4), (1, 1, 1, 1), (21, 21, 5, 5), (21, 21, 6, 6), (21, 21, 7, 7), (21, 21, 8, 8), (3, 3, 5, 5), (3, 3, 6, 6), (3, 3, 7, 7), (3, 3, 8, 8)] V_28 V_28 := JW.rf jA_26.1
    refine aw_bipush (v := 16) dX11_orders_50 (by decide) ?_
    refine aw_callWi (J' := jX6_readLines) (y := ({ cls := "FearLocks$OrdersReader", name := "readLines", desc := "(I)I" } : Jvm.MethodName)) (RC := "FearLocks$OrdersReader") (owner := "FearLocks$LinesReader") (As := [.int 16]) (st := []) dX11_orders_52 tb_619 okW_X6_readLines_X8 ⟨_, ((jB_27.2.1 _ (by omega) (by omega)).trans h_24)⟩ (by omega) rfl rfl (g_X6_readLines_O l D b (N + 1) V_28 (by omega) jB_27.1 N 21 ⟨by omega, by omega⟩ cA_21 ((jB_27.2.1 _ (by omega) (by omega)).trans h_24)) rfl (Nat.le_of_ble_eq_true rfl) ⟨Nat.le_of_ble_eq_true rfl, Nat.le_of_ble_eq_true rfl, Nat.le_of_ble_eq_true rfl, Nat.le_of_ble_eq_true rfl⟩ (fun r_34 N_35 V_33 q_36 => ?_)
    obtain ⟨rfl, q_31⟩ := q_36
    have j_32 := JW.trans jB_27 (JW.weak q_31 (Sub.cons (LMs (LMs (LMs LM0))) (by decide) (by decide) (by decide) (Or.inr ⟨by decide, by decide⟩) (Sub.cons (LMs (LMs (LMs (LMs LM0)))) (by decide) (by decide) (by decide) (Or.inr ⟨by decide, by decide⟩) (Sub.cons (LMs LM0) (by decide) (by decide) (by decide) (Or.inl rfl) (Sub.cons (LMs (LMs (LMs (LMs (LMs (LMs (LMs LM0))))))) (by decide) (by decide) (by decide) (Or.inr ⟨by decide, by decide⟩) (Sub.cons (LMs LM0) (by decide) (by decide) (by decide) (Or.inl rfl) (Sub.cons (LMs LM0) (by decide) (by decide) (by decide) (Or.inl rfl) (Sub.cons (LMs LM0) (by decide) (by decide) (by decide) (Or.inl rfl) Sub.nil))))))))
    refine aw_istore_n (ls' := [some (.ref (b + 0)), some (.int n0), some (.int r_34)]) dX11_orders_55 (Nat.le_of_ble_eq_true rfl) rfl ?_
    refine aw_iload_n dX11_orders_56 rfl ?_
    refine aw_if_le (tgt := 71) dX11_orders_57 (by decide) (fun c_37 => ?_) (fun c_37 => ?_)
    · skip
      refine aw_iload_n dX11_orders_71 rfl ?_
      refine aw_ireti dX11_orders_72 rfl (Nat.le_of_ble_eq_true rfl) (Nat.le_of_ble_eq_true rfl) ?_
      exact ⟨Nat.le_succ _, Nat.le_refl _, JW.trans jA_26 (JW.weakN j_32)⟩
    · skip
      refine aw_aload_n dX11_orders_60 rfl ?_
      obtain ⟨ek_38, x_38, y_38, e_38, hx_38, hy_38⟩ := JW.get j_32 ct_0
      refine aw_get dX11_orders_61 fl_X11_19 e_38 (by omega) rfl ?_
      refine aw_aload_n dX11_orders_64 rfl ?_
      refine aw_get dX11_orders_65 fl_X11_23 e_38 (by omega) rfl ?_
      obtain ⟨pe_42, dd_42, ni_42, xx_42, e_42⟩ := JW.get j_32 (ctc_0 cA_3)
      refine aw_callVv (J' := jX0_copyFrom) (As := [.ref (b + 21)]) (st := []) dX11_orders_68 tb_581 ok_X0_copyFrom ⟨_, e_42⟩ (by omega) rfl rfl (g_X0_copyFrom l D b (N + 1) V_33 (by omega) j_32.1 3 cA_3 21 cA_21) rfl (Nat.le_of_ble_eq_true rfl) ⟨Nat.le_of_ble_eq_true rfl, Nat.le_of_ble_eq_true rfl, Nat.le_of_ble_eq_true rfl, Nat.le_of_ble_eq_true rfl⟩ (fun  N_43 V_41 q_44 => ?_)
      obtain ⟨rfl, q_39⟩ := q_44
      have j_40 := JW.trans j_32 (JW.weak q_39 (Sub.cons LM0 (by decide) (by decide) (by decide) (Or.inl rfl) (Sub.cons (LMs (LMs (LMs (LMs (LMs (LMs (LMs (LMs (LMs (LMs LM0)))))))))) (by decide) (by decide) (by decide) (Or.inr ⟨by decide, by decide⟩) (Sub.cons (LMs (LMs (LMs (LMs (LMs (LMs (LMs (LMs (LMs (LMs (LMs LM0))))))))))) (by decide) (by decide) (by decide) (Or.inr ⟨by decide, by decide⟩) (Sub.cons (LMs (LMs (LMs (LMs (LMs (LMs (LMs (LMs (LMs (LMs (LMs (LMs LM0)))))))))))) (by decide) (by decide) (by decide) (Or.inr ⟨by decide, by decide⟩) (Sub.cons (LMs (LMs (LMs (LMs (LMs (LMs (LMs (LMs (LMs (LMs (LMs (LMs (LMs LM0))))))))))))) (by decide) (by decide) (by decide) (Or.inr ⟨by decide, by decide⟩) (Sub.cons LM0 (by decide) (by decide) (by decide) (Or.inl rfl) (Sub.cons LM0 (by decide) (by decide) (by decide) (Or.inl rfl) (Sub.cons LM0 (by decide) (by decide) (by decide) (Or.inl rfl) (Sub.cons LM0 (by decide) (by decide) (by decide) (Or.inl rfl) Sub.nil))))))))))
      refine aw_iload_n dX11_orders_71 rfl ?_
      refine aw_ireti dX11_orders_72 rfl (Nat.le_of_ble_eq_true rfl) (Nat.le_of_ble_eq_true rfl) ?_
      exact ⟨Nat.le_succ _, Nat.le_refl _, JW.trans jA_26 (JW.weakN j_40)⟩
  · skip
    refine aw_iconst (v := (-1)) dX11_orders_14 (by decide) ?_
    refine aw_ireti dX11_orders_15 rfl (Nat.le_of_ble_eq_true rfl) (Nat.le_of_ble_eq_true rfl) ?_
    exact ⟨Nat.le_refl _, Nat.le_succ _, hJ0⟩

set_option maxHeartbeats 4000000 in
set_option maxRecDepth 100000 in
theorem g_X11_canBeTried (l : Launch) (D : va_G) (b : Nat) (N : Nat) (V : Wd) (hN : 100 ≤ N) (hW : CW D b V) (n0 : Int32)  : MI l D b 2 jX11_canBeTried [.ref (b + 0), .int n0] N V 0 0 (fun r N9 V9 => (r = 0 ∨ r = 1) ∧ N = N9 ∧ V = V9) := by
  have hJ0 : JW D b N [] V V := JW.rf hW
  refine mw_of (by decide) (by simp [Value.category]) (Nat.le_of_ble_eq_true rfl) ?_
  show AW l D b jX11_canBeTried (fx_rm 2 0 0) none (fx_MQ D b 0 0 (fx_qi (fun r N9 V9 => (r = 0 ∨ r = 1) ∧ N = N9 ∧ V = V9))) 0 [some (.ref (b + 0)), some (.int n0)] [] N V 0 0
  refine aw_iload_n dX11_canBeTried_0 rfl ?_
  refine aw_if_lt (tgt := 10) dX11_canBeTried_1 (by decide) (fun c_1 => ?_) (fun c_1 => ?_)
  · skip
    refine aw_iconst (v := 0) dX11_canBeTried_10 (by decide) ?_
    refine aw_zreti dX11_canBeTried_11 rfl (by first | exact Or.inl rfl | exact Or.inr rfl | assumption) (Nat.le_of_ble_eq_true rfl) (Nat.le_of_ble_eq_true rfl) ?_
    exact ⟨(by first | exact Or.inl rfl | exact Or.inr rfl | assumption), rfl, rfl⟩
  · skip
    refine aw_iload_n dX11_canBeTried_4 rfl ?_
    refine aw_bipush (v := 66) dX11_canBeTried_5 (by decide) ?_
    refine aw_icmp_le (tgt := 12) dX11_canBeTried_7 (by decide) (fun c_2 => ?_) (fun c_2 => ?_)
    · skip
      refine aw_iload_n dX11_canBeTried_12 rfl ?_
      refine aw_bipush (v := 10) dX11_canBeTried_13 (by decide) ?_
      refine aw_icmp_ge (tgt := 29) dX11_canBeTried_15 (by decide) (fun c_3 => ?_) (fun c_3 => ?_)
      · skip
        refine aw_iload_n dX11_canBeTried_29 rfl ?_
        refine aw_bipush (v := 50) dX11_canBeTried_30 (by decide) ?_
        refine aw_icmp_ge (tgt := 60) dX11_canBeTried_32 (by decide) (fun c_4 => ?_) (fun c_4 => ?_)
        · skip
          refine aw_aload_n dX11_canBeTried_60 rfl ?_
          obtain ⟨ek_5, x_5, y_5, e_5, hx_5, hy_5⟩ := JW.get hJ0 ct_0
          refine aw_get dX11_canBeTried_61 fl_X11_19 e_5 (by omega) rfl ?_
          refine aw_iload_n dX11_canBeTried_64 rfl ?_
          refine aw_bipush (v := 50) dX11_canBeTried_65 (by decide) ?_
          refine aw_isub dX11_canBeTried_67 ?_
          obtain ⟨pe_9, dd_9, ni_9, xx_9, e_9⟩ := JW.get hJ0 (ctc_0 cA_3)
          refine aw_callVi (J' := jX0_isDoor) (As := [.int (n0 - 50)]) (st := []) dX11_canBeTried_68 tb_746 ok_X0_isDoor ⟨_, e_9⟩ (by omega) rfl rfl (g_X0_isDoor l D b N V hN hJ0.1 3 cA_3 (n0 - 50)) rfl (Nat.le_of_ble_eq_true rfl) ⟨Nat.le_of_ble_eq_true rfl, Nat.le_of_ble_eq_true rfl, Nat.le_of_ble_eq_true rfl, Nat.le_of_ble_eq_true rfl⟩ (fun r_10 N_11 V_12 q_13 => ?_)
          obtain ⟨⟨z_8, h_7⟩, rfl, rfl⟩ := q_13
          refine aw_zreti dX11_canBeTried_71 rfl (by first | exact Or.inl rfl | exact Or.inr rfl | assumption) (Nat.le_of_ble_eq_true rfl) (Nat.le_of_ble_eq_true rfl) ?_
          exact ⟨(by first | exact Or.inl rfl | exact Or.inr rfl | assumption), rfl, rfl⟩
        · skip
          refine aw_aload_n dX11_canBeTried_35 rfl ?_
          obtain ⟨ek_14, x_14, y_14, e_14, hx_14, hy_14⟩ := JW.get hJ0 ct_0
          refine aw_get dX11_canBeTried_36 fl_X11_19 e_14 (by omega) rfl ?_
          refine aw_iload_n dX11_canBeTried_39 rfl ?_
          refine aw_bipush (v := 30) dX11_canBeTried_40 (by decide) ?_
          refine aw_icmp_ge (tgt := 52) dX11_canBeTried_42 (by decide) (fun c_15 => ?_) (fun c_15 => ?_)
          · skip
            refine aw_iload_n dX11_canBeTried_52 rfl ?_
            refine aw_bipush (v := 30) dX11_canBeTried_53 (by decide) ?_
            refine aw_isub dX11_canBeTried_55 ?_
            obtain ⟨pe_19, dd_19, ni_19, xx_19, e_19⟩ := JW.get hJ0 (ctc_0 cA_3)
            refine aw_callVi (J' := jX0_isPerson) (As := [.int (n0 - 30)]) (st := []) dX11_canBeTried_56 tb_745 ok_X0_isPerson ⟨_, e_19⟩ (by omega) rfl rfl (g_X0_isPerson l D b N V hN hJ0.1 3 cA_3 (n0 - 30)) rfl (Nat.le_of_ble_eq_true rfl) ⟨Nat.le_of_ble_eq_true rfl, Nat.le_of_ble_eq_true rfl, Nat.le_of_ble_eq_true rfl, Nat.le_of_ble_eq_true rfl⟩ (fun r_20 N_21 V_22 q_23 => ?_)
            obtain ⟨⟨z_18, h_17⟩, rfl, rfl⟩ := q_23
            refine aw_zreti dX11_canBeTried_59 rfl (by first | exact Or.inl rfl | exact Or.inr rfl | assumption) (Nat.le_of_ble_eq_true rfl) (Nat.le_of_ble_eq_true rfl) ?_
            exact ⟨(by first | exact Or.inl rfl | exact Or.inr rfl | assumption), rfl, rfl⟩
          · skip
            refine aw_iload_n dX11_canBeTried_45 rfl ?_
            refine aw_bipush (v := 10) dX11_canBeTried_46 (by decide) ?_
            refine aw_isub dX11_canBeTried_48 ?_
            refine aw_goto (tgt := 56) dX11_canBeTried_49 (by decide) ?_
            obtain ⟨pe_27, dd_27, ni_27, xx_27, e_27⟩ := JW.get hJ0 (ctc_0 cA_3)
            refine aw_callVi (J' := jX0_isPerson) (As := [.int (n0 - 10)]) (st := []) dX11_canBeTried_56 tb_745 ok_X0_isPerson ⟨_, e_27⟩ (by omega) rfl rfl (g_X0_isPerson l D b N V hN hJ0.1 3 cA_3 (n0 - 10)) rfl (Nat.le_of_ble_eq_true rfl) ⟨Nat.le_of_ble_eq_true rfl, Nat.le_of_ble_eq_true rfl, Nat.le_of_ble_eq_true rfl, Nat.le_of_ble_eq_true rfl⟩ (fun r_28 N_29 V_30 q_31 => ?_)
            obtain ⟨⟨z_26, h_25⟩, rfl, rfl⟩ := q_31
            refine aw_zreti dX11_canBeTried_59 rfl (by first | exact Or.inl rfl | exact Or.inr rfl | assumption) (Nat.le_of_ble_eq_true rfl) (Nat.le_of_ble_eq_true rfl) ?_
            exact ⟨(by first | exact Or.inl rfl | exact Or.inr rfl | assumption), rfl, rfl⟩
      · skip
        refine aw_iload_n dX11_canBeTried_18 rfl ?_
        refine aw_iconst (v := 1) dX11_canBeTried_19 (by decide) ?_
        refine aw_icmp_gt (tgt := 27) dX11_canBeTried_20 (by decide) (fun c_32 => ?_) (fun c_32 => ?_)
        · skip
          refine aw_iconst (v := 0) dX11_canBeTried_27 (by decide) ?_
          refine aw_zreti dX11_canBeTried_28 rfl (by first | exact Or.inl rfl | exact Or.inr rfl | assumption) (Nat.le_of_ble_eq_true rfl) (Nat.le_of_ble_eq_true rfl) ?_
          exact ⟨(by first | exact Or.inl rfl | exact Or.inr rfl | assumption), rfl, rfl⟩
        · skip
          refine aw_iconst (v := 1) dX11_canBeTried_23 (by decide) ?_
          refine aw_goto (tgt := 28) dX11_canBeTried_24 (by decide) ?_
          refine aw_zreti dX11_canBeTried_28 rfl (by first | exact Or.inl rfl | exact Or.inr rfl | assumption) (Nat.le_of_ble_eq_true rfl) (Nat.le_of_ble_eq_true rfl) ?_
          exact ⟨(by first | exact Or.inl rfl | exact Or.inr rfl | assumption), rfl, rfl⟩
    · skip
      refine aw_iconst (v := 0) dX11_canBeTried_10 (by decide) ?_
      refine aw_zreti dX11_canBeTried_11 rfl (by first | exact Or.inl rfl | exact Or.inr rfl | assumption) (Nat.le_of_ble_eq_true rfl) (Nat.le_of_ble_eq_true rfl) ?_
      exact ⟨(by first | exact Or.inl rfl | exact Or.inr rfl | assumption), rfl, rfl⟩

set_option maxHeartbeats 4000000 in
set_option maxRecDepth 100000 in
theorem g_X11_feed (l : Launch) (D : va_G) (b : Nat) (N : Nat) (V : Wd) (hN : 100 ≤ N) (hW : CW D b V) (n0 : Int32) (n1 : Int32) (n2 : Int32) (n3 : Int32) (n4 : Int32)  : MI l D b 1 jX11_feed [.ref (b + 0), .int n0, .int n1, .int n2, .int n3, .int n4] N V 0 0 (fun r N9 V9 => N = N9 ∧ JW D b N [(2, 2, 0, 1000000), (1, 1, 1, 1)] V V9) := by
  have hJ0 : JW D b N [(2, 2, 0, 1000000), (1, 1, 1, 1)] V V := JW.rf hW
  refine mw_of (by decide) (by simp [Value.category]) (Nat.le_of_ble_eq_true rfl) ?_
  show AW l D b jX11_feed (fx_rm 1 0 0) none (fx_MQ D b 0 0 (fx_qi (fun r N9 V9 => N = N9 ∧ JW D b N [(2, 2, 0, 1000000), (1, 1, 1, 1)] V V9))) 0 [some (.ref (b + 0)), some (.int n0), some (.int n1), some (.int n2), some (.int n3), some (.int n4)] [] N V 0 0
  refine aw_aload_n dX11_feed_0 rfl ?_
  obtain ⟨ek_1, x_1, y_1, e_1, hx_1, hy_1⟩ := JW.get hJ0 ct_0
  refine aw_get dX11_feed_1 fl_X11_12 e_1 (by omega) rfl ?_
  obtain ⟨ts_2, tn_2, tf_2, ta_2, e_2, hta_2⟩ := JW.get hJ0 ct_1
  refine aw_get dX11_feed_4 fl_X11_71 e_2 (by omega) rfl ?_
  refine aw_sipush (v := 240) dX11_feed_7 (by decide) ?_
  refine aw_icmp_le (tgt := 15) dX11_feed_10 (by decide) (fun c_3 => ?_) (fun c_3 => ?_)
  · skip
    refine aw_aload_n dX11_feed_15 rfl ?_
    refine aw_get dX11_feed_16 fl_X11_12 e_1 (by omega) rfl ?_
    refine aw_iload_n dX11_feed_19 rfl ?_
    refine aw_callVv (J' := jX10_append) (As := [.int n0]) (st := []) dX11_feed_20 tb_259 ok_X10_append ⟨_, e_2⟩ (by omega) rfl rfl (g_X10_append l D b N V hN hJ0.1 n0) rfl (Nat.le_of_ble_eq_true rfl) ⟨Nat.le_of_ble_eq_true rfl, Nat.le_of_ble_eq_true rfl, Nat.le_of_ble_eq_true rfl, Nat.le_of_ble_eq_true rfl⟩ (fun  N_7 V_6 q_8 => ?_)
    obtain ⟨rfl, q_4⟩ := q_8
    have j_5 := JW.trans hJ0 (JW.weak q_4 (Sub.cons LM0 (by decide) (by decide) (by decide) (Or.inl rfl) (Sub.cons (LMs LM0) (by decide) (by decide) (by decide) (Or.inr ⟨by decide, by decide⟩) Sub.nil)))
    refine aw_aload_n dX11_feed_23 rfl ?_
    obtain ⟨ek_9, x_9, y_9, e_9, hx_9, hy_9⟩ := JW.get j_5 ct_0
    refine aw_get dX11_feed_24 fl_X11_12 e_9 (by omega) rfl ?_
    refine aw_iload_n dX11_feed_27 rfl ?_
    obtain ⟨ts_13, tn_13, tf_13, ta_13, e_13, hta_13⟩ := JW.get j_5 ct_1
    refine aw_callVv (J' := jX10_append) (As := [.int n1]) (st := []) dX11_feed_28 tb_259 ok_X10_append ⟨_, e_13⟩ (by omega) rfl rfl (g_X10_append l D b N V_6 hN j_5.1 n1) rfl (Nat.le_of_ble_eq_true rfl) ⟨Nat.le_of_ble_eq_true rfl, Nat.le_of_ble_eq_true rfl, Nat.le_of_ble_eq_true rfl, Nat.le_of_ble_eq_true rfl⟩ (fun  N_14 V_12 q_15 => ?_)
    obtain ⟨rfl, q_10⟩ := q_15
    have j_11 := JW.trans j_5 (JW.weak q_10 (Sub.cons LM0 (by decide) (by decide) (by decide) (Or.inl rfl) (Sub.cons (LMs LM0) (by decide) (by decide) (by decide) (Or.inr ⟨by decide, by decide⟩) Sub.nil)))
    refine aw_aload_n dX11_feed_31 rfl ?_
    obtain ⟨ek_16, x_16, y_16, e_16, hx_16, hy_16⟩ := JW.get j_11 ct_0
    refine aw_get dX11_feed_32 fl_X11_12 e_16 (by omega) rfl ?_
    refine aw_iload_n dX11_feed_35 rfl ?_
    obtain ⟨ts_20, tn_20, tf_20, ta_20, e_20, hta_20⟩ := JW.get j_11 ct_1
    refine aw_callVv (J' := jX10_append) (As := [.int n2]) (st := []) dX11_feed_36 tb_259 ok_X10_append ⟨_, e_20⟩ (by omega) rfl rfl (g_X10_append l D b N V_12 hN j_11.1 n2) rfl (Nat.le_of_ble_eq_true rfl) ⟨Nat.le_of_ble_eq_true rfl, Nat.le_of_ble_eq_true rfl, Nat.le_of_ble_eq_true rfl, Nat.le_of_ble_eq_true rfl⟩ (fun  N_21 V_19 q_22 => ?_)
    obtain ⟨rfl, q_17⟩ := q_22
    have j_18 := JW.trans j_11 (JW.weak q_17 (Sub.cons LM0 (by decide) (by decide) (by decide) (Or.inl rfl) (Sub.cons (LMs LM0) (by decide) (by decide) (by decide) (Or.inr ⟨by decide, by decide⟩) Sub.nil)))
    refine aw_aload_n dX11_feed_39 rfl ?_
    obtain ⟨ek_23, x_23, y_23, e_23, hx_23, hy_23⟩ := JW.get j_18 ct_0
    refine aw_get dX11_feed_40 fl_X11_12 e_23 (by omega) rfl ?_
    refine aw_iload dX11_feed_43 rfl ?_
    obtain ⟨ts_27, tn_27, tf_27, ta_27, e_27, hta_27⟩ := JW.get j_18 ct_1
    refine aw_callVv (J' := jX10_append) (As := [.int n3]) (st := []) dX11_feed_45 tb_259 ok_X10_append ⟨_, e_27⟩ (by omega) rfl rfl (g_X10_append l D b N V_19 hN j_18.1 n3) rfl (Nat.le_of_ble_eq_true rfl) ⟨Nat.le_of_ble_eq_true rfl, Nat.le_of_ble_eq_true rfl, Nat.le_of_ble_eq_true rfl, Nat.le_of_ble_eq_true rfl⟩ (fun  N_28 V_26 q_29 => ?_)
    obtain ⟨rfl, q_24⟩ := q_29
    have j_25 := JW.trans j_18 (JW.weak q_24 (Sub.cons LM0 (by decide) (by decide) (by decide) (Or.inl rfl) (Sub.cons (LMs LM0) (by decide) (by decide) (by decide) (Or.inr ⟨by decide, by decide⟩) Sub.nil)))
    refine aw_aload_n dX11_feed_48 rfl ?_
    obtain ⟨ek_30, x_30, y_30, e_30, hx_30, hy_30⟩ := JW.get j_25 ct_0
    refine aw_get dX11_feed_49 fl_X11_12 e_30 (by omega) rfl ?_
    refine aw_iload dX11_feed_52 rfl ?_
    obtain ⟨ts_34, tn_34, tf_34, ta_34, e_34, hta_34⟩ := JW.get j_25 ct_1
    refine aw_callVv (J' := jX10_append) (As := [.int n4]) (st := []) dX11_feed_54 tb_259 ok_X10_append ⟨_, e_34⟩ (by omega) rfl rfl (g_X10_append l D b N V_26 hN j_25.1 n4) rfl (Nat.le_of_ble_eq_true rfl) ⟨Nat.le_of_ble_eq_true rfl, Nat.le_of_ble_eq_true rfl, Nat.le_of_ble_eq_true rfl, Nat.le_of_ble_eq_true rfl⟩ (fun  N_35 V_33 q_36 => ?_)
    obtain ⟨rfl, q_31⟩ := q_36
    have j_32 := JW.trans j_25 (JW.weak q_31 (Sub.cons LM0 (by decide) (by decide) (by decide) (Or.inl rfl) (Sub.cons (LMs LM0) (by decide) (by decide) (by decide) (Or.inr ⟨by decide, by decide⟩) Sub.nil)))
    refine aw_aload_n dX11_feed_57 rfl ?_
    obtain ⟨ek_37, x_37, y_37, e_37, hx_37, hy_37⟩ := JW.get j_32 ct_0
    refine aw_get dX11_feed_58 fl_X11_12 e_37 (by omega) rfl ?_
    obtain ⟨ts_38, tn_38, tf_38, ta_38, e_38, hta_38⟩ := JW.get j_32 ct_1
    refine aw_get dX11_feed_61 fl_X11_71 e_38 (by omega) rfl ?_
    refine aw_ireti dX11_feed_64 rfl (Nat.le_of_ble_eq_true rfl) (Nat.le_of_ble_eq_true rfl) ?_
    exact ⟨rfl, j_32⟩
  · skip
    refine aw_iconst (v := (-1)) dX11_feed_13 (by decide) ?_
    refine aw_ireti dX11_feed_14 rfl (Nat.le_of_ble_eq_true rfl) (Nat.le_of_ble_eq_true rfl) ?_
    exact ⟨rfl, hJ0⟩

set_option maxHeartbeats 4000000 in
set_option maxRecDepth 100000 in
theorem g_X11_nights (l : Launch) (D : va_G) (b : Nat) (N : Nat) (V : Wd) (hN : 100 ≤ N) (hW : CW D b V) (n0 : Int32)  : MI l D b 7 jX11_nights [.ref (b + 0), .int n0] N V 0 0 (fun r N9 V9 => N = N9 ∧ JW D b N [(5, 16, 0, 1000000), (20, 20, 0, 1000000), (57, 72, 0, 1000000), (76, 91, 0, 1000000), (73, 73, 1, 1), (73, 73, 2, 2), (74, 74, 5, 5), (74, 74, 6, 6), (74, 74, 7, 7), (74, 74, 8, 8), (3, 3, 7, 7), (3, 3, 8, 8)] V V9) := by
  have hJ0 : JW D b N [(5, 16, 0, 1000000), (20, 20, 0, 1000000), (57, 72, 0, 1000000), (76, 91, 0, 1000000), (73, 73, 1, 1), (73, 73, 2, 2), (74, 74, 5, 5), (74, 74, 6, 6), (74, 74, 7, 7), (74, 74, 8, 8), (3, 3, 7, 7), (3, 3, 8, 8)] V V := JW.rf hW
  refine mw_of (by decide) (by simp [Value.category]) (Nat.le_of_ble_eq_true rfl) ?_
  show AW l D b jX11_nights (fx_rm 7 0 0) none (fx_MQ D b 0 0 (fx_qi (fun r N9 V9 => N = N9 ∧ JW D b N [(5, 16, 0, 1000000), (20, 20, 0, 1000000), (57, 72, 0, 1000000), (76, 91, 0, 1000000), (73, 73, 1, 1), (73, 73, 2, 2), (74, 74, 5, 5), (74, 74, 6, 6), (74, 74, 7, 7), (74, 74, 8, 8), (3, 3, 7, 7), (3, 3, 8, 8)] V V9))) 0 [some (.ref (b + 0)), some (.int n0)] [] N V 0 0
  refine aw_iload_n dX11_nights_0 rfl ?_
  refine aw_iconst (v := 1) dX11_nights_1 (by decide) ?_
  refine aw_icmp_lt (tgt := 11) dX11_nights_2 (by decide) (fun c_1 => ?_) (fun c_1 => ?_)
  · skip
    refine aw_iconst (v := (-1)) dX11_nights_11 (by decide) ?_
    refine aw_ireti dX11_nights_12 rfl (Nat.le_of_ble_eq_true rfl) (Nat.le_of_ble_eq_true rfl) ?_
    exact ⟨rfl, hJ0⟩
  · skip
    refine aw_iload_n dX11_nights_5 rfl ?_
    refine aw_bipush (v := 100) dX11_nights_6 (by decide) ?_
    refine aw_icmp_le (tgt := 13) dX11_nights_8 (by decide) (fun c_2 => ?_) (fun c_2 => ?_)
    · skip
      refine aw_aload_n dX11_nights_13 rfl ?_
      obtain ⟨ek_3, x_3, y_3, e_3, hx_3, hy_3⟩ := JW.get hJ0 ct_0
      refine aw_get dX11_nights_14 fl_X11_46 e_3 (by omega) rfl ?_
      refine aw_aload_n dX11_nights_17 rfl ?_
      refine aw_get dX11_nights_18 fl_X11_19 e_3 (by omega) rfl ?_
      refine aw_aload_n dX11_nights_21 rfl ?_
      refine aw_get dX11_nights_22 fl_X11_36 e_3 (by omega) rfl ?_
      refine aw_iload_n dX11_nights_25 rfl ?_
      obtain ⟨no_7, nf_7, e_7⟩ := JW.get hJ0 ct_73
      refine aw_callVv (J' := jX7_pass) (As := [.ref (b + 3), .ref (b + x_3), .int n0]) (st := []) dX11_nights_26 tb_626 ok_X7_pass ⟨_, e_7⟩ (by omega) rfl rfl (g_X7_pass l D b N V hN hJ0.1 3 cA_3 x_3 hx_3 n0) rfl (Nat.le_of_ble_eq_true rfl) ⟨Nat.le_of_ble_eq_true rfl, Nat.le_of_ble_eq_true rfl, Nat.le_of_ble_eq_true rfl, Nat.le_of_ble_eq_true rfl⟩ (fun  N_8 V_6 q_9 => ?_)
      obtain ⟨rfl, q_4⟩ := q_9
      have j_5 := JW.trans hJ0 (JW.weak q_4 (Sub.cons (LMs (LMs (LMs LM0))) (by decide) (by decide) (by decide) (Or.inl rfl) (Sub.cons (LMs (LMs (LMs (LMs LM0)))) (by decide) (by decide) (by decide) (Or.inr ⟨by decide, by decide⟩) (Sub.cons (LMs (LMs (LMs (LMs (LMs LM0))))) (by decide) (by decide) (by decide) (Or.inr ⟨by decide, by decide⟩) (Sub.cons (LMs (LMs (LMs (LMs (LMs (LMs LM0)))))) (by decide) (by decide) (by decide) (Or.inr ⟨by decide, by decide⟩) (Sub.cons (LMs (LMs (LMs (LMs (LMs (LMs (LMs LM0))))))) (by decide) (by decide) (by decide) (Or.inr ⟨by decide, by decide⟩) (Sub.cons (LMs (LMs (LMs (LMs (LMs (LMs (LMs (LMs LM0)))))))) (by decide) (by decide) (by decide) (Or.inr ⟨by decide, by decide⟩) (Sub.cons (LMs (LMs (LMs (LMs (LMs (LMs (LMs (LMs (LMs LM0))))))))) (by decide) (by decide) (by decide) (Or.inr ⟨by decide, by decide⟩) (Sub.cons (LMs (LMs LM0)) (by omega) (by omega) (by decide) (Or.inl rfl) (Sub.cons (LMs (LMs LM0)) (by omega) (by omega) (by decide) (Or.inl rfl) (Sub.cons (LMs (LMs LM0)) (by omega) (by omega) (by decide) (Or.inl rfl) (Sub.cons LM0 (by decide) (by decide) (by decide) (Or.inl rfl) (Sub.cons (LMs (LMs (LMs (LMs (LMs (LMs (LMs (LMs (LMs (LMs LM0)))))))))) (by decide) (by decide) (by decide) (Or.inr ⟨by decide, by decide⟩) (Sub.cons (LMs (LMs (LMs (LMs (LMs (LMs (LMs (LMs (LMs (LMs (LMs LM0))))))))))) (by decide) (by decide) (by decide) (Or.inr ⟨by decide, by decide⟩) (Sub.cons (LMs LM0) (by decide) (by decide) (by decide) (Or.inl rfl) Sub.nil)))))))))))))))
      refine aw_aload_n dX11_nights_29 rfl ?_
      obtain ⟨ek_10, x_10, y_10, e_10, hx_10, hy_10⟩ := JW.get j_5 ct_0
      refine aw_get dX11_nights_30 fl_X11_46 e_10 (by omega) rfl ?_
      obtain ⟨no_11, nf_11, e_11⟩ := JW.get j_5 ct_73
      refine aw_get dX11_nights_33 fl_X11_118 e_11 (by omega) rfl ?_
      refine aw_ireti dX11_nights_36 rfl (Nat.le_of_ble_eq_true rfl) (Nat.le_of_ble_eq_true rfl) ?_
      exact ⟨rfl, j_5⟩
    · skip
      refine aw_iconst (v := (-1)) dX11_nights_11 (by decide) ?_
      refine aw_ireti dX11_nights_12 rfl (Nat.le_of_ble_eq_true rfl) (Nat.le_of_ble_eq_true rfl) ?_
      exact ⟨rfl, hJ0⟩

set_option maxHeartbeats 4000000 in
set_option maxRecDepth 100000 in
theorem g_X11_tried (l : Launch) (D : va_G) (b : Nat) (N : Nat) (V : Wd) (hN : 100 ≤ N) (hW : CW D b V) (n0 : Int32) (n1 : Int32)  : MI l D b 7 jX11_tried [.ref (b + 0), .int n0, .int n1] N V 0 0 (fun r N9 V9 => N = N9 ∧ JW D b N [(23, 38, 0, 1000000), (57, 72, 0, 1000000), (76, 91, 0, 1000000), (21, 21, 5, 5), (21, 21, 6, 6), (21, 21, 7, 7), (21, 21, 8, 8), (73, 73, 1, 1), (73, 73, 2, 2), (74, 74, 5, 5), (74, 74, 6, 6), (74, 74, 7, 7), (74, 74, 8, 8)] V V9) := by
  have hJ0 : JW D b N [(23, 38, 0, 1000000), (57, 72, 0, 1000000), (76, 91, 0, 1000000), (21, 21, 5, 5), (21, 21, 6, 6), (21, 21, 7, 7), (21, 21, 8, 8), (73, 73, 1, 1), (73, 73, 2, 2), (74, 74, 5, 5), (74, 74, 6, 6), (74, 74, 7, 7), (74, 74, 8, 8)] V V := JW.rf hW
  refine mw_of (by decide) (by simp [Value.category]) (Nat.le_of_ble_eq_true rfl) ?_
  show AW l D b jX11_tried (fx_rm 7 0 0) none (fx_MQ D b 0 0 (fx_qi (fun r N9 V9 => N = N9 ∧ JW D b N [(23, 38, 0, 1000000), (57, 72, 0, 1000000), (76, 91, 0, 1000000), (21, 21, 5, 5), (21, 21, 6, 6), (21, 21, 7, 7), (21, 21, 8, 8), (73, 73, 1, 1), (73, 73, 2, 2), (74, 74, 5, 5), (74, 74, 6, 6), (74, 74, 7, 7), (74, 74, 8, 8)] V V9))) 0 [some (.ref (b + 0)), some (.int n0), some (.int n1)] [] N V 0 0
  refine aw_iload_n dX11_tried_0 rfl ?_
  refine aw_iconst (v := 1) dX11_tried_1 (by decide) ?_
  refine aw_icmp_lt (tgt := 19) dX11_tried_2 (by decide) (fun c_1 => ?_) (fun c_1 => ?_)
  · skip
    refine aw_iconst (v := (-1)) dX11_tried_19 (by decide) ?_
    refine aw_ireti dX11_tried_20 rfl (Nat.le_of_ble_eq_true rfl) (Nat.le_of_ble_eq_true rfl) ?_
    exact ⟨rfl, hJ0⟩
  · skip
    refine aw_iload_n dX11_tried_5 rfl ?_
    refine aw_bipush (v := 100) dX11_tried_6 (by decide) ?_
    refine aw_icmp_gt (tgt := 19) dX11_tried_8 (by decide) (fun c_2 => ?_) (fun c_2 => ?_)
    · skip
      refine aw_iconst (v := (-1)) dX11_tried_19 (by decide) ?_
      refine aw_ireti dX11_tried_20 rfl (Nat.le_of_ble_eq_true rfl) (Nat.le_of_ble_eq_true rfl) ?_
      exact ⟨rfl, hJ0⟩
    · skip
      refine aw_aload_n dX11_tried_11 rfl ?_
      refine aw_iload_n dX11_tried_12 rfl ?_
      obtain ⟨ek_5, x_5, y_5, e_5, hx_5, hy_5⟩ := JW.get hJ0 ct_0
      refine aw_callVi (J' := jX11_canBeTried) (As := [.int n1]) (st := []) dX11_tried_13 tb_741 ok_X11_canBeTried ⟨_, e_5⟩ (by omega) rfl rfl (g_X11_canBeTried l D b N V hN hJ0.1 n1) rfl (Nat.le_of_ble_eq_true rfl) ⟨Nat.le_of_ble_eq_true rfl, Nat.le_of_ble_eq_true rfl, Nat.le_of_ble_eq_true rfl, Nat.le_of_ble_eq_true rfl⟩ (fun r_6 N_7 V_8 q_9 => ?_)
      obtain ⟨h_4, rfl, rfl⟩ := q_9
      refine aw_if_ne (tgt := 21) dX11_tried_16 (by decide) (fun c_10 => ?_) (fun c_10 => ?_)
      · skip
        refine aw_aload_n dX11_tried_21 rfl ?_
        refine aw_get dX11_tried_22 fl_X11_23 e_5 (by omega) rfl ?_
        refine aw_aload_n dX11_tried_25 rfl ?_
        refine aw_get dX11_tried_26 fl_X11_19 e_5 (by omega) rfl ?_
        obtain ⟨pe_14, dd_14, ni_14, xx_14, e_14⟩ := JW.get hJ0 (ctc_0 cA_21)
        refine aw_callVv (J' := jX0_copyFrom) (As := [.ref (b + 3)]) (st := []) dX11_tried_29 tb_581 ok_X0_copyFrom ⟨_, e_14⟩ (by omega) rfl rfl (g_X0_copyFrom l D b N V hN hJ0.1 21 cA_21 3 cA_3) rfl (Nat.le_of_ble_eq_true rfl) ⟨Nat.le_of_ble_eq_true rfl, Nat.le_of_ble_eq_true rfl, Nat.le_of_ble_eq_true rfl, Nat.le_of_ble_eq_true rfl⟩ (fun  N_15 V_13 q_16 => ?_)
        obtain ⟨rfl, q_11⟩ := q_16
        have j_12 := JW.trans hJ0 (JW.weak q_11 (Sub.cons LM0 (by decide) (by decide) (by decide) (Or.inl rfl) (Sub.cons (LMs (LMs (LMs LM0))) (by decide) (by decide) (by decide) (Or.inr ⟨by decide, by decide⟩) (Sub.cons (LMs (LMs (LMs (LMs LM0)))) (by decide) (by decide) (by decide) (Or.inr ⟨by decide, by decide⟩) (Sub.cons (LMs (LMs (LMs (LMs (LMs LM0))))) (by decide) (by decide) (by decide) (Or.inr ⟨by decide, by decide⟩) (Sub.cons (LMs (LMs (LMs (LMs (LMs (LMs LM0)))))) (by decide) (by decide) (by decide) (Or.inr ⟨by decide, by decide⟩) (Sub.cons LM0 (by decide) (by decide) (by decide) (Or.inl rfl) (Sub.cons LM0 (by decide) (by decide) (by decide) (Or.inl rfl) (Sub.cons LM0 (by decide) (by decide) (by decide) (Or.inl rfl) (Sub.cons LM0 (by decide) (by decide) (by decide) (Or.inl rfl) Sub.nil))))))))))
        refine aw_aload_n dX11_tried_32 rfl ?_
        obtain ⟨ek_17, x_17, y_17, e_17, hx_17, hy_17⟩ := JW.get j_12 ct_0
        refine aw_get dX11_tried_33 fl_X11_46 e_17 (by omega) rfl ?_
        refine aw_aload_n dX11_tried_36 rfl ?_
        refine aw_get dX11_tried_37 fl_X11_23 e_17 (by omega) rfl ?_
        refine aw_aload_n dX11_tried_40 rfl ?_
        refine aw_get dX11_tried_41 fl_X11_36 e_17 (by omega) rfl ?_
        refine aw_iload_n dX11_tried_44 rfl ?_
        obtain ⟨no_21, nf_21, e_21⟩ := JW.get j_12 ct_73
        refine aw_callVv (J' := jX7_pass) (As := [.ref (b + 21), .ref (b + x_17), .int n0]) (st := []) dX11_tried_45 tb_626 ok_X7_pass ⟨_, e_21⟩ (by omega) rfl rfl (g_X7_pass l D b N V_13 hN j_12.1 21 cA_21 x_17 hx_17 n0) rfl (Nat.le_of_ble_eq_true rfl) ⟨Nat.le_of_ble_eq_true rfl, Nat.le_of_ble_eq_true rfl, Nat.le_of_ble_eq_true rfl, Nat.le_of_ble_eq_true rfl⟩ (fun  N_22 V_20 q_23 => ?_)
        obtain ⟨rfl, q_18⟩ := q_23
        have j_19 := JW.trans j_12 (JW.weak q_18 (Sub.cons (LMs (LMs LM0)) (by decide) (by decide) (by decide) (Or.inl rfl) (Sub.cons (LMs (LMs (LMs (LMs (LMs (LMs (LMs LM0))))))) (by decide) (by decide) (by decide) (Or.inr ⟨by decide, by decide⟩) (Sub.cons (LMs (LMs (LMs (LMs (LMs (LMs (LMs (LMs LM0)))))))) (by decide) (by decide) (by decide) (Or.inr ⟨by decide, by decide⟩) (Sub.cons (LMs (LMs (LMs (LMs (LMs (LMs (LMs (LMs (LMs LM0))))))))) (by decide) (by decide) (by decide) (Or.inr ⟨by decide, by decide⟩) (Sub.cons (LMs (LMs (LMs (LMs (LMs (LMs (LMs (LMs (LMs (LMs LM0)))))))))) (by decide) (by decide) (by decide) (Or.inr ⟨by decide, by decide⟩) (Sub.cons (LMs (LMs (LMs (LMs (LMs (LMs (LMs (LMs (LMs (LMs (LMs LM0))))))))))) (by decide) (by decide) (by decide) (Or.inr ⟨by decide, by decide⟩) (Sub.cons (LMs (LMs (LMs (LMs (LMs (LMs (LMs (LMs (LMs (LMs (LMs (LMs LM0)))))))))))) (by decide) (by decide) (by decide) (Or.inr ⟨by decide, by decide⟩) (Sub.cons (LMs LM0) (by omega) (by omega) (by decide) (Or.inl rfl) (Sub.cons (LMs LM0) (by omega) (by omega) (by decide) (Or.inl rfl) (Sub.cons (LMs LM0) (by omega) (by omega) (by decide) (Or.inl rfl) (Sub.cons LM0 (by decide) (by decide) (by decide) (Or.inl rfl) (Sub.cons (LMs (LMs (LMs (LMs (LMs LM0))))) (by decide) (by decide) (by decide) (Or.inr ⟨by decide, by decide⟩) (Sub.cons (LMs (LMs (LMs (LMs (LMs (LMs LM0)))))) (by decide) (by decide) (by decide) (Or.inr ⟨by decide, by decide⟩) (Sub.cons LM0 (by decide) (by decide) (by decide) (Or.inl rfl) Sub.nil)))))))))))))))
        refine aw_iload_n dX11_tried_48 rfl ?_
        refine aw_if_ne (tgt := 60) dX11_tried_49 (by decide) (fun c_24 => ?_) (fun c_24 => ?_)
        · skip
          refine aw_iload_n dX11_tried_60 rfl ?_
          refine aw_iconst (v := 1) dX11_tried_61 (by decide) ?_
          refine aw_icmp_ne (tgt := 73) dX11_tried_62 (by decide) (fun c_25 => ?_) (fun c_25 => ?_)
          · skip
            refine aw_iload_n dX11_tried_73 rfl ?_
            refine aw_bipush (v := 30) dX11_tried_74 (by decide) ?_
            refine aw_icmp_ge (tgt := 91) dX11_tried_76 (by decide) (fun c_26 => ?_) (fun c_26 => ?_)
            · skip
              refine aw_iload_n dX11_tried_91 rfl ?_
              refine aw_bipush (v := 50) dX11_tried_92 (by decide) ?_
              refine aw_icmp_ge (tgt := 109) dX11_tried_94 (by decide) (fun c_27 => ?_) (fun c_27 => ?_)
              · skip
                refine aw_aload_n dX11_tried_109 rfl ?_
                obtain ⟨ek_28, x_28, y_28, e_28, hx_28, hy_28⟩ := JW.get j_19 ct_0
                refine aw_get dX11_tried_110 fl_X11_23 e_28 (by omega) rfl ?_
                refine aw_iload_n dX11_tried_113 rfl ?_
                refine aw_bipush (v := 50) dX11_tried_114 (by decide) ?_
                refine aw_isub dX11_tried_116 ?_
                obtain ⟨pe_30, dd_30, ni_30, xx_30, e_30⟩ := JW.get j_19 (ctc_0 cA_21)
                refine aw_callVi (J' := jX0_openedOf) (As := [.int (n1 - 50)]) (st := []) dX11_tried_117 tb_749 ok_X0_openedOf ⟨_, e_30⟩ (by omega) rfl rfl (g_X0_openedOf l D b N V_20 hN j_19.1 21 cA_21 (n1 - 50)) rfl (Nat.le_of_ble_eq_true rfl) ⟨Nat.le_of_ble_eq_true rfl, Nat.le_of_ble_eq_true rfl, Nat.le_of_ble_eq_true rfl, Nat.le_of_ble_eq_true rfl⟩ (fun r_31 N_32 V_33 q_34 => ?_)
                obtain ⟨rfl, rfl⟩ := q_34
                refine aw_ireti dX11_tried_120 rfl (Nat.le_of_ble_eq_true rfl) (Nat.le_of_ble_eq_true rfl) ?_
                exact ⟨rfl, j_19⟩
              · skip
                refine aw_aload_n dX11_tried_97 rfl ?_
                obtain ⟨ek_35, x_35, y_35, e_35, hx_35, hy_35⟩ := JW.get j_19 ct_0
                refine aw_get dX11_tried_98 fl_X11_23 e_35 (by omega) rfl ?_
                refine aw_iload_n dX11_tried_101 rfl ?_
                refine aw_bipush (v := 30) dX11_tried_102 (by decide) ?_
                refine aw_isub dX11_tried_104 ?_
                obtain ⟨pe_37, dd_37, ni_37, xx_37, e_37⟩ := JW.get j_19 (ctc_0 cA_21)
                refine aw_callVi (J' := jX0_greatestDread) (As := [.int (n1 - 30)]) (st := []) dX11_tried_105 tb_748 ok_X0_greatestDread ⟨_, e_37⟩ (by omega) rfl rfl (g_X0_greatestDread l D b N V_20 hN j_19.1 21 cA_21 (n1 - 30)) rfl (Nat.le_of_ble_eq_true rfl) ⟨Nat.le_of_ble_eq_true rfl, Nat.le_of_ble_eq_true rfl, Nat.le_of_ble_eq_true rfl, Nat.le_of_ble_eq_true rfl⟩ (fun r_38 N_39 V_40 q_41 => ?_)
                obtain ⟨rfl, rfl⟩ := q_41
                refine aw_ireti dX11_tried_108 rfl (Nat.le_of_ble_eq_true rfl) (Nat.le_of_ble_eq_true rfl) ?_
                exact ⟨rfl, j_19⟩
            · skip
              refine aw_aload_n dX11_tried_79 rfl ?_
              obtain ⟨ek_42, x_42, y_42, e_42, hx_42, hy_42⟩ := JW.get j_19 ct_0
              refine aw_get dX11_tried_80 fl_X11_23 e_42 (by omega) rfl ?_
              refine aw_iload_n dX11_tried_83 rfl ?_
              refine aw_bipush (v := 10) dX11_tried_84 (by decide) ?_
              refine aw_isub dX11_tried_86 ?_
              obtain ⟨pe_44, dd_44, ni_44, xx_44, e_44⟩ := JW.get j_19 (ctc_0 cA_21)
              refine aw_callVi (J' := jX0_fearOf) (As := [.int (n1 - 10)]) (st := []) dX11_tried_87 tb_747 ok_X0_fearOf ⟨_, e_44⟩ (by omega) rfl rfl (g_X0_fearOf l D b N V_20 hN j_19.1 21 cA_21 (n1 - 10)) rfl (Nat.le_of_ble_eq_true rfl) ⟨Nat.le_of_ble_eq_true rfl, Nat.le_of_ble_eq_true rfl, Nat.le_of_ble_eq_true rfl, Nat.le_of_ble_eq_true rfl⟩ (fun r_45 N_46 V_47 q_48 => ?_)
              obtain ⟨rfl, rfl⟩ := q_48
              refine aw_ireti dX11_tried_90 rfl (Nat.le_of_ble_eq_true rfl) (Nat.le_of_ble_eq_true rfl) ?_
              exact ⟨rfl, j_19⟩
          · skip
            refine aw_aload_n dX11_tried_65 rfl ?_
            obtain ⟨ek_49, x_49, y_49, e_49, hx_49, hy_49⟩ := JW.get j_19 ct_0
            refine aw_get dX11_tried_66 fl_X11_46 e_49 (by omega) rfl ?_
            obtain ⟨no_50, nf_50, e_50⟩ := JW.get j_19 ct_73
            refine aw_get dX11_tried_69 fl_X11_125 e_50 (by omega) rfl ?_
            refine aw_ireti dX11_tried_72 rfl (Nat.le_of_ble_eq_true rfl) (Nat.le_of_ble_eq_true rfl) ?_
            exact ⟨rfl, j_19⟩
        · skip
          refine aw_aload_n dX11_tried_52 rfl ?_
          obtain ⟨ek_51, x_51, y_51, e_51, hx_51, hy_51⟩ := JW.get j_19 ct_0
          refine aw_get dX11_tried_53 fl_X11_46 e_51 (by omega) rfl ?_
          obtain ⟨no_52, nf_52, e_52⟩ := JW.get j_19 ct_73
          refine aw_get dX11_tried_56 fl_X11_118 e_52 (by omega) rfl ?_
          refine aw_ireti dX11_tried_59 rfl (Nat.le_of_ble_eq_true rfl) (Nat.le_of_ble_eq_true rfl) ?_
          exact ⟨rfl, j_19⟩
      · skip
        refine aw_iconst (v := (-1)) dX11_tried_19 (by decide) ?_
        refine aw_ireti dX11_tried_20 rfl (Nat.le_of_ble_eq_true rfl) (Nat.le_of_ble_eq_true rfl) ?_
        exact ⟨rfl, hJ0⟩

set_option maxHeartbeats 4000000 in
set_option maxRecDepth 100000 in
theorem g_X11_personIs (l : Launch) (D : va_G) (b : Nat) (N : Nat) (V : Wd) (hN : 100 ≤ N) (hW : CW D b V) (n0 : Int32) (n1 : Int32)  : MI l D b 5 jX11_personIs [.ref (b + 0), .int n0, .int n1] N V 0 0 (fun r N9 V9 => N = N9 ∧ V = V9) := by
  have hJ0 : JW D b N [] V V := JW.rf hW
  refine mw_of (by decide) (by simp [Value.category]) (Nat.le_of_ble_eq_true rfl) ?_
  show AW l D b jX11_personIs (fx_rm 5 0 0) none (fx_MQ D b 0 0 (fx_qi (fun r N9 V9 => N = N9 ∧ V = V9))) 0 [some (.ref (b + 0)), some (.int n0), some (.int n1)] [] N V 0 0
  refine aw_aload_n dX11_personIs_0 rfl ?_
  obtain ⟨ek_1, x_1, y_1, e_1, hx_1, hy_1⟩ := JW.get hJ0 ct_0
  refine aw_get dX11_personIs_1 fl_X11_19 e_1 (by omega) rfl ?_
  refine aw_iload_n dX11_personIs_4 rfl ?_
  obtain ⟨pe_5, dd_5, ni_5, xx_5, e_5⟩ := JW.get hJ0 (ctc_0 cA_3)
  refine aw_callVi (J' := jX0_isPerson) (As := [.int n0]) (st := []) dX11_personIs_5 tb_745 ok_X0_isPerson ⟨_, e_5⟩ (by omega) rfl rfl (g_X0_isPerson l D b N V hN hJ0.1 3 cA_3 n0) rfl (Nat.le_of_ble_eq_true rfl) ⟨Nat.le_of_ble_eq_true rfl, Nat.le_of_ble_eq_true rfl, Nat.le_of_ble_eq_true rfl, Nat.le_of_ble_eq_true rfl⟩ (fun r_6 N_7 V_8 q_9 => ?_)
  obtain ⟨⟨z_4, h_3⟩, rfl, rfl⟩ := q_9
  refine aw_if_ne (tgt := 13) dX11_personIs_8 (by decide) (fun c_10 => ?_) (fun c_10 => ?_)
  · skip
    refine aw_iload_n dX11_personIs_13 rfl ?_
    refine aw_if_lt (tgt := 33) dX11_personIs_14 (by decide) (fun c_11 => ?_) (fun c_11 => ?_)
    · skip
      refine aw_iload_n dX11_personIs_33 rfl ?_
      by_cases sw_12 : n1 = 100
      · skip
        refine aw_eqi sw_12 ?_
        refine aw_tableIn (off := 34) (tgt := 68) dX11_personIs_34 (by decide) (by decide) (by decide) (by decide) ?_
        refine aw_aload_n dX11_personIs_68 rfl ?_
        refine aw_get dX11_personIs_69 fl_X11_19 e_1 (by omega) rfl ?_
        refine aw_iload_n dX11_personIs_72 rfl ?_
        refine aw_callVi (J' := jX0_fearOf) (As := [.int n0]) (st := []) dX11_personIs_73 tb_747 ok_X0_fearOf ⟨_, e_5⟩ (by omega) rfl rfl (g_X0_fearOf l D b N V hN hJ0.1 3 cA_3 n0) rfl (Nat.le_of_ble_eq_true rfl) ⟨Nat.le_of_ble_eq_true rfl, Nat.le_of_ble_eq_true rfl, Nat.le_of_ble_eq_true rfl, Nat.le_of_ble_eq_true rfl⟩ (fun r_14 N_15 V_16 q_17 => ?_)
        obtain ⟨rfl, rfl⟩ := q_17
        refine aw_ireti dX11_personIs_76 rfl (Nat.le_of_ble_eq_true rfl) (Nat.le_of_ble_eq_true rfl) ?_
        exact ⟨rfl, rfl⟩
      by_cases sw_18 : n1 = 101
      · skip
        refine aw_eqi sw_18 ?_
        refine aw_tableIn (off := 43) (tgt := 77) dX11_personIs_34 (by decide) (by decide) (by decide) (by decide) ?_
        refine aw_aload_n dX11_personIs_77 rfl ?_
        refine aw_get dX11_personIs_78 fl_X11_19 e_1 (by omega) rfl ?_
        refine aw_iload_n dX11_personIs_81 rfl ?_
        refine aw_callVi (J' := jX0_greatestDread) (As := [.int n0]) (st := []) dX11_personIs_82 tb_748 ok_X0_greatestDread ⟨_, e_5⟩ (by omega) rfl rfl (g_X0_greatestDread l D b N V hN hJ0.1 3 cA_3 n0) rfl (Nat.le_of_ble_eq_true rfl) ⟨Nat.le_of_ble_eq_true rfl, Nat.le_of_ble_eq_true rfl, Nat.le_of_ble_eq_true rfl, Nat.le_of_ble_eq_true rfl⟩ (fun r_20 N_21 V_22 q_23 => ?_)
        obtain ⟨rfl, rfl⟩ := q_23
        refine aw_ireti dX11_personIs_85 rfl (Nat.le_of_ble_eq_true rfl) (Nat.le_of_ble_eq_true rfl) ?_
        exact ⟨rfl, rfl⟩
      by_cases sw_24 : n1 = 102
      · skip
        refine aw_eqi sw_24 ?_
        refine aw_tableIn (off := 52) (tgt := 86) dX11_personIs_34 (by decide) (by decide) (by decide) (by decide) ?_
        refine aw_aload_n dX11_personIs_86 rfl ?_
        refine aw_get dX11_personIs_87 fl_X11_19 e_1 (by omega) rfl ?_
        refine aw_iload_n dX11_personIs_90 rfl ?_
        refine aw_callVi (J' := jX0_knownTo) (As := [.int n0]) (st := []) dX11_personIs_91 tb_758 ok_X0_knownTo ⟨_, e_5⟩ (by omega) rfl rfl (g_X0_knownTo l D b N V hN hJ0.1 3 cA_3 n0) rfl (Nat.le_of_ble_eq_true rfl) ⟨Nat.le_of_ble_eq_true rfl, Nat.le_of_ble_eq_true rfl, Nat.le_of_ble_eq_true rfl, Nat.le_of_ble_eq_true rfl⟩ (fun r_26 N_27 V_28 q_29 => ?_)
        obtain ⟨rfl, rfl⟩ := q_29
        refine aw_ireti dX11_personIs_94 rfl (Nat.le_of_ble_eq_true rfl) (Nat.le_of_ble_eq_true rfl) ?_
        exact ⟨rfl, rfl⟩
      by_cases sw_30 : n1 = 103
      · skip
        refine aw_eqi sw_30 ?_
        refine aw_tableIn (off := 61) (tgt := 95) dX11_personIs_34 (by decide) (by decide) (by decide) (by decide) ?_
        refine aw_aload_n dX11_personIs_95 rfl ?_
        refine aw_get dX11_personIs_96 fl_X11_19 e_1 (by omega) rfl ?_
        refine aw_iload_n dX11_personIs_99 rfl ?_
        refine aw_callVi (J' := jX0_doorsOpenTo) (As := [.int n0]) (st := []) dX11_personIs_100 tb_759 ok_X0_doorsOpenTo ⟨_, e_5⟩ (by omega) rfl rfl (g_X0_doorsOpenTo l D b N V hN hJ0.1 3 cA_3 n0) rfl (Nat.le_of_ble_eq_true rfl) ⟨Nat.le_of_ble_eq_true rfl, Nat.le_of_ble_eq_true rfl, Nat.le_of_ble_eq_true rfl, Nat.le_of_ble_eq_true rfl⟩ (fun r_32 N_33 V_34 q_35 => ?_)
        obtain ⟨rfl, rfl⟩ := q_35
        refine aw_ireti dX11_personIs_103 rfl (Nat.le_of_ble_eq_true rfl) (Nat.le_of_ble_eq_true rfl) ?_
        exact ⟨rfl, rfl⟩
      by_cases sw_36 : n1 = 104
      · skip
        refine aw_eqi sw_36 ?_
        refine aw_tableIn (off := 70) (tgt := 104) dX11_personIs_34 (by decide) (by decide) (by decide) (by decide) ?_
        refine aw_aload_n dX11_personIs_104 rfl ?_
        refine aw_get dX11_personIs_105 fl_X11_19 e_1 (by omega) rfl ?_
        refine aw_iload_n dX11_personIs_108 rfl ?_
        refine aw_callVi (J' := jX0_dreadInAll) (As := [.int n0]) (st := []) dX11_personIs_109 tb_764 ok_X0_dreadInAll ⟨_, e_5⟩ (by omega) rfl rfl (g_X0_dreadInAll l D b N V hN hJ0.1 3 cA_3 n0) rfl (Nat.le_of_ble_eq_true rfl) ⟨Nat.le_of_ble_eq_true rfl, Nat.le_of_ble_eq_true rfl, Nat.le_of_ble_eq_true rfl, Nat.le_of_ble_eq_true rfl⟩ (fun r_38 N_39 V_40 q_41 => ?_)
        obtain ⟨rfl, rfl⟩ := q_41
        refine aw_ireti dX11_personIs_112 rfl (Nat.le_of_ble_eq_true rfl) (Nat.le_of_ble_eq_true rfl) ?_
        exact ⟨rfl, rfl⟩
      have tsw_12 : n1.toInt ≠ 100 := fx_tne sw_12
      have tsw_18 : n1.toInt ≠ 101 := fx_tne sw_18
      have tsw_24 : n1.toInt ≠ 102 := fx_tne sw_24
      have tsw_30 : n1.toInt ≠ 103 := fx_tne sw_30
      have tsw_36 : n1.toInt ≠ 104 := fx_tne sw_36
      refine aw_tableOut (tgt := 113) dX11_personIs_34 (by omega) (by decide) ?_
      refine aw_iconst (v := (-1)) dX11_personIs_113 (by decide) ?_
      refine aw_ireti dX11_personIs_114 rfl (Nat.le_of_ble_eq_true rfl) (Nat.le_of_ble_eq_true rfl) ?_
      exact ⟨rfl, rfl⟩
    · skip
      refine aw_iload_n dX11_personIs_17 rfl ?_
      refine aw_bipush (v := 16) dX11_personIs_18 (by decide) ?_
      refine aw_icmp_ge (tgt := 33) dX11_personIs_20 (by decide) (fun c_42 => ?_) (fun c_42 => ?_)
      · skip
        refine aw_iload_n dX11_personIs_33 rfl ?_
        by_cases sw_43 : n1 = 100
        · skip
          refine aw_eqi sw_43 ?_
          refine aw_tableIn (off := 34) (tgt := 68) dX11_personIs_34 (by decide) (by decide) (by decide) (by decide) ?_
          refine aw_aload_n dX11_personIs_68 rfl ?_
          refine aw_get dX11_personIs_69 fl_X11_19 e_1 (by omega) rfl ?_
          refine aw_iload_n dX11_personIs_72 rfl ?_
          refine aw_callVi (J' := jX0_fearOf) (As := [.int n0]) (st := []) dX11_personIs_73 tb_747 ok_X0_fearOf ⟨_, e_5⟩ (by omega) rfl rfl (g_X0_fearOf l D b N V hN hJ0.1 3 cA_3 n0) rfl (Nat.le_of_ble_eq_true rfl) ⟨Nat.le_of_ble_eq_true rfl, Nat.le_of_ble_eq_true rfl, Nat.le_of_ble_eq_true rfl, Nat.le_of_ble_eq_true rfl⟩ (fun r_45 N_46 V_47 q_48 => ?_)
          obtain ⟨rfl, rfl⟩ := q_48
          refine aw_ireti dX11_personIs_76 rfl (Nat.le_of_ble_eq_true rfl) (Nat.le_of_ble_eq_true rfl) ?_
          exact ⟨rfl, rfl⟩
        by_cases sw_49 : n1 = 101
        · skip
          refine aw_eqi sw_49 ?_
          refine aw_tableIn (off := 43) (tgt := 77) dX11_personIs_34 (by decide) (by decide) (by decide) (by decide) ?_
          refine aw_aload_n dX11_personIs_77 rfl ?_
          refine aw_get dX11_personIs_78 fl_X11_19 e_1 (by omega) rfl ?_
          refine aw_iload_n dX11_personIs_81 rfl ?_
          refine aw_callVi (J' := jX0_greatestDread) (As := [.int n0]) (st := []) dX11_personIs_82 tb_748 ok_X0_greatestDread ⟨_, e_5⟩ (by omega) rfl rfl (g_X0_greatestDread l D b N V hN hJ0.1 3 cA_3 n0) rfl (Nat.le_of_ble_eq_true rfl) ⟨Nat.le_of_ble_eq_true rfl, Nat.le_of_ble_eq_true rfl, Nat.le_of_ble_eq_true rfl, Nat.le_of_ble_eq_true rfl⟩ (fun r_51 N_52 V_53 q_54 => ?_)
          obtain ⟨rfl, rfl⟩ := q_54
          refine aw_ireti dX11_personIs_85 rfl (Nat.le_of_ble_eq_true rfl) (Nat.le_of_ble_eq_true rfl) ?_
          exact ⟨rfl, rfl⟩
        by_cases sw_55 : n1 = 102
        · skip
          refine aw_eqi sw_55 ?_
          refine aw_tableIn (off := 52) (tgt := 86) dX11_personIs_34 (by decide) (by decide) (by decide) (by decide) ?_
          refine aw_aload_n dX11_personIs_86 rfl ?_
          refine aw_get dX11_personIs_87 fl_X11_19 e_1 (by omega) rfl ?_
          refine aw_iload_n dX11_personIs_90 rfl ?_
          refine aw_callVi (J' := jX0_knownTo) (As := [.int n0]) (st := []) dX11_personIs_91 tb_758 ok_X0_knownTo ⟨_, e_5⟩ (by omega) rfl rfl (g_X0_knownTo l D b N V hN hJ0.1 3 cA_3 n0) rfl (Nat.le_of_ble_eq_true rfl) ⟨Nat.le_of_ble_eq_true rfl, Nat.le_of_ble_eq_true rfl, Nat.le_of_ble_eq_true rfl, Nat.le_of_ble_eq_true rfl⟩ (fun r_57 N_58 V_59 q_60 => ?_)
          obtain ⟨rfl, rfl⟩ := q_60
          refine aw_ireti dX11_personIs_94 rfl (Nat.le_of_ble_eq_true rfl) (Nat.le_of_ble_eq_true rfl) ?_
          exact ⟨rfl, rfl⟩
        by_cases sw_61 : n1 = 103
        · skip
          refine aw_eqi sw_61 ?_
          refine aw_tableIn (off := 61) (tgt := 95) dX11_personIs_34 (by decide) (by decide) (by decide) (by decide) ?_
          refine aw_aload_n dX11_personIs_95 rfl ?_
          refine aw_get dX11_personIs_96 fl_X11_19 e_1 (by omega) rfl ?_
          refine aw_iload_n dX11_personIs_99 rfl ?_
          refine aw_callVi (J' := jX0_doorsOpenTo) (As := [.int n0]) (st := []) dX11_personIs_100 tb_759 ok_X0_doorsOpenTo ⟨_, e_5⟩ (by omega) rfl rfl (g_X0_doorsOpenTo l D b N V hN hJ0.1 3 cA_3 n0) rfl (Nat.le_of_ble_eq_true rfl) ⟨Nat.le_of_ble_eq_true rfl, Nat.le_of_ble_eq_true rfl, Nat.le_of_ble_eq_true rfl, Nat.le_of_ble_eq_true rfl⟩ (fun r_63 N_64 V_65 q_66 => ?_)
          obtain ⟨rfl, rfl⟩ := q_66
          refine aw_ireti dX11_personIs_103 rfl (Nat.le_of_ble_eq_true rfl) (Nat.le_of_ble_eq_true rfl) ?_
          exact ⟨rfl, rfl⟩
        by_cases sw_67 : n1 = 104
        · skip
          refine aw_eqi sw_67 ?_
          refine aw_tableIn (off := 70) (tgt := 104) dX11_personIs_34 (by decide) (by decide) (by decide) (by decide) ?_
          refine aw_aload_n dX11_personIs_104 rfl ?_
          refine aw_get dX11_personIs_105 fl_X11_19 e_1 (by omega) rfl ?_
          refine aw_iload_n dX11_personIs_108 rfl ?_
          refine aw_callVi (J' := jX0_dreadInAll) (As := [.int n0]) (st := []) dX11_personIs_109 tb_764 ok_X0_dreadInAll ⟨_, e_5⟩ (by omega) rfl rfl (g_X0_dreadInAll l D b N V hN hJ0.1 3 cA_3 n0) rfl (Nat.le_of_ble_eq_true rfl) ⟨Nat.le_of_ble_eq_true rfl, Nat.le_of_ble_eq_true rfl, Nat.le_of_ble_eq_true rfl, Nat.le_of_ble_eq_true rfl⟩ (fun r_69 N_70 V_71 q_72 => ?_)
          obtain ⟨rfl, rfl⟩ := q_72
          refine aw_ireti dX11_personIs_112 rfl (Nat.le_of_ble_eq_true rfl) (Nat.le_of_ble_eq_true rfl) ?_
          exact ⟨rfl, rfl⟩
        have tsw_43 : n1.toInt ≠ 100 := fx_tne sw_43
        have tsw_49 : n1.toInt ≠ 101 := fx_tne sw_49
        have tsw_55 : n1.toInt ≠ 102 := fx_tne sw_55
        have tsw_61 : n1.toInt ≠ 103 := fx_tne sw_61
        have tsw_67 : n1.toInt ≠ 104 := fx_tne sw_67
        refine aw_tableOut (tgt := 113) dX11_personIs_34 (by omega) (by decide) ?_
        refine aw_iconst (v := (-1)) dX11_personIs_113 (by decide) ?_
        refine aw_ireti dX11_personIs_114 rfl (Nat.le_of_ble_eq_true rfl) (Nat.le_of_ble_eq_true rfl) ?_
        exact ⟨rfl, rfl⟩
      · skip
        refine aw_aload_n dX11_personIs_23 rfl ?_
        refine aw_get dX11_personIs_24 fl_X11_19 e_1 (by omega) rfl ?_
        refine aw_iload_n dX11_personIs_27 rfl ?_
        refine aw_iload_n dX11_personIs_28 rfl ?_
        refine aw_callVi (J' := jX0_dreadOf) (As := [.int n0, .int n1]) (st := []) dX11_personIs_29 tb_757 ok_X0_dreadOf ⟨_, e_5⟩ (by omega) rfl rfl (g_X0_dreadOf l D b N V hN hJ0.1 3 cA_3 n0 n1) rfl (Nat.le_of_ble_eq_true rfl) ⟨Nat.le_of_ble_eq_true rfl, Nat.le_of_ble_eq_true rfl, Nat.le_of_ble_eq_true rfl, Nat.le_of_ble_eq_true rfl⟩ (fun r_74 N_75 V_76 q_77 => ?_)
        obtain ⟨rfl, rfl⟩ := q_77
        refine aw_ireti dX11_personIs_32 rfl (Nat.le_of_ble_eq_true rfl) (Nat.le_of_ble_eq_true rfl) ?_
        exact ⟨rfl, rfl⟩
  · skip
    refine aw_iconst (v := (-1)) dX11_personIs_11 (by decide) ?_
    refine aw_ireti dX11_personIs_12 rfl (Nat.le_of_ble_eq_true rfl) (Nat.le_of_ble_eq_true rfl) ?_
    exact ⟨rfl, rfl⟩

set_option maxHeartbeats 4000000 in
set_option maxRecDepth 100000 in
theorem g_X11_doorIs (l : Launch) (D : va_G) (b : Nat) (N : Nat) (V : Wd) (hN : 100 ≤ N) (hW : CW D b V) (n0 : Int32) (n1 : Int32)  : MI l D b 5 jX11_doorIs [.ref (b + 0), .int n0, .int n1] N V 0 0 (fun r N9 V9 => N = N9 ∧ V = V9) := by
  have hJ0 : JW D b N [] V V := JW.rf hW
  refine mw_of (by decide) (by simp [Value.category]) (Nat.le_of_ble_eq_true rfl) ?_
  show AW l D b jX11_doorIs (fx_rm 5 0 0) none (fx_MQ D b 0 0 (fx_qi (fun r N9 V9 => N = N9 ∧ V = V9))) 0 [some (.ref (b + 0)), some (.int n0), some (.int n1)] [] N V 0 0
  refine aw_aload_n dX11_doorIs_0 rfl ?_
  obtain ⟨ek_1, x_1, y_1, e_1, hx_1, hy_1⟩ := JW.get hJ0 ct_0
  refine aw_get dX11_doorIs_1 fl_X11_19 e_1 (by omega) rfl ?_
  refine aw_iload_n dX11_doorIs_4 rfl ?_
  obtain ⟨pe_5, dd_5, ni_5, xx_5, e_5⟩ := JW.get hJ0 (ctc_0 cA_3)
  refine aw_callVi (J' := jX0_isDoor) (As := [.int n0]) (st := []) dX11_doorIs_5 tb_746 ok_X0_isDoor ⟨_, e_5⟩ (by omega) rfl rfl (g_X0_isDoor l D b N V hN hJ0.1 3 cA_3 n0) rfl (Nat.le_of_ble_eq_true rfl) ⟨Nat.le_of_ble_eq_true rfl, Nat.le_of_ble_eq_true rfl, Nat.le_of_ble_eq_true rfl, Nat.le_of_ble_eq_true rfl⟩ (fun r_6 N_7 V_8 q_9 => ?_)
  obtain ⟨⟨z_4, h_3⟩, rfl, rfl⟩ := q_9
  refine aw_if_ne (tgt := 13) dX11_doorIs_8 (by decide) (fun c_10 => ?_) (fun c_10 => ?_)
  · skip
    refine aw_iload_n dX11_doorIs_13 rfl ?_
    by_cases sw_11 : n1 = 0
    · skip
      refine aw_eqi sw_11 ?_
      refine aw_tableIn (off := 30) (tgt := 44) dX11_doorIs_14 (by decide) (by decide) (by decide) (by decide) ?_
      refine aw_aload_n dX11_doorIs_44 rfl ?_
      refine aw_get dX11_doorIs_45 fl_X11_19 e_1 (by omega) rfl ?_
      refine aw_get dX11_doorIs_48 fl_X11_156 e_5 (by omega) rfl ?_
      refine aw_iload_n dX11_doorIs_51 rfl ?_
      obtain ⟨g_12, e_12⟩ := JW.get hJ0 (ctc_15 cA_3)
      refine aw_iald (v := (g_12 (Int32.toNatClampNeg n0))) dX11_doorIs_52 e_12 (by omega) (vi_res h_3 c_10 (by decide)) rfl ?_
      refine aw_ireti dX11_doorIs_53 rfl (Nat.le_of_ble_eq_true rfl) (Nat.le_of_ble_eq_true rfl) ?_
      exact ⟨rfl, rfl⟩
    by_cases sw_13 : n1 = 1
    · skip
      refine aw_eqi sw_13 ?_
      refine aw_tableIn (off := 40) (tgt := 54) dX11_doorIs_14 (by decide) (by decide) (by decide) (by decide) ?_
      refine aw_aload_n dX11_doorIs_54 rfl ?_
      refine aw_get dX11_doorIs_55 fl_X11_19 e_1 (by omega) rfl ?_
      refine aw_get dX11_doorIs_58 fl_X11_160 e_5 (by omega) rfl ?_
      refine aw_iload_n dX11_doorIs_61 rfl ?_
      obtain ⟨g_14, e_14⟩ := JW.get hJ0 (ctc_16 cA_3)
      refine aw_iald (v := (g_14 (Int32.toNatClampNeg n0))) dX11_doorIs_62 e_14 (by omega) (vi_res h_3 c_10 (by decide)) rfl ?_
      refine aw_ireti dX11_doorIs_63 rfl (Nat.le_of_ble_eq_true rfl) (Nat.le_of_ble_eq_true rfl) ?_
      exact ⟨rfl, rfl⟩
    by_cases sw_15 : n1 = 2
    · skip
      refine aw_eqi sw_15 ?_
      refine aw_tableIn (off := 50) (tgt := 64) dX11_doorIs_14 (by decide) (by decide) (by decide) (by decide) ?_
      refine aw_aload_n dX11_doorIs_64 rfl ?_
      refine aw_get dX11_doorIs_65 fl_X11_19 e_1 (by omega) rfl ?_
      refine aw_get dX11_doorIs_68 fl_X11_163 e_5 (by omega) rfl ?_
      refine aw_iload_n dX11_doorIs_71 rfl ?_
      obtain ⟨g_16, e_16⟩ := JW.get hJ0 (ctc_17 cA_3)
      refine aw_iald (v := (g_16 (Int32.toNatClampNeg n0))) dX11_doorIs_72 e_16 (by omega) (vi_res h_3 c_10 (by decide)) rfl ?_
      refine aw_ireti dX11_doorIs_73 rfl (Nat.le_of_ble_eq_true rfl) (Nat.le_of_ble_eq_true rfl) ?_
      exact ⟨rfl, rfl⟩
    by_cases sw_17 : n1 = 3
    · skip
      refine aw_eqi sw_17 ?_
      refine aw_tableIn (off := 60) (tgt := 74) dX11_doorIs_14 (by decide) (by decide) (by decide) (by decide) ?_
      refine aw_aload_n dX11_doorIs_74 rfl ?_
      refine aw_get dX11_doorIs_75 fl_X11_19 e_1 (by omega) rfl ?_
      refine aw_iload_n dX11_doorIs_78 rfl ?_
      refine aw_callVi (J' := jX0_openersOf) (As := [.int n0]) (st := []) dX11_doorIs_79 tb_772 ok_X0_openersOf ⟨_, e_5⟩ (by omega) rfl rfl (g_X0_openersOf l D b N V hN hJ0.1 3 cA_3 n0) rfl (Nat.le_of_ble_eq_true rfl) ⟨Nat.le_of_ble_eq_true rfl, Nat.le_of_ble_eq_true rfl, Nat.le_of_ble_eq_true rfl, Nat.le_of_ble_eq_true rfl⟩ (fun r_19 N_20 V_21 q_22 => ?_)
      obtain ⟨rfl, rfl⟩ := q_22
      refine aw_ireti dX11_doorIs_82 rfl (Nat.le_of_ble_eq_true rfl) (Nat.le_of_ble_eq_true rfl) ?_
      exact ⟨rfl, rfl⟩
    have tsw_11 : n1.toInt ≠ 0 := fx_tne sw_11
    have tsw_13 : n1.toInt ≠ 1 := fx_tne sw_13
    have tsw_15 : n1.toInt ≠ 2 := fx_tne sw_15
    have tsw_17 : n1.toInt ≠ 3 := fx_tne sw_17
    refine aw_tableOut (tgt := 83) dX11_doorIs_14 (by omega) (by decide) ?_
    refine aw_iconst (v := (-1)) dX11_doorIs_83 (by decide) ?_
    refine aw_ireti dX11_doorIs_84 rfl (Nat.le_of_ble_eq_true rfl) (Nat.le_of_ble_eq_true rfl) ?_
    exact ⟨rfl, rfl⟩
  · skip
    refine aw_iconst (v := (-1)) dX11_doorIs_11 (by decide) ?_
    refine aw_ireti dX11_doorIs_12 rfl (Nat.le_of_ble_eq_true rfl) (Nat.le_of_ble_eq_true rfl) ?_
    exact ⟨rfl, rfl⟩

set_option maxHeartbeats 4000000 in
set_option maxRecDepth 100000 in
theorem g_X11_taught (l : Launch) (D : va_G) (b : Nat) (N : Nat) (V : Wd) (hN : 100 ≤ N) (hW : CW D b V) (n0 : Int32) (n1 : Int32)  : MI l D b 3 jX11_taught [.ref (b + 0), .int n0, .int n1] N V 0 0 (fun r N9 V9 => N = N9 ∧ V = V9) := by
  have hJ0 : JW D b N [] V V := JW.rf hW
  refine mw_of (by decide) (by simp [Value.category]) (Nat.le_of_ble_eq_true rfl) ?_
  show AW l D b jX11_taught (fx_rm 3 0 0) none (fx_MQ D b 0 0 (fx_qi (fun r N9 V9 => N = N9 ∧ V = V9))) 0 [some (.ref (b + 0)), some (.int n0), some (.int n1)] [] N V 0 0
  refine aw_aload_n dX11_taught_0 rfl ?_
  obtain ⟨ek_1, x_1, y_1, e_1, hx_1, hy_1⟩ := JW.get hJ0 ct_0
  refine aw_get dX11_taught_1 fl_X11_19 e_1 (by omega) rfl ?_
  refine aw_iload_n dX11_taught_4 rfl ?_
  obtain ⟨pe_5, dd_5, ni_5, xx_5, e_5⟩ := JW.get hJ0 (ctc_0 cA_3)
  refine aw_callVi (J' := jX0_isPerson) (As := [.int n0]) (st := []) dX11_taught_5 tb_745 ok_X0_isPerson ⟨_, e_5⟩ (by omega) rfl rfl (g_X0_isPerson l D b N V hN hJ0.1 3 cA_3 n0) rfl (Nat.le_of_ble_eq_true rfl) ⟨Nat.le_of_ble_eq_true rfl, Nat.le_of_ble_eq_true rfl, Nat.le_of_ble_eq_true rfl, Nat.le_of_ble_eq_true rfl⟩ (fun r_6 N_7 V_8 q_9 => ?_)
  obtain ⟨⟨z_4, h_3⟩, rfl, rfl⟩ := q_9
  refine aw_if_eq (tgt := 22) dX11_taught_8 (by decide) (fun c_10 => ?_) (fun c_10 => ?_)
  · skip
    refine aw_iconst (v := (-1)) dX11_taught_22 (by decide) ?_
    refine aw_ireti dX11_taught_23 rfl (Nat.le_of_ble_eq_true rfl) (Nat.le_of_ble_eq_true rfl) ?_
    exact ⟨rfl, rfl⟩
  · skip
    refine aw_aload_n dX11_taught_11 rfl ?_
    refine aw_get dX11_taught_12 fl_X11_19 e_1 (by omega) rfl ?_
    refine aw_iload_n dX11_taught_15 rfl ?_
    refine aw_callVi (J' := jX0_isDoor) (As := [.int n1]) (st := []) dX11_taught_16 tb_746 ok_X0_isDoor ⟨_, e_5⟩ (by omega) rfl rfl (g_X0_isDoor l D b N V hN hJ0.1 3 cA_3 n1) rfl (Nat.le_of_ble_eq_true rfl) ⟨Nat.le_of_ble_eq_true rfl, Nat.le_of_ble_eq_true rfl, Nat.le_of_ble_eq_true rfl, Nat.le_of_ble_eq_true rfl⟩ (fun r_14 N_15 V_16 q_17 => ?_)
    obtain ⟨⟨z_13, h_12⟩, rfl, rfl⟩ := q_17
    refine aw_if_ne (tgt := 24) dX11_taught_19 (by decide) (fun c_18 => ?_) (fun c_18 => ?_)
    · skip
      refine aw_aload_n dX11_taught_24 rfl ?_
      refine aw_get dX11_taught_25 fl_X11_19 e_1 (by omega) rfl ?_
      refine aw_iload_n dX11_taught_28 rfl ?_
      refine aw_iload_n dX11_taught_29 rfl ?_
      refine aw_callSi (J' := jX3_lessons) (As := [.ref (b + 3), .int n0, .int n1]) (st := []) dX11_taught_30 tb_780 ok_X3_lessons rfl (g_X3_lessons l D b N V hN hJ0.1 3 cA_3 n0 n1) rfl (Nat.le_of_ble_eq_true rfl) ⟨Nat.le_of_ble_eq_true rfl, Nat.le_of_ble_eq_true rfl, Nat.le_of_ble_eq_true rfl, Nat.le_of_ble_eq_true rfl⟩ (fun r_20 N_21 V_22 q_23 => ?_)
      obtain ⟨rfl, rfl⟩ := q_23
      refine aw_ireti dX11_taught_33 rfl (Nat.le_of_ble_eq_true rfl) (Nat.le_of_ble_eq_true rfl) ?_
      exact ⟨rfl, rfl⟩
    · skip
      refine aw_iconst (v := (-1)) dX11_taught_22 (by decide) ?_
      refine aw_ireti dX11_taught_23 rfl (Nat.le_of_ble_eq_true rfl) (Nat.le_of_ble_eq_true rfl) ?_
      exact ⟨rfl, rfl⟩

set_option maxHeartbeats 4000000 in
set_option maxRecDepth 100000 in
theorem g_X11_crew (l : Launch) (D : va_G) (b : Nat) (N : Nat) (V : Wd) (hN : 100 ≤ N) (hW : CW D b V) (n0 : Int32)  : MI l D b 6 jX11_crew [.ref (b + 0), .int n0] N V 0 0 (fun r N9 V9 => N = N9 ∧ JW D b N [(93, 93, 0, 1000000)] V V9) := by
  have hJ0 : JW D b N [(93, 93, 0, 1000000)] V V := JW.rf hW
  refine mw_of (by decide) (by simp [Value.category]) (Nat.le_of_ble_eq_true rfl) ?_
  show AW l D b jX11_crew (fx_rm 6 0 0) none (fx_MQ D b 0 0 (fx_qi (fun r N9 V9 => N = N9 ∧ JW D b N [(93, 93, 0, 1000000)] V V9))) 0 [some (.ref (b + 0)), some (.int n0), none] [] N V 0 0
  refine aw_iload_n dX11_crew_0 rfl ?_
  refine aw_if_lt (tgt := 9) dX11_crew_1 (by decide) (fun c_1 => ?_) (fun c_1 => ?_)
  · skip
    refine aw_iconst (v := (-1)) dX11_crew_9 (by decide) ?_
    refine aw_ireti dX11_crew_10 rfl (Nat.le_of_ble_eq_true rfl) (Nat.le_of_ble_eq_true rfl) ?_
    exact ⟨rfl, hJ0⟩
  · skip
    refine aw_iload_n dX11_crew_4 rfl ?_
    refine aw_iconst (v := 1) dX11_crew_5 (by decide) ?_
    refine aw_icmp_le (tgt := 11) dX11_crew_6 (by decide) (fun c_2 => ?_) (fun c_2 => ?_)
    · skip
      refine aw_aload_n dX11_crew_11 rfl ?_
      obtain ⟨ek_3, x_3, y_3, e_3, hx_3, hy_3⟩ := JW.get hJ0 ct_0
      refine aw_get dX11_crew_12 fl_X11_53 e_3 (by omega) rfl ?_
      refine aw_aload_n dX11_crew_15 rfl ?_
      refine aw_get dX11_crew_16 fl_X11_19 e_3 (by omega) rfl ?_
      have e_7 := JW.get hJ0 ct_92
      refine aw_callVi (J' := jX3_fewestForAllDoors) (As := [.ref (b + 3)]) (st := []) dX11_crew_19 tb_794 ok_X3_fewestForAllDoors ⟨_, e_7⟩ (by omega) rfl rfl (g_X3_fewestForAllDoors l D b N V hN hJ0.1 3 cA_3) rfl (Nat.le_of_ble_eq_true rfl) ⟨Nat.le_of_ble_eq_true rfl, Nat.le_of_ble_eq_true rfl, Nat.le_of_ble_eq_true rfl, Nat.le_of_ble_eq_true rfl⟩ (fun r_8 N_9 V_6 q_10 => ?_)
      obtain ⟨rfl, q_4⟩ := q_10
      have j_5 := JW.trans hJ0 (JW.weak q_4 (Sub.cons LM0 (by decide) (by decide) (by decide) (Or.inl rfl) Sub.nil))
      refine aw_istore_n (ls' := [some (.ref (b + 0)), some (.int n0), some (.int r_8)]) dX11_crew_22 (Nat.le_of_ble_eq_true rfl) rfl ?_
      refine aw_iload_n dX11_crew_23 rfl ?_
      refine aw_if_ge (tgt := 30) dX11_crew_24 (by decide) (fun c_11 => ?_) (fun c_11 => ?_)
      · skip
        refine aw_iload_n dX11_crew_30 rfl ?_
        refine aw_if_ne (tgt := 41) dX11_crew_31 (by decide) (fun c_12 => ?_) (fun c_12 => ?_)
        · skip
          refine aw_iload_n dX11_crew_41 rfl ?_
          refine aw_ireti dX11_crew_42 rfl (Nat.le_of_ble_eq_true rfl) (Nat.le_of_ble_eq_true rfl) ?_
          exact ⟨rfl, j_5⟩
        · skip
          refine aw_iload_n dX11_crew_34 rfl ?_
          refine aw_callSi (J' := jJ6_bitCount_0f7a4) (As := [.int r_8]) (st := []) dX11_crew_35 tb_805 ok_J6_bitCount_0f7a4 rfl (c_bitCount l D b N V_6 r_8) rfl (Nat.le_of_ble_eq_true rfl) ⟨Nat.le_of_ble_eq_true rfl, Nat.le_of_ble_eq_true rfl, Nat.le_of_ble_eq_true rfl, Nat.le_of_ble_eq_true rfl⟩ (fun r_13 N_14 V_15 q_16 => ?_)
          obtain ⟨rfl, rfl⟩ := q_16
          refine aw_goto (tgt := 42) dX11_crew_38 (by decide) ?_
          refine aw_ireti dX11_crew_42 rfl (Nat.le_of_ble_eq_true rfl) (Nat.le_of_ble_eq_true rfl) ?_
          exact ⟨rfl, j_5⟩
      · skip
        refine aw_bipush (v := (-2)) dX11_crew_27 (by decide) ?_
        refine aw_ireti dX11_crew_29 rfl (Nat.le_of_ble_eq_true rfl) (Nat.le_of_ble_eq_true rfl) ?_
        exact ⟨rfl, j_5⟩
    · skip
      refine aw_iconst (v := (-1)) dX11_crew_9 (by decide) ?_
      refine aw_ireti dX11_crew_10 rfl (Nat.le_of_ble_eq_true rfl) (Nat.le_of_ble_eq_true rfl) ?_
      exact ⟨rfl, hJ0⟩

set_option maxHeartbeats 4000000 in
set_option maxRecDepth 100000 in
theorem g_X11_lodgings (l : Launch) (D : va_G) (b : Nat) (N : Nat) (V : Wd) (hN : 100 ≤ N) (hW : CW D b V)   : MI l D b 6 jX11_lodgings [.ref (b + 0)] N V 0 0 (fun r N9 V9 => N = N9 ∧ V = V9) := by
  have hJ0 : JW D b N [] V V := JW.rf hW
  refine mw_of (by decide) (by simp [Value.category]) (Nat.le_of_ble_eq_true rfl) ?_
  show AW l D b jX11_lodgings (fx_rm 6 0 0) none (fx_MQ D b 0 0 (fx_qi (fun r N9 V9 => N = N9 ∧ V = V9))) 0 [some (.ref (b + 0))] [] N V 0 0
  refine aw_aload_n dX11_lodgings_0 rfl ?_
  obtain ⟨ek_1, x_1, y_1, e_1, hx_1, hy_1⟩ := JW.get hJ0 ct_0
  refine aw_get dX11_lodgings_1 fl_X11_19 e_1 (by omega) rfl ?_
  refine aw_callSi (J' := jX3_mostLet) (As := [.ref (b + 3)]) (st := []) dX11_lodgings_4 tb_810 ok_X3_mostLet rfl (g_X3_mostLet l D b N V hN hJ0.1 3 cA_3) rfl (Nat.le_of_ble_eq_true rfl) ⟨Nat.le_of_ble_eq_true rfl, Nat.le_of_ble_eq_true rfl, Nat.le_of_ble_eq_true rfl, Nat.le_of_ble_eq_true rfl⟩ (fun r_3 N_4 V_5 q_6 => ?_)
  obtain ⟨rfl, rfl⟩ := q_6
  refine aw_ireti dX11_lodgings_7 rfl (Nat.le_of_ble_eq_true rfl) (Nat.le_of_ble_eq_true rfl) ?_
  exact ⟨rfl, rfl⟩

set_option maxHeartbeats 4000000 in
set_option maxRecDepth 100000 in
theorem g_X11_couples (l : Launch) (D : va_G) (b : Nat) (N : Nat) (V : Wd) (hN : 100 ≤ N) (hW : CW D b V) (n0 : Int32)  : MI l D b 4 jX11_couples [.ref (b + 0), .int n0] N V 0 0 (fun r N9 V9 => N = N9 ∧ JW D b N [(95, 96, 0, 1000000)] V V9) := by
  have hJ0 : JW D b N [(95, 96, 0, 1000000)] V V := JW.rf hW
  refine mw_of (by decide) (by simp [Value.category]) (Nat.le_of_ble_eq_true rfl) ?_
  show AW l D b jX11_couples (fx_rm 4 0 0) none (fx_MQ D b 0 0 (fx_qi (fun r N9 V9 => N = N9 ∧ JW D b N [(95, 96, 0, 1000000)] V V9))) 0 [some (.ref (b + 0)), some (.int n0)] [] N V 0 0
  refine aw_iload_n dX11_couples_0 rfl ?_
  refine aw_iconst (v := 1) dX11_couples_1 (by decide) ?_
  refine aw_icmp_lt (tgt := 11) dX11_couples_2 (by decide) (fun c_1 => ?_) (fun c_1 => ?_)
  · skip
    refine aw_iconst (v := (-1)) dX11_couples_11 (by decide) ?_
    refine aw_ireti dX11_couples_12 rfl (Nat.le_of_ble_eq_true rfl) (Nat.le_of_ble_eq_true rfl) ?_
    exact ⟨rfl, hJ0⟩
  · skip
    refine aw_iload_n dX11_couples_5 rfl ?_
    refine aw_bipush (v := 99) dX11_couples_6 (by decide) ?_
    refine aw_icmp_le (tgt := 13) dX11_couples_8 (by decide) (fun c_2 => ?_) (fun c_2 => ?_)
    · skip
      refine aw_aload_n dX11_couples_13 rfl ?_
      obtain ⟨ek_3, x_3, y_3, e_3, hx_3, hy_3⟩ := JW.get hJ0 ct_0
      refine aw_get dX11_couples_14 fl_X11_60 e_3 (by omega) rfl ?_
      refine aw_aload_n dX11_couples_17 rfl ?_
      refine aw_get dX11_couples_18 fl_X11_19 e_3 (by omega) rfl ?_
      refine aw_iload_n dX11_couples_21 rfl ?_
      have e_7 := JW.get hJ0 ct_94
      refine aw_callVi (J' := jX1_mostCouples) (As := [.ref (b + 3), .int n0]) (st := []) dX11_couples_22 tb_818 ok_X1_mostCouples ⟨_, e_7⟩ (by omega) rfl rfl (g_X1_mostCouples l D b N V hN hJ0.1 3 cA_3 n0) rfl (Nat.le_of_ble_eq_true rfl) ⟨Nat.le_of_ble_eq_true rfl, Nat.le_of_ble_eq_true rfl, Nat.le_of_ble_eq_true rfl, Nat.le_of_ble_eq_true rfl⟩ (fun r_8 N_9 V_6 q_10 => ?_)
      obtain ⟨rfl, q_4⟩ := q_10
      have j_5 := JW.trans hJ0 (JW.weak q_4 (Sub.cons LM0 (by decide) (by decide) (by decide) (Or.inl rfl) Sub.nil))
      refine aw_ireti dX11_couples_25 rfl (Nat.le_of_ble_eq_true rfl) (Nat.le_of_ble_eq_true rfl) ?_
      exact ⟨rfl, j_5⟩
    · skip
      refine aw_iconst (v := (-1)) dX11_couples_11 (by decide) ?_
      refine aw_ireti dX11_couples_12 rfl (Nat.le_of_ble_eq_true rfl) (Nat.le_of_ble_eq_true rfl) ?_
      exact ⟨rfl, hJ0⟩

set_option maxHeartbeats 4000000 in
set_option maxRecDepth 100000 in
theorem g_X11_fears (l : Launch) (D : va_G) (b : Nat) (N : Nat) (V : Wd) (hN : 100 ≤ N) (hW : CW D b V) (n0 : Int32)  : MI l D b 3 jX11_fears [.ref (b + 0), .int n0] N V 0 0 (fun r N9 V9 => N = N9 ∧ V = V9) := by
  have hJ0 : JW D b N [] V V := JW.rf hW
  refine mw_of (by decide) (by simp [Value.category]) (Nat.le_of_ble_eq_true rfl) ?_
  show AW l D b jX11_fears (fx_rm 3 0 0) none (fx_MQ D b 0 0 (fx_qi (fun r N9 V9 => N = N9 ∧ V = V9))) 0 [some (.ref (b + 0)), some (.int n0)] [] N V 0 0
  refine aw_iload_n dX11_fears_0 rfl ?_
  refine aw_if_lt (tgt := 9) dX11_fears_1 (by decide) (fun c_1 => ?_) (fun c_1 => ?_)
  · skip
    refine aw_iconst (v := (-1)) dX11_fears_9 (by decide) ?_
    refine aw_ireti dX11_fears_10 rfl (Nat.le_of_ble_eq_true rfl) (Nat.le_of_ble_eq_true rfl) ?_
    exact ⟨rfl, rfl⟩
  · skip
    refine aw_iload_n dX11_fears_4 rfl ?_
    refine aw_iconst (v := 1) dX11_fears_5 (by decide) ?_
    refine aw_icmp_le (tgt := 11) dX11_fears_6 (by decide) (fun c_2 => ?_) (fun c_2 => ?_)
    · skip
      refine aw_iload_n dX11_fears_11 rfl ?_
      refine aw_if_ne (tgt := 25) dX11_fears_12 (by decide) (fun c_3 => ?_) (fun c_3 => ?_)
      · skip
        refine aw_aload_n dX11_fears_25 rfl ?_
        obtain ⟨ek_4, x_4, y_4, e_4, hx_4, hy_4⟩ := JW.get hJ0 ct_0
        refine aw_get dX11_fears_26 fl_X11_19 e_4 (by omega) rfl ?_
        obtain ⟨pe_6, dd_6, ni_6, xx_6, e_6⟩ := JW.get hJ0 (ctc_0 cA_3)
        refine aw_callVi (J' := jX0_allsFears) (As := []) (st := []) dX11_fears_29 tb_859 ok_X0_allsFears ⟨_, e_6⟩ (by omega) rfl rfl (g_X0_allsFears l D b N V hN hJ0.1 3 cA_3) rfl (Nat.le_of_ble_eq_true rfl) ⟨Nat.le_of_ble_eq_true rfl, Nat.le_of_ble_eq_true rfl, Nat.le_of_ble_eq_true rfl, Nat.le_of_ble_eq_true rfl⟩ (fun r_7 N_8 V_9 q_10 => ?_)
        obtain ⟨rfl, rfl⟩ := q_10
        refine aw_ireti dX11_fears_32 rfl (Nat.le_of_ble_eq_true rfl) (Nat.le_of_ble_eq_true rfl) ?_
        exact ⟨rfl, rfl⟩
      · skip
        refine aw_aload_n dX11_fears_15 rfl ?_
        obtain ⟨ek_11, x_11, y_11, e_11, hx_11, hy_11⟩ := JW.get hJ0 ct_0
        refine aw_get dX11_fears_16 fl_X11_19 e_11 (by omega) rfl ?_
        obtain ⟨pe_13, dd_13, ni_13, xx_13, e_13⟩ := JW.get hJ0 (ctc_0 cA_3)
        refine aw_callVi (J' := jX0_nobodysFears) (As := []) (st := []) dX11_fears_19 tb_853 ok_X0_nobodysFears ⟨_, e_13⟩ (by omega) rfl rfl (g_X0_nobodysFears l D b N V hN hJ0.1 3 cA_3) rfl (Nat.le_of_ble_eq_true rfl) ⟨Nat.le_of_ble_eq_true rfl, Nat.le_of_ble_eq_true rfl, Nat.le_of_ble_eq_true rfl, Nat.le_of_ble_eq_true rfl⟩ (fun r_14 N_15 V_16 q_17 => ?_)
        obtain ⟨rfl, rfl⟩ := q_17
        refine aw_goto (tgt := 32) dX11_fears_22 (by decide) ?_
        refine aw_ireti dX11_fears_32 rfl (Nat.le_of_ble_eq_true rfl) (Nat.le_of_ble_eq_true rfl) ?_
        exact ⟨rfl, rfl⟩
    · skip
      refine aw_iconst (v := (-1)) dX11_fears_9 (by decide) ?_
      refine aw_ireti dX11_fears_10 rfl (Nat.le_of_ble_eq_true rfl) (Nat.le_of_ble_eq_true rfl) ?_
      exact ⟨rfl, rfl⟩

set_option maxHeartbeats 4000000 in
set_option maxRecDepth 100000 in
theorem g_X11_unlike (l : Launch) (D : va_G) (b : Nat) (N : Nat) (V : Wd) (hN : 100 ≤ N) (hW : CW D b V) (n0 : Int32) (n1 : Int32)  : MI l D b 2 jX11_unlike [.ref (b + 0), .int n0, .int n1] N V 0 0 (fun r N9 V9 => N = N9 ∧ V = V9) := by
  have hJ0 : JW D b N [] V V := JW.rf hW
  refine mw_of (by decide) (by simp [Value.category]) (Nat.le_of_ble_eq_true rfl) ?_
  show AW l D b jX11_unlike (fx_rm 2 0 0) none (fx_MQ D b 0 0 (fx_qi (fun r N9 V9 => N = N9 ∧ V = V9))) 0 [some (.ref (b + 0)), some (.int n0), some (.int n1)] [] N V 0 0
  refine aw_aload_n dX11_unlike_0 rfl ?_
  obtain ⟨ek_1, x_1, y_1, e_1, hx_1, hy_1⟩ := JW.get hJ0 ct_0
  refine aw_get dX11_unlike_1 fl_X11_19 e_1 (by omega) rfl ?_
  refine aw_iload_n dX11_unlike_4 rfl ?_
  obtain ⟨pe_5, dd_5, ni_5, xx_5, e_5⟩ := JW.get hJ0 (ctc_0 cA_3)
  refine aw_callVi (J' := jX0_isPerson) (As := [.int n0]) (st := []) dX11_unlike_5 tb_745 ok_X0_isPerson ⟨_, e_5⟩ (by omega) rfl rfl (g_X0_isPerson l D b N V hN hJ0.1 3 cA_3 n0) rfl (Nat.le_of_ble_eq_true rfl) ⟨Nat.le_of_ble_eq_true rfl, Nat.le_of_ble_eq_true rfl, Nat.le_of_ble_eq_true rfl, Nat.le_of_ble_eq_true rfl⟩ (fun r_6 N_7 V_8 q_9 => ?_)
  obtain ⟨⟨z_4, h_3⟩, rfl, rfl⟩ := q_9
  refine aw_if_eq (tgt := 22) dX11_unlike_8 (by decide) (fun c_10 => ?_) (fun c_10 => ?_)
  · skip
    refine aw_iconst (v := (-1)) dX11_unlike_22 (by decide) ?_
    refine aw_ireti dX11_unlike_23 rfl (Nat.le_of_ble_eq_true rfl) (Nat.le_of_ble_eq_true rfl) ?_
    exact ⟨rfl, rfl⟩
  · skip
    refine aw_aload_n dX11_unlike_11 rfl ?_
    refine aw_get dX11_unlike_12 fl_X11_19 e_1 (by omega) rfl ?_
    refine aw_iload_n dX11_unlike_15 rfl ?_
    refine aw_callVi (J' := jX0_isPerson) (As := [.int n1]) (st := []) dX11_unlike_16 tb_745 ok_X0_isPerson ⟨_, e_5⟩ (by omega) rfl rfl (g_X0_isPerson l D b N V hN hJ0.1 3 cA_3 n1) rfl (Nat.le_of_ble_eq_true rfl) ⟨Nat.le_of_ble_eq_true rfl, Nat.le_of_ble_eq_true rfl, Nat.le_of_ble_eq_true rfl, Nat.le_of_ble_eq_true rfl⟩ (fun r_14 N_15 V_16 q_17 => ?_)
    obtain ⟨⟨z_13, h_12⟩, rfl, rfl⟩ := q_17
    refine aw_if_ne (tgt := 24) dX11_unlike_19 (by decide) (fun c_18 => ?_) (fun c_18 => ?_)
    · skip
      refine aw_aload_n dX11_unlike_24 rfl ?_
      refine aw_get dX11_unlike_25 fl_X11_19 e_1 (by omega) rfl ?_
      refine aw_iload_n dX11_unlike_28 rfl ?_
      refine aw_iload_n dX11_unlike_29 rfl ?_
      refine aw_callSi (J' := jX1_difference) (As := [.ref (b + 3), .int n0, .int n1]) (st := []) dX11_unlike_30 tb_867 ok_X1_difference rfl (g_X1_difference l D b N V hN hJ0.1 3 cA_3 n0 n1) rfl (Nat.le_of_ble_eq_true rfl) ⟨Nat.le_of_ble_eq_true rfl, Nat.le_of_ble_eq_true rfl, Nat.le_of_ble_eq_true rfl, Nat.le_of_ble_eq_true rfl⟩ (fun r_20 N_21 V_22 q_23 => ?_)
      obtain ⟨rfl, rfl⟩ := q_23
      refine aw_ireti dX11_unlike_33 rfl (Nat.le_of_ble_eq_true rfl) (Nat.le_of_ble_eq_true rfl) ?_
      exact ⟨rfl, rfl⟩
    · skip
      refine aw_iconst (v := (-1)) dX11_unlike_22 (by decide) ?_
      refine aw_ireti dX11_unlike_23 rfl (Nat.le_of_ble_eq_true rfl) (Nat.le_of_ble_eq_true rfl) ?_
      exact ⟨rfl, rfl⟩

set_option maxHeartbeats 4000000 in
set_option maxRecDepth 100000 in
theorem g_X11_mostLike (l : Launch) (D : va_G) (b : Nat) (N : Nat) (V : Wd) (hN : 100 ≤ N) (hW : CW D b V) (n0 : Int32)  : MI l D b 3 jX11_mostLike [.ref (b + 0), .int n0] N V 0 0 (fun r N9 V9 => N = N9 ∧ V = V9) := by
  have hJ0 : JW D b N [] V V := JW.rf hW
  refine mw_of (by decide) (by simp [Value.category]) (Nat.le_of_ble_eq_true rfl) ?_
  show AW l D b jX11_mostLike (fx_rm 3 0 0) none (fx_MQ D b 0 0 (fx_qi (fun r N9 V9 => N = N9 ∧ V = V9))) 0 [some (.ref (b + 0)), some (.int n0)] [] N V 0 0
  refine aw_aload_n dX11_mostLike_0 rfl ?_
  obtain ⟨ek_1, x_1, y_1, e_1, hx_1, hy_1⟩ := JW.get hJ0 ct_0
  refine aw_get dX11_mostLike_1 fl_X11_19 e_1 (by omega) rfl ?_
  refine aw_iload_n dX11_mostLike_4 rfl ?_
  obtain ⟨pe_5, dd_5, ni_5, xx_5, e_5⟩ := JW.get hJ0 (ctc_0 cA_3)
  refine aw_callVi (J' := jX0_isPerson) (As := [.int n0]) (st := []) dX11_mostLike_5 tb_745 ok_X0_isPerson ⟨_, e_5⟩ (by omega) rfl rfl (g_X0_isPerson l D b N V hN hJ0.1 3 cA_3 n0) rfl (Nat.le_of_ble_eq_true rfl) ⟨Nat.le_of_ble_eq_true rfl, Nat.le_of_ble_eq_true rfl, Nat.le_of_ble_eq_true rfl, Nat.le_of_ble_eq_true rfl⟩ (fun r_6 N_7 V_8 q_9 => ?_)
  obtain ⟨⟨z_4, h_3⟩, rfl, rfl⟩ := q_9
  refine aw_if_ne (tgt := 13) dX11_mostLike_8 (by decide) (fun c_10 => ?_) (fun c_10 => ?_)
  · skip
    refine aw_aload_n dX11_mostLike_13 rfl ?_
    refine aw_get dX11_mostLike_14 fl_X11_19 e_1 (by omega) rfl ?_
    refine aw_iload_n dX11_mostLike_17 rfl ?_
    refine aw_callSi (J' := jX1_nearestTo) (As := [.ref (b + 3), .int n0]) (st := []) dX11_mostLike_18 tb_876 ok_X1_nearestTo rfl (g_X1_nearestTo l D b N V hN hJ0.1 3 cA_3 n0) rfl (Nat.le_of_ble_eq_true rfl) ⟨Nat.le_of_ble_eq_true rfl, Nat.le_of_ble_eq_true rfl, Nat.le_of_ble_eq_true rfl, Nat.le_of_ble_eq_true rfl⟩ (fun r_12 N_13 V_14 q_15 => ?_)
    obtain ⟨rfl, rfl⟩ := q_15
    refine aw_ireti dX11_mostLike_21 rfl (Nat.le_of_ble_eq_true rfl) (Nat.le_of_ble_eq_true rfl) ?_
    exact ⟨rfl, rfl⟩
  · skip
    refine aw_iconst (v := (-1)) dX11_mostLike_11 (by decide) ?_
    refine aw_ireti dX11_mostLike_12 rfl (Nat.le_of_ble_eq_true rfl) (Nat.le_of_ble_eq_true rfl) ?_
    exact ⟨rfl, rfl⟩

set_option maxHeartbeats 4000000 in
set_option maxRecDepth 100000 in
theorem g_X11_circles (l : Launch) (D : va_G) (b : Nat) (N : Nat) (V : Wd) (hN : 100 ≤ N) (hW : CW D b V) (n0 : Int32) (n1 : Int32)  : MI l D b 5 jX11_circles [.ref (b + 0), .int n0, .int n1] N V 0 0 (fun r N9 V9 => N = N9 ∧ JW D b N [(95, 95, 0, 1000000)] V V9) := by
  have hJ0 : JW D b N [(95, 95, 0, 1000000)] V V := JW.rf hW
  refine mw_of (by decide) (by simp [Value.category]) (Nat.le_of_ble_eq_true rfl) ?_
  show AW l D b jX11_circles (fx_rm 5 0 0) none (fx_MQ D b 0 0 (fx_qi (fun r N9 V9 => N = N9 ∧ JW D b N [(95, 95, 0, 1000000)] V V9))) 0 [some (.ref (b + 0)), some (.int n0), some (.int n1)] [] N V 0 0
  refine aw_iload_n dX11_circles_0 rfl ?_
  refine aw_if_lt (tgt := 28) dX11_circles_1 (by decide) (fun c_1 => ?_) (fun c_1 => ?_)
  · skip
    refine aw_iconst (v := (-1)) dX11_circles_28 (by decide) ?_
    refine aw_ireti dX11_circles_29 rfl (Nat.le_of_ble_eq_true rfl) (Nat.le_of_ble_eq_true rfl) ?_
    exact ⟨rfl, hJ0⟩
  · skip
    refine aw_iload_n dX11_circles_4 rfl ?_
    refine aw_sipush (v := 1584) dX11_circles_5 (by decide) ?_
    refine aw_icmp_gt (tgt := 28) dX11_circles_8 (by decide) (fun c_2 => ?_) (fun c_2 => ?_)
    · skip
      refine aw_iconst (v := (-1)) dX11_circles_28 (by decide) ?_
      refine aw_ireti dX11_circles_29 rfl (Nat.le_of_ble_eq_true rfl) (Nat.le_of_ble_eq_true rfl) ?_
      exact ⟨rfl, hJ0⟩
    · skip
      refine aw_iload_n dX11_circles_11 rfl ?_
      refine aw_bipush (v := 100) dX11_circles_12 (by decide) ?_
      refine aw_icmp_eq (tgt := 30) dX11_circles_14 (by decide) (fun c_3 => ?_) (fun c_3 => ?_)
      · skip
        refine aw_aload_n dX11_circles_30 rfl ?_
        obtain ⟨ek_4, x_4, y_4, e_4, hx_4, hy_4⟩ := JW.get hJ0 ct_0
        refine aw_get dX11_circles_31 fl_X11_60 e_4 (by omega) rfl ?_
        refine aw_aload_n dX11_circles_34 rfl ?_
        refine aw_get dX11_circles_35 fl_X11_19 e_4 (by omega) rfl ?_
        refine aw_iload_n dX11_circles_38 rfl ?_
        have e_8 := JW.get hJ0 ct_94
        refine aw_callVv (J' := jX1_linkAlike) (As := [.ref (b + 3), .int n0]) (st := []) dX11_circles_39 tb_885 ok_X1_linkAlike ⟨_, e_8⟩ (by omega) rfl rfl (g_X1_linkAlike l D b N V hN hJ0.1 3 cA_3 n0) rfl (Nat.le_of_ble_eq_true rfl) ⟨Nat.le_of_ble_eq_true rfl, Nat.le_of_ble_eq_true rfl, Nat.le_of_ble_eq_true rfl, Nat.le_of_ble_eq_true rfl⟩ (fun  N_9 V_7 q_10 => ?_)
        obtain ⟨rfl, q_5⟩ := q_10
        have j_6 := JW.trans hJ0 (JW.weak q_5 (Sub.cons LM0 (by decide) (by decide) (by decide) (Or.inl rfl) Sub.nil))
        refine aw_iload_n dX11_circles_42 rfl ?_
        refine aw_bipush (v := 100) dX11_circles_43 (by decide) ?_
        refine aw_icmp_ne (tgt := 65) dX11_circles_45 (by decide) (fun c_11 => ?_) (fun c_11 => ?_)
        · first | exact absurd c_11 c_3 | exact absurd c_3 c_11 | exact absurd c_11 (Int32.not_lt.mpr c_3) | exact absurd c_3 (Int32.not_lt.mpr c_11) | exact c_3 (Int32.not_lt.mp c_11) | exact c_3 (Int32.not_le.mp c_11)
        refine aw_aload_n dX11_circles_48 rfl ?_
        obtain ⟨ek_12, x_12, y_12, e_12, hx_12, hy_12⟩ := JW.get j_6 ct_0
        refine aw_get dX11_circles_49 fl_X11_60 e_12 (by omega) rfl ?_
        refine aw_aload_n dX11_circles_52 rfl ?_
        refine aw_get dX11_circles_53 fl_X11_19 e_12 (by omega) rfl ?_
        obtain ⟨pe_13, dd_13, ni_13, xx_13, e_13⟩ := JW.get j_6 (ctc_0 cA_3)
        refine aw_get dX11_circles_56 fl_X11_212 e_13 (by omega) rfl ?_
        have e_15 := JW.get j_6 ct_94
        refine aw_callVi (J' := jX1_circlesOf) (As := [.int pe_13]) (st := []) dX11_circles_59 tb_889 ok_X1_circlesOf ⟨_, e_15⟩ (by omega) rfl rfl (g_X1_circlesOf l D b N V_7 hN j_6.1 pe_13) rfl (Nat.le_of_ble_eq_true rfl) ⟨Nat.le_of_ble_eq_true rfl, Nat.le_of_ble_eq_true rfl, Nat.le_of_ble_eq_true rfl, Nat.le_of_ble_eq_true rfl⟩ (fun r_16 N_17 V_18 q_19 => ?_)
        obtain ⟨rfl, rfl⟩ := q_19
        refine aw_goto (tgt := 80) dX11_circles_62 (by decide) ?_
        refine aw_ireti dX11_circles_80 rfl (Nat.le_of_ble_eq_true rfl) (Nat.le_of_ble_eq_true rfl) ?_
        exact ⟨rfl, j_6⟩
      · skip
        refine aw_aload_n dX11_circles_17 rfl ?_
        obtain ⟨ek_20, x_20, y_20, e_20, hx_20, hy_20⟩ := JW.get hJ0 ct_0
        refine aw_get dX11_circles_18 fl_X11_19 e_20 (by omega) rfl ?_
        refine aw_iload_n dX11_circles_21 rfl ?_
        obtain ⟨pe_24, dd_24, ni_24, xx_24, e_24⟩ := JW.get hJ0 (ctc_0 cA_3)
        refine aw_callVi (J' := jX0_isPerson) (As := [.int n1]) (st := []) dX11_circles_22 tb_745 ok_X0_isPerson ⟨_, e_24⟩ (by omega) rfl rfl (g_X0_isPerson l D b N V hN hJ0.1 3 cA_3 n1) rfl (Nat.le_of_ble_eq_true rfl) ⟨Nat.le_of_ble_eq_true rfl, Nat.le_of_ble_eq_true rfl, Nat.le_of_ble_eq_true rfl, Nat.le_of_ble_eq_true rfl⟩ (fun r_25 N_26 V_27 q_28 => ?_)
        obtain ⟨⟨z_23, h_22⟩, rfl, rfl⟩ := q_28
        refine aw_if_ne (tgt := 30) dX11_circles_25 (by decide) (fun c_29 => ?_) (fun c_29 => ?_)
        · skip
          refine aw_aload_n dX11_circles_30 rfl ?_
          refine aw_get dX11_circles_31 fl_X11_60 e_20 (by omega) rfl ?_
          refine aw_aload_n dX11_circles_34 rfl ?_
          refine aw_get dX11_circles_35 fl_X11_19 e_20 (by omega) rfl ?_
          refine aw_iload_n dX11_circles_38 rfl ?_
          have e_33 := JW.get hJ0 ct_94
          refine aw_callVv (J' := jX1_linkAlike) (As := [.ref (b + 3), .int n0]) (st := []) dX11_circles_39 tb_885 ok_X1_linkAlike ⟨_, e_33⟩ (by omega) rfl rfl (g_X1_linkAlike l D b N V hN hJ0.1 3 cA_3 n0) rfl (Nat.le_of_ble_eq_true rfl) ⟨Nat.le_of_ble_eq_true rfl, Nat.le_of_ble_eq_true rfl, Nat.le_of_ble_eq_true rfl, Nat.le_of_ble_eq_true rfl⟩ (fun  N_34 V_32 q_35 => ?_)
          obtain ⟨rfl, q_30⟩ := q_35
          have j_31 := JW.trans hJ0 (JW.weak q_30 (Sub.cons LM0 (by decide) (by decide) (by decide) (Or.inl rfl) Sub.nil))
          refine aw_iload_n dX11_circles_42 rfl ?_
          refine aw_bipush (v := 100) dX11_circles_43 (by decide) ?_
          refine aw_icmp_ne (tgt := 65) dX11_circles_45 (by decide) (fun c_36 => ?_) (fun c_36 => ?_)
          rotate_left
          · first | exact absurd c_3 c_36 | exact absurd c_36 c_3
          refine aw_aload_n dX11_circles_65 rfl ?_
          obtain ⟨ek_37, x_37, y_37, e_37, hx_37, hy_37⟩ := JW.get j_31 ct_0
          refine aw_get dX11_circles_66 fl_X11_60 e_37 (by omega) rfl ?_
          refine aw_iload_n dX11_circles_69 rfl ?_
          refine aw_aload_n dX11_circles_70 rfl ?_
          refine aw_get dX11_circles_71 fl_X11_19 e_37 (by omega) rfl ?_
          obtain ⟨pe_38, dd_38, ni_38, xx_38, e_38⟩ := JW.get j_31 (ctc_0 cA_3)
          refine aw_get dX11_circles_74 fl_X11_212 e_38 (by omega) rfl ?_
          have e_40 := JW.get j_31 ct_94
          refine aw_callVi (J' := jX1_circleOf) (As := [.int n1, .int pe_38]) (st := []) dX11_circles_77 tb_903 ok_X1_circleOf ⟨_, e_40⟩ (by omega) rfl rfl (g_X1_circleOf l D b N V_32 hN j_31.1 n1 pe_38) rfl (Nat.le_of_ble_eq_true rfl) ⟨Nat.le_of_ble_eq_true rfl, Nat.le_of_ble_eq_true rfl, Nat.le_of_ble_eq_true rfl, Nat.le_of_ble_eq_true rfl⟩ (fun r_41 N_42 V_43 q_44 => ?_)
          obtain ⟨rfl, rfl⟩ := q_44
          refine aw_ireti dX11_circles_80 rfl (Nat.le_of_ble_eq_true rfl) (Nat.le_of_ble_eq_true rfl) ?_
          exact ⟨rfl, j_31⟩
        · skip
          refine aw_iconst (v := (-1)) dX11_circles_28 (by decide) ?_
          refine aw_ireti dX11_circles_29 rfl (Nat.le_of_ble_eq_true rfl) (Nat.le_of_ble_eq_true rfl) ?_
          exact ⟨rfl, hJ0⟩

set_option maxHeartbeats 4000000 in
set_option maxRecDepth 100000 in
theorem g_X11_keystones (l : Launch) (D : va_G) (b : Nat) (N : Nat) (V : Wd) (hN : 100 ≤ N) (hW : CW D b V)   : MI l D b 4 jX11_keystones [.ref (b + 0)] N V 0 0 (fun r N9 V9 => N = N9 ∧ V = V9) := by
  have hJ0 : JW D b N [] V V := JW.rf hW
  refine mw_of (by decide) (by simp [Value.category]) (Nat.le_of_ble_eq_true rfl) ?_
  show AW l D b jX11_keystones (fx_rm 4 0 0) none (fx_MQ D b 0 0 (fx_qi (fun r N9 V9 => N = N9 ∧ V = V9))) 0 [some (.ref (b + 0))] [] N V 0 0
  refine aw_aload_n dX11_keystones_0 rfl ?_
  obtain ⟨ek_1, x_1, y_1, e_1, hx_1, hy_1⟩ := JW.get hJ0 ct_0
  refine aw_get dX11_keystones_1 fl_X11_19 e_1 (by omega) rfl ?_
  refine aw_callSi (J' := jX1_holdersTogether) (As := [.ref (b + 3)]) (st := []) dX11_keystones_4 tb_908 ok_X1_holdersTogether rfl (g_X1_holdersTogether l D b N V hN hJ0.1 3 cA_3) rfl (Nat.le_of_ble_eq_true rfl) ⟨Nat.le_of_ble_eq_true rfl, Nat.le_of_ble_eq_true rfl, Nat.le_of_ble_eq_true rfl, Nat.le_of_ble_eq_true rfl⟩ (fun r_3 N_4 V_5 q_6 => ?_)
  obtain ⟨rfl, rfl⟩ := q_6
  refine aw_ireti dX11_keystones_7 rfl (Nat.le_of_ble_eq_true rfl) (Nat.le_of_ble_eq_true rfl) ?_
  exact ⟨rfl, rfl⟩

set_option maxHeartbeats 4000000 in
set_option maxRecDepth 100000 in
theorem g_X11_steps (l : Launch) (D : va_G) (b : Nat) (N : Nat) (V : Wd) (hN : 100 ≤ N) (hW : CW D b V) (n0 : Int32) (n1 : Int32)  : MI l D b 3 jX11_steps [.ref (b + 0), .int n0, .int n1] N V 0 0 (fun r N9 V9 => N = N9 ∧ V = V9) := by
  have hJ0 : JW D b N [] V V := JW.rf hW
  refine mw_of (by decide) (by simp [Value.category]) (Nat.le_of_ble_eq_true rfl) ?_
  show AW l D b jX11_steps (fx_rm 3 0 0) none (fx_MQ D b 0 0 (fx_qi (fun r N9 V9 => N = N9 ∧ V = V9))) 0 [some (.ref (b + 0)), some (.int n0), some (.int n1)] [] N V 0 0
  refine aw_aload_n dX11_steps_0 rfl ?_
  obtain ⟨ek_1, x_1, y_1, e_1, hx_1, hy_1⟩ := JW.get hJ0 ct_0
  refine aw_get dX11_steps_1 fl_X11_19 e_1 (by omega) rfl ?_
  refine aw_iload_n dX11_steps_4 rfl ?_
  obtain ⟨pe_5, dd_5, ni_5, xx_5, e_5⟩ := JW.get hJ0 (ctc_0 cA_3)
  refine aw_callVi (J' := jX0_isPerson) (As := [.int n0]) (st := []) dX11_steps_5 tb_745 ok_X0_isPerson ⟨_, e_5⟩ (by omega) rfl rfl (g_X0_isPerson l D b N V hN hJ0.1 3 cA_3 n0) rfl (Nat.le_of_ble_eq_true rfl) ⟨Nat.le_of_ble_eq_true rfl, Nat.le_of_ble_eq_true rfl, Nat.le_of_ble_eq_true rfl, Nat.le_of_ble_eq_true rfl⟩ (fun r_6 N_7 V_8 q_9 => ?_)
  obtain ⟨⟨z_4, h_3⟩, rfl, rfl⟩ := q_9
  refine aw_if_eq (tgt := 22) dX11_steps_8 (by decide) (fun c_10 => ?_) (fun c_10 => ?_)
  · skip
    refine aw_iconst (v := (-1)) dX11_steps_22 (by decide) ?_
    refine aw_ireti dX11_steps_23 rfl (Nat.le_of_ble_eq_true rfl) (Nat.le_of_ble_eq_true rfl) ?_
    exact ⟨rfl, rfl⟩
  · skip
    refine aw_aload_n dX11_steps_11 rfl ?_
    refine aw_get dX11_steps_12 fl_X11_19 e_1 (by omega) rfl ?_
    refine aw_iload_n dX11_steps_15 rfl ?_
    refine aw_callVi (J' := jX0_isPerson) (As := [.int n1]) (st := []) dX11_steps_16 tb_745 ok_X0_isPerson ⟨_, e_5⟩ (by omega) rfl rfl (g_X0_isPerson l D b N V hN hJ0.1 3 cA_3 n1) rfl (Nat.le_of_ble_eq_true rfl) ⟨Nat.le_of_ble_eq_true rfl, Nat.le_of_ble_eq_true rfl, Nat.le_of_ble_eq_true rfl, Nat.le_of_ble_eq_true rfl⟩ (fun r_14 N_15 V_16 q_17 => ?_)
    obtain ⟨⟨z_13, h_12⟩, rfl, rfl⟩ := q_17
    refine aw_if_ne (tgt := 24) dX11_steps_19 (by decide) (fun c_18 => ?_) (fun c_18 => ?_)
    · skip
      refine aw_aload_n dX11_steps_24 rfl ?_
      refine aw_get dX11_steps_25 fl_X11_19 e_1 (by omega) rfl ?_
      refine aw_iload_n dX11_steps_28 rfl ?_
      refine aw_iload_n dX11_steps_29 rfl ?_
      refine aw_callSi (J' := jX1_stepsBetween) (As := [.ref (b + 3), .int n0, .int n1]) (st := []) dX11_steps_30 tb_915 ok_X1_stepsBetween rfl (g_X1_stepsBetween l D b N V hN hJ0.1 3 cA_3 n0 n1) rfl (Nat.le_of_ble_eq_true rfl) ⟨Nat.le_of_ble_eq_true rfl, Nat.le_of_ble_eq_true rfl, Nat.le_of_ble_eq_true rfl, Nat.le_of_ble_eq_true rfl⟩ (fun r_20 N_21 V_22 q_23 => ?_)
      obtain ⟨rfl, rfl⟩ := q_23
      refine aw_ireti dX11_steps_33 rfl (Nat.le_of_ble_eq_true rfl) (Nat.le_of_ble_eq_true rfl) ?_
      exact ⟨rfl, rfl⟩
    · skip
      refine aw_iconst (v := (-1)) dX11_steps_22 (by decide) ?_
      refine aw_ireti dX11_steps_23 rfl (Nat.le_of_ble_eq_true rfl) (Nat.le_of_ble_eq_true rfl) ?_
      exact ⟨rfl, rfl⟩

set_option maxHeartbeats 4000000 in
set_option maxRecDepth 100000 in
theorem g_X11_guess (l : Launch) (D : va_G) (b : Nat) (N : Nat) (V : Wd) (hN : 100 ≤ N) (hW : CW D b V) (n0 : Int32) (n1 : Int32)  : MI l D b 5 jX11_guess [.ref (b + 0), .int n0, .int n1] N V 0 0 (fun r N9 V9 => N = N9 ∧ JW D b N [(1, 1, 2, 2), (1, 1, 3, 3), (1, 1, 4, 4), (1, 1, 1, 1)] V V9) := by
  have hJ0 : JW D b N [(1, 1, 2, 2), (1, 1, 3, 3), (1, 1, 4, 4), (1, 1, 1, 1)] V V := JW.rf hW
  refine mw_of (by decide) (by simp [Value.category]) (Nat.le_of_ble_eq_true rfl) ?_
  show AW l D b jX11_guess (fx_rm 5 0 0) none (fx_MQ D b 0 0 (fx_qi (fun r N9 V9 => N = N9 ∧ JW D b N [(1, 1, 2, 2), (1, 1, 3, 3), (1, 1, 4, 4), (1, 1, 1, 1)] V V9))) 0 [some (.ref (b + 0)), some (.int n0), some (.int n1), none, none, none, none, none] [] N V 0 0
  refine aw_iload_n dX11_guess_0 rfl ?_
  refine aw_if_lt (tgt := 14) dX11_guess_1 (by decide) (fun c_1 => ?_) (fun c_1 => ?_)
  · skip
    refine aw_iconst (v := 0) dX11_guess_14 (by decide) ?_
    refine aw_istore_n (ls' := [some (.ref (b + 0)), some (.int n0), some (.int n1), some (.int 0), none, none, none, none]) dX11_guess_15 (Nat.le_of_ble_eq_true rfl) rfl ?_
    refine aw_iload_n dX11_guess_16 rfl ?_
    refine aw_bipush (v := 20) dX11_guess_17 (by decide) ?_
    refine aw_icmp_lt (tgt := 32) dX11_guess_19 (by decide) (fun c_2 => ?_) (fun c_2 => ?_)
    · skip
      refine aw_iconst (v := 0) dX11_guess_32 (by decide) ?_
      refine aw_istore (ls' := [some (.ref (b + 0)), some (.int n0), some (.int n1), some (.int 0), some (.int 0), none, none, none]) dX11_guess_33 (Nat.le_of_ble_eq_true rfl) rfl ?_
      refine aw_iload_n dX11_guess_35 rfl ?_
      refine aw_if_ne (tgt := 52) dX11_guess_36 (by decide) (fun c_3 => ?_) (fun c_3 => ?_)
      · exact absurd rfl c_3
      refine aw_iload dX11_guess_39 rfl ?_
      refine aw_if_ne (tgt := 52) dX11_guess_41 (by decide) (fun c_4 => ?_) (fun c_4 => ?_)
      · exact absurd rfl c_4
      refine aw_iload_n dX11_guess_44 rfl ?_
      refine aw_bipush (v := 100) dX11_guess_45 (by decide) ?_
      refine aw_icmp_eq (tgt := 52) dX11_guess_47 (by decide) (fun c_5 => ?_) (fun c_5 => ?_)
      · skip
        refine aw_iload_n dX11_guess_52 rfl ?_
        refine aw_iconst (v := 1) dX11_guess_53 (by decide) ?_
        refine aw_icmp_lt (tgt := 79) dX11_guess_54 (by decide) (fun c_6 => ?_) (fun c_6 => ?_)
        · skip
          refine aw_iconst (v := (-1)) dX11_guess_79 (by decide) ?_
          refine aw_ireti dX11_guess_80 rfl (Nat.le_of_ble_eq_true rfl) (Nat.le_of_ble_eq_true rfl) ?_
          exact ⟨rfl, hJ0⟩
        · skip
          refine aw_iload_n dX11_guess_57 rfl ?_
          refine aw_bipush (v := 12) dX11_guess_58 (by decide) ?_
          refine aw_icmp_gt (tgt := 79) dX11_guess_60 (by decide) (fun c_7 => ?_) (fun c_7 => ?_)
          · skip
            refine aw_iconst (v := (-1)) dX11_guess_79 (by decide) ?_
            refine aw_ireti dX11_guess_80 rfl (Nat.le_of_ble_eq_true rfl) (Nat.le_of_ble_eq_true rfl) ?_
            exact ⟨rfl, hJ0⟩
          · skip
            refine aw_aload_n dX11_guess_63 rfl ?_
            obtain ⟨ek_8, x_8, y_8, e_8, hx_8, hy_8⟩ := JW.get hJ0 ct_0
            refine aw_get dX11_guess_64 fl_X11_12 e_8 (by omega) rfl ?_
            refine aw_iconst (v := 2) dX11_guess_67 (by decide) ?_
            refine aw_iload_n dX11_guess_68 rfl ?_
            refine aw_imul dX11_guess_69 ?_
            refine aw_iconst (v := 2) dX11_guess_70 (by decide) ?_
            refine aw_bipush (v := 24) dX11_guess_71 (by decide) ?_
            obtain ⟨ts_11, tn_11, tf_11, ta_11, e_11, hta_11⟩ := JW.get hJ0 ct_1
            refine aw_callVi (J' := jX10_holds) (As := [.int (2 * n0), .int 2, .int 24]) (st := []) dX11_guess_73 tb_267 ok_X10_holds ⟨_, e_11⟩ (by omega) rfl rfl (g_X10_holds l D b N V hN hJ0.1 (2 * n0) 2 24) rfl (Nat.le_of_ble_eq_true rfl) ⟨Nat.le_of_ble_eq_true rfl, Nat.le_of_ble_eq_true rfl, Nat.le_of_ble_eq_true rfl, Nat.le_of_ble_eq_true rfl⟩ (fun r_12 N_13 V_14 q_15 => ?_)
            obtain ⟨h_10, rfl, rfl⟩ := q_15
            refine aw_if_ne (tgt := 81) dX11_guess_76 (by decide) (fun c_16 => ?_) (fun c_16 => ?_)
            · skip
              refine aw_aload_n dX11_guess_81 rfl ?_
              refine aw_get dX11_guess_82 fl_X11_12 e_8 (by omega) rfl ?_
              refine aw_iconst (v := 2) dX11_guess_85 (by decide) ?_
              refine aw_iload_n dX11_guess_86 rfl ?_
              refine aw_imul dX11_guess_87 ?_
              refine aw_callVv (J' := jX10_take) (As := [.int (2 * n0)]) (st := []) dX11_guess_88 tb_271 ok_X10_take ⟨_, e_11⟩ (by omega) rfl rfl (g_X10_take l D b N V hN hJ0.1 (2 * n0)) rfl (Nat.le_of_ble_eq_true rfl) ⟨Nat.le_of_ble_eq_true rfl, Nat.le_of_ble_eq_true rfl, Nat.le_of_ble_eq_true rfl, Nat.le_of_ble_eq_true rfl⟩ (fun  N_20 V_19 q_21 => ?_)
              obtain ⟨rfl, q_17⟩ := q_21
              have j_18 := JW.trans hJ0 (JW.weak q_17 (Sub.cons LM0 (by decide) (by decide) (by decide) (Or.inr ⟨by decide, by decide⟩) (Sub.cons (LMs LM0) (by decide) (by decide) (by decide) (Or.inr ⟨by decide, by decide⟩) (Sub.cons (LMs (LMs LM0)) (by decide) (by decide) (by decide) (Or.inr ⟨by decide, by decide⟩) (Sub.cons (LMs (LMs (LMs LM0))) (by decide) (by decide) (by decide) (Or.inr ⟨by decide, by decide⟩) Sub.nil)))))
              refine aw_aload_n dX11_guess_91 rfl ?_
              obtain ⟨ek_22, x_22, y_22, e_22, hx_22, hy_22⟩ := JW.get j_18 ct_0
              refine aw_get dX11_guess_92 fl_X11_12 e_22 (by omega) rfl ?_
              refine aw_aload_n dX11_guess_95 rfl ?_
              refine aw_get dX11_guess_96 fl_X11_19 e_22 (by omega) rfl ?_
              refine aw_iload_n dX11_guess_99 rfl ?_
              refine aw_callSi (J' := jX3_triesFit) (As := [.ref (b + 1), .ref (b + 3), .int n0]) (st := []) dX11_guess_100 tb_922 ok_X3_triesFit rfl (g_X3_triesFit l D b N V_19 hN j_18.1 3 cA_3 n0) rfl (Nat.le_of_ble_eq_true rfl) ⟨Nat.le_of_ble_eq_true rfl, Nat.le_of_ble_eq_true rfl, Nat.le_of_ble_eq_true rfl, Nat.le_of_ble_eq_true rfl⟩ (fun r_25 N_26 V_27 q_28 => ?_)
              obtain ⟨h_24, rfl, rfl⟩ := q_28
              refine aw_if_ne (tgt := 109) dX11_guess_103 (by decide) (fun c_29 => ?_) (fun c_29 => ?_)
              · skip
                refine aw_iload_n dX11_guess_109 rfl ?_
                refine aw_bipush (v := 100) dX11_guess_110 (by decide) ?_
                refine aw_icmp_ne (tgt := 128) dX11_guess_112 (by decide) (fun c_30 => ?_) (fun c_30 => ?_)
                · first | exact absurd c_30 c_5 | exact absurd c_5 c_30 | exact absurd c_30 (Int32.not_lt.mpr c_5) | exact absurd c_5 (Int32.not_lt.mpr c_30) | exact c_5 (Int32.not_lt.mp c_30) | exact c_5 (Int32.not_le.mp c_30)
                refine aw_aload_n dX11_guess_115 rfl ?_
                refine aw_get dX11_guess_116 fl_X11_12 e_22 (by omega) rfl ?_
                refine aw_aload_n dX11_guess_119 rfl ?_
                refine aw_get dX11_guess_120 fl_X11_19 e_22 (by omega) rfl ?_
                refine aw_iload_n dX11_guess_123 rfl ?_
                refine aw_callSi (J' := jX3_possibleFears) (As := [.ref (b + 1), .ref (b + 3), .int n0]) (st := []) dX11_guess_124 tb_930 ok_X3_possibleFears rfl (g_X3_possibleFears l D b N V_19 hN j_18.1 3 cA_3 n0) rfl (Nat.le_of_ble_eq_true rfl) ⟨Nat.le_of_ble_eq_true rfl, Nat.le_of_ble_eq_true rfl, Nat.le_of_ble_eq_true rfl, Nat.le_of_ble_eq_true rfl⟩ (fun r_32 N_33 V_34 q_35 => ?_)
                obtain ⟨rfl, rfl⟩ := q_35
                refine aw_ireti dX11_guess_127 rfl (Nat.le_of_ble_eq_true rfl) (Nat.le_of_ble_eq_true rfl) ?_
                exact ⟨rfl, j_18⟩
              · skip
                refine aw_bipush (v := (-3)) dX11_guess_106 (by decide) ?_
                refine aw_ireti dX11_guess_108 rfl (Nat.le_of_ble_eq_true rfl) (Nat.le_of_ble_eq_true rfl) ?_
                exact ⟨rfl, j_18⟩
            · skip
              refine aw_iconst (v := (-1)) dX11_guess_79 (by decide) ?_
              refine aw_ireti dX11_guess_80 rfl (Nat.le_of_ble_eq_true rfl) (Nat.le_of_ble_eq_true rfl) ?_
              exact ⟨rfl, hJ0⟩
      · skip
        refine aw_iconst (v := (-1)) dX11_guess_50 (by decide) ?_
        refine aw_ireti dX11_guess_51 rfl (Nat.le_of_ble_eq_true rfl) (Nat.le_of_ble_eq_true rfl) ?_
        exact ⟨rfl, hJ0⟩
    · skip
      refine aw_iload_n dX11_guess_22 rfl ?_
      refine aw_bipush (v := 36) dX11_guess_23 (by decide) ?_
      refine aw_icmp_ge (tgt := 32) dX11_guess_25 (by decide) (fun c_36 => ?_) (fun c_36 => ?_)
      · skip
        refine aw_iconst (v := 0) dX11_guess_32 (by decide) ?_
        refine aw_istore (ls' := [some (.ref (b + 0)), some (.int n0), some (.int n1), some (.int 0), some (.int 0), none, none, none]) dX11_guess_33 (Nat.le_of_ble_eq_true rfl) rfl ?_
        refine aw_iload_n dX11_guess_35 rfl ?_
        refine aw_if_ne (tgt := 52) dX11_guess_36 (by decide) (fun c_37 => ?_) (fun c_37 => ?_)
        · exact absurd rfl c_37
        refine aw_iload dX11_guess_39 rfl ?_
        refine aw_if_ne (tgt := 52) dX11_guess_41 (by decide) (fun c_38 => ?_) (fun c_38 => ?_)
        · exact absurd rfl c_38
        refine aw_iload_n dX11_guess_44 rfl ?_
        refine aw_bipush (v := 100) dX11_guess_45 (by decide) ?_
        refine aw_icmp_eq (tgt := 52) dX11_guess_47 (by decide) (fun c_39 => ?_) (fun c_39 => ?_)
        · skip
          refine aw_iload_n dX11_guess_52 rfl ?_
          refine aw_iconst (v := 1) dX11_guess_53 (by decide) ?_
          refine aw_icmp_lt (tgt := 79) dX11_guess_54 (by decide) (fun c_40 => ?_) (fun c_40 => ?_)
          · skip
            refine aw_iconst (v := (-1)) dX11_guess_79 (by decide) ?_
            refine aw_ireti dX11_guess_80 rfl (Nat.le_of_ble_eq_true rfl) (Nat.le_of_ble_eq_true rfl) ?_
            exact ⟨rfl, hJ0⟩
          · skip
            refine aw_iload_n dX11_guess_57 rfl ?_
            refine aw_bipush (v := 12) dX11_guess_58 (by decide) ?_
            refine aw_icmp_gt (tgt := 79) dX11_guess_60 (by decide) (fun c_41 => ?_) (fun c_41 => ?_)
            · skip
              refine aw_iconst (v := (-1)) dX11_guess_79 (by decide) ?_
              refine aw_ireti dX11_guess_80 rfl (Nat.le_of_ble_eq_true rfl) (Nat.le_of_ble_eq_true rfl) ?_
              exact ⟨rfl, hJ0⟩
            · skip
              refine aw_aload_n dX11_guess_63 rfl ?_
              obtain ⟨ek_42, x_42, y_42, e_42, hx_42, hy_42⟩ := JW.get hJ0 ct_0
              refine aw_get dX11_guess_64 fl_X11_12 e_42 (by omega) rfl ?_
              refine aw_iconst (v := 2) dX11_guess_67 (by decide) ?_
              refine aw_iload_n dX11_guess_68 rfl ?_
              refine aw_imul dX11_guess_69 ?_
              refine aw_iconst (v := 2) dX11_guess_70 (by decide) ?_
              refine aw_bipush (v := 24) dX11_guess_71 (by decide) ?_
              obtain ⟨ts_45, tn_45, tf_45, ta_45, e_45, hta_45⟩ := JW.get hJ0 ct_1
              refine aw_callVi (J' := jX10_holds) (As := [.int (2 * n0), .int 2, .int 24]) (st := []) dX11_guess_73 tb_267 ok_X10_holds ⟨_, e_45⟩ (by omega) rfl rfl (g_X10_holds l D b N V hN hJ0.1 (2 * n0) 2 24) rfl (Nat.le_of_ble_eq_true rfl) ⟨Nat.le_of_ble_eq_true rfl, Nat.le_of_ble_eq_true rfl, Nat.le_of_ble_eq_true rfl, Nat.le_of_ble_eq_true rfl⟩ (fun r_46 N_47 V_48 q_49 => ?_)
              obtain ⟨h_44, rfl, rfl⟩ := q_49
              refine aw_if_ne (tgt := 81) dX11_guess_76 (by decide) (fun c_50 => ?_) (fun c_50 => ?_)
              · skip
                refine aw_aload_n dX11_guess_81 rfl ?_
                refine aw_get dX11_guess_82 fl_X11_12 e_42 (by omega) rfl ?_
                refine aw_iconst (v := 2) dX11_guess_85 (by decide) ?_
                refine aw_iload_n dX11_guess_86 rfl ?_
                refine aw_imul dX11_guess_87 ?_
                refine aw_callVv (J' := jX10_take) (As := [.int (2 * n0)]) (st := []) dX11_guess_88 tb_271 ok_X10_take ⟨_, e_45⟩ (by omega) rfl rfl (g_X10_take l D b N V hN hJ0.1 (2 * n0)) rfl (Nat.le_of_ble_eq_true rfl) ⟨Nat.le_of_ble_eq_true rfl, Nat.le_of_ble_eq_true rfl, Nat.le_of_ble_eq_true rfl, Nat.le_of_ble_eq_true rfl⟩ (fun  N_54 V_53 q_55 => ?_)
                obtain ⟨rfl, q_51⟩ := q_55
                have j_52 := JW.trans hJ0 (JW.weak q_51 (Sub.cons LM0 (by decide) (by decide) (by decide) (Or.inr ⟨by decide, by decide⟩) (Sub.cons (LMs LM0) (by decide) (by decide) (by decide) (Or.inr ⟨by decide, by decide⟩) (Sub.cons (LMs (LMs LM0)) (by decide) (by decide) (by decide) (Or.inr ⟨by decide, by decide⟩) (Sub.cons (LMs (LMs (LMs LM0))) (by decide) (by decide) (by decide) (Or.inr ⟨by decide, by decide⟩) Sub.nil)))))
                refine aw_aload_n dX11_guess_91 rfl ?_
                obtain ⟨ek_56, x_56, y_56, e_56, hx_56, hy_56⟩ := JW.get j_52 ct_0
                refine aw_get dX11_guess_92 fl_X11_12 e_56 (by omega) rfl ?_
                refine aw_aload_n dX11_guess_95 rfl ?_
                refine aw_get dX11_guess_96 fl_X11_19 e_56 (by omega) rfl ?_
                refine aw_iload_n dX11_guess_99 rfl ?_
                refine aw_callSi (J' := jX3_triesFit) (As := [.ref (b + 1), .ref (b + 3), .int n0]) (st := []) dX11_guess_100 tb_922 ok_X3_triesFit rfl (g_X3_triesFit l D b N V_53 hN j_52.1 3 cA_3 n0) rfl (Nat.le_of_ble_eq_true rfl) ⟨Nat.le_of_ble_eq_true rfl, Nat.le_of_ble_eq_true rfl, Nat.le_of_ble_eq_true rfl, Nat.le_of_ble_eq_true rfl⟩ (fun r_59 N_60 V_61 q_62 => ?_)
                obtain ⟨h_58, rfl, rfl⟩ := q_62
                refine aw_if_ne (tgt := 109) dX11_guess_103 (by decide) (fun c_63 => ?_) (fun c_63 => ?_)
                · skip
                  refine aw_iload_n dX11_guess_109 rfl ?_
                  refine aw_bipush (v := 100) dX11_guess_110 (by decide) ?_
                  refine aw_icmp_ne (tgt := 128) dX11_guess_112 (by decide) (fun c_64 => ?_) (fun c_64 => ?_)
                  · first | exact absurd c_64 c_39 | exact absurd c_39 c_64 | exact absurd c_64 (Int32.not_lt.mpr c_39) | exact absurd c_39 (Int32.not_lt.mpr c_64) | exact c_39 (Int32.not_lt.mp c_64) | exact c_39 (Int32.not_le.mp c_64)
                  refine aw_aload_n dX11_guess_115 rfl ?_
                  refine aw_get dX11_guess_116 fl_X11_12 e_56 (by omega) rfl ?_
                  refine aw_aload_n dX11_guess_119 rfl ?_
                  refine aw_get dX11_guess_120 fl_X11_19 e_56 (by omega) rfl ?_
                  refine aw_iload_n dX11_guess_123 rfl ?_
                  refine aw_callSi (J' := jX3_possibleFears) (As := [.ref (b + 1), .ref (b + 3), .int n0]) (st := []) dX11_guess_124 tb_930 ok_X3_possibleFears rfl (g_X3_possibleFears l D b N V_53 hN j_52.1 3 cA_3 n0) rfl (Nat.le_of_ble_eq_true rfl) ⟨Nat.le_of_ble_eq_true rfl, Nat.le_of_ble_eq_true rfl, Nat.le_of_ble_eq_true rfl, Nat.le_of_ble_eq_true rfl⟩ (fun r_66 N_67 V_68 q_69 => ?_)
                  obtain ⟨rfl, rfl⟩ := q_69
                  refine aw_ireti dX11_guess_127 rfl (Nat.le_of_ble_eq_true rfl) (Nat.le_of_ble_eq_true rfl) ?_
                  exact ⟨rfl, j_52⟩
                · skip
                  refine aw_bipush (v := (-3)) dX11_guess_106 (by decide) ?_
                  refine aw_ireti dX11_guess_108 rfl (Nat.le_of_ble_eq_true rfl) (Nat.le_of_ble_eq_true rfl) ?_
                  exact ⟨rfl, j_52⟩
              · skip
                refine aw_iconst (v := (-1)) dX11_guess_79 (by decide) ?_
                refine aw_ireti dX11_guess_80 rfl (Nat.le_of_ble_eq_true rfl) (Nat.le_of_ble_eq_true rfl) ?_
                exact ⟨rfl, hJ0⟩
        · skip
          refine aw_iconst (v := (-1)) dX11_guess_50 (by decide) ?_
          refine aw_ireti dX11_guess_51 rfl (Nat.le_of_ble_eq_true rfl) (Nat.le_of_ble_eq_true rfl) ?_
          exact ⟨rfl, hJ0⟩
      · skip
        refine aw_iconst (v := 1) dX11_guess_28 (by decide) ?_
        refine aw_goto (tgt := 33) dX11_guess_29 (by decide) ?_
        refine aw_istore (ls' := [some (.ref (b + 0)), some (.int n0), some (.int n1), some (.int 0), some (.int 1), none, none, none]) dX11_guess_33 (Nat.le_of_ble_eq_true rfl) rfl ?_
        refine aw_iload_n dX11_guess_35 rfl ?_
        refine aw_if_ne (tgt := 52) dX11_guess_36 (by decide) (fun c_70 => ?_) (fun c_70 => ?_)
        · exact absurd rfl c_70
        refine aw_iload dX11_guess_39 rfl ?_
        refine aw_if_ne (tgt := 52) dX11_guess_41 (by decide) (fun c_71 => ?_) (fun c_71 => ?_)
        rotate_left
        · exact absurd c_71 (by decide)
        refine aw_iload_n dX11_guess_52 rfl ?_
        refine aw_iconst (v := 1) dX11_guess_53 (by decide) ?_
        refine aw_icmp_lt (tgt := 79) dX11_guess_54 (by decide) (fun c_72 => ?_) (fun c_72 => ?_)
        · skip
          refine aw_iconst (v := (-1)) dX11_guess_79 (by decide) ?_
          refine aw_ireti dX11_guess_80 rfl (Nat.le_of_ble_eq_true rfl) (Nat.le_of_ble_eq_true rfl) ?_
          exact ⟨rfl, hJ0⟩
        · skip
          refine aw_iload_n dX11_guess_57 rfl ?_
          refine aw_bipush (v := 12) dX11_guess_58 (by decide) ?_
          refine aw_icmp_gt (tgt := 79) dX11_guess_60 (by decide) (fun c_73 => ?_) (fun c_73 => ?_)
          · skip
            refine aw_iconst (v := (-1)) dX11_guess_79 (by decide) ?_
            refine aw_ireti dX11_guess_80 rfl (Nat.le_of_ble_eq_true rfl) (Nat.le_of_ble_eq_true rfl) ?_
            exact ⟨rfl, hJ0⟩
          · skip
            refine aw_aload_n dX11_guess_63 rfl ?_
            obtain ⟨ek_74, x_74, y_74, e_74, hx_74, hy_74⟩ := JW.get hJ0 ct_0
            refine aw_get dX11_guess_64 fl_X11_12 e_74 (by omega) rfl ?_
            refine aw_iconst (v := 2) dX11_guess_67 (by decide) ?_
            refine aw_iload_n dX11_guess_68 rfl ?_
            refine aw_imul dX11_guess_69 ?_
            refine aw_iconst (v := 2) dX11_guess_70 (by decide) ?_
            refine aw_bipush (v := 24) dX11_guess_71 (by decide) ?_
            obtain ⟨ts_77, tn_77, tf_77, ta_77, e_77, hta_77⟩ := JW.get hJ0 ct_1
            refine aw_callVi (J' := jX10_holds) (As := [.int (2 * n0), .int 2, .int 24]) (st := []) dX11_guess_73 tb_267 ok_X10_holds ⟨_, e_77⟩ (by omega) rfl rfl (g_X10_holds l D b N V hN hJ0.1 (2 * n0) 2 24) rfl (Nat.le_of_ble_eq_true rfl) ⟨Nat.le_of_ble_eq_true rfl, Nat.le_of_ble_eq_true rfl, Nat.le_of_ble_eq_true rfl, Nat.le_of_ble_eq_true rfl⟩ (fun r_78 N_79 V_80 q_81 => ?_)
            obtain ⟨h_76, rfl, rfl⟩ := q_81
            refine aw_if_ne (tgt := 81) dX11_guess_76 (by decide) (fun c_82 => ?_) (fun c_82 => ?_)
            · skip
              refine aw_aload_n dX11_guess_81 rfl ?_
              refine aw_get dX11_guess_82 fl_X11_12 e_74 (by omega) rfl ?_
              refine aw_iconst (v := 2) dX11_guess_85 (by decide) ?_
              refine aw_iload_n dX11_guess_86 rfl ?_
              refine aw_imul dX11_guess_87 ?_
              refine aw_callVv (J' := jX10_take) (As := [.int (2 * n0)]) (st := []) dX11_guess_88 tb_271 ok_X10_take ⟨_, e_77⟩ (by omega) rfl rfl (g_X10_take l D b N V hN hJ0.1 (2 * n0)) rfl (Nat.le_of_ble_eq_true rfl) ⟨Nat.le_of_ble_eq_true rfl, Nat.le_of_ble_eq_true rfl, Nat.le_of_ble_eq_true rfl, Nat.le_of_ble_eq_true rfl⟩ (fun  N_86 V_85 q_87 => ?_)
              obtain ⟨rfl, q_83⟩ := q_87
              have j_84 := JW.trans hJ0 (JW.weak q_83 (Sub.cons LM0 (by decide) (by decide) (by decide) (Or.inr ⟨by decide, by decide⟩) (Sub.cons (LMs LM0) (by decide) (by decide) (by decide) (Or.inr ⟨by decide, by decide⟩) (Sub.cons (LMs (LMs LM0)) (by decide) (by decide) (by decide) (Or.inr ⟨by decide, by decide⟩) (Sub.cons (LMs (LMs (LMs LM0))) (by decide) (by decide) (by decide) (Or.inr ⟨by decide, by decide⟩) Sub.nil)))))
              refine aw_aload_n dX11_guess_91 rfl ?_
              obtain ⟨ek_88, x_88, y_88, e_88, hx_88, hy_88⟩ := JW.get j_84 ct_0
              refine aw_get dX11_guess_92 fl_X11_12 e_88 (by omega) rfl ?_
              refine aw_aload_n dX11_guess_95 rfl ?_
              refine aw_get dX11_guess_96 fl_X11_19 e_88 (by omega) rfl ?_
              refine aw_iload_n dX11_guess_99 rfl ?_
              refine aw_callSi (J' := jX3_triesFit) (As := [.ref (b + 1), .ref (b + 3), .int n0]) (st := []) dX11_guess_100 tb_922 ok_X3_triesFit rfl (g_X3_triesFit l D b N V_85 hN j_84.1 3 cA_3 n0) rfl (Nat.le_of_ble_eq_true rfl) ⟨Nat.le_of_ble_eq_true rfl, Nat.le_of_ble_eq_true rfl, Nat.le_of_ble_eq_true rfl, Nat.le_of_ble_eq_true rfl⟩ (fun r_91 N_92 V_93 q_94 => ?_)
              obtain ⟨h_90, rfl, rfl⟩ := q_94
              refine aw_if_ne (tgt := 109) dX11_guess_103 (by decide) (fun c_95 => ?_) (fun c_95 => ?_)
              · skip
                refine aw_iload_n dX11_guess_109 rfl ?_
                refine aw_bipush (v := 100) dX11_guess_110 (by decide) ?_
                refine aw_icmp_ne (tgt := 128) dX11_guess_112 (by decide) (fun c_96 => ?_) (fun c_96 => ?_)
                · skip
                  refine aw_iload_n dX11_guess_128 rfl ?_
                  refine aw_if_eq (tgt := 136) dX11_guess_129 (by decide) (fun c_97 => ?_) (fun c_97 => ?_)
                  rotate_left
                  · exact absurd (by decide) c_97
                  refine aw_iload_n dX11_guess_136 rfl ?_
                  refine aw_bipush (v := 20) dX11_guess_137 (by decide) ?_
                  refine aw_isub dX11_guess_139 ?_
                  refine aw_istore (ls' := [some (.ref (b + 0)), some (.int n0), some (.int n1), some (.int 0), some (.int 1), some (.int (n1 - 20)), none, none]) dX11_guess_140 (Nat.le_of_ble_eq_true rfl) rfl ?_
                  refine aw_aload_n dX11_guess_142 rfl ?_
                  refine aw_get dX11_guess_143 fl_X11_12 e_88 (by omega) rfl ?_
                  refine aw_aload_n dX11_guess_146 rfl ?_
                  refine aw_get dX11_guess_147 fl_X11_19 e_88 (by omega) rfl ?_
                  refine aw_iload_n dX11_guess_150 rfl ?_
                  refine aw_iload dX11_guess_151 rfl ?_
                  refine aw_callSi (J' := jX3_leastStrength) (As := [.ref (b + 1), .ref (b + 3), .int n0, .int (n1 - 20)]) (st := []) dX11_guess_153 tb_940 ok_X3_leastStrength rfl (g_X3_leastStrength l D b N V_85 hN j_84.1 3 cA_3 n0 (n1 - 20)) rfl (Nat.le_of_ble_eq_true rfl) ⟨Nat.le_of_ble_eq_true rfl, Nat.le_of_ble_eq_true rfl, Nat.le_of_ble_eq_true rfl, Nat.le_of_ble_eq_true rfl⟩ (fun r_99 N_100 V_101 q_102 => ?_)
                  obtain ⟨rfl, rfl⟩ := q_102
                  refine aw_istore (ls' := [some (.ref (b + 0)), some (.int n0), some (.int n1), some (.int 0), some (.int 1), some (.int (n1 - 20)), some (.int r_99), none]) dX11_guess_156 (Nat.le_of_ble_eq_true rfl) rfl ?_
                  refine aw_aload_n dX11_guess_158 rfl ?_
                  refine aw_get dX11_guess_159 fl_X11_12 e_88 (by omega) rfl ?_
                  refine aw_aload_n dX11_guess_162 rfl ?_
                  refine aw_get dX11_guess_163 fl_X11_19 e_88 (by omega) rfl ?_
                  refine aw_iload_n dX11_guess_166 rfl ?_
                  refine aw_iload dX11_guess_167 rfl ?_
                  refine aw_callSi (J' := jX3_greatestStrength) (As := [.ref (b + 1), .ref (b + 3), .int n0, .int (n1 - 20)]) (st := []) dX11_guess_169 tb_941 ok_X3_greatestStrength rfl (g_X3_greatestStrength l D b N V_85 hN j_84.1 3 cA_3 n0 (n1 - 20)) rfl (Nat.le_of_ble_eq_true rfl) ⟨Nat.le_of_ble_eq_true rfl, Nat.le_of_ble_eq_true rfl, Nat.le_of_ble_eq_true rfl, Nat.le_of_ble_eq_true rfl⟩ (fun r_104 N_105 V_106 q_107 => ?_)
                  obtain ⟨rfl, rfl⟩ := q_107
                  refine aw_istore (ls' := [some (.ref (b + 0)), some (.int n0), some (.int n1), some (.int 0), some (.int 1), some (.int (n1 - 20)), some (.int r_99), some (.int r_104)]) dX11_guess_172 (Nat.le_of_ble_eq_true rfl) rfl ?_
                  refine aw_iload dX11_guess_174 rfl ?_
                  refine aw_iload dX11_guess_176 rfl ?_
                  refine aw_icmp_le (tgt := 184) dX11_guess_178 (by decide) (fun c_108 => ?_) (fun c_108 => ?_)
                  · skip
                    refine aw_iload_n dX11_guess_184 rfl ?_
                    refine aw_if_eq (tgt := 193) dX11_guess_185 (by decide) (fun c_109 => ?_) (fun c_109 => ?_)
                    rotate_left
                    · exact absurd (by decide) c_109
                    refine aw_iload dX11_guess_193 rfl ?_
                    refine aw_ireti dX11_guess_195 rfl (Nat.le_of_ble_eq_true rfl) (Nat.le_of_ble_eq_true rfl) ?_
                    exact ⟨rfl, j_84⟩
                  · skip
                    refine aw_bipush (v := (-2)) dX11_guess_181 (by decide) ?_
                    refine aw_ireti dX11_guess_183 rfl (Nat.le_of_ble_eq_true rfl) (Nat.le_of_ble_eq_true rfl) ?_
                    exact ⟨rfl, j_84⟩
                · skip
                  refine aw_aload_n dX11_guess_115 rfl ?_
                  refine aw_get dX11_guess_116 fl_X11_12 e_88 (by omega) rfl ?_
                  refine aw_aload_n dX11_guess_119 rfl ?_
                  refine aw_get dX11_guess_120 fl_X11_19 e_88 (by omega) rfl ?_
                  refine aw_iload_n dX11_guess_123 rfl ?_
                  refine aw_callSi (J' := jX3_possibleFears) (As := [.ref (b + 1), .ref (b + 3), .int n0]) (st := []) dX11_guess_124 tb_930 ok_X3_possibleFears rfl (g_X3_possibleFears l D b N V_85 hN j_84.1 3 cA_3 n0) rfl (Nat.le_of_ble_eq_true rfl) ⟨Nat.le_of_ble_eq_true rfl, Nat.le_of_ble_eq_true rfl, Nat.le_of_ble_eq_true rfl, Nat.le_of_ble_eq_true rfl⟩ (fun r_111 N_112 V_113 q_114 => ?_)
                  obtain ⟨rfl, rfl⟩ := q_114
                  refine aw_ireti dX11_guess_127 rfl (Nat.le_of_ble_eq_true rfl) (Nat.le_of_ble_eq_true rfl) ?_
                  exact ⟨rfl, j_84⟩
              · skip
                refine aw_bipush (v := (-3)) dX11_guess_106 (by decide) ?_
                refine aw_ireti dX11_guess_108 rfl (Nat.le_of_ble_eq_true rfl) (Nat.le_of_ble_eq_true rfl) ?_
                exact ⟨rfl, j_84⟩
            · skip
              refine aw_iconst (v := (-1)) dX11_guess_79 (by decide) ?_
              refine aw_ireti dX11_guess_80 rfl (Nat.le_of_ble_eq_true rfl) (Nat.le_of_ble_eq_true rfl) ?_
              exact ⟨rfl, hJ0⟩
  · skip
    refine aw_iload_n dX11_guess_4 rfl ?_
    refine aw_bipush (v := 16) dX11_guess_5 (by decide) ?_
    refine aw_icmp_ge (tgt := 14) dX11_guess_7 (by decide) (fun c_115 => ?_) (fun c_115 => ?_)
    · skip
      refine aw_iconst (v := 0) dX11_guess_14 (by decide) ?_
      refine aw_istore_n (ls' := [some (.ref (b + 0)), some (.int n0), some (.int n1), some (.int 0), none, none, none, none]) dX11_guess_15 (Nat.le_of_ble_eq_true rfl) rfl ?_
      refine aw_iload_n dX11_guess_16 rfl ?_
      refine aw_bipush (v := 20) dX11_guess_17 (by decide) ?_
      refine aw_icmp_lt (tgt := 32) dX11_guess_19 (by decide) (fun c_116 => ?_) (fun c_116 => ?_)
      · skip
        refine aw_iconst (v := 0) dX11_guess_32 (by decide) ?_
        refine aw_istore (ls' := [some (.ref (b + 0)), some (.int n0), some (.int n1), some (.int 0), some (.int 0), none, none, none]) dX11_guess_33 (Nat.le_of_ble_eq_true rfl) rfl ?_
        refine aw_iload_n dX11_guess_35 rfl ?_
        refine aw_if_ne (tgt := 52) dX11_guess_36 (by decide) (fun c_117 => ?_) (fun c_117 => ?_)
        · exact absurd rfl c_117
        refine aw_iload dX11_guess_39 rfl ?_
        refine aw_if_ne (tgt := 52) dX11_guess_41 (by decide) (fun c_118 => ?_) (fun c_118 => ?_)
        · exact absurd rfl c_118
        refine aw_iload_n dX11_guess_44 rfl ?_
        refine aw_bipush (v := 100) dX11_guess_45 (by decide) ?_
        refine aw_icmp_eq (tgt := 52) dX11_guess_47 (by decide) (fun c_119 => ?_) (fun c_119 => ?_)
        · skip
          refine aw_iload_n dX11_guess_52 rfl ?_
          refine aw_iconst (v := 1) dX11_guess_53 (by decide) ?_
          refine aw_icmp_lt (tgt := 79) dX11_guess_54 (by decide) (fun c_120 => ?_) (fun c_120 => ?_)
          · skip
            refine aw_iconst (v := (-1)) dX11_guess_79 (by decide) ?_
            refine aw_ireti dX11_guess_80 rfl (Nat.le_of_ble_eq_true rfl) (Nat.le_of_ble_eq_true rfl) ?_
            exact ⟨rfl, hJ0⟩
          · skip
            refine aw_iload_n dX11_guess_57 rfl ?_
            refine aw_bipush (v := 12) dX11_guess_58 (by decide) ?_
            refine aw_icmp_gt (tgt := 79) dX11_guess_60 (by decide) (fun c_121 => ?_) (fun c_121 => ?_)
            · skip
              refine aw_iconst (v := (-1)) dX11_guess_79 (by decide) ?_
              refine aw_ireti dX11_guess_80 rfl (Nat.le_of_ble_eq_true rfl) (Nat.le_of_ble_eq_true rfl) ?_
              exact ⟨rfl, hJ0⟩
            · skip
              refine aw_aload_n dX11_guess_63 rfl ?_
              obtain ⟨ek_122, x_122, y_122, e_122, hx_122, hy_122⟩ := JW.get hJ0 ct_0
              refine aw_get dX11_guess_64 fl_X11_12 e_122 (by omega) rfl ?_
              refine aw_iconst (v := 2) dX11_guess_67 (by decide) ?_
              refine aw_iload_n dX11_guess_68 rfl ?_
              refine aw_imul dX11_guess_69 ?_
              refine aw_iconst (v := 2) dX11_guess_70 (by decide) ?_
              refine aw_bipush (v := 24) dX11_guess_71 (by decide) ?_
              obtain ⟨ts_125, tn_125, tf_125, ta_125, e_125, hta_125⟩ := JW.get hJ0 ct_1
              refine aw_callVi (J' := jX10_holds) (As := [.int (2 * n0), .int 2, .int 24]) (st := []) dX11_guess_73 tb_267 ok_X10_holds ⟨_, e_125⟩ (by omega) rfl rfl (g_X10_holds l D b N V hN hJ0.1 (2 * n0) 2 24) rfl (Nat.le_of_ble_eq_true rfl) ⟨Nat.le_of_ble_eq_true rfl, Nat.le_of_ble_eq_true rfl, Nat.le_of_ble_eq_true rfl, Nat.le_of_ble_eq_true rfl⟩ (fun r_126 N_127 V_128 q_129 => ?_)
              obtain ⟨h_124, rfl, rfl⟩ := q_129
              refine aw_if_ne (tgt := 81) dX11_guess_76 (by decide) (fun c_130 => ?_) (fun c_130 => ?_)
              · skip
                refine aw_aload_n dX11_guess_81 rfl ?_
                refine aw_get dX11_guess_82 fl_X11_12 e_122 (by omega) rfl ?_
                refine aw_iconst (v := 2) dX11_guess_85 (by decide) ?_
                refine aw_iload_n dX11_guess_86 rfl ?_
                refine aw_imul dX11_guess_87 ?_
                refine aw_callVv (J' := jX10_take) (As := [.int (2 * n0)]) (st := []) dX11_guess_88 tb_271 ok_X10_take ⟨_, e_125⟩ (by omega) rfl rfl (g_X10_take l D b N V hN hJ0.1 (2 * n0)) rfl (Nat.le_of_ble_eq_true rfl) ⟨Nat.le_of_ble_eq_true rfl, Nat.le_of_ble_eq_true rfl, Nat.le_of_ble_eq_true rfl, Nat.le_of_ble_eq_true rfl⟩ (fun  N_134 V_133 q_135 => ?_)
                obtain ⟨rfl, q_131⟩ := q_135
                have j_132 := JW.trans hJ0 (JW.weak q_131 (Sub.cons LM0 (by decide) (by decide) (by decide) (Or.inr ⟨by decide, by decide⟩) (Sub.cons (LMs LM0) (by decide) (by decide) (by decide) (Or.inr ⟨by decide, by decide⟩) (Sub.cons (LMs (LMs LM0)) (by decide) (by decide) (by decide) (Or.inr ⟨by decide, by decide⟩) (Sub.cons (LMs (LMs (LMs LM0))) (by decide) (by decide) (by decide) (Or.inr ⟨by decide, by decide⟩) Sub.nil)))))
                refine aw_aload_n dX11_guess_91 rfl ?_
                obtain ⟨ek_136, x_136, y_136, e_136, hx_136, hy_136⟩ := JW.get j_132 ct_0
                refine aw_get dX11_guess_92 fl_X11_12 e_136 (by omega) rfl ?_
                refine aw_aload_n dX11_guess_95 rfl ?_
                refine aw_get dX11_guess_96 fl_X11_19 e_136 (by omega) rfl ?_
                refine aw_iload_n dX11_guess_99 rfl ?_
                refine aw_callSi (J' := jX3_triesFit) (As := [.ref (b + 1), .ref (b + 3), .int n0]) (st := []) dX11_guess_100 tb_922 ok_X3_triesFit rfl (g_X3_triesFit l D b N V_133 hN j_132.1 3 cA_3 n0) rfl (Nat.le_of_ble_eq_true rfl) ⟨Nat.le_of_ble_eq_true rfl, Nat.le_of_ble_eq_true rfl, Nat.le_of_ble_eq_true rfl, Nat.le_of_ble_eq_true rfl⟩ (fun r_139 N_140 V_141 q_142 => ?_)
                obtain ⟨h_138, rfl, rfl⟩ := q_142
                refine aw_if_ne (tgt := 109) dX11_guess_103 (by decide) (fun c_143 => ?_) (fun c_143 => ?_)
                · skip
                  refine aw_iload_n dX11_guess_109 rfl ?_
                  refine aw_bipush (v := 100) dX11_guess_110 (by decide) ?_
                  refine aw_icmp_ne (tgt := 128) dX11_guess_112 (by decide) (fun c_144 => ?_) (fun c_144 => ?_)
                  · first | exact absurd c_144 c_119 | exact absurd c_119 c_144 | exact absurd c_144 (Int32.not_lt.mpr c_119) | exact absurd c_119 (Int32.not_lt.mpr c_144) | exact c_119 (Int32.not_lt.mp c_144) | exact c_119 (Int32.not_le.mp c_144)
                  refine aw_aload_n dX11_guess_115 rfl ?_
                  refine aw_get dX11_guess_116 fl_X11_12 e_136 (by omega) rfl ?_
                  refine aw_aload_n dX11_guess_119 rfl ?_
                  refine aw_get dX11_guess_120 fl_X11_19 e_136 (by omega) rfl ?_
                  refine aw_iload_n dX11_guess_123 rfl ?_
                  refine aw_callSi (J' := jX3_possibleFears) (As := [.ref (b + 1), .ref (b + 3), .int n0]) (st := []) dX11_guess_124 tb_930 ok_X3_possibleFears rfl (g_X3_possibleFears l D b N V_133 hN j_132.1 3 cA_3 n0) rfl (Nat.le_of_ble_eq_true rfl) ⟨Nat.le_of_ble_eq_true rfl, Nat.le_of_ble_eq_true rfl, Nat.le_of_ble_eq_true rfl, Nat.le_of_ble_eq_true rfl⟩ (fun r_146 N_147 V_148 q_149 => ?_)
                  obtain ⟨rfl, rfl⟩ := q_149
                  refine aw_ireti dX11_guess_127 rfl (Nat.le_of_ble_eq_true rfl) (Nat.le_of_ble_eq_true rfl) ?_
                  exact ⟨rfl, j_132⟩
                · skip
                  refine aw_bipush (v := (-3)) dX11_guess_106 (by decide) ?_
                  refine aw_ireti dX11_guess_108 rfl (Nat.le_of_ble_eq_true rfl) (Nat.le_of_ble_eq_true rfl) ?_
                  exact ⟨rfl, j_132⟩
              · skip
                refine aw_iconst (v := (-1)) dX11_guess_79 (by decide) ?_
                refine aw_ireti dX11_guess_80 rfl (Nat.le_of_ble_eq_true rfl) (Nat.le_of_ble_eq_true rfl) ?_
                exact ⟨rfl, hJ0⟩
        · skip
          refine aw_iconst (v := (-1)) dX11_guess_50 (by decide) ?_
          refine aw_ireti dX11_guess_51 rfl (Nat.le_of_ble_eq_true rfl) (Nat.le_of_ble_eq_true rfl) ?_
          exact ⟨rfl, hJ0⟩
      · skip
        refine aw_iload_n dX11_guess_22 rfl ?_
        refine aw_bipush (v := 36) dX11_guess_23 (by decide) ?_
        refine aw_icmp_ge (tgt := 32) dX11_guess_25 (by decide) (fun c_150 => ?_) (fun c_150 => ?_)
        · skip
          refine aw_iconst (v := 0) dX11_guess_32 (by decide) ?_
          refine aw_istore (ls' := [some (.ref (b + 0)), some (.int n0), some (.int n1), some (.int 0), some (.int 0), none, none, none]) dX11_guess_33 (Nat.le_of_ble_eq_true rfl) rfl ?_
          refine aw_iload_n dX11_guess_35 rfl ?_
          refine aw_if_ne (tgt := 52) dX11_guess_36 (by decide) (fun c_151 => ?_) (fun c_151 => ?_)
          · exact absurd rfl c_151
          refine aw_iload dX11_guess_39 rfl ?_
          refine aw_if_ne (tgt := 52) dX11_guess_41 (by decide) (fun c_152 => ?_) (fun c_152 => ?_)
          · exact absurd rfl c_152
          refine aw_iload_n dX11_guess_44 rfl ?_
          refine aw_bipush (v := 100) dX11_guess_45 (by decide) ?_
          refine aw_icmp_eq (tgt := 52) dX11_guess_47 (by decide) (fun c_153 => ?_) (fun c_153 => ?_)
          · skip
            refine aw_iload_n dX11_guess_52 rfl ?_
            refine aw_iconst (v := 1) dX11_guess_53 (by decide) ?_
            refine aw_icmp_lt (tgt := 79) dX11_guess_54 (by decide) (fun c_154 => ?_) (fun c_154 => ?_)
            · skip
              refine aw_iconst (v := (-1)) dX11_guess_79 (by decide) ?_
              refine aw_ireti dX11_guess_80 rfl (Nat.le_of_ble_eq_true rfl) (Nat.le_of_ble_eq_true rfl) ?_
              exact ⟨rfl, hJ0⟩
            · skip
              refine aw_iload_n dX11_guess_57 rfl ?_
              refine aw_bipush (v := 12) dX11_guess_58 (by decide) ?_
              refine aw_icmp_gt (tgt := 79) dX11_guess_60 (by decide) (fun c_155 => ?_) (fun c_155 => ?_)
              · skip
                refine aw_iconst (v := (-1)) dX11_guess_79 (by decide) ?_
                refine aw_ireti dX11_guess_80 rfl (Nat.le_of_ble_eq_true rfl) (Nat.le_of_ble_eq_true rfl) ?_
                exact ⟨rfl, hJ0⟩
              · skip
                refine aw_aload_n dX11_guess_63 rfl ?_
                obtain ⟨ek_156, x_156, y_156, e_156, hx_156, hy_156⟩ := JW.get hJ0 ct_0
                refine aw_get dX11_guess_64 fl_X11_12 e_156 (by omega) rfl ?_
                refine aw_iconst (v := 2) dX11_guess_67 (by decide) ?_
                refine aw_iload_n dX11_guess_68 rfl ?_
                refine aw_imul dX11_guess_69 ?_
                refine aw_iconst (v := 2) dX11_guess_70 (by decide) ?_
                refine aw_bipush (v := 24) dX11_guess_71 (by decide) ?_
                obtain ⟨ts_159, tn_159, tf_159, ta_159, e_159, hta_159⟩ := JW.get hJ0 ct_1
                refine aw_callVi (J' := jX10_holds) (As := [.int (2 * n0), .int 2, .int 24]) (st := []) dX11_guess_73 tb_267 ok_X10_holds ⟨_, e_159⟩ (by omega) rfl rfl (g_X10_holds l D b N V hN hJ0.1 (2 * n0) 2 24) rfl (Nat.le_of_ble_eq_true rfl) ⟨Nat.le_of_ble_eq_true rfl, Nat.le_of_ble_eq_true rfl, Nat.le_of_ble_eq_true rfl, Nat.le_of_ble_eq_true rfl⟩ (fun r_160 N_161 V_162 q_163 => ?_)
                obtain ⟨h_158, rfl, rfl⟩ := q_163
                refine aw_if_ne (tgt := 81) dX11_guess_76 (by decide) (fun c_164 => ?_) (fun c_164 => ?_)
                · skip
                  refine aw_aload_n dX11_guess_81 rfl ?_
                  refine aw_get dX11_guess_82 fl_X11_12 e_156 (by omega) rfl ?_
                  refine aw_iconst (v := 2) dX11_guess_85 (by decide) ?_
                  refine aw_iload_n dX11_guess_86 rfl ?_
                  refine aw_imul dX11_guess_87 ?_
                  refine aw_callVv (J' := jX10_take) (As := [.int (2 * n0)]) (st := []) dX11_guess_88 tb_271 ok_X10_take ⟨_, e_159⟩ (by omega) rfl rfl (g_X10_take l D b N V hN hJ0.1 (2 * n0)) rfl (Nat.le_of_ble_eq_true rfl) ⟨Nat.le_of_ble_eq_true rfl, Nat.le_of_ble_eq_true rfl, Nat.le_of_ble_eq_true rfl, Nat.le_of_ble_eq_true rfl⟩ (fun  N_168 V_167 q_169 => ?_)
                  obtain ⟨rfl, q_165⟩ := q_169
                  have j_166 := JW.trans hJ0 (JW.weak q_165 (Sub.cons LM0 (by decide) (by decide) (by decide) (Or.inr ⟨by decide, by decide⟩) (Sub.cons (LMs LM0) (by decide) (by decide) (by decide) (Or.inr ⟨by decide, by decide⟩) (Sub.cons (LMs (LMs LM0)) (by decide) (by decide) (by decide) (Or.inr ⟨by decide, by decide⟩) (Sub.cons (LMs (LMs (LMs LM0))) (by decide) (by decide) (by decide) (Or.inr ⟨by decide, by decide⟩) Sub.nil)))))
                  refine aw_aload_n dX11_guess_91 rfl ?_
                  obtain ⟨ek_170, x_170, y_170, e_170, hx_170, hy_170⟩ := JW.get j_166 ct_0
                  refine aw_get dX11_guess_92 fl_X11_12 e_170 (by omega) rfl ?_
                  refine aw_aload_n dX11_guess_95 rfl ?_
                  refine aw_get dX11_guess_96 fl_X11_19 e_170 (by omega) rfl ?_
                  refine aw_iload_n dX11_guess_99 rfl ?_
                  refine aw_callSi (J' := jX3_triesFit) (As := [.ref (b + 1), .ref (b + 3), .int n0]) (st := []) dX11_guess_100 tb_922 ok_X3_triesFit rfl (g_X3_triesFit l D b N V_167 hN j_166.1 3 cA_3 n0) rfl (Nat.le_of_ble_eq_true rfl) ⟨Nat.le_of_ble_eq_true rfl, Nat.le_of_ble_eq_true rfl, Nat.le_of_ble_eq_true rfl, Nat.le_of_ble_eq_true rfl⟩ (fun r_173 N_174 V_175 q_176 => ?_)
                  obtain ⟨h_172, rfl, rfl⟩ := q_176
                  refine aw_if_ne (tgt := 109) dX11_guess_103 (by decide) (fun c_177 => ?_) (fun c_177 => ?_)
                  · skip
                    refine aw_iload_n dX11_guess_109 rfl ?_
                    refine aw_bipush (v := 100) dX11_guess_110 (by decide) ?_
                    refine aw_icmp_ne (tgt := 128) dX11_guess_112 (by decide) (fun c_178 => ?_) (fun c_178 => ?_)
                    · first | exact absurd c_178 c_153 | exact absurd c_153 c_178 | exact absurd c_178 (Int32.not_lt.mpr c_153) | exact absurd c_153 (Int32.not_lt.mpr c_178) | exact c_153 (Int32.not_lt.mp c_178) | exact c_153 (Int32.not_le.mp c_178)
                    refine aw_aload_n dX11_guess_115 rfl ?_
                    refine aw_get dX11_guess_116 fl_X11_12 e_170 (by omega) rfl ?_
                    refine aw_aload_n dX11_guess_119 rfl ?_
                    refine aw_get dX11_guess_120 fl_X11_19 e_170 (by omega) rfl ?_
                    refine aw_iload_n dX11_guess_123 rfl ?_
                    refine aw_callSi (J' := jX3_possibleFears) (As := [.ref (b + 1), .ref (b + 3), .int n0]) (st := []) dX11_guess_124 tb_930 ok_X3_possibleFears rfl (g_X3_possibleFears l D b N V_167 hN j_166.1 3 cA_3 n0) rfl (Nat.le_of_ble_eq_true rfl) ⟨Nat.le_of_ble_eq_true rfl, Nat.le_of_ble_eq_true rfl, Nat.le_of_ble_eq_true rfl, Nat.le_of_ble_eq_true rfl⟩ (fun r_180 N_181 V_182 q_183 => ?_)
                    obtain ⟨rfl, rfl⟩ := q_183
                    refine aw_ireti dX11_guess_127 rfl (Nat.le_of_ble_eq_true rfl) (Nat.le_of_ble_eq_true rfl) ?_
                    exact ⟨rfl, j_166⟩
                  · skip
                    refine aw_bipush (v := (-3)) dX11_guess_106 (by decide) ?_
                    refine aw_ireti dX11_guess_108 rfl (Nat.le_of_ble_eq_true rfl) (Nat.le_of_ble_eq_true rfl) ?_
                    exact ⟨rfl, j_166⟩
                · skip
                  refine aw_iconst (v := (-1)) dX11_guess_79 (by decide) ?_
                  refine aw_ireti dX11_guess_80 rfl (Nat.le_of_ble_eq_true rfl) (Nat.le_of_ble_eq_true rfl) ?_
                  exact ⟨rfl, hJ0⟩
          · skip
            refine aw_iconst (v := (-1)) dX11_guess_50 (by decide) ?_
            refine aw_ireti dX11_guess_51 rfl (Nat.le_of_ble_eq_true rfl) (Nat.le_of_ble_eq_true rfl) ?_
            exact ⟨rfl, hJ0⟩
        · skip
          refine aw_iconst (v := 1) dX11_guess_28 (by decide) ?_
          refine aw_goto (tgt := 33) dX11_guess_29 (by decide) ?_
          refine aw_istore (ls' := [some (.ref (b + 0)), some (.int n0), some (.int n1), some (.int 0), some (.int 1), none, none, none]) dX11_guess_33 (Nat.le_of_ble_eq_true rfl) rfl ?_
          refine aw_iload_n dX11_guess_35 rfl ?_
          refine aw_if_ne (tgt := 52) dX11_guess_36 (by decide) (fun c_184 => ?_) (fun c_184 => ?_)
          · exact absurd rfl c_184
          refine aw_iload dX11_guess_39 rfl ?_
          refine aw_if_ne (tgt := 52) dX11_guess_41 (by decide) (fun c_185 => ?_) (fun c_185 => ?_)
          rotate_left
          · exact absurd c_185 (by decide)
          refine aw_iload_n dX11_guess_52 rfl ?_
          refine aw_iconst (v := 1) dX11_guess_53 (by decide) ?_
          refine aw_icmp_lt (tgt := 79) dX11_guess_54 (by decide) (fun c_186 => ?_) (fun c_186 => ?_)
          · skip
            refine aw_iconst (v := (-1)) dX11_guess_79 (by decide) ?_
            refine aw_ireti dX11_guess_80 rfl (Nat.le_of_ble_eq_true rfl) (Nat.le_of_ble_eq_true rfl) ?_
            exact ⟨rfl, hJ0⟩
          · skip
            refine aw_iload_n dX11_guess_57 rfl ?_
            refine aw_bipush (v := 12) dX11_guess_58 (by decide) ?_
            refine aw_icmp_gt (tgt := 79) dX11_guess_60 (by decide) (fun c_187 => ?_) (fun c_187 => ?_)
            · skip
              refine aw_iconst (v := (-1)) dX11_guess_79 (by decide) ?_
              refine aw_ireti dX11_guess_80 rfl (Nat.le_of_ble_eq_true rfl) (Nat.le_of_ble_eq_true rfl) ?_
              exact ⟨rfl, hJ0⟩
            · skip
              refine aw_aload_n dX11_guess_63 rfl ?_
              obtain ⟨ek_188, x_188, y_188, e_188, hx_188, hy_188⟩ := JW.get hJ0 ct_0
              refine aw_get dX11_guess_64 fl_X11_12 e_188 (by omega) rfl ?_
              refine aw_iconst (v := 2) dX11_guess_67 (by decide) ?_
              refine aw_iload_n dX11_guess_68 rfl ?_
              refine aw_imul dX11_guess_69 ?_
              refine aw_iconst (v := 2) dX11_guess_70 (by decide) ?_
              refine aw_bipush (v := 24) dX11_guess_71 (by decide) ?_
              obtain ⟨ts_191, tn_191, tf_191, ta_191, e_191, hta_191⟩ := JW.get hJ0 ct_1
              refine aw_callVi (J' := jX10_holds) (As := [.int (2 * n0), .int 2, .int 24]) (st := []) dX11_guess_73 tb_267 ok_X10_holds ⟨_, e_191⟩ (by omega) rfl rfl (g_X10_holds l D b N V hN hJ0.1 (2 * n0) 2 24) rfl (Nat.le_of_ble_eq_true rfl) ⟨Nat.le_of_ble_eq_true rfl, Nat.le_of_ble_eq_true rfl, Nat.le_of_ble_eq_true rfl, Nat.le_of_ble_eq_true rfl⟩ (fun r_192 N_193 V_194 q_195 => ?_)
              obtain ⟨h_190, rfl, rfl⟩ := q_195
              refine aw_if_ne (tgt := 81) dX11_guess_76 (by decide) (fun c_196 => ?_) (fun c_196 => ?_)
              · skip
                refine aw_aload_n dX11_guess_81 rfl ?_
                refine aw_get dX11_guess_82 fl_X11_12 e_188 (by omega) rfl ?_
                refine aw_iconst (v := 2) dX11_guess_85 (by decide) ?_
                refine aw_iload_n dX11_guess_86 rfl ?_
                refine aw_imul dX11_guess_87 ?_
                refine aw_callVv (J' := jX10_take) (As := [.int (2 * n0)]) (st := []) dX11_guess_88 tb_271 ok_X10_take ⟨_, e_191⟩ (by omega) rfl rfl (g_X10_take l D b N V hN hJ0.1 (2 * n0)) rfl (Nat.le_of_ble_eq_true rfl) ⟨Nat.le_of_ble_eq_true rfl, Nat.le_of_ble_eq_true rfl, Nat.le_of_ble_eq_true rfl, Nat.le_of_ble_eq_true rfl⟩ (fun  N_200 V_199 q_201 => ?_)
                obtain ⟨rfl, q_197⟩ := q_201
                have j_198 := JW.trans hJ0 (JW.weak q_197 (Sub.cons LM0 (by decide) (by decide) (by decide) (Or.inr ⟨by decide, by decide⟩) (Sub.cons (LMs LM0) (by decide) (by decide) (by decide) (Or.inr ⟨by decide, by decide⟩) (Sub.cons (LMs (LMs LM0)) (by decide) (by decide) (by decide) (Or.inr ⟨by decide, by decide⟩) (Sub.cons (LMs (LMs (LMs LM0))) (by decide) (by decide) (by decide) (Or.inr ⟨by decide, by decide⟩) Sub.nil)))))
                refine aw_aload_n dX11_guess_91 rfl ?_
                obtain ⟨ek_202, x_202, y_202, e_202, hx_202, hy_202⟩ := JW.get j_198 ct_0
                refine aw_get dX11_guess_92 fl_X11_12 e_202 (by omega) rfl ?_
                refine aw_aload_n dX11_guess_95 rfl ?_
                refine aw_get dX11_guess_96 fl_X11_19 e_202 (by omega) rfl ?_
                refine aw_iload_n dX11_guess_99 rfl ?_
                refine aw_callSi (J' := jX3_triesFit) (As := [.ref (b + 1), .ref (b + 3), .int n0]) (st := []) dX11_guess_100 tb_922 ok_X3_triesFit rfl (g_X3_triesFit l D b N V_199 hN j_198.1 3 cA_3 n0) rfl (Nat.le_of_ble_eq_true rfl) ⟨Nat.le_of_ble_eq_true rfl, Nat.le_of_ble_eq_true rfl, Nat.le_of_ble_eq_true rfl, Nat.le_of_ble_eq_true rfl⟩ (fun r_205 N_206 V_207 q_208 => ?_)
                obtain ⟨h_204, rfl, rfl⟩ := q_208
                refine aw_if_ne (tgt := 109) dX11_guess_103 (by decide) (fun c_209 => ?_) (fun c_209 => ?_)
                · skip
                  refine aw_iload_n dX11_guess_109 rfl ?_
                  refine aw_bipush (v := 100) dX11_guess_110 (by decide) ?_
                  refine aw_icmp_ne (tgt := 128) dX11_guess_112 (by decide) (fun c_210 => ?_) (fun c_210 => ?_)
                  · skip
                    refine aw_iload_n dX11_guess_128 rfl ?_
                    refine aw_if_eq (tgt := 136) dX11_guess_129 (by decide) (fun c_211 => ?_) (fun c_211 => ?_)
                    rotate_left
                    · exact absurd (by decide) c_211
                    refine aw_iload_n dX11_guess_136 rfl ?_
                    refine aw_bipush (v := 20) dX11_guess_137 (by decide) ?_
                    refine aw_isub dX11_guess_139 ?_
                    refine aw_istore (ls' := [some (.ref (b + 0)), some (.int n0), some (.int n1), some (.int 0), some (.int 1), some (.int (n1 - 20)), none, none]) dX11_guess_140 (Nat.le_of_ble_eq_true rfl) rfl ?_
                    refine aw_aload_n dX11_guess_142 rfl ?_
                    refine aw_get dX11_guess_143 fl_X11_12 e_202 (by omega) rfl ?_
                    refine aw_aload_n dX11_guess_146 rfl ?_
                    refine aw_get dX11_guess_147 fl_X11_19 e_202 (by omega) rfl ?_
                    refine aw_iload_n dX11_guess_150 rfl ?_
                    refine aw_iload dX11_guess_151 rfl ?_
                    refine aw_callSi (J' := jX3_leastStrength) (As := [.ref (b + 1), .ref (b + 3), .int n0, .int (n1 - 20)]) (st := []) dX11_guess_153 tb_940 ok_X3_leastStrength rfl (g_X3_leastStrength l D b N V_199 hN j_198.1 3 cA_3 n0 (n1 - 20)) rfl (Nat.le_of_ble_eq_true rfl) ⟨Nat.le_of_ble_eq_true rfl, Nat.le_of_ble_eq_true rfl, Nat.le_of_ble_eq_true rfl, Nat.le_of_ble_eq_true rfl⟩ (fun r_213 N_214 V_215 q_216 => ?_)
                    obtain ⟨rfl, rfl⟩ := q_216
                    refine aw_istore (ls' := [some (.ref (b + 0)), some (.int n0), some (.int n1), some (.int 0), some (.int 1), some (.int (n1 - 20)), some (.int r_213), none]) dX11_guess_156 (Nat.le_of_ble_eq_true rfl) rfl ?_
                    refine aw_aload_n dX11_guess_158 rfl ?_
                    refine aw_get dX11_guess_159 fl_X11_12 e_202 (by omega) rfl ?_
                    refine aw_aload_n dX11_guess_162 rfl ?_
                    refine aw_get dX11_guess_163 fl_X11_19 e_202 (by omega) rfl ?_
                    refine aw_iload_n dX11_guess_166 rfl ?_
                    refine aw_iload dX11_guess_167 rfl ?_
                    refine aw_callSi (J' := jX3_greatestStrength) (As := [.ref (b + 1), .ref (b + 3), .int n0, .int (n1 - 20)]) (st := []) dX11_guess_169 tb_941 ok_X3_greatestStrength rfl (g_X3_greatestStrength l D b N V_199 hN j_198.1 3 cA_3 n0 (n1 - 20)) rfl (Nat.le_of_ble_eq_true rfl) ⟨Nat.le_of_ble_eq_true rfl, Nat.le_of_ble_eq_true rfl, Nat.le_of_ble_eq_true rfl, Nat.le_of_ble_eq_true rfl⟩ (fun r_218 N_219 V_220 q_221 => ?_)
                    obtain ⟨rfl, rfl⟩ := q_221
                    refine aw_istore (ls' := [some (.ref (b + 0)), some (.int n0), some (.int n1), some (.int 0), some (.int 1), some (.int (n1 - 20)), some (.int r_213), some (.int r_218)]) dX11_guess_172 (Nat.le_of_ble_eq_true rfl) rfl ?_
                    refine aw_iload dX11_guess_174 rfl ?_
                    refine aw_iload dX11_guess_176 rfl ?_
                    refine aw_icmp_le (tgt := 184) dX11_guess_178 (by decide) (fun c_222 => ?_) (fun c_222 => ?_)
                    · skip
                      refine aw_iload_n dX11_guess_184 rfl ?_
                      refine aw_if_eq (tgt := 193) dX11_guess_185 (by decide) (fun c_223 => ?_) (fun c_223 => ?_)
                      rotate_left
                      · exact absurd (by decide) c_223
                      refine aw_iload dX11_guess_193 rfl ?_
                      refine aw_ireti dX11_guess_195 rfl (Nat.le_of_ble_eq_true rfl) (Nat.le_of_ble_eq_true rfl) ?_
                      exact ⟨rfl, j_198⟩
                    · skip
                      refine aw_bipush (v := (-2)) dX11_guess_181 (by decide) ?_
                      refine aw_ireti dX11_guess_183 rfl (Nat.le_of_ble_eq_true rfl) (Nat.le_of_ble_eq_true rfl) ?_
                      exact ⟨rfl, j_198⟩
                  · skip
                    refine aw_aload_n dX11_guess_115 rfl ?_
                    refine aw_get dX11_guess_116 fl_X11_12 e_202 (by omega) rfl ?_
                    refine aw_aload_n dX11_guess_119 rfl ?_
                    refine aw_get dX11_guess_120 fl_X11_19 e_202 (by omega) rfl ?_
                    refine aw_iload_n dX11_guess_123 rfl ?_
                    refine aw_callSi (J' := jX3_possibleFears) (As := [.ref (b + 1), .ref (b + 3), .int n0]) (st := []) dX11_guess_124 tb_930 ok_X3_possibleFears rfl (g_X3_possibleFears l D b N V_199 hN j_198.1 3 cA_3 n0) rfl (Nat.le_of_ble_eq_true rfl) ⟨Nat.le_of_ble_eq_true rfl, Nat.le_of_ble_eq_true rfl, Nat.le_of_ble_eq_true rfl, Nat.le_of_ble_eq_true rfl⟩ (fun r_225 N_226 V_227 q_228 => ?_)
                    obtain ⟨rfl, rfl⟩ := q_228
                    refine aw_ireti dX11_guess_127 rfl (Nat.le_of_ble_eq_true rfl) (Nat.le_of_ble_eq_true rfl) ?_
                    exact ⟨rfl, j_198⟩
                · skip
                  refine aw_bipush (v := (-3)) dX11_guess_106 (by decide) ?_
                  refine aw_ireti dX11_guess_108 rfl (Nat.le_of_ble_eq_true rfl) (Nat.le_of_ble_eq_true rfl) ?_
                  exact ⟨rfl, j_198⟩
              · skip
                refine aw_iconst (v := (-1)) dX11_guess_79 (by decide) ?_
                refine aw_ireti dX11_guess_80 rfl (Nat.le_of_ble_eq_true rfl) (Nat.le_of_ble_eq_true rfl) ?_
                exact ⟨rfl, hJ0⟩
    · skip
      refine aw_iconst (v := 1) dX11_guess_10 (by decide) ?_
      refine aw_goto (tgt := 15) dX11_guess_11 (by decide) ?_
      refine aw_istore_n (ls' := [some (.ref (b + 0)), some (.int n0), some (.int n1), some (.int 1), none, none, none, none]) dX11_guess_15 (Nat.le_of_ble_eq_true rfl) rfl ?_
      refine aw_iload_n dX11_guess_16 rfl ?_
      refine aw_bipush (v := 20) dX11_guess_17 (by decide) ?_
      refine aw_icmp_lt (tgt := 32) dX11_guess_19 (by decide) (fun c_229 => ?_) (fun c_229 => ?_)
      · skip
        refine aw_iconst (v := 0) dX11_guess_32 (by decide) ?_
        refine aw_istore (ls' := [some (.ref (b + 0)), some (.int n0), some (.int n1), some (.int 1), some (.int 0), none, none, none]) dX11_guess_33 (Nat.le_of_ble_eq_true rfl) rfl ?_
        refine aw_iload_n dX11_guess_35 rfl ?_
        refine aw_if_ne (tgt := 52) dX11_guess_36 (by decide) (fun c_230 => ?_) (fun c_230 => ?_)
        rotate_left
        · exact absurd c_230 (by decide)
        refine aw_iload_n dX11_guess_52 rfl ?_
        refine aw_iconst (v := 1) dX11_guess_53 (by decide) ?_
        refine aw_icmp_lt (tgt := 79) dX11_guess_54 (by decide) (fun c_231 => ?_) (fun c_231 => ?_)
        · skip
          refine aw_iconst (v := (-1)) dX11_guess_79 (by decide) ?_
          refine aw_ireti dX11_guess_80 rfl (Nat.le_of_ble_eq_true rfl) (Nat.le_of_ble_eq_true rfl) ?_
          exact ⟨rfl, hJ0⟩
        · skip
          refine aw_iload_n dX11_guess_57 rfl ?_
          refine aw_bipush (v := 12) dX11_guess_58 (by decide) ?_
          refine aw_icmp_gt (tgt := 79) dX11_guess_60 (by decide) (fun c_232 => ?_) (fun c_232 => ?_)
          · skip
            refine aw_iconst (v := (-1)) dX11_guess_79 (by decide) ?_
            refine aw_ireti dX11_guess_80 rfl (Nat.le_of_ble_eq_true rfl) (Nat.le_of_ble_eq_true rfl) ?_
            exact ⟨rfl, hJ0⟩
          · skip
            refine aw_aload_n dX11_guess_63 rfl ?_
            obtain ⟨ek_233, x_233, y_233, e_233, hx_233, hy_233⟩ := JW.get hJ0 ct_0
            refine aw_get dX11_guess_64 fl_X11_12 e_233 (by omega) rfl ?_
            refine aw_iconst (v := 2) dX11_guess_67 (by decide) ?_
            refine aw_iload_n dX11_guess_68 rfl ?_
            refine aw_imul dX11_guess_69 ?_
            refine aw_iconst (v := 2) dX11_guess_70 (by decide) ?_
            refine aw_bipush (v := 24) dX11_guess_71 (by decide) ?_
            obtain ⟨ts_236, tn_236, tf_236, ta_236, e_236, hta_236⟩ := JW.get hJ0 ct_1
            refine aw_callVi (J' := jX10_holds) (As := [.int (2 * n0), .int 2, .int 24]) (st := []) dX11_guess_73 tb_267 ok_X10_holds ⟨_, e_236⟩ (by omega) rfl rfl (g_X10_holds l D b N V hN hJ0.1 (2 * n0) 2 24) rfl (Nat.le_of_ble_eq_true rfl) ⟨Nat.le_of_ble_eq_true rfl, Nat.le_of_ble_eq_true rfl, Nat.le_of_ble_eq_true rfl, Nat.le_of_ble_eq_true rfl⟩ (fun r_237 N_238 V_239 q_240 => ?_)
            obtain ⟨h_235, rfl, rfl⟩ := q_240
            refine aw_if_ne (tgt := 81) dX11_guess_76 (by decide) (fun c_241 => ?_) (fun c_241 => ?_)
            · skip
              refine aw_aload_n dX11_guess_81 rfl ?_
              refine aw_get dX11_guess_82 fl_X11_12 e_233 (by omega) rfl ?_
              refine aw_iconst (v := 2) dX11_guess_85 (by decide) ?_
              refine aw_iload_n dX11_guess_86 rfl ?_
              refine aw_imul dX11_guess_87 ?_
              refine aw_callVv (J' := jX10_take) (As := [.int (2 * n0)]) (st := []) dX11_guess_88 tb_271 ok_X10_take ⟨_, e_236⟩ (by omega) rfl rfl (g_X10_take l D b N V hN hJ0.1 (2 * n0)) rfl (Nat.le_of_ble_eq_true rfl) ⟨Nat.le_of_ble_eq_true rfl, Nat.le_of_ble_eq_true rfl, Nat.le_of_ble_eq_true rfl, Nat.le_of_ble_eq_true rfl⟩ (fun  N_245 V_244 q_246 => ?_)
              obtain ⟨rfl, q_242⟩ := q_246
              have j_243 := JW.trans hJ0 (JW.weak q_242 (Sub.cons LM0 (by decide) (by decide) (by decide) (Or.inr ⟨by decide, by decide⟩) (Sub.cons (LMs LM0) (by decide) (by decide) (by decide) (Or.inr ⟨by decide, by decide⟩) (Sub.cons (LMs (LMs LM0)) (by decide) (by decide) (by decide) (Or.inr ⟨by decide, by decide⟩) (Sub.cons (LMs (LMs (LMs LM0))) (by decide) (by decide) (by decide) (Or.inr ⟨by decide, by decide⟩) Sub.nil)))))
              refine aw_aload_n dX11_guess_91 rfl ?_
              obtain ⟨ek_247, x_247, y_247, e_247, hx_247, hy_247⟩ := JW.get j_243 ct_0
              refine aw_get dX11_guess_92 fl_X11_12 e_247 (by omega) rfl ?_
              refine aw_aload_n dX11_guess_95 rfl ?_
              refine aw_get dX11_guess_96 fl_X11_19 e_247 (by omega) rfl ?_
              refine aw_iload_n dX11_guess_99 rfl ?_
              refine aw_callSi (J' := jX3_triesFit) (As := [.ref (b + 1), .ref (b + 3), .int n0]) (st := []) dX11_guess_100 tb_922 ok_X3_triesFit rfl (g_X3_triesFit l D b N V_244 hN j_243.1 3 cA_3 n0) rfl (Nat.le_of_ble_eq_true rfl) ⟨Nat.le_of_ble_eq_true rfl, Nat.le_of_ble_eq_true rfl, Nat.le_of_ble_eq_true rfl, Nat.le_of_ble_eq_true rfl⟩ (fun r_250 N_251 V_252 q_253 => ?_)
              obtain ⟨h_249, rfl, rfl⟩ := q_253
              refine aw_if_ne (tgt := 109) dX11_guess_103 (by decide) (fun c_254 => ?_) (fun c_254 => ?_)
              · skip
                refine aw_iload_n dX11_guess_109 rfl ?_
                refine aw_bipush (v := 100) dX11_guess_110 (by decide) ?_
                refine aw_icmp_ne (tgt := 128) dX11_guess_112 (by decide) (fun c_255 => ?_) (fun c_255 => ?_)
                · skip
                  refine aw_iload_n dX11_guess_128 rfl ?_
                  refine aw_if_eq (tgt := 136) dX11_guess_129 (by decide) (fun c_256 => ?_) (fun c_256 => ?_)
                  · exact absurd c_256 (by decide)
                  refine aw_iload_n dX11_guess_132 rfl ?_
                  refine aw_goto (tgt := 140) dX11_guess_133 (by decide) ?_
                  refine aw_istore (ls' := [some (.ref (b + 0)), some (.int n0), some (.int n1), some (.int 1), some (.int 0), some (.int n1), none, none]) dX11_guess_140 (Nat.le_of_ble_eq_true rfl) rfl ?_
                  refine aw_aload_n dX11_guess_142 rfl ?_
                  refine aw_get dX11_guess_143 fl_X11_12 e_247 (by omega) rfl ?_
                  refine aw_aload_n dX11_guess_146 rfl ?_
                  refine aw_get dX11_guess_147 fl_X11_19 e_247 (by omega) rfl ?_
                  refine aw_iload_n dX11_guess_150 rfl ?_
                  refine aw_iload dX11_guess_151 rfl ?_
                  refine aw_callSi (J' := jX3_leastStrength) (As := [.ref (b + 1), .ref (b + 3), .int n0, .int n1]) (st := []) dX11_guess_153 tb_940 ok_X3_leastStrength rfl (g_X3_leastStrength l D b N V_244 hN j_243.1 3 cA_3 n0 n1) rfl (Nat.le_of_ble_eq_true rfl) ⟨Nat.le_of_ble_eq_true rfl, Nat.le_of_ble_eq_true rfl, Nat.le_of_ble_eq_true rfl, Nat.le_of_ble_eq_true rfl⟩ (fun r_258 N_259 V_260 q_261 => ?_)
                  obtain ⟨rfl, rfl⟩ := q_261
                  refine aw_istore (ls' := [some (.ref (b + 0)), some (.int n0), some (.int n1), some (.int 1), some (.int 0), some (.int n1), some (.int r_258), none]) dX11_guess_156 (Nat.le_of_ble_eq_true rfl) rfl ?_
                  refine aw_aload_n dX11_guess_158 rfl ?_
                  refine aw_get dX11_guess_159 fl_X11_12 e_247 (by omega) rfl ?_
                  refine aw_aload_n dX11_guess_162 rfl ?_
                  refine aw_get dX11_guess_163 fl_X11_19 e_247 (by omega) rfl ?_
                  refine aw_iload_n dX11_guess_166 rfl ?_
                  refine aw_iload dX11_guess_167 rfl ?_
                  refine aw_callSi (J' := jX3_greatestStrength) (As := [.ref (b + 1), .ref (b + 3), .int n0, .int n1]) (st := []) dX11_guess_169 tb_941 ok_X3_greatestStrength rfl (g_X3_greatestStrength l D b N V_244 hN j_243.1 3 cA_3 n0 n1) rfl (Nat.le_of_ble_eq_true rfl) ⟨Nat.le_of_ble_eq_true rfl, Nat.le_of_ble_eq_true rfl, Nat.le_of_ble_eq_true rfl, Nat.le_of_ble_eq_true rfl⟩ (fun r_263 N_264 V_265 q_266 => ?_)
                  obtain ⟨rfl, rfl⟩ := q_266
                  refine aw_istore (ls' := [some (.ref (b + 0)), some (.int n0), some (.int n1), some (.int 1), some (.int 0), some (.int n1), some (.int r_258), some (.int r_263)]) dX11_guess_172 (Nat.le_of_ble_eq_true rfl) rfl ?_
                  refine aw_iload dX11_guess_174 rfl ?_
                  refine aw_iload dX11_guess_176 rfl ?_
                  refine aw_icmp_le (tgt := 184) dX11_guess_178 (by decide) (fun c_267 => ?_) (fun c_267 => ?_)
                  · skip
                    refine aw_iload_n dX11_guess_184 rfl ?_
                    refine aw_if_eq (tgt := 193) dX11_guess_185 (by decide) (fun c_268 => ?_) (fun c_268 => ?_)
                    · exact absurd c_268 (by decide)
                    refine aw_iload dX11_guess_188 rfl ?_
                    refine aw_goto (tgt := 195) dX11_guess_190 (by decide) ?_
                    refine aw_ireti dX11_guess_195 rfl (Nat.le_of_ble_eq_true rfl) (Nat.le_of_ble_eq_true rfl) ?_
                    exact ⟨rfl, j_243⟩
                  · skip
                    refine aw_bipush (v := (-2)) dX11_guess_181 (by decide) ?_
                    refine aw_ireti dX11_guess_183 rfl (Nat.le_of_ble_eq_true rfl) (Nat.le_of_ble_eq_true rfl) ?_
                    exact ⟨rfl, j_243⟩
                · skip
                  refine aw_aload_n dX11_guess_115 rfl ?_
                  refine aw_get dX11_guess_116 fl_X11_12 e_247 (by omega) rfl ?_
                  refine aw_aload_n dX11_guess_119 rfl ?_
                  refine aw_get dX11_guess_120 fl_X11_19 e_247 (by omega) rfl ?_
                  refine aw_iload_n dX11_guess_123 rfl ?_
                  refine aw_callSi (J' := jX3_possibleFears) (As := [.ref (b + 1), .ref (b + 3), .int n0]) (st := []) dX11_guess_124 tb_930 ok_X3_possibleFears rfl (g_X3_possibleFears l D b N V_244 hN j_243.1 3 cA_3 n0) rfl (Nat.le_of_ble_eq_true rfl) ⟨Nat.le_of_ble_eq_true rfl, Nat.le_of_ble_eq_true rfl, Nat.le_of_ble_eq_true rfl, Nat.le_of_ble_eq_true rfl⟩ (fun r_270 N_271 V_272 q_273 => ?_)
                  obtain ⟨rfl, rfl⟩ := q_273
                  refine aw_ireti dX11_guess_127 rfl (Nat.le_of_ble_eq_true rfl) (Nat.le_of_ble_eq_true rfl) ?_
                  exact ⟨rfl, j_243⟩
              · skip
                refine aw_bipush (v := (-3)) dX11_guess_106 (by decide) ?_
                refine aw_ireti dX11_guess_108 rfl (Nat.le_of_ble_eq_true rfl) (Nat.le_of_ble_eq_true rfl) ?_
                exact ⟨rfl, j_243⟩
            · skip
              refine aw_iconst (v := (-1)) dX11_guess_79 (by decide) ?_
              refine aw_ireti dX11_guess_80 rfl (Nat.le_of_ble_eq_true rfl) (Nat.le_of_ble_eq_true rfl) ?_
              exact ⟨rfl, hJ0⟩
      · skip
        refine aw_iload_n dX11_guess_22 rfl ?_
        refine aw_bipush (v := 36) dX11_guess_23 (by decide) ?_
        refine aw_icmp_ge (tgt := 32) dX11_guess_25 (by decide) (fun c_274 => ?_) (fun c_274 => ?_)
        · skip
          refine aw_iconst (v := 0) dX11_guess_32 (by decide) ?_
          refine aw_istore (ls' := [some (.ref (b + 0)), some (.int n0), some (.int n1), some (.int 1), some (.int 0), none, none, none]) dX11_guess_33 (Nat.le_of_ble_eq_true rfl) rfl ?_
          refine aw_iload_n dX11_guess_35 rfl ?_
          refine aw_if_ne (tgt := 52) dX11_guess_36 (by decide) (fun c_275 => ?_) (fun c_275 => ?_)
          rotate_left
          · exact absurd c_275 (by decide)
          refine aw_iload_n dX11_guess_52 rfl ?_
          refine aw_iconst (v := 1) dX11_guess_53 (by decide) ?_
          refine aw_icmp_lt (tgt := 79) dX11_guess_54 (by decide) (fun c_276 => ?_) (fun c_276 => ?_)
          · skip
            refine aw_iconst (v := (-1)) dX11_guess_79 (by decide) ?_
            refine aw_ireti dX11_guess_80 rfl (Nat.le_of_ble_eq_true rfl) (Nat.le_of_ble_eq_true rfl) ?_
            exact ⟨rfl, hJ0⟩
          · skip
            refine aw_iload_n dX11_guess_57 rfl ?_
            refine aw_bipush (v := 12) dX11_guess_58 (by decide) ?_
            refine aw_icmp_gt (tgt := 79) dX11_guess_60 (by decide) (fun c_277 => ?_) (fun c_277 => ?_)
            · skip
              refine aw_iconst (v := (-1)) dX11_guess_79 (by decide) ?_
              refine aw_ireti dX11_guess_80 rfl (Nat.le_of_ble_eq_true rfl) (Nat.le_of_ble_eq_true rfl) ?_
              exact ⟨rfl, hJ0⟩
            · skip
              refine aw_aload_n dX11_guess_63 rfl ?_
              obtain ⟨ek_278, x_278, y_278, e_278, hx_278, hy_278⟩ := JW.get hJ0 ct_0
              refine aw_get dX11_guess_64 fl_X11_12 e_278 (by omega) rfl ?_
              refine aw_iconst (v := 2) dX11_guess_67 (by decide) ?_
              refine aw_iload_n dX11_guess_68 rfl ?_
              refine aw_imul dX11_guess_69 ?_
              refine aw_iconst (v := 2) dX11_guess_70 (by decide) ?_
              refine aw_bipush (v := 24) dX11_guess_71 (by decide) ?_
              obtain ⟨ts_281, tn_281, tf_281, ta_281, e_281, hta_281⟩ := JW.get hJ0 ct_1
              refine aw_callVi (J' := jX10_holds) (As := [.int (2 * n0), .int 2, .int 24]) (st := []) dX11_guess_73 tb_267 ok_X10_holds ⟨_, e_281⟩ (by omega) rfl rfl (g_X10_holds l D b N V hN hJ0.1 (2 * n0) 2 24) rfl (Nat.le_of_ble_eq_true rfl) ⟨Nat.le_of_ble_eq_true rfl, Nat.le_of_ble_eq_true rfl, Nat.le_of_ble_eq_true rfl, Nat.le_of_ble_eq_true rfl⟩ (fun r_282 N_283 V_284 q_285 => ?_)
              obtain ⟨h_280, rfl, rfl⟩ := q_285
              refine aw_if_ne (tgt := 81) dX11_guess_76 (by decide) (fun c_286 => ?_) (fun c_286 => ?_)
              · skip
                refine aw_aload_n dX11_guess_81 rfl ?_
                refine aw_get dX11_guess_82 fl_X11_12 e_278 (by omega) rfl ?_
                refine aw_iconst (v := 2) dX11_guess_85 (by decide) ?_
                refine aw_iload_n dX11_guess_86 rfl ?_
                refine aw_imul dX11_guess_87 ?_
                refine aw_callVv (J' := jX10_take) (As := [.int (2 * n0)]) (st := []) dX11_guess_88 tb_271 ok_X10_take ⟨_, e_281⟩ (by omega) rfl rfl (g_X10_take l D b N V hN hJ0.1 (2 * n0)) rfl (Nat.le_of_ble_eq_true rfl) ⟨Nat.le_of_ble_eq_true rfl, Nat.le_of_ble_eq_true rfl, Nat.le_of_ble_eq_true rfl, Nat.le_of_ble_eq_true rfl⟩ (fun  N_290 V_289 q_291 => ?_)
                obtain ⟨rfl, q_287⟩ := q_291
                have j_288 := JW.trans hJ0 (JW.weak q_287 (Sub.cons LM0 (by decide) (by decide) (by decide) (Or.inr ⟨by decide, by decide⟩) (Sub.cons (LMs LM0) (by decide) (by decide) (by decide) (Or.inr ⟨by decide, by decide⟩) (Sub.cons (LMs (LMs LM0)) (by decide) (by decide) (by decide) (Or.inr ⟨by decide, by decide⟩) (Sub.cons (LMs (LMs (LMs LM0))) (by decide) (by decide) (by decide) (Or.inr ⟨by decide, by decide⟩) Sub.nil)))))
                refine aw_aload_n dX11_guess_91 rfl ?_
                obtain ⟨ek_292, x_292, y_292, e_292, hx_292, hy_292⟩ := JW.get j_288 ct_0
                refine aw_get dX11_guess_92 fl_X11_12 e_292 (by omega) rfl ?_
                refine aw_aload_n dX11_guess_95 rfl ?_
                refine aw_get dX11_guess_96 fl_X11_19 e_292 (by omega) rfl ?_
                refine aw_iload_n dX11_guess_99 rfl ?_
                refine aw_callSi (J' := jX3_triesFit) (As := [.ref (b + 1), .ref (b + 3), .int n0]) (st := []) dX11_guess_100 tb_922 ok_X3_triesFit rfl (g_X3_triesFit l D b N V_289 hN j_288.1 3 cA_3 n0) rfl (Nat.le_of_ble_eq_true rfl) ⟨Nat.le_of_ble_eq_true rfl, Nat.le_of_ble_eq_true rfl, Nat.le_of_ble_eq_true rfl, Nat.le_of_ble_eq_true rfl⟩ (fun r_295 N_296 V_297 q_298 => ?_)
                obtain ⟨h_294, rfl, rfl⟩ := q_298
                refine aw_if_ne (tgt := 109) dX11_guess_103 (by decide) (fun c_299 => ?_) (fun c_299 => ?_)
                · skip
                  refine aw_iload_n dX11_guess_109 rfl ?_
                  refine aw_bipush (v := 100) dX11_guess_110 (by decide) ?_
                  refine aw_icmp_ne (tgt := 128) dX11_guess_112 (by decide) (fun c_300 => ?_) (fun c_300 => ?_)
                  · skip
                    refine aw_iload_n dX11_guess_128 rfl ?_
                    refine aw_if_eq (tgt := 136) dX11_guess_129 (by decide) (fun c_301 => ?_) (fun c_301 => ?_)
                    · exact absurd c_301 (by decide)
                    refine aw_iload_n dX11_guess_132 rfl ?_
                    refine aw_goto (tgt := 140) dX11_guess_133 (by decide) ?_
                    refine aw_istore (ls' := [some (.ref (b + 0)), some (.int n0), some (.int n1), some (.int 1), some (.int 0), some (.int n1), none, none]) dX11_guess_140 (Nat.le_of_ble_eq_true rfl) rfl ?_
                    refine aw_aload_n dX11_guess_142 rfl ?_
                    refine aw_get dX11_guess_143 fl_X11_12 e_292 (by omega) rfl ?_
                    refine aw_aload_n dX11_guess_146 rfl ?_
                    refine aw_get dX11_guess_147 fl_X11_19 e_292 (by omega) rfl ?_
                    refine aw_iload_n dX11_guess_150 rfl ?_
                    refine aw_iload dX11_guess_151 rfl ?_
                    refine aw_callSi (J' := jX3_leastStrength) (As := [.ref (b + 1), .ref (b + 3), .int n0, .int n1]) (st := []) dX11_guess_153 tb_940 ok_X3_leastStrength rfl (g_X3_leastStrength l D b N V_289 hN j_288.1 3 cA_3 n0 n1) rfl (Nat.le_of_ble_eq_true rfl) ⟨Nat.le_of_ble_eq_true rfl, Nat.le_of_ble_eq_true rfl, Nat.le_of_ble_eq_true rfl, Nat.le_of_ble_eq_true rfl⟩ (fun r_303 N_304 V_305 q_306 => ?_)
                    obtain ⟨rfl, rfl⟩ := q_306
                    refine aw_istore (ls' := [some (.ref (b + 0)), some (.int n0), some (.int n1), some (.int 1), some (.int 0), some (.int n1), some (.int r_303), none]) dX11_guess_156 (Nat.le_of_ble_eq_true rfl) rfl ?_
                    refine aw_aload_n dX11_guess_158 rfl ?_
                    refine aw_get dX11_guess_159 fl_X11_12 e_292 (by omega) rfl ?_
                    refine aw_aload_n dX11_guess_162 rfl ?_
                    refine aw_get dX11_guess_163 fl_X11_19 e_292 (by omega) rfl ?_
                    refine aw_iload_n dX11_guess_166 rfl ?_
                    refine aw_iload dX11_guess_167 rfl ?_
                    refine aw_callSi (J' := jX3_greatestStrength) (As := [.ref (b + 1), .ref (b + 3), .int n0, .int n1]) (st := []) dX11_guess_169 tb_941 ok_X3_greatestStrength rfl (g_X3_greatestStrength l D b N V_289 hN j_288.1 3 cA_3 n0 n1) rfl (Nat.le_of_ble_eq_true rfl) ⟨Nat.le_of_ble_eq_true rfl, Nat.le_of_ble_eq_true rfl, Nat.le_of_ble_eq_true rfl, Nat.le_of_ble_eq_true rfl⟩ (fun r_308 N_309 V_310 q_311 => ?_)
                    obtain ⟨rfl, rfl⟩ := q_311
                    refine aw_istore (ls' := [some (.ref (b + 0)), some (.int n0), some (.int n1), some (.int 1), some (.int 0), some (.int n1), some (.int r_303), some (.int r_308)]) dX11_guess_172 (Nat.le_of_ble_eq_true rfl) rfl ?_
                    refine aw_iload dX11_guess_174 rfl ?_
                    refine aw_iload dX11_guess_176 rfl ?_
                    refine aw_icmp_le (tgt := 184) dX11_guess_178 (by decide) (fun c_312 => ?_) (fun c_312 => ?_)
                    · skip
                      refine aw_iload_n dX11_guess_184 rfl ?_
                      refine aw_if_eq (tgt := 193) dX11_guess_185 (by decide) (fun c_313 => ?_) (fun c_313 => ?_)
                      · exact absurd c_313 (by decide)
                      refine aw_iload dX11_guess_188 rfl ?_
                      refine aw_goto (tgt := 195) dX11_guess_190 (by decide) ?_
                      refine aw_ireti dX11_guess_195 rfl (Nat.le_of_ble_eq_true rfl) (Nat.le_of_ble_eq_true rfl) ?_
                      exact ⟨rfl, j_288⟩
                    · skip
                      refine aw_bipush (v := (-2)) dX11_guess_181 (by decide) ?_
                      refine aw_ireti dX11_guess_183 rfl (Nat.le_of_ble_eq_true rfl) (Nat.le_of_ble_eq_true rfl) ?_
                      exact ⟨rfl, j_288⟩
                  · skip
                    refine aw_aload_n dX11_guess_115 rfl ?_
                    refine aw_get dX11_guess_116 fl_X11_12 e_292 (by omega) rfl ?_
                    refine aw_aload_n dX11_guess_119 rfl ?_
                    refine aw_get dX11_guess_120 fl_X11_19 e_292 (by omega) rfl ?_
                    refine aw_iload_n dX11_guess_123 rfl ?_
                    refine aw_callSi (J' := jX3_possibleFears) (As := [.ref (b + 1), .ref (b + 3), .int n0]) (st := []) dX11_guess_124 tb_930 ok_X3_possibleFears rfl (g_X3_possibleFears l D b N V_289 hN j_288.1 3 cA_3 n0) rfl (Nat.le_of_ble_eq_true rfl) ⟨Nat.le_of_ble_eq_true rfl, Nat.le_of_ble_eq_true rfl, Nat.le_of_ble_eq_true rfl, Nat.le_of_ble_eq_true rfl⟩ (fun r_315 N_316 V_317 q_318 => ?_)
                    obtain ⟨rfl, rfl⟩ := q_318
                    refine aw_ireti dX11_guess_127 rfl (Nat.le_of_ble_eq_true rfl) (Nat.le_of_ble_eq_true rfl) ?_
                    exact ⟨rfl, j_288⟩
                · skip
                  refine aw_bipush (v := (-3)) dX11_guess_106 (by decide) ?_
                  refine aw_ireti dX11_guess_108 rfl (Nat.le_of_ble_eq_true rfl) (Nat.le_of_ble_eq_true rfl) ?_
                  exact ⟨rfl, j_288⟩
              · skip
                refine aw_iconst (v := (-1)) dX11_guess_79 (by decide) ?_
                refine aw_ireti dX11_guess_80 rfl (Nat.le_of_ble_eq_true rfl) (Nat.le_of_ble_eq_true rfl) ?_
                exact ⟨rfl, hJ0⟩
        · skip
          refine aw_iconst (v := 1) dX11_guess_28 (by decide) ?_
          refine aw_goto (tgt := 33) dX11_guess_29 (by decide) ?_
          refine aw_istore (ls' := [some (.ref (b + 0)), some (.int n0), some (.int n1), some (.int 1), some (.int 1), none, none, none]) dX11_guess_33 (Nat.le_of_ble_eq_true rfl) rfl ?_
          refine aw_iload_n dX11_guess_35 rfl ?_
          refine aw_if_ne (tgt := 52) dX11_guess_36 (by decide) (fun c_319 => ?_) (fun c_319 => ?_)
          rotate_left
          · exact absurd c_319 (by decide)
          refine aw_iload_n dX11_guess_52 rfl ?_
          refine aw_iconst (v := 1) dX11_guess_53 (by decide) ?_
          refine aw_icmp_lt (tgt := 79) dX11_guess_54 (by decide) (fun c_320 => ?_) (fun c_320 => ?_)
          · skip
            refine aw_iconst (v := (-1)) dX11_guess_79 (by decide) ?_
            refine aw_ireti dX11_guess_80 rfl (Nat.le_of_ble_eq_true rfl) (Nat.le_of_ble_eq_true rfl) ?_
            exact ⟨rfl, hJ0⟩
          · skip
            refine aw_iload_n dX11_guess_57 rfl ?_
            refine aw_bipush (v := 12) dX11_guess_58 (by decide) ?_
            refine aw_icmp_gt (tgt := 79) dX11_guess_60 (by decide) (fun c_321 => ?_) (fun c_321 => ?_)
            · skip
              refine aw_iconst (v := (-1)) dX11_guess_79 (by decide) ?_
              refine aw_ireti dX11_guess_80 rfl (Nat.le_of_ble_eq_true rfl) (Nat.le_of_ble_eq_true rfl) ?_
              exact ⟨rfl, hJ0⟩
            · skip
              refine aw_aload_n dX11_guess_63 rfl ?_
              obtain ⟨ek_322, x_322, y_322, e_322, hx_322, hy_322⟩ := JW.get hJ0 ct_0
              refine aw_get dX11_guess_64 fl_X11_12 e_322 (by omega) rfl ?_
              refine aw_iconst (v := 2) dX11_guess_67 (by decide) ?_
              refine aw_iload_n dX11_guess_68 rfl ?_
              refine aw_imul dX11_guess_69 ?_
              refine aw_iconst (v := 2) dX11_guess_70 (by decide) ?_
              refine aw_bipush (v := 24) dX11_guess_71 (by decide) ?_
              obtain ⟨ts_325, tn_325, tf_325, ta_325, e_325, hta_325⟩ := JW.get hJ0 ct_1
              refine aw_callVi (J' := jX10_holds) (As := [.int (2 * n0), .int 2, .int 24]) (st := []) dX11_guess_73 tb_267 ok_X10_holds ⟨_, e_325⟩ (by omega) rfl rfl (g_X10_holds l D b N V hN hJ0.1 (2 * n0) 2 24) rfl (Nat.le_of_ble_eq_true rfl) ⟨Nat.le_of_ble_eq_true rfl, Nat.le_of_ble_eq_true rfl, Nat.le_of_ble_eq_true rfl, Nat.le_of_ble_eq_true rfl⟩ (fun r_326 N_327 V_328 q_329 => ?_)
              obtain ⟨h_324, rfl, rfl⟩ := q_329
              refine aw_if_ne (tgt := 81) dX11_guess_76 (by decide) (fun c_330 => ?_) (fun c_330 => ?_)
              · skip
                refine aw_aload_n dX11_guess_81 rfl ?_
                refine aw_get dX11_guess_82 fl_X11_12 e_322 (by omega) rfl ?_
                refine aw_iconst (v := 2) dX11_guess_85 (by decide) ?_
                refine aw_iload_n dX11_guess_86 rfl ?_
                refine aw_imul dX11_guess_87 ?_
                refine aw_callVv (J' := jX10_take) (As := [.int (2 * n0)]) (st := []) dX11_guess_88 tb_271 ok_X10_take ⟨_, e_325⟩ (by omega) rfl rfl (g_X10_take l D b N V hN hJ0.1 (2 * n0)) rfl (Nat.le_of_ble_eq_true rfl) ⟨Nat.le_of_ble_eq_true rfl, Nat.le_of_ble_eq_true rfl, Nat.le_of_ble_eq_true rfl, Nat.le_of_ble_eq_true rfl⟩ (fun  N_334 V_333 q_335 => ?_)
                obtain ⟨rfl, q_331⟩ := q_335
                have j_332 := JW.trans hJ0 (JW.weak q_331 (Sub.cons LM0 (by decide) (by decide) (by decide) (Or.inr ⟨by decide, by decide⟩) (Sub.cons (LMs LM0) (by decide) (by decide) (by decide) (Or.inr ⟨by decide, by decide⟩) (Sub.cons (LMs (LMs LM0)) (by decide) (by decide) (by decide) (Or.inr ⟨by decide, by decide⟩) (Sub.cons (LMs (LMs (LMs LM0))) (by decide) (by decide) (by decide) (Or.inr ⟨by decide, by decide⟩) Sub.nil)))))
                refine aw_aload_n dX11_guess_91 rfl ?_
                obtain ⟨ek_336, x_336, y_336, e_336, hx_336, hy_336⟩ := JW.get j_332 ct_0
                refine aw_get dX11_guess_92 fl_X11_12 e_336 (by omega) rfl ?_
                refine aw_aload_n dX11_guess_95 rfl ?_
                refine aw_get dX11_guess_96 fl_X11_19 e_336 (by omega) rfl ?_
                refine aw_iload_n dX11_guess_99 rfl ?_
                refine aw_callSi (J' := jX3_triesFit) (As := [.ref (b + 1), .ref (b + 3), .int n0]) (st := []) dX11_guess_100 tb_922 ok_X3_triesFit rfl (g_X3_triesFit l D b N V_333 hN j_332.1 3 cA_3 n0) rfl (Nat.le_of_ble_eq_true rfl) ⟨Nat.le_of_ble_eq_true rfl, Nat.le_of_ble_eq_true rfl, Nat.le_of_ble_eq_true rfl, Nat.le_of_ble_eq_true rfl⟩ (fun r_339 N_340 V_341 q_342 => ?_)
                obtain ⟨h_338, rfl, rfl⟩ := q_342
                refine aw_if_ne (tgt := 109) dX11_guess_103 (by decide) (fun c_343 => ?_) (fun c_343 => ?_)
                · skip
                  refine aw_iload_n dX11_guess_109 rfl ?_
                  refine aw_bipush (v := 100) dX11_guess_110 (by decide) ?_
                  refine aw_icmp_ne (tgt := 128) dX11_guess_112 (by decide) (fun c_344 => ?_) (fun c_344 => ?_)
                  · skip
                    refine aw_iload_n dX11_guess_128 rfl ?_
                    refine aw_if_eq (tgt := 136) dX11_guess_129 (by decide) (fun c_345 => ?_) (fun c_345 => ?_)
                    · exact absurd c_345 (by decide)
                    refine aw_iload_n dX11_guess_132 rfl ?_
                    refine aw_goto (tgt := 140) dX11_guess_133 (by decide) ?_
                    refine aw_istore (ls' := [some (.ref (b + 0)), some (.int n0), some (.int n1), some (.int 1), some (.int 1), some (.int n1), none, none]) dX11_guess_140 (Nat.le_of_ble_eq_true rfl) rfl ?_
                    refine aw_aload_n dX11_guess_142 rfl ?_
                    refine aw_get dX11_guess_143 fl_X11_12 e_336 (by omega) rfl ?_
                    refine aw_aload_n dX11_guess_146 rfl ?_
                    refine aw_get dX11_guess_147 fl_X11_19 e_336 (by omega) rfl ?_
                    refine aw_iload_n dX11_guess_150 rfl ?_
                    refine aw_iload dX11_guess_151 rfl ?_
                    refine aw_callSi (J' := jX3_leastStrength) (As := [.ref (b + 1), .ref (b + 3), .int n0, .int n1]) (st := []) dX11_guess_153 tb_940 ok_X3_leastStrength rfl (g_X3_leastStrength l D b N V_333 hN j_332.1 3 cA_3 n0 n1) rfl (Nat.le_of_ble_eq_true rfl) ⟨Nat.le_of_ble_eq_true rfl, Nat.le_of_ble_eq_true rfl, Nat.le_of_ble_eq_true rfl, Nat.le_of_ble_eq_true rfl⟩ (fun r_347 N_348 V_349 q_350 => ?_)
                    obtain ⟨rfl, rfl⟩ := q_350
                    refine aw_istore (ls' := [some (.ref (b + 0)), some (.int n0), some (.int n1), some (.int 1), some (.int 1), some (.int n1), some (.int r_347), none]) dX11_guess_156 (Nat.le_of_ble_eq_true rfl) rfl ?_
                    refine aw_aload_n dX11_guess_158 rfl ?_
                    refine aw_get dX11_guess_159 fl_X11_12 e_336 (by omega) rfl ?_
                    refine aw_aload_n dX11_guess_162 rfl ?_
                    refine aw_get dX11_guess_163 fl_X11_19 e_336 (by omega) rfl ?_
                    refine aw_iload_n dX11_guess_166 rfl ?_
                    refine aw_iload dX11_guess_167 rfl ?_
                    refine aw_callSi (J' := jX3_greatestStrength) (As := [.ref (b + 1), .ref (b + 3), .int n0, .int n1]) (st := []) dX11_guess_169 tb_941 ok_X3_greatestStrength rfl (g_X3_greatestStrength l D b N V_333 hN j_332.1 3 cA_3 n0 n1) rfl (Nat.le_of_ble_eq_true rfl) ⟨Nat.le_of_ble_eq_true rfl, Nat.le_of_ble_eq_true rfl, Nat.le_of_ble_eq_true rfl, Nat.le_of_ble_eq_true rfl⟩ (fun r_352 N_353 V_354 q_355 => ?_)
                    obtain ⟨rfl, rfl⟩ := q_355
                    refine aw_istore (ls' := [some (.ref (b + 0)), some (.int n0), some (.int n1), some (.int 1), some (.int 1), some (.int n1), some (.int r_347), some (.int r_352)]) dX11_guess_172 (Nat.le_of_ble_eq_true rfl) rfl ?_
                    refine aw_iload dX11_guess_174 rfl ?_
                    refine aw_iload dX11_guess_176 rfl ?_
                    refine aw_icmp_le (tgt := 184) dX11_guess_178 (by decide) (fun c_356 => ?_) (fun c_356 => ?_)
                    · skip
                      refine aw_iload_n dX11_guess_184 rfl ?_
                      refine aw_if_eq (tgt := 193) dX11_guess_185 (by decide) (fun c_357 => ?_) (fun c_357 => ?_)
                      · exact absurd c_357 (by decide)
                      refine aw_iload dX11_guess_188 rfl ?_
                      refine aw_goto (tgt := 195) dX11_guess_190 (by decide) ?_
                      refine aw_ireti dX11_guess_195 rfl (Nat.le_of_ble_eq_true rfl) (Nat.le_of_ble_eq_true rfl) ?_
                      exact ⟨rfl, j_332⟩
                    · skip
                      refine aw_bipush (v := (-2)) dX11_guess_181 (by decide) ?_
                      refine aw_ireti dX11_guess_183 rfl (Nat.le_of_ble_eq_true rfl) (Nat.le_of_ble_eq_true rfl) ?_
                      exact ⟨rfl, j_332⟩
                  · skip
                    refine aw_aload_n dX11_guess_115 rfl ?_
                    refine aw_get dX11_guess_116 fl_X11_12 e_336 (by omega) rfl ?_
                    refine aw_aload_n dX11_guess_119 rfl ?_
                    refine aw_get dX11_guess_120 fl_X11_19 e_336 (by omega) rfl ?_
                    refine aw_iload_n dX11_guess_123 rfl ?_
                    refine aw_callSi (J' := jX3_possibleFears) (As := [.ref (b + 1), .ref (b + 3), .int n0]) (st := []) dX11_guess_124 tb_930 ok_X3_possibleFears rfl (g_X3_possibleFears l D b N V_333 hN j_332.1 3 cA_3 n0) rfl (Nat.le_of_ble_eq_true rfl) ⟨Nat.le_of_ble_eq_true rfl, Nat.le_of_ble_eq_true rfl, Nat.le_of_ble_eq_true rfl, Nat.le_of_ble_eq_true rfl⟩ (fun r_359 N_360 V_361 q_362 => ?_)
                    obtain ⟨rfl, rfl⟩ := q_362
                    refine aw_ireti dX11_guess_127 rfl (Nat.le_of_ble_eq_true rfl) (Nat.le_of_ble_eq_true rfl) ?_
                    exact ⟨rfl, j_332⟩
                · skip
                  refine aw_bipush (v := (-3)) dX11_guess_106 (by decide) ?_
                  refine aw_ireti dX11_guess_108 rfl (Nat.le_of_ble_eq_true rfl) (Nat.le_of_ble_eq_true rfl) ?_
                  exact ⟨rfl, j_332⟩
              · skip
                refine aw_iconst (v := (-1)) dX11_guess_79 (by decide) ?_
                refine aw_ireti dX11_guess_80 rfl (Nat.le_of_ble_eq_true rfl) (Nat.le_of_ble_eq_true rfl) ?_
                exact ⟨rfl, hJ0⟩

set_option maxHeartbeats 4000000 in
set_option maxRecDepth 100000 in
theorem g_X11_sentNext (l : Launch) (D : va_G) (b : Nat) (N : Nat) (V : Wd) (hN : 100 ≤ N) (hW : CW D b V) (n0 : Int32) (n1 : Int32)  : MI l D b 5 jX11_sentNext [.ref (b + 0), .int n0, .int n1] N V 0 0 (fun r N9 V9 => N = N9 ∧ V = V9) := by
  have hJ0 : JW D b N [] V V := JW.rf hW
  refine mw_of (by decide) (by simp [Value.category]) (Nat.le_of_ble_eq_true rfl) ?_
  show AW l D b jX11_sentNext (fx_rm 5 0 0) none (fx_MQ D b 0 0 (fx_qi (fun r N9 V9 => N = N9 ∧ V = V9))) 0 [some (.ref (b + 0)), some (.int n0), some (.int n1), none] [] N V 0 0
  refine aw_iload_n dX11_sentNext_0 rfl ?_
  refine aw_iconst (v := 1) dX11_sentNext_1 (by decide) ?_
  refine aw_icmp_lt (tgt := 20) dX11_sentNext_2 (by decide) (fun c_1 => ?_) (fun c_1 => ?_)
  · skip
    refine aw_iconst (v := (-1)) dX11_sentNext_20 (by decide) ?_
    refine aw_ireti dX11_sentNext_21 rfl (Nat.le_of_ble_eq_true rfl) (Nat.le_of_ble_eq_true rfl) ?_
    exact ⟨rfl, rfl⟩
  · skip
    refine aw_iload_n dX11_sentNext_5 rfl ?_
    refine aw_ldc (v := 65535) dX11_sentNext_6 tb_946 ?_
    refine aw_icmp_gt (tgt := 20) dX11_sentNext_8 (by decide) (fun c_2 => ?_) (fun c_2 => ?_)
    · skip
      refine aw_iconst (v := (-1)) dX11_sentNext_20 (by decide) ?_
      refine aw_ireti dX11_sentNext_21 rfl (Nat.le_of_ble_eq_true rfl) (Nat.le_of_ble_eq_true rfl) ?_
      exact ⟨rfl, rfl⟩
    · skip
      refine aw_iload_n dX11_sentNext_11 rfl ?_
      refine aw_if_lt (tgt := 20) dX11_sentNext_12 (by decide) (fun c_3 => ?_) (fun c_3 => ?_)
      · skip
        refine aw_iconst (v := (-1)) dX11_sentNext_20 (by decide) ?_
        refine aw_ireti dX11_sentNext_21 rfl (Nat.le_of_ble_eq_true rfl) (Nat.le_of_ble_eq_true rfl) ?_
        exact ⟨rfl, rfl⟩
      · skip
        refine aw_iload_n dX11_sentNext_15 rfl ?_
        refine aw_iconst (v := 1) dX11_sentNext_16 (by decide) ?_
        refine aw_icmp_le (tgt := 22) dX11_sentNext_17 (by decide) (fun c_4 => ?_) (fun c_4 => ?_)
        · skip
          refine aw_aload_n dX11_sentNext_22 rfl ?_
          obtain ⟨ek_5, x_5, y_5, e_5, hx_5, hy_5⟩ := JW.get hJ0 ct_0
          refine aw_get dX11_sentNext_23 fl_X11_19 e_5 (by omega) rfl ?_
          refine aw_iload_n dX11_sentNext_26 rfl ?_
          refine aw_callSi (J' := jX3_bestToSend) (As := [.ref (b + 3), .int n0]) (st := []) dX11_sentNext_27 tb_947 ok_X3_bestToSend rfl (g_X3_bestToSend l D b N V hN hJ0.1 3 cA_3 n0) rfl (Nat.le_of_ble_eq_true rfl) ⟨Nat.le_of_ble_eq_true rfl, Nat.le_of_ble_eq_true rfl, Nat.le_of_ble_eq_true rfl, Nat.le_of_ble_eq_true rfl⟩ (fun r_7 N_8 V_9 q_10 => ?_)
          obtain ⟨rfl, rfl⟩ := q_10
          refine aw_istore_n (ls' := [some (.ref (b + 0)), some (.int n0), some (.int n1), some (.int r_7)]) dX11_sentNext_30 (Nat.le_of_ble_eq_true rfl) rfl ?_
          refine aw_iload_n dX11_sentNext_31 rfl ?_
          refine aw_if_ge (tgt := 38) dX11_sentNext_32 (by decide) (fun c_11 => ?_) (fun c_11 => ?_)
          · skip
            refine aw_iload_n dX11_sentNext_38 rfl ?_
            refine aw_if_ne (tgt := 46) dX11_sentNext_39 (by decide) (fun c_12 => ?_) (fun c_12 => ?_)
            · skip
              refine aw_aload_n dX11_sentNext_46 rfl ?_
              refine aw_get dX11_sentNext_47 fl_X11_19 e_5 (by omega) rfl ?_
              refine aw_iload_n dX11_sentNext_50 rfl ?_
              refine aw_iload_n dX11_sentNext_51 rfl ?_
              refine aw_callSi (J' := jX3_leftAtWorst) (As := [.ref (b + 3), .int n0, .int r_7]) (st := []) dX11_sentNext_52 tb_953 ok_X3_leftAtWorst rfl (g_X3_leftAtWorst l D b N V hN hJ0.1 3 cA_3 n0 r_7) rfl (Nat.le_of_ble_eq_true rfl) ⟨Nat.le_of_ble_eq_true rfl, Nat.le_of_ble_eq_true rfl, Nat.le_of_ble_eq_true rfl, Nat.le_of_ble_eq_true rfl⟩ (fun r_14 N_15 V_16 q_17 => ?_)
              obtain ⟨rfl, rfl⟩ := q_17
              refine aw_ireti dX11_sentNext_55 rfl (Nat.le_of_ble_eq_true rfl) (Nat.le_of_ble_eq_true rfl) ?_
              exact ⟨rfl, rfl⟩
            · skip
              refine aw_iload_n dX11_sentNext_42 rfl ?_
              refine aw_goto (tgt := 55) dX11_sentNext_43 (by decide) ?_
              refine aw_ireti dX11_sentNext_55 rfl (Nat.le_of_ble_eq_true rfl) (Nat.le_of_ble_eq_true rfl) ?_
              exact ⟨rfl, rfl⟩
          · skip
            refine aw_bipush (v := (-2)) dX11_sentNext_35 (by decide) ?_
            refine aw_ireti dX11_sentNext_37 rfl (Nat.le_of_ble_eq_true rfl) (Nat.le_of_ble_eq_true rfl) ?_
            exact ⟨rfl, rfl⟩
        · skip
          refine aw_iconst (v := (-1)) dX11_sentNext_20 (by decide) ?_
          refine aw_ireti dX11_sentNext_21 rfl (Nat.le_of_ble_eq_true rfl) (Nat.le_of_ble_eq_true rfl) ?_
          exact ⟨rfl, rfl⟩

set_option maxHeartbeats 4000000 in
set_option maxRecDepth 100000 in
theorem g_X11_guards (l : Launch) (D : va_G) (b : Nat) (N : Nat) (V : Wd) (hN : 100 ≤ N) (hW : CW D b V) (n0 : Int32)  : MI l D b 8 jX11_guards [.ref (b + 0), .int n0] N V 0 0 (fun r N9 V9 => N = N9 ∧ JW D b N [(98, 98, 0, 1000000), (1, 1, 2, 2), (1, 1, 3, 3), (1, 1, 4, 4), (1, 1, 1, 1)] V V9) := by
  have hJ0 : JW D b N [(98, 98, 0, 1000000), (1, 1, 2, 2), (1, 1, 3, 3), (1, 1, 4, 4), (1, 1, 1, 1)] V V := JW.rf hW
  refine mw_of (by decide) (by simp [Value.category]) (Nat.le_of_ble_eq_true rfl) ?_
  show AW l D b jX11_guards (fx_rm 8 0 0) none (fx_MQ D b 0 0 (fx_qi (fun r N9 V9 => N = N9 ∧ JW D b N [(98, 98, 0, 1000000), (1, 1, 2, 2), (1, 1, 3, 3), (1, 1, 4, 4), (1, 1, 1, 1)] V V9))) 0 [some (.ref (b + 0)), some (.int n0)] [] N V 0 0
  refine aw_aload_n dX11_guards_0 rfl ?_
  obtain ⟨ek_1, x_1, y_1, e_1, hx_1, hy_1⟩ := JW.get hJ0 ct_0
  refine aw_get dX11_guards_1 fl_X11_12 e_1 (by omega) rfl ?_
  refine aw_iload_n dX11_guards_4 rfl ?_
  refine aw_iconst (v := 3) dX11_guards_5 (by decide) ?_
  refine aw_bipush (v := 6) dX11_guards_6 (by decide) ?_
  obtain ⟨ts_4, tn_4, tf_4, ta_4, e_4, hta_4⟩ := JW.get hJ0 ct_1
  refine aw_callVi (J' := jX10_holds) (As := [.int n0, .int 3, .int 6]) (st := []) dX11_guards_8 tb_267 ok_X10_holds ⟨_, e_4⟩ (by omega) rfl rfl (g_X10_holds l D b N V hN hJ0.1 n0 3 6) rfl (Nat.le_of_ble_eq_true rfl) ⟨Nat.le_of_ble_eq_true rfl, Nat.le_of_ble_eq_true rfl, Nat.le_of_ble_eq_true rfl, Nat.le_of_ble_eq_true rfl⟩ (fun r_5 N_6 V_7 q_8 => ?_)
  obtain ⟨h_3, rfl, rfl⟩ := q_8
  refine aw_if_ne (tgt := 16) dX11_guards_11 (by decide) (fun c_9 => ?_) (fun c_9 => ?_)
  · skip
    refine aw_aload_n dX11_guards_16 rfl ?_
    refine aw_get dX11_guards_17 fl_X11_12 e_1 (by omega) rfl ?_
    refine aw_iload_n dX11_guards_20 rfl ?_
    refine aw_callVv (J' := jX10_take) (As := [.int n0]) (st := []) dX11_guards_21 tb_271 ok_X10_take ⟨_, e_4⟩ (by omega) rfl rfl (g_X10_take l D b N V hN hJ0.1 n0) rfl (Nat.le_of_ble_eq_true rfl) ⟨Nat.le_of_ble_eq_true rfl, Nat.le_of_ble_eq_true rfl, Nat.le_of_ble_eq_true rfl, Nat.le_of_ble_eq_true rfl⟩ (fun  N_13 V_12 q_14 => ?_)
    obtain ⟨rfl, q_10⟩ := q_14
    have j_11 := JW.trans hJ0 (JW.weak q_10 (Sub.cons (LMs LM0) (by decide) (by decide) (by decide) (Or.inr ⟨by decide, by decide⟩) (Sub.cons (LMs (LMs LM0)) (by decide) (by decide) (by decide) (Or.inr ⟨by decide, by decide⟩) (Sub.cons (LMs (LMs (LMs LM0))) (by decide) (by decide) (by decide) (Or.inr ⟨by decide, by decide⟩) (Sub.cons (LMs (LMs (LMs (LMs LM0)))) (by decide) (by decide) (by decide) (Or.inr ⟨by decide, by decide⟩) Sub.nil)))))
    refine aw_aload_n dX11_guards_24 rfl ?_
    obtain ⟨ek_15, x_15, y_15, e_15, hx_15, hy_15⟩ := JW.get j_11 ct_0
    refine aw_get dX11_guards_25 fl_X11_67 e_15 (by omega) rfl ?_
    refine aw_aload_n dX11_guards_28 rfl ?_
    refine aw_get dX11_guards_29 fl_X11_12 e_15 (by omega) rfl ?_
    refine aw_aload_n dX11_guards_32 rfl ?_
    refine aw_get dX11_guards_33 fl_X11_19 e_15 (by omega) rfl ?_
    refine aw_iload_n dX11_guards_36 rfl ?_
    have e_19 := JW.get j_11 ct_97
    refine aw_callVi (J' := jX9_waysToStand) (As := [.ref (b + 1), .ref (b + 3), .int n0]) (st := []) dX11_guards_37 tb_958 ok_X9_waysToStand ⟨_, e_19⟩ (by omega) rfl rfl (g_X9_waysToStand l D b N V_12 hN j_11.1 3 cA_3 n0) rfl (Nat.le_of_ble_eq_true rfl) ⟨Nat.le_of_ble_eq_true rfl, Nat.le_of_ble_eq_true rfl, Nat.le_of_ble_eq_true rfl, Nat.le_of_ble_eq_true rfl⟩ (fun r_20 N_21 V_18 q_22 => ?_)
    obtain ⟨rfl, q_16⟩ := q_22
    have j_17 := JW.trans j_11 (JW.weak q_16 (Sub.cons LM0 (by decide) (by decide) (by decide) (Or.inl rfl) Sub.nil))
    refine aw_ireti dX11_guards_40 rfl (Nat.le_of_ble_eq_true rfl) (Nat.le_of_ble_eq_true rfl) ?_
    exact ⟨rfl, j_17⟩
  · skip
    refine aw_iconst (v := (-1)) dX11_guards_14 (by decide) ?_
    refine aw_ireti dX11_guards_15 rfl (Nat.le_of_ble_eq_true rfl) (Nat.le_of_ble_eq_true rfl) ?_
    exact ⟨rfl, hJ0⟩

set_option maxHeartbeats 4000000 in
set_option maxRecDepth 100000 in
theorem g_X11_word (l : Launch) (D : va_G) (b : Nat) (N : Nat) (V : Wd) (hN : 100 ≤ N) (hW : CW D b V) (n0 : Int32) (n1 : Int32) (n2 : Int32)  : ML l D b 3 jX11_word [.ref (b + 0), .int n0, .int n1, .int n2] N V 0 0 (fun r N9 V9 => N = N9 ∧ JW D b N [(99, 99, 0, 1000000)] V V9) := by
  have hJ0 : JW D b N [(99, 99, 0, 1000000)] V V := JW.rf hW
  refine mw_of (by decide) (by simp [Value.category]) (Nat.le_of_ble_eq_true rfl) ?_
  show AW l D b jX11_word (fx_rm 3 0 0) none (fx_MQ D b 0 0 (fx_ql (fun r N9 V9 => N = N9 ∧ JW D b N [(99, 99, 0, 1000000)] V V9))) 0 [some (.ref (b + 0)), some (.int n0), some (.int n1), some (.int n2)] [] N V 0 0
  refine aw_iload_n dX11_word_0 rfl ?_
  refine aw_iconst (v := 1) dX11_word_1 (by decide) ?_
  refine aw_icmp_lt (tgt := 21) dX11_word_2 (by decide) (fun c_1 => ?_) (fun c_1 => ?_)
  · skip
    refine aw_ldc2 (v := (-1)) dX11_word_21 tb_977 ?_
    refine aw_lreti dX11_word_24 rfl (Nat.le_of_ble_eq_true rfl) (Nat.le_of_ble_eq_true rfl) ?_
    exact ⟨rfl, hJ0⟩
  · skip
    refine aw_iload_n dX11_word_5 rfl ?_
    refine aw_bipush (v := 8) dX11_word_6 (by decide) ?_
    refine aw_icmp_gt (tgt := 21) dX11_word_8 (by decide) (fun c_2 => ?_) (fun c_2 => ?_)
    · skip
      refine aw_ldc2 (v := (-1)) dX11_word_21 tb_977 ?_
      refine aw_lreti dX11_word_24 rfl (Nat.le_of_ble_eq_true rfl) (Nat.le_of_ble_eq_true rfl) ?_
      exact ⟨rfl, hJ0⟩
    · skip
      refine aw_iload_n dX11_word_11 rfl ?_
      refine aw_if_lt (tgt := 21) dX11_word_12 (by decide) (fun c_3 => ?_) (fun c_3 => ?_)
      · skip
        refine aw_ldc2 (v := (-1)) dX11_word_21 tb_977 ?_
        refine aw_lreti dX11_word_24 rfl (Nat.le_of_ble_eq_true rfl) (Nat.le_of_ble_eq_true rfl) ?_
        exact ⟨rfl, hJ0⟩
      · skip
        refine aw_iload_n dX11_word_15 rfl ?_
        refine aw_ldc (v := 65535) dX11_word_16 tb_946 ?_
        refine aw_icmp_le (tgt := 25) dX11_word_18 (by decide) (fun c_4 => ?_) (fun c_4 => ?_)
        · skip
          refine aw_iload_n dX11_word_25 rfl ?_
          refine aw_if_lt (tgt := 36) dX11_word_26 (by decide) (fun c_5 => ?_) (fun c_5 => ?_)
          · skip
            refine aw_ldc2 (v := (-1)) dX11_word_36 tb_977 ?_
            refine aw_lreti dX11_word_39 rfl (Nat.le_of_ble_eq_true rfl) (Nat.le_of_ble_eq_true rfl) ?_
            exact ⟨rfl, hJ0⟩
          · skip
            refine aw_iload_n dX11_word_29 rfl ?_
            refine aw_sipush (v := 128) dX11_word_30 (by decide) ?_
            refine aw_icmp_le (tgt := 40) dX11_word_33 (by decide) (fun c_6 => ?_) (fun c_6 => ?_)
            · skip
              refine aw_aload_n dX11_word_40 rfl ?_
              obtain ⟨ek_7, x_7, y_7, e_7, hx_7, hy_7⟩ := JW.get hJ0 ct_0
              refine aw_get dX11_word_41 fl_X11_67 e_7 (by omega) rfl ?_
              refine aw_iload_n dX11_word_44 rfl ?_
              refine aw_iload_n dX11_word_45 rfl ?_
              refine aw_iload_n dX11_word_46 rfl ?_
              have e_11 := JW.get hJ0 ct_97
              refine aw_callVl (J' := jX9_wordsWeighing) (As := [.int n0, .int n1, .int n2]) (st := []) dX11_word_47 tb_978 ok_X9_wordsWeighing ⟨_, e_11⟩ (by omega) rfl rfl (g_X9_wordsWeighing l D b N V hN hJ0.1 n0 n1 n2) rfl (Nat.le_of_ble_eq_true rfl) ⟨Nat.le_of_ble_eq_true rfl, Nat.le_of_ble_eq_true rfl, Nat.le_of_ble_eq_true rfl, Nat.le_of_ble_eq_true rfl⟩ (fun r_12 N_13 V_10 q_14 => ?_)
              obtain ⟨rfl, q_8⟩ := q_14
              have j_9 := JW.trans hJ0 (JW.weak q_8 (Sub.cons LM0 (by decide) (by decide) (by decide) (Or.inl rfl) Sub.nil))
              refine aw_lreti dX11_word_50 rfl (Nat.le_of_ble_eq_true rfl) (Nat.le_of_ble_eq_true rfl) ?_
              exact ⟨rfl, j_9⟩
            · skip
              refine aw_ldc2 (v := (-1)) dX11_word_36 tb_977 ?_
              refine aw_lreti dX11_word_39 rfl (Nat.le_of_ble_eq_true rfl) (Nat.le_of_ble_eq_true rfl) ?_
              exact ⟨rfl, hJ0⟩
        · skip
          refine aw_ldc2 (v := (-1)) dX11_word_21 tb_977 ?_
          refine aw_lreti dX11_word_24 rfl (Nat.le_of_ble_eq_true rfl) (Nat.le_of_ble_eq_true rfl) ?_
          exact ⟨rfl, hJ0⟩

set_option maxHeartbeats 4000000 in
set_option maxRecDepth 100000 in
theorem g_X11_rooms (l : Launch) (D : va_G) (b : Nat) (N : Nat) (V : Wd) (hN : 100 ≤ N) (hW : CW D b V) (n0 : Int32) (n1 : Int32)  : MI l D b 3 jX11_rooms [.ref (b + 0), .int n0, .int n1] N V 0 0 (fun r N9 V9 => N = N9 ∧ JW D b N [(1, 1, 2, 2), (1, 1, 3, 3), (1, 1, 4, 4), (1, 1, 1, 1)] V V9) := by
  have hJ0 : JW D b N [(1, 1, 2, 2), (1, 1, 3, 3), (1, 1, 4, 4), (1, 1, 1, 1)] V V := JW.rf hW
  refine mw_of (by decide) (by simp [Value.category]) (Nat.le_of_ble_eq_true rfl) ?_
  show AW l D b jX11_rooms (fx_rm 3 0 0) none (fx_MQ D b 0 0 (fx_qi (fun r N9 V9 => N = N9 ∧ JW D b N [(1, 1, 2, 2), (1, 1, 3, 3), (1, 1, 4, 4), (1, 1, 1, 1)] V V9))) 0 [some (.ref (b + 0)), some (.int n0), some (.int n1), none] [] N V 0 0
  refine aw_iload_n dX11_rooms_0 rfl ?_
  refine aw_if_lt (tgt := 24) dX11_rooms_1 (by decide) (fun c_1 => ?_) (fun c_1 => ?_)
  · skip
    refine aw_iconst (v := (-1)) dX11_rooms_24 (by decide) ?_
    refine aw_ireti dX11_rooms_25 rfl (Nat.le_of_ble_eq_true rfl) (Nat.le_of_ble_eq_true rfl) ?_
    exact ⟨rfl, hJ0⟩
  · skip
    refine aw_iload_n dX11_rooms_4 rfl ?_
    refine aw_bipush (v := 99) dX11_rooms_5 (by decide) ?_
    refine aw_icmp_gt (tgt := 24) dX11_rooms_7 (by decide) (fun c_2 => ?_) (fun c_2 => ?_)
    · skip
      refine aw_iconst (v := (-1)) dX11_rooms_24 (by decide) ?_
      refine aw_ireti dX11_rooms_25 rfl (Nat.le_of_ble_eq_true rfl) (Nat.le_of_ble_eq_true rfl) ?_
      exact ⟨rfl, hJ0⟩
    · skip
      refine aw_aload_n dX11_rooms_10 rfl ?_
      obtain ⟨ek_3, x_3, y_3, e_3, hx_3, hy_3⟩ := JW.get hJ0 ct_0
      refine aw_get dX11_rooms_11 fl_X11_12 e_3 (by omega) rfl ?_
      refine aw_iload_n dX11_rooms_14 rfl ?_
      refine aw_iconst (v := 1) dX11_rooms_15 (by decide) ?_
      refine aw_bipush (v := 12) dX11_rooms_16 (by decide) ?_
      obtain ⟨ts_6, tn_6, tf_6, ta_6, e_6, hta_6⟩ := JW.get hJ0 ct_1
      refine aw_callVi (J' := jX10_holds) (As := [.int n0, .int 1, .int 12]) (st := []) dX11_rooms_18 tb_267 ok_X10_holds ⟨_, e_6⟩ (by omega) rfl rfl (g_X10_holds l D b N V hN hJ0.1 n0 1 12) rfl (Nat.le_of_ble_eq_true rfl) ⟨Nat.le_of_ble_eq_true rfl, Nat.le_of_ble_eq_true rfl, Nat.le_of_ble_eq_true rfl, Nat.le_of_ble_eq_true rfl⟩ (fun r_7 N_8 V_9 q_10 => ?_)
      obtain ⟨h_5, rfl, rfl⟩ := q_10
      refine aw_if_ne (tgt := 26) dX11_rooms_21 (by decide) (fun c_11 => ?_) (fun c_11 => ?_)
      · skip
        refine aw_aload_n dX11_rooms_26 rfl ?_
        refine aw_get dX11_rooms_27 fl_X11_12 e_3 (by omega) rfl ?_
        refine aw_iload_n dX11_rooms_30 rfl ?_
        refine aw_callVv (J' := jX10_take) (As := [.int n0]) (st := []) dX11_rooms_31 tb_271 ok_X10_take ⟨_, e_6⟩ (by omega) rfl rfl (g_X10_take l D b N V hN hJ0.1 n0) rfl (Nat.le_of_ble_eq_true rfl) ⟨Nat.le_of_ble_eq_true rfl, Nat.le_of_ble_eq_true rfl, Nat.le_of_ble_eq_true rfl, Nat.le_of_ble_eq_true rfl⟩ (fun  N_15 V_14 q_16 => ?_)
        obtain ⟨rfl, q_12⟩ := q_16
        have j_13 := JW.trans hJ0 (JW.weak q_12 (Sub.cons LM0 (by decide) (by decide) (by decide) (Or.inr ⟨by decide, by decide⟩) (Sub.cons (LMs LM0) (by decide) (by decide) (by decide) (Or.inr ⟨by decide, by decide⟩) (Sub.cons (LMs (LMs LM0)) (by decide) (by decide) (by decide) (Or.inr ⟨by decide, by decide⟩) (Sub.cons (LMs (LMs (LMs LM0))) (by decide) (by decide) (by decide) (Or.inr ⟨by decide, by decide⟩) Sub.nil)))))
        refine aw_iconst (v := 0) dX11_rooms_34 (by decide) ?_
        refine aw_istore_n (ls' := [some (.ref (b + 0)), some (.int n0), some (.int n1), some (.int 0)]) dX11_rooms_35 (Nat.le_of_ble_eq_true rfl) rfl ?_
        have hb_17 := fx_clt n0
        have loop_36_17 : ∀ (g_36 : Nat), ∀ (j36 : Nat), j36 + g_36 = (Int32.toNatClampNeg n0) → AW l D b jX11_rooms (fx_rm 3 0 0) none (fx_MQ D b 0 0 (fx_qi (fun r N9 V9 => N = N9 ∧ JW D b N [(1, 1, 2, 2), (1, 1, 3, 3), (1, 1, 4, 4), (1, 1, 1, 1)] V V9))) 36 [some (.ref (b + 0)), some (.int n0), some (.int n1), some (.int (nI j36))] [] N V_14 0 0 := by
          intro g_36
          induction g_36 with
          | zero =>
            intro j36  hj36
            obtain rfl : j36 = (Int32.toNatClampNeg n0) := by omega
            refine aw_iload_n dX11_rooms_36 rfl ?_
            refine aw_iload_n dX11_rooms_37 rfl ?_
            refine aw_icmp_ge (tgt := 63) dX11_rooms_38 (by decide) (fun c_20 => ?_) (fun c_20 => ?_)
            rotate_left
            · exact absurd (fx_gec n0) c_20
            refine aw_aload_n dX11_rooms_63 rfl ?_
            obtain ⟨ek_21, x_21, y_21, e_21, hx_21, hy_21⟩ := JW.get j_13 ct_0
            refine aw_get dX11_rooms_64 fl_X11_12 e_21 (by omega) rfl ?_
            refine aw_iload_n dX11_rooms_67 rfl ?_
            refine aw_iload_n dX11_rooms_68 rfl ?_
            refine aw_callSi (J' := jX9_leastDreadBehindRooms) (As := [.ref (b + 1), .int n0, .int n1]) (st := []) dX11_rooms_69 tb_991 ok_X9_leastDreadBehindRooms rfl (g_X9_leastDreadBehindRooms l D b N V_14 hN j_13.1 n0 n1) rfl (Nat.le_of_ble_eq_true rfl) ⟨Nat.le_of_ble_eq_true rfl, Nat.le_of_ble_eq_true rfl, Nat.le_of_ble_eq_true rfl, Nat.le_of_ble_eq_true rfl⟩ (fun r_23 N_24 V_25 q_26 => ?_)
            obtain ⟨rfl, rfl⟩ := q_26
            refine aw_ireti dX11_rooms_72 rfl (Nat.le_of_ble_eq_true rfl) (Nat.le_of_ble_eq_true rfl) ?_
            exact ⟨rfl, j_13⟩
          | succ g_36 ih_36_18 =>
            intro j36  hj36
            have hlj36 : j36 < (Int32.toNatClampNeg n0) := by omega
            refine aw_iload_n dX11_rooms_36 rfl ?_
            refine aw_iload_n dX11_rooms_37 rfl ?_
            refine aw_icmp_ge (tgt := 63) dX11_rooms_38 (by decide) (fun c_27 => ?_) (fun c_27 => ?_)
            · exact absurd c_27 (fx_gej (by omega))
            refine aw_aload_n dX11_rooms_41 rfl ?_
            obtain ⟨ek_28, x_28, y_28, e_28, hx_28, hy_28⟩ := JW.get j_13 ct_0
            refine aw_get dX11_rooms_42 fl_X11_12 e_28 (by omega) rfl ?_
            refine aw_iload_n dX11_rooms_45 rfl ?_
            obtain ⟨ts_30, tn_30, tf_30, ta_30, e_30, hta_30⟩ := JW.get j_13 ct_1
            refine aw_callVi (J' := jX10_byteAt) (As := [.int (nI j36)]) (st := []) dX11_rooms_46 tb_990 ok_X10_byteAt ⟨_, e_30⟩ (by omega) rfl rfl (g_X10_byteAt l D b N V_14 hN j_13.1 (nI j36)) rfl (Nat.le_of_ble_eq_true rfl) ⟨Nat.le_of_ble_eq_true rfl, Nat.le_of_ble_eq_true rfl, Nat.le_of_ble_eq_true rfl, Nat.le_of_ble_eq_true rfl⟩ (fun r_31 N_32 V_33 q_34 => ?_)
            obtain ⟨rfl, rfl⟩ := q_34
            refine aw_bipush (v := 16) dX11_rooms_49 (by decide) ?_
            refine aw_icmp_lt (tgt := 57) dX11_rooms_51 (by decide) (fun c_35 => ?_) (fun c_35 => ?_)
            · skip
              refine aw_iinc (v := (nI (j36 + 1))) (ls' := [some (.ref (b + 0)), some (.int n0), some (.int n1), some (.int (nI (j36 + 1)))]) dX11_rooms_57 rfl (fx_up_1 _) (Nat.le_of_ble_eq_true rfl) rfl ?_
              refine aw_goto (tgt := 36) dX11_rooms_60 (by decide) ?_
              refine aw_le ?_ (ih_36_18 (j36 + 1)   (by omega))
              exact ⟨rfl, ⟨rfl, ⟨rfl, ⟨rfl, trivial⟩⟩⟩⟩
            · skip
              refine aw_bipush (v := (-3)) dX11_rooms_54 (by decide) ?_
              refine aw_ireti dX11_rooms_56 rfl (Nat.le_of_ble_eq_true rfl) (Nat.le_of_ble_eq_true rfl) ?_
              exact ⟨rfl, j_13⟩
        refine aw_le ?_ (loop_36_17 (Int32.toNatClampNeg n0) 0   (by omega))
        exact ⟨rfl, ⟨rfl, ⟨rfl, ⟨rfl, trivial⟩⟩⟩⟩
      · skip
        refine aw_iconst (v := (-1)) dX11_rooms_24 (by decide) ?_
        refine aw_ireti dX11_rooms_25 rfl (Nat.le_of_ble_eq_true rfl) (Nat.le_of_ble_eq_true rfl) ?_
        exact ⟨rfl, hJ0⟩

set_option maxHeartbeats 4000000 in
set_option maxRecDepth 100000 in
theorem g_X11_seed (l : Launch) (D : va_G) (b : Nat) (N : Nat) (V : Wd) (hN : 100 ≤ N) (hW : CW D b V) (n0 : Int32)  : MI l D b 0 jX11_seed [.ref (b + 0), .int n0] N V 0 0 (fun r N9 V9 => (r = 0 ∨ r = 1) ∧ N = N9 ∧ JW D b N [(3, 3, 8, 8)] V V9) := by
  have hJ0 : JW D b N [(3, 3, 8, 8)] V V := JW.rf hW
  refine mw_of (by decide) (by simp [Value.category]) (Nat.le_of_ble_eq_true rfl) ?_
  show AW l D b jX11_seed (fx_rm 0 0 0) none (fx_MQ D b 0 0 (fx_qi (fun r N9 V9 => (r = 0 ∨ r = 1) ∧ N = N9 ∧ JW D b N [(3, 3, 8, 8)] V V9))) 0 [some (.ref (b + 0)), some (.int n0)] [] N V 0 0
  refine aw_iload_n dX11_seed_0 rfl ?_
  refine aw_if_lt (tgt := 10) dX11_seed_1 (by decide) (fun c_1 => ?_) (fun c_1 => ?_)
  · skip
    refine aw_iconst (v := 0) dX11_seed_10 (by decide) ?_
    refine aw_zreti dX11_seed_11 rfl (by first | exact Or.inl rfl | exact Or.inr rfl | assumption) (Nat.le_of_ble_eq_true rfl) (Nat.le_of_ble_eq_true rfl) ?_
    exact ⟨(by first | exact Or.inl rfl | exact Or.inr rfl | assumption), rfl, hJ0⟩
  · skip
    refine aw_iload_n dX11_seed_4 rfl ?_
    refine aw_ldc (v := 65535) dX11_seed_5 tb_946 ?_
    refine aw_icmp_le (tgt := 12) dX11_seed_7 (by decide) (fun c_2 => ?_) (fun c_2 => ?_)
    · skip
      refine aw_aload_n dX11_seed_12 rfl ?_
      obtain ⟨ek_3, x_3, y_3, e_3, hx_3, hy_3⟩ := JW.get hJ0 ct_0
      refine aw_get dX11_seed_13 fl_X11_19 e_3 (by omega) rfl ?_
      refine aw_iload_n dX11_seed_16 rfl ?_
      obtain ⟨pe_4, dd_4, ni_4, xx_4, e_4⟩ := JW.get hJ0 (ctc_0 cA_3)
      refine aw_put dX11_seed_17 fp_X11_265 e_4 (by omega) rfl rfl (Nat.le_of_ble_eq_true rfl) rfl ?_
      refine aw_up hJ0 (ctc_0 cA_3) ⟨_, _, _, _, rfl⟩ (WO (s := 8) (x := .int n0) e_4 rfl LM0 (by decide) (by decide) (by decide) (Or.inl (by decide))) (fun V_5 j_5 k_5 e_5 => ?_)
      refine aw_iconst (v := 1) dX11_seed_20 (by decide) ?_
      refine aw_zreti dX11_seed_21 rfl (by first | exact Or.inl rfl | exact Or.inr rfl | assumption) (Nat.le_of_ble_eq_true rfl) (Nat.le_of_ble_eq_true rfl) ?_
      exact ⟨(by first | exact Or.inl rfl | exact Or.inr rfl | assumption), rfl, j_5⟩
    · skip
      refine aw_iconst (v := 0) dX11_seed_10 (by decide) ?_
      refine aw_zreti dX11_seed_11 rfl (by first | exact Or.inl rfl | exact Or.inr rfl | assumption) (Nat.le_of_ble_eq_true rfl) (Nat.le_of_ble_eq_true rfl) ?_
      exact ⟨(by first | exact Or.inl rfl | exact Or.inr rfl | assumption), rfl, hJ0⟩

set_option maxHeartbeats 4000000 in
set_option maxRecDepth 100000 in
theorem g_X11_keep (l : Launch) (D : va_G) (b : Nat) (N : Nat) (V : Wd) (hN : 100 ≤ N) (hW : CW D b V)   : MI l D b 2 jX11_keep [.ref (b + 0)] N V 0 0 (fun r N9 V9 => N = N9 ∧ JW D b N [(41, 56, 0, 1000000), (39, 39, 5, 5), (39, 39, 6, 6), (39, 39, 7, 7), (39, 39, 8, 8), (0, 0, 4, 4)] V V9) := by
  have hJ0 : JW D b N [(41, 56, 0, 1000000), (39, 39, 5, 5), (39, 39, 6, 6), (39, 39, 7, 7), (39, 39, 8, 8), (0, 0, 4, 4)] V V := JW.rf hW
  refine mw_of (by decide) (by simp [Value.category]) (Nat.le_of_ble_eq_true rfl) ?_
  show AW l D b jX11_keep (fx_rm 2 0 0) none (fx_MQ D b 0 0 (fx_qi (fun r N9 V9 => N = N9 ∧ JW D b N [(41, 56, 0, 1000000), (39, 39, 5, 5), (39, 39, 6, 6), (39, 39, 7, 7), (39, 39, 8, 8), (0, 0, 4, 4)] V V9))) 0 [some (.ref (b + 0))] [] N V 0 0
  refine aw_aload_n dX11_keep_0 rfl ?_
  obtain ⟨ek_1, x_1, y_1, e_1, hx_1, hy_1⟩ := JW.get hJ0 ct_0
  refine aw_get dX11_keep_1 fl_X11_26 e_1 (by omega) rfl ?_
  refine aw_aload_n dX11_keep_4 rfl ?_
  refine aw_get dX11_keep_5 fl_X11_19 e_1 (by omega) rfl ?_
  obtain ⟨pe_5, dd_5, ni_5, xx_5, e_5⟩ := JW.get hJ0 (ctc_0 cA_39)
  refine aw_callVv (J' := jX0_copyFrom) (As := [.ref (b + 3)]) (st := []) dX11_keep_8 tb_581 ok_X0_copyFrom ⟨_, e_5⟩ (by omega) rfl rfl (g_X0_copyFrom l D b N V hN hJ0.1 39 cA_39 3 cA_3) rfl (Nat.le_of_ble_eq_true rfl) ⟨Nat.le_of_ble_eq_true rfl, Nat.le_of_ble_eq_true rfl, Nat.le_of_ble_eq_true rfl, Nat.le_of_ble_eq_true rfl⟩ (fun  N_6 V_4 q_7 => ?_)
  obtain ⟨rfl, q_2⟩ := q_7
  have j_3 := JW.trans hJ0 (JW.weak q_2 (Sub.cons LM0 (by decide) (by decide) (by decide) (Or.inl rfl) (Sub.cons (LMs LM0) (by decide) (by decide) (by decide) (Or.inr ⟨by decide, by decide⟩) (Sub.cons (LMs (LMs LM0)) (by decide) (by decide) (by decide) (Or.inr ⟨by decide, by decide⟩) (Sub.cons (LMs (LMs (LMs LM0))) (by decide) (by decide) (by decide) (Or.inr ⟨by decide, by decide⟩) (Sub.cons (LMs (LMs (LMs (LMs LM0)))) (by decide) (by decide) (by decide) (Or.inr ⟨by decide, by decide⟩) (Sub.cons LM0 (by decide) (by decide) (by decide) (Or.inl rfl) (Sub.cons LM0 (by decide) (by decide) (by decide) (Or.inl rfl) (Sub.cons LM0 (by decide) (by decide) (by decide) (Or.inl rfl) (Sub.cons LM0 (by decide) (by decide) (by decide) (Or.inl rfl) Sub.nil))))))))))
  refine aw_aload_n dX11_keep_11 rfl ?_
  refine aw_iconst (v := 1) dX11_keep_12 (by decide) ?_
  obtain ⟨ek_8, x_8, y_8, e_8, hx_8, hy_8⟩ := JW.get j_3 ct_0
  refine aw_put dX11_keep_13 fp_X11_29 e_8 (by omega) (by decide) rfl (Nat.le_of_ble_eq_true rfl) rfl ?_
  refine aw_up j_3 ct_0 ⟨_, _, _, rfl, hx_8, hy_8⟩ (WO (s := 4) (x := .int 1) e_8 rfl (LMs (LMs (LMs (LMs (LMs LM0))))) (by decide) (by decide) (by decide) (Or.inl (by decide))) (fun V_9 j_9 k_9 e_9 => ?_)
  refine aw_aload_n dX11_keep_16 rfl ?_
  refine aw_get dX11_keep_17 fl_X11_19 e_9 (by omega) rfl ?_
  obtain ⟨pe_10, dd_10, ni_10, xx_10, e_10⟩ := JW.get j_9 (ctc_0 cA_3)
  refine aw_get dX11_keep_20 fl_X11_268 e_10 (by omega) rfl ?_
  refine aw_ireti dX11_keep_23 rfl (Nat.le_of_ble_eq_true rfl) (Nat.le_of_ble_eq_true rfl) ?_
  exact ⟨rfl, j_9⟩

set_option maxHeartbeats 4000000 in
set_option maxRecDepth 100000 in
theorem g_X11_undo (l : Launch) (D : va_G) (b : Nat) (N : Nat) (V : Wd) (hN : 100 ≤ N) (hW : CW D b V)   : MI l D b 3 jX11_undo [.ref (b + 0)] N V 0 0 (fun r N9 V9 => (r = 0 ∨ r = 1) ∧ N = N9 ∧ JW D b N [(5, 16, 0, 1000000), (20, 20, 0, 1000000), (3, 3, 7, 7), (3, 3, 8, 8)] V V9) := by
  have hJ0 : JW D b N [(5, 16, 0, 1000000), (20, 20, 0, 1000000), (3, 3, 7, 7), (3, 3, 8, 8)] V V := JW.rf hW
  refine mw_of (by decide) (by simp [Value.category]) (Nat.le_of_ble_eq_true rfl) ?_
  show AW l D b jX11_undo (fx_rm 3 0 0) none (fx_MQ D b 0 0 (fx_qi (fun r N9 V9 => (r = 0 ∨ r = 1) ∧ N = N9 ∧ JW D b N [(5, 16, 0, 1000000), (20, 20, 0, 1000000), (3, 3, 7, 7), (3, 3, 8, 8)] V V9))) 0 [some (.ref (b + 0))] [] N V 0 0
  refine aw_aload_n dX11_undo_0 rfl ?_
  obtain ⟨ek_1, x_1, y_1, e_1, hx_1, hy_1⟩ := JW.get hJ0 ct_0
  refine aw_get dX11_undo_1 fl_X11_29 e_1 (by omega) rfl ?_
  refine aw_if_ne (tgt := 9) dX11_undo_4 (by decide) (fun c_2 => ?_) (fun c_2 => ?_)
  · skip
    refine aw_aload_n dX11_undo_9 rfl ?_
    refine aw_get dX11_undo_10 fl_X11_19 e_1 (by omega) rfl ?_
    refine aw_aload_n dX11_undo_13 rfl ?_
    refine aw_get dX11_undo_14 fl_X11_26 e_1 (by omega) rfl ?_
    obtain ⟨pe_6, dd_6, ni_6, xx_6, e_6⟩ := JW.get hJ0 (ctc_0 cA_3)
    refine aw_callVv (J' := jX0_goBackTo) (As := [.ref (b + 39)]) (st := []) dX11_undo_17 tb_1011 ok_X0_goBackTo ⟨_, e_6⟩ (by omega) rfl rfl (g_X0_goBackTo l D b N V hN hJ0.1 3 cA_3 39 cA_39) rfl (Nat.le_of_ble_eq_true rfl) ⟨Nat.le_of_ble_eq_true rfl, Nat.le_of_ble_eq_true rfl, Nat.le_of_ble_eq_true rfl, Nat.le_of_ble_eq_true rfl⟩ (fun  N_7 V_5 q_8 => ?_)
    obtain ⟨rfl, q_3⟩ := q_8
    have j_4 := JW.trans hJ0 (JW.weak q_3 (Sub.cons LM0 (by decide) (by decide) (by decide) (Or.inl rfl) (Sub.cons (LMs (LMs LM0)) (by decide) (by decide) (by decide) (Or.inr ⟨by decide, by decide⟩) (Sub.cons (LMs (LMs (LMs LM0))) (by decide) (by decide) (by decide) (Or.inr ⟨by decide, by decide⟩) (Sub.cons (LMs LM0) (by decide) (by decide) (by decide) (Or.inl rfl) Sub.nil)))))
    refine aw_iconst (v := 1) dX11_undo_20 (by decide) ?_
    refine aw_zreti dX11_undo_21 rfl (by first | exact Or.inl rfl | exact Or.inr rfl | assumption) (Nat.le_of_ble_eq_true rfl) (Nat.le_of_ble_eq_true rfl) ?_
    exact ⟨(by first | exact Or.inl rfl | exact Or.inr rfl | assumption), rfl, j_4⟩
  · skip
    refine aw_iconst (v := 0) dX11_undo_7 (by decide) ?_
    refine aw_zreti dX11_undo_8 rfl (by first | exact Or.inl rfl | exact Or.inr rfl | assumption) (Nat.le_of_ble_eq_true rfl) (Nat.le_of_ble_eq_true rfl) ?_
    exact ⟨(by first | exact Or.inl rfl | exact Or.inr rfl | assumption), rfl, hJ0⟩

set_option maxHeartbeats 4000000 in
set_option maxRecDepth 100000 in
theorem g_X11_check (l : Launch) (D : va_G) (b : Nat) (N : Nat) (V : Wd) (hN : 100 ≤ N) (hW : CW D b V) (n0 : Int32)  : MI l D b 2 jX11_check [.ref (b + 0), .int n0] N V 0 0 (fun r N9 V9 => N = N9 ∧ JW D b N [(1, 1, 2, 2), (1, 1, 3, 3), (1, 1, 4, 4), (1, 1, 1, 1)] V V9) := by
  have hJ0 : JW D b N [(1, 1, 2, 2), (1, 1, 3, 3), (1, 1, 4, 4), (1, 1, 1, 1)] V V := JW.rf hW
  refine mw_of (by decide) (by simp [Value.category]) (Nat.le_of_ble_eq_true rfl) ?_
  show AW l D b jX11_check (fx_rm 2 0 0) none (fx_MQ D b 0 0 (fx_qi (fun r N9 V9 => N = N9 ∧ JW D b N [(1, 1, 2, 2), (1, 1, 3, 3), (1, 1, 4, 4), (1, 1, 1, 1)] V V9))) 0 [some (.ref (b + 0)), some (.int n0), none, none] [] N V 0 0
  refine aw_aload_n dX11_check_0 rfl ?_
  obtain ⟨ek_1, x_1, y_1, e_1, hx_1, hy_1⟩ := JW.get hJ0 ct_0
  refine aw_get dX11_check_1 fl_X11_12 e_1 (by omega) rfl ?_
  refine aw_iload_n dX11_check_4 rfl ?_
  refine aw_iconst (v := 0) dX11_check_5 (by decide) ?_
  refine aw_bipush (v := 12) dX11_check_6 (by decide) ?_
  obtain ⟨ts_4, tn_4, tf_4, ta_4, e_4, hta_4⟩ := JW.get hJ0 ct_1
  refine aw_callVi (J' := jX10_holds) (As := [.int n0, .int 0, .int 12]) (st := []) dX11_check_8 tb_267 ok_X10_holds ⟨_, e_4⟩ (by omega) rfl rfl (g_X10_holds l D b N V hN hJ0.1 n0 0 12) rfl (Nat.le_of_ble_eq_true rfl) ⟨Nat.le_of_ble_eq_true rfl, Nat.le_of_ble_eq_true rfl, Nat.le_of_ble_eq_true rfl, Nat.le_of_ble_eq_true rfl⟩ (fun r_5 N_6 V_7 q_8 => ?_)
  obtain ⟨h_3, rfl, rfl⟩ := q_8
  refine aw_if_ne (tgt := 17) dX11_check_11 (by decide) (fun c_9 => ?_) (fun c_9 => ?_)
  · skip
    refine aw_aload_n dX11_check_17 rfl ?_
    refine aw_get dX11_check_18 fl_X11_12 e_1 (by omega) rfl ?_
    refine aw_iload_n dX11_check_21 rfl ?_
    refine aw_callVv (J' := jX10_take) (As := [.int n0]) (st := []) dX11_check_22 tb_271 ok_X10_take ⟨_, e_4⟩ (by omega) rfl rfl (g_X10_take l D b N V hN hJ0.1 n0) rfl (Nat.le_of_ble_eq_true rfl) ⟨Nat.le_of_ble_eq_true rfl, Nat.le_of_ble_eq_true rfl, Nat.le_of_ble_eq_true rfl, Nat.le_of_ble_eq_true rfl⟩ (fun  N_13 V_12 q_14 => ?_)
    obtain ⟨rfl, q_10⟩ := q_14
    have j_11 := JW.trans hJ0 (JW.weak q_10 (Sub.cons LM0 (by decide) (by decide) (by decide) (Or.inr ⟨by decide, by decide⟩) (Sub.cons (LMs LM0) (by decide) (by decide) (by decide) (Or.inr ⟨by decide, by decide⟩) (Sub.cons (LMs (LMs LM0)) (by decide) (by decide) (by decide) (Or.inr ⟨by decide, by decide⟩) (Sub.cons (LMs (LMs (LMs LM0))) (by decide) (by decide) (by decide) (Or.inr ⟨by decide, by decide⟩) Sub.nil)))))
    refine aw_iconst (v := 0) dX11_check_25 (by decide) ?_
    refine aw_istore_n (ls' := [some (.ref (b + 0)), some (.int n0), some (.int 0), none]) dX11_check_26 (Nat.le_of_ble_eq_true rfl) rfl ?_
    have hb_15 := fx_clt n0
    have loop_27_15 : ∀ (g_27 : Nat), ∀ (j27 : Nat), j27 + g_27 = (Int32.toNatClampNeg n0) → AW l D b jX11_check (fx_rm 2 0 0) none (fx_MQ D b 0 0 (fx_qi (fun r N9 V9 => N = N9 ∧ JW D b N [(1, 1, 2, 2), (1, 1, 3, 3), (1, 1, 4, 4), (1, 1, 1, 1)] V V9))) 27 [some (.ref (b + 0)), some (.int n0), some (.int (nI j27)), none] [] N V_12 0 0 := by
      intro g_27
      induction g_27 with
      | zero =>
        intro j27  hj27
        obtain rfl : j27 = (Int32.toNatClampNeg n0) := by omega
        refine aw_iload_n dX11_check_27 rfl ?_
        refine aw_iload_n dX11_check_28 rfl ?_
        refine aw_icmp_ge (tgt := 78) dX11_check_29 (by decide) (fun c_18 => ?_) (fun c_18 => ?_)
        rotate_left
        · exact absurd (fx_gec n0) c_18
        refine aw_iconst (v := (-1)) dX11_check_78 (by decide) ?_
        refine aw_ireti dX11_check_79 rfl (Nat.le_of_ble_eq_true rfl) (Nat.le_of_ble_eq_true rfl) ?_
        exact ⟨rfl, j_11⟩
      | succ g_27 ih_27_16 =>
        intro j27  hj27
        have hlj27 : j27 < (Int32.toNatClampNeg n0) := by omega
        refine aw_iload_n dX11_check_27 rfl ?_
        refine aw_iload_n dX11_check_28 rfl ?_
        refine aw_icmp_ge (tgt := 78) dX11_check_29 (by decide) (fun c_19 => ?_) (fun c_19 => ?_)
        · exact absurd c_19 (fx_gej (by omega))
        refine aw_aload_n dX11_check_32 rfl ?_
        obtain ⟨ek_20, x_20, y_20, e_20, hx_20, hy_20⟩ := JW.get j_11 ct_0
        refine aw_get dX11_check_33 fl_X11_19 e_20 (by omega) rfl ?_
        refine aw_iload_n dX11_check_36 rfl ?_
        obtain ⟨pe_24, dd_24, ni_24, xx_24, e_24⟩ := JW.get j_11 (ctc_0 cA_3)
        refine aw_callVi (J' := jX0_isPerson) (As := [.int (nI j27)]) (st := []) dX11_check_37 tb_745 ok_X0_isPerson ⟨_, e_24⟩ (by omega) rfl rfl (g_X0_isPerson l D b N V_12 hN j_11.1 3 cA_3 (nI j27)) rfl (Nat.le_of_ble_eq_true rfl) ⟨Nat.le_of_ble_eq_true rfl, Nat.le_of_ble_eq_true rfl, Nat.le_of_ble_eq_true rfl, Nat.le_of_ble_eq_true rfl⟩ (fun r_25 N_26 V_27 q_28 => ?_)
        obtain ⟨⟨z_23, h_22⟩, rfl, rfl⟩ := q_28
        refine aw_if_eq (tgt := 54) dX11_check_40 (by decide) (fun c_29 => ?_) (fun c_29 => ?_)
        · skip
          refine aw_sipush (v := 255) dX11_check_54 (by decide) ?_
          refine aw_istore_n (ls' := [some (.ref (b + 0)), some (.int n0), some (.int (nI j27)), some (.int 255)]) dX11_check_57 (Nat.le_of_ble_eq_true rfl) rfl ?_
          refine aw_aload_n dX11_check_58 rfl ?_
          refine aw_get dX11_check_59 fl_X11_12 e_20 (by omega) rfl ?_
          refine aw_iload_n dX11_check_62 rfl ?_
          obtain ⟨ts_31, tn_31, tf_31, ta_31, e_31, hta_31⟩ := JW.get j_11 ct_1
          refine aw_callVi (J' := jX10_byteAt) (As := [.int (nI j27)]) (st := []) dX11_check_63 tb_990 ok_X10_byteAt ⟨_, e_31⟩ (by omega) rfl rfl (g_X10_byteAt l D b N V_12 hN j_11.1 (nI j27)) rfl (Nat.le_of_ble_eq_true rfl) ⟨Nat.le_of_ble_eq_true rfl, Nat.le_of_ble_eq_true rfl, Nat.le_of_ble_eq_true rfl, Nat.le_of_ble_eq_true rfl⟩ (fun r_32 N_33 V_34 q_35 => ?_)
          obtain ⟨rfl, rfl⟩ := q_35
          refine aw_iload_n dX11_check_66 rfl ?_
          refine aw_icmp_eq (tgt := 72) dX11_check_67 (by decide) (fun c_36 => ?_) (fun c_36 => ?_)
          · skip
            refine aw_iinc (v := (nI (j27 + 1))) (ls' := [some (.ref (b + 0)), some (.int n0), some (.int (nI (j27 + 1))), some (.int 255)]) dX11_check_72 rfl (fx_up_1 _) (Nat.le_of_ble_eq_true rfl) rfl ?_
            refine aw_goto (tgt := 27) dX11_check_75 (by decide) ?_
            refine aw_le ?_ (ih_27_16 (j27 + 1)   (by omega))
            exact ⟨rfl, ⟨rfl, ⟨rfl, trivial⟩⟩⟩
          · skip
            refine aw_iload_n dX11_check_70 rfl ?_
            refine aw_ireti dX11_check_71 rfl (Nat.le_of_ble_eq_true rfl) (Nat.le_of_ble_eq_true rfl) ?_
            exact ⟨rfl, j_11⟩
        · skip
          refine aw_aload_n dX11_check_43 rfl ?_
          refine aw_get dX11_check_44 fl_X11_19 e_20 (by omega) rfl ?_
          refine aw_iload_n dX11_check_47 rfl ?_
          refine aw_callVi (J' := jX0_greatestDread) (As := [.int (nI j27)]) (st := []) dX11_check_48 tb_748 ok_X0_greatestDread ⟨_, e_24⟩ (by omega) rfl rfl (g_X0_greatestDread l D b N V_12 hN j_11.1 3 cA_3 (nI j27)) rfl (Nat.le_of_ble_eq_true rfl) ⟨Nat.le_of_ble_eq_true rfl, Nat.le_of_ble_eq_true rfl, Nat.le_of_ble_eq_true rfl, Nat.le_of_ble_eq_true rfl⟩ (fun r_38 N_39 V_40 q_41 => ?_)
          obtain ⟨rfl, rfl⟩ := q_41
          refine aw_goto (tgt := 57) dX11_check_51 (by decide) ?_
          refine aw_istore_n (ls' := [some (.ref (b + 0)), some (.int n0), some (.int (nI j27)), some (.int r_38)]) dX11_check_57 (Nat.le_of_ble_eq_true rfl) rfl ?_
          refine aw_aload_n dX11_check_58 rfl ?_
          refine aw_get dX11_check_59 fl_X11_12 e_20 (by omega) rfl ?_
          refine aw_iload_n dX11_check_62 rfl ?_
          obtain ⟨ts_43, tn_43, tf_43, ta_43, e_43, hta_43⟩ := JW.get j_11 ct_1
          refine aw_callVi (J' := jX10_byteAt) (As := [.int (nI j27)]) (st := []) dX11_check_63 tb_990 ok_X10_byteAt ⟨_, e_43⟩ (by omega) rfl rfl (g_X10_byteAt l D b N V_12 hN j_11.1 (nI j27)) rfl (Nat.le_of_ble_eq_true rfl) ⟨Nat.le_of_ble_eq_true rfl, Nat.le_of_ble_eq_true rfl, Nat.le_of_ble_eq_true rfl, Nat.le_of_ble_eq_true rfl⟩ (fun r_44 N_45 V_46 q_47 => ?_)
          obtain ⟨rfl, rfl⟩ := q_47
          refine aw_iload_n dX11_check_66 rfl ?_
          refine aw_icmp_eq (tgt := 72) dX11_check_67 (by decide) (fun c_48 => ?_) (fun c_48 => ?_)
          · skip
            refine aw_iinc (v := (nI (j27 + 1))) (ls' := [some (.ref (b + 0)), some (.int n0), some (.int (nI (j27 + 1))), some (.int r_38)]) dX11_check_72 rfl (fx_up_1 _) (Nat.le_of_ble_eq_true rfl) rfl ?_
            refine aw_goto (tgt := 27) dX11_check_75 (by decide) ?_
            refine aw_le ?_ (ih_27_16 (j27 + 1)   (by omega))
            exact ⟨rfl, ⟨rfl, ⟨rfl, trivial⟩⟩⟩
          · skip
            refine aw_iload_n dX11_check_70 rfl ?_
            refine aw_ireti dX11_check_71 rfl (Nat.le_of_ble_eq_true rfl) (Nat.le_of_ble_eq_true rfl) ?_
            exact ⟨rfl, j_11⟩
    refine aw_le ?_ (loop_27_15 (Int32.toNatClampNeg n0) 0   (by omega))
    exact ⟨rfl, ⟨rfl, ⟨rfl, trivial⟩⟩⟩
  · skip
    refine aw_bipush (v := (-2)) dX11_check_14 (by decide) ?_
    refine aw_ireti dX11_check_16 rfl (Nat.le_of_ble_eq_true rfl) (Nat.le_of_ble_eq_true rfl) ?_
    exact ⟨rfl, hJ0⟩

set_option maxHeartbeats 4000000 in
set_option maxRecDepth 100000 in
theorem g_X11_count (l : Launch) (D : va_G) (b : Nat) (N : Nat) (V : Wd) (hN : 100 ≤ N) (hW : CW D b V) (n0 : Int32)  : MI l D b 2 jX11_count [.ref (b + 0), .int n0] N V 0 0 (fun r N9 V9 => N = N9 ∧ V = V9) := by
  have hJ0 : JW D b N [] V V := JW.rf hW
  refine mw_of (by decide) (by simp [Value.category]) (Nat.le_of_ble_eq_true rfl) ?_
  show AW l D b jX11_count (fx_rm 2 0 0) none (fx_MQ D b 0 0 (fx_qi (fun r N9 V9 => N = N9 ∧ V = V9))) 0 [some (.ref (b + 0)), some (.int n0)] [] N V 0 0
  refine aw_iload_n dX11_count_0 rfl ?_
  by_cases sw_1 : n0 = 0
  · skip
    refine aw_eqi sw_1 ?_
    refine aw_tableIn (off := 47) (tgt := 48) dX11_count_1 (by decide) (by decide) (by decide) (by decide) ?_
    refine aw_aload_n dX11_count_48 rfl ?_
    obtain ⟨ek_2, x_2, y_2, e_2, hx_2, hy_2⟩ := JW.get hJ0 ct_0
    refine aw_get dX11_count_49 fl_X11_19 e_2 (by omega) rfl ?_
    obtain ⟨pe_3, dd_3, ni_3, xx_3, e_3⟩ := JW.get hJ0 (ctc_0 cA_3)
    refine aw_get dX11_count_52 fl_X11_268 e_3 (by omega) rfl ?_
    refine aw_ireti dX11_count_55 rfl (Nat.le_of_ble_eq_true rfl) (Nat.le_of_ble_eq_true rfl) ?_
    exact ⟨rfl, rfl⟩
  by_cases sw_4 : n0 = 1
  · skip
    refine aw_eqi sw_4 ?_
    refine aw_tableIn (off := 55) (tgt := 56) dX11_count_1 (by decide) (by decide) (by decide) (by decide) ?_
    refine aw_aload_n dX11_count_56 rfl ?_
    obtain ⟨ek_5, x_5, y_5, e_5, hx_5, hy_5⟩ := JW.get hJ0 ct_0
    refine aw_get dX11_count_57 fl_X11_19 e_5 (by omega) rfl ?_
    obtain ⟨pe_6, dd_6, ni_6, xx_6, e_6⟩ := JW.get hJ0 (ctc_0 cA_3)
    refine aw_get dX11_count_60 fl_X11_212 e_6 (by omega) rfl ?_
    refine aw_ireti dX11_count_63 rfl (Nat.le_of_ble_eq_true rfl) (Nat.le_of_ble_eq_true rfl) ?_
    exact ⟨rfl, rfl⟩
  by_cases sw_7 : n0 = 2
  · skip
    refine aw_eqi sw_7 ?_
    refine aw_tableIn (off := 63) (tgt := 64) dX11_count_1 (by decide) (by decide) (by decide) (by decide) ?_
    refine aw_aload_n dX11_count_64 rfl ?_
    obtain ⟨ek_8, x_8, y_8, e_8, hx_8, hy_8⟩ := JW.get hJ0 ct_0
    refine aw_get dX11_count_65 fl_X11_19 e_8 (by omega) rfl ?_
    obtain ⟨pe_9, dd_9, ni_9, xx_9, e_9⟩ := JW.get hJ0 (ctc_0 cA_3)
    refine aw_get dX11_count_68 fl_X11_274 e_9 (by omega) rfl ?_
    refine aw_ireti dX11_count_71 rfl (Nat.le_of_ble_eq_true rfl) (Nat.le_of_ble_eq_true rfl) ?_
    exact ⟨rfl, rfl⟩
  by_cases sw_10 : n0 = 3
  · skip
    refine aw_eqi sw_10 ?_
    refine aw_tableIn (off := 71) (tgt := 72) dX11_count_1 (by decide) (by decide) (by decide) (by decide) ?_
    refine aw_aload_n dX11_count_72 rfl ?_
    obtain ⟨ek_11, x_11, y_11, e_11, hx_11, hy_11⟩ := JW.get hJ0 ct_0
    refine aw_get dX11_count_73 fl_X11_19 e_11 (by omega) rfl ?_
    obtain ⟨pe_13, dd_13, ni_13, xx_13, e_13⟩ := JW.get hJ0 (ctc_0 cA_3)
    refine aw_callVi (J' := jX0_acquaintances) (As := []) (st := []) dX11_count_76 tb_1023 ok_X0_acquaintances ⟨_, e_13⟩ (by omega) rfl rfl (g_X0_acquaintances l D b N V hN hJ0.1 3 cA_3) rfl (Nat.le_of_ble_eq_true rfl) ⟨Nat.le_of_ble_eq_true rfl, Nat.le_of_ble_eq_true rfl, Nat.le_of_ble_eq_true rfl, Nat.le_of_ble_eq_true rfl⟩ (fun r_14 N_15 V_16 q_17 => ?_)
    obtain ⟨rfl, rfl⟩ := q_17
    refine aw_ireti dX11_count_79 rfl (Nat.le_of_ble_eq_true rfl) (Nat.le_of_ble_eq_true rfl) ?_
    exact ⟨rfl, rfl⟩
  by_cases sw_18 : n0 = 4
  · skip
    refine aw_eqi sw_18 ?_
    refine aw_tableIn (off := 79) (tgt := 80) dX11_count_1 (by decide) (by decide) (by decide) (by decide) ?_
    refine aw_aload_n dX11_count_80 rfl ?_
    obtain ⟨ek_19, x_19, y_19, e_19, hx_19, hy_19⟩ := JW.get hJ0 ct_0
    refine aw_get dX11_count_81 fl_X11_19 e_19 (by omega) rfl ?_
    obtain ⟨pe_21, dd_21, ni_21, xx_21, e_21⟩ := JW.get hJ0 (ctc_0 cA_3)
    refine aw_callVi (J' := jX0_openedInAll) (As := []) (st := []) dX11_count_84 tb_1028 ok_X0_openedInAll ⟨_, e_21⟩ (by omega) rfl rfl (g_X0_openedInAll l D b N V hN hJ0.1 3 cA_3) rfl (Nat.le_of_ble_eq_true rfl) ⟨Nat.le_of_ble_eq_true rfl, Nat.le_of_ble_eq_true rfl, Nat.le_of_ble_eq_true rfl, Nat.le_of_ble_eq_true rfl⟩ (fun r_22 N_23 V_24 q_25 => ?_)
    obtain ⟨rfl, rfl⟩ := q_25
    refine aw_ireti dX11_count_87 rfl (Nat.le_of_ble_eq_true rfl) (Nat.le_of_ble_eq_true rfl) ?_
    exact ⟨rfl, rfl⟩
  by_cases sw_26 : n0 = 5
  · skip
    refine aw_eqi sw_26 ?_
    refine aw_tableIn (off := 87) (tgt := 88) dX11_count_1 (by decide) (by decide) (by decide) (by decide) ?_
    refine aw_aload_n dX11_count_88 rfl ?_
    obtain ⟨ek_27, x_27, y_27, e_27, hx_27, hy_27⟩ := JW.get hJ0 ct_0
    refine aw_get dX11_count_89 fl_X11_36 e_27 (by omega) rfl ?_
    obtain ⟨s8_28, r8_28, h8_28, e_28, hs_28, hr_28⟩ := JW.get hJ0 (ctl_0 hx_27)
    refine aw_get dX11_count_92 fl_X11_283 e_28 (by omega) rfl ?_
    refine aw_ireti dX11_count_95 rfl (Nat.le_of_ble_eq_true rfl) (Nat.le_of_ble_eq_true rfl) ?_
    exact ⟨rfl, rfl⟩
  by_cases sw_29 : n0 = 6
  · skip
    refine aw_eqi sw_29 ?_
    refine aw_tableIn (off := 95) (tgt := 96) dX11_count_1 (by decide) (by decide) (by decide) (by decide) ?_
    refine aw_aload_n dX11_count_96 rfl ?_
    obtain ⟨ek_30, x_30, y_30, e_30, hx_30, hy_30⟩ := JW.get hJ0 ct_0
    refine aw_get dX11_count_97 fl_X11_12 e_30 (by omega) rfl ?_
    obtain ⟨ts_31, tn_31, tf_31, ta_31, e_31, hta_31⟩ := JW.get hJ0 ct_1
    refine aw_get dX11_count_100 fl_X11_71 e_31 (by omega) rfl ?_
    refine aw_ireti dX11_count_103 rfl (Nat.le_of_ble_eq_true rfl) (Nat.le_of_ble_eq_true rfl) ?_
    exact ⟨rfl, rfl⟩
  by_cases sw_32 : n0 = 7
  · skip
    refine aw_eqi sw_32 ?_
    refine aw_tableIn (off := 103) (tgt := 104) dX11_count_1 (by decide) (by decide) (by decide) (by decide) ?_
    refine aw_aload_n dX11_count_104 rfl ?_
    obtain ⟨ek_33, x_33, y_33, e_33, hx_33, hy_33⟩ := JW.get hJ0 ct_0
    refine aw_get dX11_count_105 fl_X11_19 e_33 (by omega) rfl ?_
    obtain ⟨pe_34, dd_34, ni_34, xx_34, e_34⟩ := JW.get hJ0 (ctc_0 cA_3)
    refine aw_get dX11_count_108 fl_X11_265 e_34 (by omega) rfl ?_
    refine aw_ireti dX11_count_111 rfl (Nat.le_of_ble_eq_true rfl) (Nat.le_of_ble_eq_true rfl) ?_
    exact ⟨rfl, rfl⟩
  have tsw_1 : n0.toInt ≠ 0 := fx_tne sw_1
  have tsw_4 : n0.toInt ≠ 1 := fx_tne sw_4
  have tsw_7 : n0.toInt ≠ 2 := fx_tne sw_7
  have tsw_10 : n0.toInt ≠ 3 := fx_tne sw_10
  have tsw_18 : n0.toInt ≠ 4 := fx_tne sw_18
  have tsw_26 : n0.toInt ≠ 5 := fx_tne sw_26
  have tsw_29 : n0.toInt ≠ 6 := fx_tne sw_29
  have tsw_32 : n0.toInt ≠ 7 := fx_tne sw_32
  refine aw_tableOut (tgt := 112) dX11_count_1 (by omega) (by decide) ?_
  refine aw_iconst (v := (-1)) dX11_count_112 (by decide) ?_
  refine aw_ireti dX11_count_113 rfl (Nat.le_of_ble_eq_true rfl) (Nat.le_of_ble_eq_true rfl) ?_
  exact ⟨rfl, rfl⟩

set_option maxHeartbeats 4000000 in
set_option maxRecDepth 100000 in
theorem g_X11_fashion (l : Launch) (D : va_G) (b : Nat) (N : Nat) (V : Wd) (hN : 100 ≤ N) (hW : CW D b V) (n0 : Int32) (n1 : Int32) (n2 : Int32)  : MI l D b 4 jX11_fashion [.ref (b + 0), .int n0, .int n1, .int n2] N V 0 0 (fun r N9 V9 => N = N9 ∧ V = V9) := by
  have hJ0 : JW D b N [] V V := JW.rf hW
  refine mw_of (by decide) (by simp [Value.category]) (Nat.le_of_ble_eq_true rfl) ?_
  show AW l D b jX11_fashion (fx_rm 4 0 0) none (fx_MQ D b 0 0 (fx_qi (fun r N9 V9 => N = N9 ∧ V = V9))) 0 [some (.ref (b + 0)), some (.int n0), some (.int n1), some (.int n2), none, none, none] [] N V 0 0
  refine aw_iload_n dX11_fashion_0 rfl ?_
  refine aw_if_lt (tgt := 30) dX11_fashion_1 (by decide) (fun c_1 => ?_) (fun c_1 => ?_)
  · skip
    refine aw_iconst (v := (-1)) dX11_fashion_30 (by decide) ?_
    refine aw_ireti dX11_fashion_31 rfl (Nat.le_of_ble_eq_true rfl) (Nat.le_of_ble_eq_true rfl) ?_
    exact ⟨rfl, rfl⟩
  · skip
    refine aw_iload_n dX11_fashion_4 rfl ?_
    refine aw_bipush (v := 16) dX11_fashion_5 (by decide) ?_
    refine aw_icmp_ge (tgt := 30) dX11_fashion_7 (by decide) (fun c_2 => ?_) (fun c_2 => ?_)
    · skip
      refine aw_iconst (v := (-1)) dX11_fashion_30 (by decide) ?_
      refine aw_ireti dX11_fashion_31 rfl (Nat.le_of_ble_eq_true rfl) (Nat.le_of_ble_eq_true rfl) ?_
      exact ⟨rfl, rfl⟩
    · skip
      refine aw_iload_n dX11_fashion_10 rfl ?_
      refine aw_iconst (v := 1) dX11_fashion_11 (by decide) ?_
      refine aw_icmp_lt (tgt := 30) dX11_fashion_12 (by decide) (fun c_3 => ?_) (fun c_3 => ?_)
      · skip
        refine aw_iconst (v := (-1)) dX11_fashion_30 (by decide) ?_
        refine aw_ireti dX11_fashion_31 rfl (Nat.le_of_ble_eq_true rfl) (Nat.le_of_ble_eq_true rfl) ?_
        exact ⟨rfl, rfl⟩
      · skip
        refine aw_iload_n dX11_fashion_15 rfl ?_
        refine aw_bipush (v := 12) dX11_fashion_16 (by decide) ?_
        refine aw_icmp_ge (tgt := 30) dX11_fashion_18 (by decide) (fun c_4 => ?_) (fun c_4 => ?_)
        · skip
          refine aw_iconst (v := (-1)) dX11_fashion_30 (by decide) ?_
          refine aw_ireti dX11_fashion_31 rfl (Nat.le_of_ble_eq_true rfl) (Nat.le_of_ble_eq_true rfl) ?_
          exact ⟨rfl, rfl⟩
        · skip
          refine aw_iload_n dX11_fashion_21 rfl ?_
          refine aw_if_lt (tgt := 30) dX11_fashion_22 (by decide) (fun c_5 => ?_) (fun c_5 => ?_)
          · skip
            refine aw_iconst (v := (-1)) dX11_fashion_30 (by decide) ?_
            refine aw_ireti dX11_fashion_31 rfl (Nat.le_of_ble_eq_true rfl) (Nat.le_of_ble_eq_true rfl) ?_
            exact ⟨rfl, rfl⟩
          · skip
            refine aw_iload_n dX11_fashion_25 rfl ?_
            refine aw_iconst (v := 1) dX11_fashion_26 (by decide) ?_
            refine aw_icmp_le (tgt := 32) dX11_fashion_27 (by decide) (fun c_6 => ?_) (fun c_6 => ?_)
            · skip
              refine aw_aload_n dX11_fashion_32 rfl ?_
              obtain ⟨ek_7, x_7, y_7, e_7, hx_7, hy_7⟩ := JW.get hJ0 ct_0
              refine aw_get dX11_fashion_33 fl_X11_19 e_7 (by omega) rfl ?_
              refine aw_iload_n dX11_fashion_36 rfl ?_
              obtain ⟨pe_9, dd_9, ni_9, xx_9, e_9⟩ := JW.get hJ0 (ctc_0 cA_3)
              refine aw_callVi (J' := jX0_havingFear) (As := [.int n0]) (st := []) dX11_fashion_37 tb_840 ok_X0_havingFear ⟨_, e_9⟩ (by omega) rfl rfl (g_X0_havingFear l D b N V hN hJ0.1 3 cA_3 n0) rfl (Nat.le_of_ble_eq_true rfl) ⟨Nat.le_of_ble_eq_true rfl, Nat.le_of_ble_eq_true rfl, Nat.le_of_ble_eq_true rfl, Nat.le_of_ble_eq_true rfl⟩ (fun r_10 N_11 V_12 q_13 => ?_)
              obtain ⟨rfl, rfl⟩ := q_13
              refine aw_istore (ls' := [some (.ref (b + 0)), some (.int n0), some (.int n1), some (.int n2), some (.int r_10), none, none]) dX11_fashion_40 (Nat.le_of_ble_eq_true rfl) rfl ?_
              refine aw_iconst (v := 0) dX11_fashion_42 (by decide) ?_
              refine aw_istore (ls' := [some (.ref (b + 0)), some (.int n0), some (.int n1), some (.int n2), some (.int r_10), some (.int 0), none]) dX11_fashion_43 (Nat.le_of_ble_eq_true rfl) rfl ?_
              refine aw_aload_n dX11_fashion_45 rfl ?_
              refine aw_get dX11_fashion_46 fl_X11_19 e_7 (by omega) rfl ?_
              refine aw_iload dX11_fashion_49 rfl ?_
              refine aw_iload_n dX11_fashion_51 rfl ?_
              refine aw_callSi (J' := jX1_grownFashion) (As := [.ref (b + 3), .int r_10, .int n1]) (st := []) dX11_fashion_52 tb_844 ok_X1_grownFashion rfl (g_X1_grownFashion l D b N V hN hJ0.1 3 cA_3 r_10 n1) rfl (Nat.le_of_ble_eq_true rfl) ⟨Nat.le_of_ble_eq_true rfl, Nat.le_of_ble_eq_true rfl, Nat.le_of_ble_eq_true rfl, Nat.le_of_ble_eq_true rfl⟩ (fun r_15 N_16 V_17 q_18 => ?_)
              obtain ⟨rfl, rfl⟩ := q_18
              refine aw_istore (ls' := [some (.ref (b + 0)), some (.int n0), some (.int n1), some (.int n2), some (.int r_10), some (.int 0), some (.int r_15)]) dX11_fashion_55 (Nat.le_of_ble_eq_true rfl) rfl ?_
              have loop_57_18 : ∀ (g_57 : Nat), ∀ (j57 : Nat) (v57_4 : Int32) (v57_6 : Int32), j57 + g_57 = 12 → AW l D b jX11_fashion (fx_rm 4 0 0) none (fx_MQ D b 0 0 (fx_qi (fun r N9 V9 => N = N9 ∧ V = V9))) 57 [some (.ref (b + 0)), some (.int n0), some (.int n1), some (.int n2), some (.int v57_4), some (.int (nI j57)), some (.int v57_6)] [] N V 0 0 := by
                intro g_57
                induction g_57 with
                | zero =>
                  intro j57 v57_4 v57_6 hj57
                  obtain rfl : j57 = 12 := by omega
                  refine aw_iload dX11_fashion_57 rfl ?_
                  refine aw_iload dX11_fashion_59 rfl ?_
                  refine aw_icmp_eq (tgt := 93) dX11_fashion_61 (by decide) (fun c_21 => ?_) (fun c_21 => ?_)
                  · skip
                    refine aw_iload_n dX11_fashion_93 rfl ?_
                    refine aw_if_ne (tgt := 102) dX11_fashion_94 (by decide) (fun c_22 => ?_) (fun c_22 => ?_)
                    · skip
                      refine aw_iload dX11_fashion_102 rfl ?_
                      refine aw_ireti dX11_fashion_104 rfl (Nat.le_of_ble_eq_true rfl) (Nat.le_of_ble_eq_true rfl) ?_
                      exact ⟨rfl, rfl⟩
                    · skip
                      refine aw_iload dX11_fashion_97 rfl ?_
                      refine aw_goto (tgt := 104) dX11_fashion_99 (by decide) ?_
                      refine aw_ireti dX11_fashion_104 rfl (Nat.le_of_ble_eq_true rfl) (Nat.le_of_ble_eq_true rfl) ?_
                      exact ⟨rfl, rfl⟩
                  · skip
                    refine aw_iload dX11_fashion_64 rfl ?_
                    refine aw_bipush (v := 12) dX11_fashion_66 (by decide) ?_
                    refine aw_icmp_ge (tgt := 93) dX11_fashion_68 (by decide) (fun c_23 => ?_) (fun c_23 => ?_)
                    rotate_left
                    · exact absurd (nI_le (a := 12) (b := 12) (Nat.le_refl _) (by omega)) c_23
                    refine aw_iload_n dX11_fashion_93 rfl ?_
                    refine aw_if_ne (tgt := 102) dX11_fashion_94 (by decide) (fun c_24 => ?_) (fun c_24 => ?_)
                    · skip
                      refine aw_iload dX11_fashion_102 rfl ?_
                      refine aw_ireti dX11_fashion_104 rfl (Nat.le_of_ble_eq_true rfl) (Nat.le_of_ble_eq_true rfl) ?_
                      exact ⟨rfl, rfl⟩
                    · skip
                      refine aw_iload dX11_fashion_97 rfl ?_
                      refine aw_goto (tgt := 104) dX11_fashion_99 (by decide) ?_
                      refine aw_ireti dX11_fashion_104 rfl (Nat.le_of_ble_eq_true rfl) (Nat.le_of_ble_eq_true rfl) ?_
                      exact ⟨rfl, rfl⟩
                | succ g_57 ih_57_19 =>
                  intro j57 v57_4 v57_6 hj57
                  have hlj57 : j57 < 12 := by omega
                  refine aw_iload dX11_fashion_57 rfl ?_
                  refine aw_iload dX11_fashion_59 rfl ?_
                  refine aw_icmp_eq (tgt := 93) dX11_fashion_61 (by decide) (fun c_25 => ?_) (fun c_25 => ?_)
                  · skip
                    refine aw_iload_n dX11_fashion_93 rfl ?_
                    refine aw_if_ne (tgt := 102) dX11_fashion_94 (by decide) (fun c_26 => ?_) (fun c_26 => ?_)
                    · skip
                      refine aw_iload dX11_fashion_102 rfl ?_
                      refine aw_ireti dX11_fashion_104 rfl (Nat.le_of_ble_eq_true rfl) (Nat.le_of_ble_eq_true rfl) ?_
                      exact ⟨rfl, rfl⟩
                    · skip
                      refine aw_iload dX11_fashion_97 rfl ?_
                      refine aw_goto (tgt := 104) dX11_fashion_99 (by decide) ?_
                      refine aw_ireti dX11_fashion_104 rfl (Nat.le_of_ble_eq_true rfl) (Nat.le_of_ble_eq_true rfl) ?_
                      exact ⟨rfl, rfl⟩
                  · skip
                    refine aw_iload dX11_fashion_64 rfl ?_
                    refine aw_bipush (v := 12) dX11_fashion_66 (by decide) ?_
                    refine aw_icmp_ge (tgt := 93) dX11_fashion_68 (by decide) (fun c_27 => ?_) (fun c_27 => ?_)
                    · exact absurd c_27 (nI_ge (a := j57) (b := 12) (by omega) (by omega))
                    refine aw_iinc (v := (nI (j57 + 1))) (ls' := [some (.ref (b + 0)), some (.int n0), some (.int n1), some (.int n2), some (.int v57_4), some (.int (nI (j57 + 1))), some (.int v57_6)]) dX11_fashion_71 rfl (fx_up_1 _) (Nat.le_of_ble_eq_true rfl) rfl ?_
                    refine aw_iload dX11_fashion_74 rfl ?_
                    refine aw_istore (ls' := [some (.ref (b + 0)), some (.int n0), some (.int n1), some (.int n2), some (.int v57_6), some (.int (nI (j57 + 1))), some (.int v57_6)]) dX11_fashion_76 (Nat.le_of_ble_eq_true rfl) rfl ?_
                    refine aw_aload_n dX11_fashion_78 rfl ?_
                    refine aw_get dX11_fashion_79 fl_X11_19 e_7 (by omega) rfl ?_
                    refine aw_iload dX11_fashion_82 rfl ?_
                    refine aw_iload_n dX11_fashion_84 rfl ?_
                    refine aw_callSi (J' := jX1_grownFashion) (As := [.ref (b + 3), .int v57_6, .int n1]) (st := []) dX11_fashion_85 tb_844 ok_X1_grownFashion rfl (g_X1_grownFashion l D b N V hN hJ0.1 3 cA_3 v57_6 n1) rfl (Nat.le_of_ble_eq_true rfl) ⟨Nat.le_of_ble_eq_true rfl, Nat.le_of_ble_eq_true rfl, Nat.le_of_ble_eq_true rfl, Nat.le_of_ble_eq_true rfl⟩ (fun r_29 N_30 V_31 q_32 => ?_)
                    obtain ⟨rfl, rfl⟩ := q_32
                    refine aw_istore (ls' := [some (.ref (b + 0)), some (.int n0), some (.int n1), some (.int n2), some (.int v57_6), some (.int (nI (j57 + 1))), some (.int r_29)]) dX11_fashion_88 (Nat.le_of_ble_eq_true rfl) rfl ?_
                    refine aw_goto (tgt := 57) dX11_fashion_90 (by decide) ?_
                    refine aw_le ?_ (ih_57_19 (j57 + 1) v57_6 r_29  (by omega))
                    exact ⟨rfl, ⟨rfl, ⟨rfl, ⟨rfl, ⟨rfl, ⟨rfl, ⟨rfl, trivial⟩⟩⟩⟩⟩⟩⟩
              refine aw_le ?_ (loop_57_18 12 0 r_10 r_15  (by omega))
              exact ⟨rfl, ⟨rfl, ⟨rfl, ⟨rfl, ⟨rfl, ⟨rfl, ⟨rfl, trivial⟩⟩⟩⟩⟩⟩⟩
            · skip
              refine aw_iconst (v := (-1)) dX11_fashion_30 (by decide) ?_
              refine aw_ireti dX11_fashion_31 rfl (Nat.le_of_ble_eq_true rfl) (Nat.le_of_ble_eq_true rfl) ?_
              exact ⟨rfl, rfl⟩
