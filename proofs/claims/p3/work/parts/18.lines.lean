set_option maxHeartbeats 4000000 in
set_option maxRecDepth 100000 in
theorem g_X6_readLines_L (l : Launch) (D : va_G) (b : Nat) (N : Nat) (V : Wd) (hN : 100 ≤ N) (hW : CW D b V) (p x : Nat) (hp : 100 ≤ p ∧ p < N) (hx : x = 57 ∨ x = 65) (hR : V p = cO 5 [.ref (b + 1), .ref (b + x)])  : MI l D b 28 jX6_readLines [.ref (b + p), .int 16] N V 0 0 (fun r N9 V9 => N = N9 ∧ JW D b N [(1, 1, 3, 3), (x + 3, x + 3, 0, 1000000), (x + 4, x + 4, 0, 1000000), (x + 1, x + 1, 0, 1000000), (x + 2, x + 2, 0, 1000000), (x, x, 2, 2), (x + 5, x + 5, 0, 1000000), (1, 1, 4, 4), (x, x, 6, 6)] V V9) := by
  have hJ0 : JW D b N [(1, 1, 3, 3), (x + 3, x + 3, 0, 1000000), (x + 4, x + 4, 0, 1000000), (x + 1, x + 1, 0, 1000000), (x + 2, x + 2, 0, 1000000), (x, x, 2, 2), (x + 5, x + 5, 0, 1000000), (1, 1, 4, 4), (x, x, 6, 6)] V V := JW.rf hW
  refine mw_of (by decide) (by simp [Value.category]) (Nat.le_of_ble_eq_true rfl) ?_
  show AW l D b jX6_readLines (fx_rm 28 0 0) none (fx_MQ D b 0 0 (fx_qi (fun r N9 V9 => N = N9 ∧ JW D b N [(1, 1, 3, 3), (x + 3, x + 3, 0, 1000000), (x + 4, x + 4, 0, 1000000), (x + 1, x + 1, 0, 1000000), (x + 2, x + 2, 0, 1000000), (x, x, 2, 2), (x + 5, x + 5, 0, 1000000), (1, 1, 4, 4), (x, x, 6, 6)] V V9))) 0 [some (.ref (b + p)), some (.int 16), none] [] N V 0 0
  refine aw_iconst (v := 0) dX6_readLines_0 (by decide) ?_
  refine aw_istore_n (ls' := [some (.ref (b + p)), some (.int 16), some (.int 0)]) dX6_readLines_1 (Nat.le_of_ble_eq_true rfl) rfl ?_
  have loop_2_0 : ∀ (g_2 : Nat), ∀ (j2 : Nat)  (V2 : Wd), j2 + g_2 = 17 → (JW D b N [(1, 1, 3, 3), (x + 3, x + 3, 0, 1000000), (x + 4, x + 4, 0, 1000000), (x + 1, x + 1, 0, 1000000), (x + 2, x + 2, 0, 1000000), (x, x, 2, 2), (x + 5, x + 5, 0, 1000000), (1, 1, 4, 4), (x, x, 6, 6)] V V2) → AW l D b jX6_readLines (fx_rm 28 0 0) none (fx_MQ D b 0 0 (fx_qi (fun r N9 V9 => N = N9 ∧ JW D b N [(1, 1, 3, 3), (x + 3, x + 3, 0, 1000000), (x + 4, x + 4, 0, 1000000), (x + 1, x + 1, 0, 1000000), (x + 2, x + 2, 0, 1000000), (x, x, 2, 2), (x + 5, x + 5, 0, 1000000), (1, 1, 4, 4), (x, x, 6, 6)] V V9))) 2 [some (.ref (b + p)), some (.int 16), some (.int (nI j2))] [] N V2 0 0 := by
    intro g_2
    induction g_2 with
    | zero =>
      intro j2  V2 hj2 i2_0
      obtain rfl : j2 = 17 := by omega
      refine aw_iload_n dX6_readLines_2 rfl ?_
      refine aw_iload_n dX6_readLines_3 rfl ?_
      refine aw_icmp_gt (tgt := 130) dX6_readLines_4 (by decide) (fun c_3 => ?_) (fun c_3 => ?_)
      rotate_left
      · exact absurd (nI_lt (a := 16) (b := 17) (by omega) (by omega)) c_3
      refine aw_aload_n dX6_readLines_130 rfl ?_
      refine aw_get dX6_readLines_131 fl_X6_9_5 ((i2_0.2.1 _ hp.1 hp.2).trans hR) (by omega) rfl ?_
      obtain ⟨ts_4, tn_4, tf_4, ta_4, e_4, hta_4⟩ := JW.get i2_0 ct_1
      refine aw_get dX6_readLines_134 fl_X6_28 e_4 (by omega) rfl ?_
      refine aw_ireti dX6_readLines_137 rfl (Nat.le_of_ble_eq_true rfl) (Nat.le_of_ble_eq_true rfl) ?_
      exact ⟨rfl, i2_0⟩
    | succ g_2 ih_2_1 =>
      intro j2  V2 hj2 i2_0
      have hlj2 : j2 < 17 := by omega
      refine aw_iload_n dX6_readLines_2 rfl ?_
      refine aw_iload_n dX6_readLines_3 rfl ?_
      refine aw_icmp_gt (tgt := 130) dX6_readLines_4 (by decide) (fun c_5 => ?_) (fun c_5 => ?_)
      · exact absurd ((nI_ltI (a := 16) (b := j2) (by omega) (by omega)).mp c_5) (by omega)
      refine aw_iload_n dX6_readLines_7 rfl ?_
      refine aw_if_le (tgt := 50) dX6_readLines_8 (by decide) (fun c_6 => ?_) (fun c_6 => ?_)
      · skip
        have nc_6 : j2 ≤ 0 := (nI_leI (a := j2) (b := 0) (by omega) (by omega)).mp c_6
        refine aw_aload_n dX6_readLines_50 rfl ?_
        refine aw_aload_n dX6_readLines_51 rfl ?_
        refine aw_get dX6_readLines_52 fl_X6_9_5 ((i2_0.2.1 _ hp.1 hp.2).trans hR) (by omega) rfl ?_
        obtain ⟨ts_7, tn_7, tf_7, ta_7, e_7, hta_7⟩ := JW.get i2_0 ct_1
        refine aw_callVi (J' := jX10_now) (As := []) (st := [.ref (b + p)]) dX6_readLines_55 tb_319 ok_X10_now ⟨_, e_7⟩ (by omega) rfl rfl (g_X10_now l D b N V2 hN i2_0.1 ta_7 (⟨⟨_, _, _, e_7⟩, by omega⟩)) rfl (Nat.le_of_ble_eq_true rfl) ⟨Nat.le_of_ble_eq_true rfl, Nat.le_of_ble_eq_true rfl, Nat.le_of_ble_eq_true rfl, Nat.le_of_ble_eq_true rfl⟩ (fun r_10 N_11 V_12 q_13 => ?_)
        obtain ⟨h_9, rfl, rfl⟩ := q_13
        refine aw_callWi (J' := jX5_startsLine) (y := ({ cls := "FearLocks$LinesReader", name := "startsLine", desc := "(I)Z" } : Jvm.MethodName)) (RC := "FearLocks$LawReader") (owner := "FearLocks$LinesReader") (As := [.int r_10]) (st := []) dX6_readLines_58 tb_320 okW_X5_startsLine_X5 ⟨_, ((i2_0.2.1 _ hp.1 hp.2).trans hR)⟩ (by omega) rfl rfl (g_X5_startsLine l D b N V2 hN i2_0.1 p x ⟨by omega, by omega⟩ hx ((i2_0.2.1 _ hp.1 hp.2).trans hR) r_10) rfl (Nat.le_of_ble_eq_true rfl) ⟨Nat.le_of_ble_eq_true rfl, Nat.le_of_ble_eq_true rfl, Nat.le_of_ble_eq_true rfl, Nat.le_of_ble_eq_true rfl⟩ (fun r_17 N_18 V_19 q_20 => ?_)
        obtain ⟨⟨z_16, h_15⟩, rfl, rfl⟩ := q_20
        refine aw_if_ne (tgt := 80) dX6_readLines_61 (by decide) (fun c_21 => ?_) (fun c_21 => ?_)
        · skip
          have h0c_21 := h_15.resolve_left c_21
          have hlc_21 := h_9.resolve_left (fun z => absurd h0c_21 (by rw [z]; decide))
          refine aw_iload_n dX6_readLines_80 rfl ?_
          refine aw_iload_n dX6_readLines_81 rfl ?_
          refine aw_icmp_ne (tgt := 109) dX6_readLines_82 (by decide) (fun c_22 => ?_) (fun c_22 => ?_)
          · skip
            have nc_22 : ¬ (j2 = 16) := fun z => c_22 ((nI_eq (a := j2) (b := 16) (by omega) (by omega)).mpr z)
            refine aw_aload_n dX6_readLines_109 rfl ?_
            refine aw_callWi (J' := jX5_readLine) (y := ({ cls := "FearLocks$LinesReader", name := "readLine", desc := "()Z" } : Jvm.MethodName)) (RC := "FearLocks$LawReader") (owner := "FearLocks$LinesReader") (As := []) (st := []) dX6_readLines_110 tb_343 okW_X5_readLine_X5 ⟨_, ((i2_0.2.1 _ hp.1 hp.2).trans hR)⟩ (by omega) rfl rfl (g_X5_readLine l D b N V2 hN i2_0.1 p x ⟨by omega, by omega⟩ hx ((i2_0.2.1 _ hp.1 hp.2).trans hR) ta_7 (⟨⟨_, _, _, e_7⟩, by omega⟩) (by omega)) rfl (Nat.le_of_ble_eq_true rfl) ⟨Nat.le_of_ble_eq_true rfl, Nat.le_of_ble_eq_true rfl, Nat.le_of_ble_eq_true rfl, Nat.le_of_ble_eq_true rfl⟩ (fun r_31 N_32 V_27 q_33 => ?_)
            obtain ⟨⟨z_25, h_24⟩, rfl, q_23⟩ := q_33
            have j_26 := JW.trans i2_0 (JW.weak q_23 (Sub.cons LM0 (by decide) (by decide) (by decide) (Or.inr ⟨by decide, by decide⟩) (Sub.cons (LMs LM0) (by omega) (by omega) (by decide) (Or.inl rfl) (Sub.cons (LMs (LMs LM0)) (by omega) (by omega) (by decide) (Or.inl rfl) (Sub.cons (LMs (LMs (LMs LM0))) (by omega) (by omega) (by decide) (Or.inl rfl) (Sub.cons (LMs (LMs (LMs (LMs LM0)))) (by omega) (by omega) (by decide) (Or.inl rfl) (Sub.cons (LMs (LMs (LMs (LMs (LMs LM0))))) (by omega) (by omega) (by decide) (Or.inr ⟨by decide, by decide⟩) (Sub.cons (LMs (LMs (LMs (LMs (LMs (LMs LM0)))))) (by omega) (by omega) (by decide) (Or.inl rfl) (Sub.cons (LMs (LMs (LMs (LMs (LMs (LMs (LMs LM0))))))) (by decide) (by decide) (by decide) (Or.inr ⟨by decide, by decide⟩) (Sub.cons (LMs (LMs (LMs (LMs (LMs (LMs (LMs (LMs LM0)))))))) (by omega) (by omega) (by decide) (Or.inr ⟨by decide, by decide⟩) Sub.nil))))))))))
            obtain ⟨a_28, ha_29, ⟨ts_t_30, tn_t_30, tf_t_30, te_t_30⟩, hb_t_30⟩ := h_24
            refine aw_if_ne (tgt := 124) dX6_readLines_113 (by decide) (fun c_34 => ?_) (fun c_34 => ?_)
            · skip
              refine aw_iinc (v := (nI (j2 + 1))) (ls' := [some (.ref (b + p)), some (.int 16), some (.int (nI (j2 + 1)))]) dX6_readLines_124 rfl (fx_up_1 _) (Nat.le_of_ble_eq_true rfl) rfl ?_
              refine aw_goto (tgt := 2) dX6_readLines_127 (by decide) ?_
              refine aw_le ?_ (ih_2_1 (j2 + 1)  V_27 (by omega) (j_26))
              exact ⟨rfl, ⟨rfl, ⟨rfl, trivial⟩⟩⟩
            · skip
              refine aw_aload_n dX6_readLines_116 rfl ?_
              refine aw_get dX6_readLines_117 fl_X6_9_5 ((j_26.2.1 _ hp.1 hp.2).trans hR) (by omega) rfl ?_
              refine aw_get dX6_readLines_120 fl_X6_28 te_t_30 (by omega) rfl ?_
              refine aw_ireti dX6_readLines_123 rfl (Nat.le_of_ble_eq_true rfl) (Nat.le_of_ble_eq_true rfl) ?_
              exact ⟨rfl, j_26⟩
          · skip
            have nc_22 : j2 = 16 := (nI_eq (a := j2) (b := 16) (by omega) (by omega)).mp c_22
            refine aw_aload_n dX6_readLines_85 rfl ?_
            refine aw_get dX6_readLines_86 fl_X6_9_5 ((i2_0.2.1 _ hp.1 hp.2).trans hR) (by omega) rfl ?_
            refine aw_iconst (v := 4) dX6_readLines_89 (by decide) ?_
            refine aw_aload_n dX6_readLines_90 rfl ?_
            refine aw_get dX6_readLines_91 fl_X6_9_5 ((i2_0.2.1 _ hp.1 hp.2).trans hR) (by omega) rfl ?_
            refine aw_get dX6_readLines_94 fl_X6_15 e_7 (by omega) rfl ?_
            refine aw_callVi (J' := jX10_fail) (As := [.int 4, .int (nI ta_7)]) (st := []) dX6_readLines_97 tb_342 ok_X10_fail ⟨_, e_7⟩ (by omega) rfl rfl (g_X10_fail l D b N V2 hN i2_0.1 4 (nI ta_7) ta_7 (⟨⟨_, _, _, e_7⟩, by omega⟩)) rfl (Nat.le_of_ble_eq_true rfl) ⟨Nat.le_of_ble_eq_true rfl, Nat.le_of_ble_eq_true rfl, Nat.le_of_ble_eq_true rfl, Nat.le_of_ble_eq_true rfl⟩ (fun r_44 N_45 V_39 q_46 => ?_)
            obtain ⟨⟨z_37, h_36⟩, rfl, q_35⟩ := q_46
            have j_38 := JW.trans i2_0 (JW.weak q_35 (Sub.cons (LMs (LMs (LMs (LMs (LMs (LMs (LMs LM0))))))) (by decide) (by decide) (by decide) (Or.inr ⟨by decide, by decide⟩) Sub.nil))
            obtain ⟨h_43, a_40, ha_41, ⟨ts_t_42, tn_t_42, tf_t_42, te_t_42⟩, hb_t_42⟩ := h_36
            obtain rfl := h_43
            refine aw_pop dX6_readLines_100 rfl ?_
            refine aw_aload_n dX6_readLines_101 rfl ?_
            refine aw_get dX6_readLines_102 fl_X6_9_5 ((j_38.2.1 _ hp.1 hp.2).trans hR) (by omega) rfl ?_
            refine aw_get dX6_readLines_105 fl_X6_28 te_t_42 (by omega) rfl ?_
            refine aw_ireti dX6_readLines_108 rfl (Nat.le_of_ble_eq_true rfl) (Nat.le_of_ble_eq_true rfl) ?_
            exact ⟨rfl, j_38⟩
        · skip
          refine aw_aload_n dX6_readLines_64 rfl ?_
          refine aw_get dX6_readLines_65 fl_X6_9_5 ((i2_0.2.1 _ hp.1 hp.2).trans hR) (by omega) rfl ?_
          refine aw_callVi (J' := jX10_cannotStand) (As := []) (st := []) dX6_readLines_68 tb_338 ok_X10_cannotStand ⟨_, e_7⟩ (by omega) rfl rfl (g_X10_cannotStand l D b N V2 hN i2_0.1 ta_7 (⟨⟨_, _, _, e_7⟩, by omega⟩)) rfl (Nat.le_of_ble_eq_true rfl) ⟨Nat.le_of_ble_eq_true rfl, Nat.le_of_ble_eq_true rfl, Nat.le_of_ble_eq_true rfl, Nat.le_of_ble_eq_true rfl⟩ (fun r_56 N_57 V_51 q_58 => ?_)
          obtain ⟨⟨z_49, h_48⟩, rfl, q_47⟩ := q_58
          have j_50 := JW.trans i2_0 (JW.weak q_47 (Sub.cons (LMs (LMs (LMs (LMs (LMs (LMs (LMs LM0))))))) (by decide) (by decide) (by decide) (Or.inr ⟨by decide, by decide⟩) Sub.nil))
          obtain ⟨h_55, a_52, ha_53, ⟨ts_t_54, tn_t_54, tf_t_54, te_t_54⟩, hb_t_54⟩ := h_48
          obtain rfl := h_55
          refine aw_pop dX6_readLines_71 rfl ?_
          refine aw_aload_n dX6_readLines_72 rfl ?_
          refine aw_get dX6_readLines_73 fl_X6_9_5 ((j_50.2.1 _ hp.1 hp.2).trans hR) (by omega) rfl ?_
          refine aw_get dX6_readLines_76 fl_X6_28 te_t_54 (by omega) rfl ?_
          refine aw_ireti dX6_readLines_79 rfl (Nat.le_of_ble_eq_true rfl) (Nat.le_of_ble_eq_true rfl) ?_
          exact ⟨rfl, j_50⟩
      · skip
        have nc_6 : ¬ (j2 ≤ 0) := fun z => c_6 ((nI_leI (a := j2) (b := 0) (by omega) (by omega)).mpr z)
        refine aw_aload_n dX6_readLines_11 rfl ?_
        refine aw_get dX6_readLines_12 fl_X6_9_5 ((i2_0.2.1 _ hp.1 hp.2).trans hR) (by omega) rfl ?_
        obtain ⟨ts_59, tn_59, tf_59, ta_59, e_59, hta_59⟩ := JW.get i2_0 ct_1
        refine aw_get dX6_readLines_15 fl_X6_15 e_59 (by omega) rfl ?_
        refine aw_aload_n dX6_readLines_18 rfl ?_
        refine aw_get dX6_readLines_19 fl_X6_9_5 ((i2_0.2.1 _ hp.1 hp.2).trans hR) (by omega) rfl ?_
        refine aw_get dX6_readLines_22 fl_X6_21 e_59 (by omega) rfl ?_
        refine aw_icmp_lt (tgt := 30) dX6_readLines_25 (by decide) (fun c_60 => ?_) (fun c_60 => ?_)
        · skip
          refine aw_aload_n dX6_readLines_30 rfl ?_
          refine aw_get dX6_readLines_31 fl_X6_9_5 ((i2_0.2.1 _ hp.1 hp.2).trans hR) (by omega) rfl ?_
          refine aw_bipush (v := 59) dX6_readLines_34 (by decide) ?_
          refine aw_callVi (J' := jX10_expect) (As := [.int 59]) (st := []) dX6_readLines_36 tb_307 ok_X10_expect ⟨_, e_59⟩ (by omega) rfl rfl (g_X10_expect l D b N V2 hN i2_0.1 59 ta_59 (⟨⟨_, _, _, e_59⟩, by omega⟩) (by decide)) rfl (Nat.le_of_ble_eq_true rfl) ⟨Nat.le_of_ble_eq_true rfl, Nat.le_of_ble_eq_true rfl, Nat.le_of_ble_eq_true rfl, Nat.le_of_ble_eq_true rfl⟩ (fun r_69 N_70 V_65 q_71 => ?_)
          obtain ⟨⟨z_63, h_62⟩, rfl, q_61⟩ := q_71
          have j_64 := JW.trans i2_0 (JW.weak q_61 (Sub.cons LM0 (by decide) (by decide) (by decide) (Or.inr ⟨by decide, by decide⟩) (Sub.cons (LMs (LMs (LMs (LMs (LMs (LMs (LMs LM0))))))) (by decide) (by decide) (by decide) (Or.inr ⟨by decide, by decide⟩) Sub.nil)))
          obtain ⟨a_66, ha_67, ⟨ts_t_68, tn_t_68, tf_t_68, te_t_68⟩, hb_t_68⟩ := h_62
          refine aw_if_ne (tgt := 50) dX6_readLines_39 (by decide) (fun c_72 => ?_) (fun c_72 => ?_)
          · skip
            refine aw_aload_n dX6_readLines_50 rfl ?_
            refine aw_aload_n dX6_readLines_51 rfl ?_
            refine aw_get dX6_readLines_52 fl_X6_9_5 ((j_64.2.1 _ hp.1 hp.2).trans hR) (by omega) rfl ?_
            refine aw_callVi (J' := jX10_now) (As := []) (st := [.ref (b + p)]) dX6_readLines_55 tb_319 ok_X10_now ⟨_, te_t_68⟩ (by omega) rfl rfl (g_X10_now l D b N V_65 hN j_64.1 a_66 (⟨⟨_, _, _, te_t_68⟩, by omega⟩)) rfl (Nat.le_of_ble_eq_true rfl) ⟨Nat.le_of_ble_eq_true rfl, Nat.le_of_ble_eq_true rfl, Nat.le_of_ble_eq_true rfl, Nat.le_of_ble_eq_true rfl⟩ (fun r_75 N_76 V_77 q_78 => ?_)
            obtain ⟨h_74, rfl, rfl⟩ := q_78
            refine aw_callWi (J' := jX5_startsLine) (y := ({ cls := "FearLocks$LinesReader", name := "startsLine", desc := "(I)Z" } : Jvm.MethodName)) (RC := "FearLocks$LawReader") (owner := "FearLocks$LinesReader") (As := [.int r_75]) (st := []) dX6_readLines_58 tb_320 okW_X5_startsLine_X5 ⟨_, ((j_64.2.1 _ hp.1 hp.2).trans hR)⟩ (by omega) rfl rfl (g_X5_startsLine l D b N V_65 hN j_64.1 p x ⟨by omega, by omega⟩ hx ((j_64.2.1 _ hp.1 hp.2).trans hR) r_75) rfl (Nat.le_of_ble_eq_true rfl) ⟨Nat.le_of_ble_eq_true rfl, Nat.le_of_ble_eq_true rfl, Nat.le_of_ble_eq_true rfl, Nat.le_of_ble_eq_true rfl⟩ (fun r_82 N_83 V_84 q_85 => ?_)
            obtain ⟨⟨z_81, h_80⟩, rfl, rfl⟩ := q_85
            refine aw_if_ne (tgt := 80) dX6_readLines_61 (by decide) (fun c_86 => ?_) (fun c_86 => ?_)
            · skip
              have h0c_86 := h_80.resolve_left c_86
              have hlc_86 := h_74.resolve_left (fun z => absurd h0c_86 (by rw [z]; decide))
              refine aw_iload_n dX6_readLines_80 rfl ?_
              refine aw_iload_n dX6_readLines_81 rfl ?_
              refine aw_icmp_ne (tgt := 109) dX6_readLines_82 (by decide) (fun c_87 => ?_) (fun c_87 => ?_)
              · skip
                have nc_87 : ¬ (j2 = 16) := fun z => c_87 ((nI_eq (a := j2) (b := 16) (by omega) (by omega)).mpr z)
                refine aw_aload_n dX6_readLines_109 rfl ?_
                refine aw_callWi (J' := jX5_readLine) (y := ({ cls := "FearLocks$LinesReader", name := "readLine", desc := "()Z" } : Jvm.MethodName)) (RC := "FearLocks$LawReader") (owner := "FearLocks$LinesReader") (As := []) (st := []) dX6_readLines_110 tb_343 okW_X5_readLine_X5 ⟨_, ((j_64.2.1 _ hp.1 hp.2).trans hR)⟩ (by omega) rfl rfl (g_X5_readLine l D b N V_65 hN j_64.1 p x ⟨by omega, by omega⟩ hx ((j_64.2.1 _ hp.1 hp.2).trans hR) a_66 (⟨⟨_, _, _, te_t_68⟩, by omega⟩) (by omega)) rfl (Nat.le_of_ble_eq_true rfl) ⟨Nat.le_of_ble_eq_true rfl, Nat.le_of_ble_eq_true rfl, Nat.le_of_ble_eq_true rfl, Nat.le_of_ble_eq_true rfl⟩ (fun r_96 N_97 V_92 q_98 => ?_)
                obtain ⟨⟨z_90, h_89⟩, rfl, q_88⟩ := q_98
                have j_91 := JW.trans j_64 (JW.weak q_88 (Sub.cons LM0 (by decide) (by decide) (by decide) (Or.inr ⟨by decide, by decide⟩) (Sub.cons (LMs LM0) (by omega) (by omega) (by decide) (Or.inl rfl) (Sub.cons (LMs (LMs LM0)) (by omega) (by omega) (by decide) (Or.inl rfl) (Sub.cons (LMs (LMs (LMs LM0))) (by omega) (by omega) (by decide) (Or.inl rfl) (Sub.cons (LMs (LMs (LMs (LMs LM0)))) (by omega) (by omega) (by decide) (Or.inl rfl) (Sub.cons (LMs (LMs (LMs (LMs (LMs LM0))))) (by omega) (by omega) (by decide) (Or.inr ⟨by decide, by decide⟩) (Sub.cons (LMs (LMs (LMs (LMs (LMs (LMs LM0)))))) (by omega) (by omega) (by decide) (Or.inl rfl) (Sub.cons (LMs (LMs (LMs (LMs (LMs (LMs (LMs LM0))))))) (by decide) (by decide) (by decide) (Or.inr ⟨by decide, by decide⟩) (Sub.cons (LMs (LMs (LMs (LMs (LMs (LMs (LMs (LMs LM0)))))))) (by omega) (by omega) (by decide) (Or.inr ⟨by decide, by decide⟩) Sub.nil))))))))))
                obtain ⟨a_93, ha_94, ⟨ts_t_95, tn_t_95, tf_t_95, te_t_95⟩, hb_t_95⟩ := h_89
                refine aw_if_ne (tgt := 124) dX6_readLines_113 (by decide) (fun c_99 => ?_) (fun c_99 => ?_)
                · skip
                  refine aw_iinc (v := (nI (j2 + 1))) (ls' := [some (.ref (b + p)), some (.int 16), some (.int (nI (j2 + 1)))]) dX6_readLines_124 rfl (fx_up_1 _) (Nat.le_of_ble_eq_true rfl) rfl ?_
                  refine aw_goto (tgt := 2) dX6_readLines_127 (by decide) ?_
                  refine aw_le ?_ (ih_2_1 (j2 + 1)  V_92 (by omega) (j_91))
                  exact ⟨rfl, ⟨rfl, ⟨rfl, trivial⟩⟩⟩
                · skip
                  refine aw_aload_n dX6_readLines_116 rfl ?_
                  refine aw_get dX6_readLines_117 fl_X6_9_5 ((j_91.2.1 _ hp.1 hp.2).trans hR) (by omega) rfl ?_
                  refine aw_get dX6_readLines_120 fl_X6_28 te_t_95 (by omega) rfl ?_
                  refine aw_ireti dX6_readLines_123 rfl (Nat.le_of_ble_eq_true rfl) (Nat.le_of_ble_eq_true rfl) ?_
                  exact ⟨rfl, j_91⟩
              · skip
                have nc_87 : j2 = 16 := (nI_eq (a := j2) (b := 16) (by omega) (by omega)).mp c_87
                refine aw_aload_n dX6_readLines_85 rfl ?_
                refine aw_get dX6_readLines_86 fl_X6_9_5 ((j_64.2.1 _ hp.1 hp.2).trans hR) (by omega) rfl ?_
                refine aw_iconst (v := 4) dX6_readLines_89 (by decide) ?_
                refine aw_aload_n dX6_readLines_90 rfl ?_
                refine aw_get dX6_readLines_91 fl_X6_9_5 ((j_64.2.1 _ hp.1 hp.2).trans hR) (by omega) rfl ?_
                refine aw_get dX6_readLines_94 fl_X6_15 te_t_68 (by omega) rfl ?_
                refine aw_callVi (J' := jX10_fail) (As := [.int 4, .int (nI a_66)]) (st := []) dX6_readLines_97 tb_342 ok_X10_fail ⟨_, te_t_68⟩ (by omega) rfl rfl (g_X10_fail l D b N V_65 hN j_64.1 4 (nI a_66) a_66 (⟨⟨_, _, _, te_t_68⟩, by omega⟩)) rfl (Nat.le_of_ble_eq_true rfl) ⟨Nat.le_of_ble_eq_true rfl, Nat.le_of_ble_eq_true rfl, Nat.le_of_ble_eq_true rfl, Nat.le_of_ble_eq_true rfl⟩ (fun r_109 N_110 V_104 q_111 => ?_)
                obtain ⟨⟨z_102, h_101⟩, rfl, q_100⟩ := q_111
                have j_103 := JW.trans j_64 (JW.weak q_100 (Sub.cons (LMs (LMs (LMs (LMs (LMs (LMs (LMs LM0))))))) (by decide) (by decide) (by decide) (Or.inr ⟨by decide, by decide⟩) Sub.nil))
                obtain ⟨h_108, a_105, ha_106, ⟨ts_t_107, tn_t_107, tf_t_107, te_t_107⟩, hb_t_107⟩ := h_101
                obtain rfl := h_108
                refine aw_pop dX6_readLines_100 rfl ?_
                refine aw_aload_n dX6_readLines_101 rfl ?_
                refine aw_get dX6_readLines_102 fl_X6_9_5 ((j_103.2.1 _ hp.1 hp.2).trans hR) (by omega) rfl ?_
                refine aw_get dX6_readLines_105 fl_X6_28 te_t_107 (by omega) rfl ?_
                refine aw_ireti dX6_readLines_108 rfl (Nat.le_of_ble_eq_true rfl) (Nat.le_of_ble_eq_true rfl) ?_
                exact ⟨rfl, j_103⟩
            · skip
              refine aw_aload_n dX6_readLines_64 rfl ?_
              refine aw_get dX6_readLines_65 fl_X6_9_5 ((j_64.2.1 _ hp.1 hp.2).trans hR) (by omega) rfl ?_
              refine aw_callVi (J' := jX10_cannotStand) (As := []) (st := []) dX6_readLines_68 tb_338 ok_X10_cannotStand ⟨_, te_t_68⟩ (by omega) rfl rfl (g_X10_cannotStand l D b N V_65 hN j_64.1 a_66 (⟨⟨_, _, _, te_t_68⟩, by omega⟩)) rfl (Nat.le_of_ble_eq_true rfl) ⟨Nat.le_of_ble_eq_true rfl, Nat.le_of_ble_eq_true rfl, Nat.le_of_ble_eq_true rfl, Nat.le_of_ble_eq_true rfl⟩ (fun r_121 N_122 V_116 q_123 => ?_)
              obtain ⟨⟨z_114, h_113⟩, rfl, q_112⟩ := q_123
              have j_115 := JW.trans j_64 (JW.weak q_112 (Sub.cons (LMs (LMs (LMs (LMs (LMs (LMs (LMs LM0))))))) (by decide) (by decide) (by decide) (Or.inr ⟨by decide, by decide⟩) Sub.nil))
              obtain ⟨h_120, a_117, ha_118, ⟨ts_t_119, tn_t_119, tf_t_119, te_t_119⟩, hb_t_119⟩ := h_113
              obtain rfl := h_120
              refine aw_pop dX6_readLines_71 rfl ?_
              refine aw_aload_n dX6_readLines_72 rfl ?_
              refine aw_get dX6_readLines_73 fl_X6_9_5 ((j_115.2.1 _ hp.1 hp.2).trans hR) (by omega) rfl ?_
              refine aw_get dX6_readLines_76 fl_X6_28 te_t_119 (by omega) rfl ?_
              refine aw_ireti dX6_readLines_79 rfl (Nat.le_of_ble_eq_true rfl) (Nat.le_of_ble_eq_true rfl) ?_
              exact ⟨rfl, j_115⟩
          · skip
            refine aw_aload_n dX6_readLines_42 rfl ?_
            refine aw_get dX6_readLines_43 fl_X6_9_5 ((j_64.2.1 _ hp.1 hp.2).trans hR) (by omega) rfl ?_
            refine aw_get dX6_readLines_46 fl_X6_28 te_t_68 (by omega) rfl ?_
            refine aw_ireti dX6_readLines_49 rfl (Nat.le_of_ble_eq_true rfl) (Nat.le_of_ble_eq_true rfl) ?_
            exact ⟨rfl, j_64⟩
        · skip
          refine aw_iload_n dX6_readLines_28 rfl ?_
          refine aw_ireti dX6_readLines_29 rfl (Nat.le_of_ble_eq_true rfl) (Nat.le_of_ble_eq_true rfl) ?_
          exact ⟨rfl, i2_0⟩
  refine aw_le ?_ (loop_2_0 17 0  V (by omega) (hJ0))
  exact ⟨rfl, ⟨rfl, ⟨rfl, trivial⟩⟩⟩

set_option maxHeartbeats 4000000 in
set_option maxRecDepth 100000 in
theorem g_X6_readLines_D (l : Launch) (D : va_G) (b : Nat) (N : Nat) (V : Wd) (hN : 100 ≤ N) (hW : CW D b V) (p c : Nat) (pn : Int32) (hp : 100 ≤ p ∧ p < N) (hc : c = 3 ∨ c = 21 ∨ c = 39 ∨ c = 74) (hR : V p = cO 2 [.ref (b + 1), .ref (b + c), .int pn])  : MI l D b 4 jX6_readLines [.ref (b + p), .int 20] N V 0 0 (fun r N9 V9 => N = N9 ∧ JW D b N [(1, 1, 3, 3), (1, 1, 4, 4), (c, c, 5, 5), (c + 2, c + 13, 0, 1000000)] V V9) := by
  have hJ0 : JW D b N [(1, 1, 3, 3), (1, 1, 4, 4), (c, c, 5, 5), (c + 2, c + 13, 0, 1000000)] V V := JW.rf hW
  refine mw_of (by decide) (by simp [Value.category]) (Nat.le_of_ble_eq_true rfl) ?_
  show AW l D b jX6_readLines (fx_rm 4 0 0) none (fx_MQ D b 0 0 (fx_qi (fun r N9 V9 => N = N9 ∧ JW D b N [(1, 1, 3, 3), (1, 1, 4, 4), (c, c, 5, 5), (c + 2, c + 13, 0, 1000000)] V V9))) 0 [some (.ref (b + p)), some (.int 20), none] [] N V 0 0
  refine aw_iconst (v := 0) dX6_readLines_0 (by decide) ?_
  refine aw_istore_n (ls' := [some (.ref (b + p)), some (.int 20), some (.int 0)]) dX6_readLines_1 (Nat.le_of_ble_eq_true rfl) rfl ?_
  have loop_2_0 : ∀ (g_2 : Nat), ∀ (j2 : Nat)  (V2 : Wd), j2 + g_2 = 21 → (JW D b N [(1, 1, 3, 3), (1, 1, 4, 4), (c, c, 5, 5), (c + 2, c + 13, 0, 1000000)] V V2) → AW l D b jX6_readLines (fx_rm 4 0 0) none (fx_MQ D b 0 0 (fx_qi (fun r N9 V9 => N = N9 ∧ JW D b N [(1, 1, 3, 3), (1, 1, 4, 4), (c, c, 5, 5), (c + 2, c + 13, 0, 1000000)] V V9))) 2 [some (.ref (b + p)), some (.int 20), some (.int (nI j2))] [] N V2 0 0 := by
    intro g_2
    induction g_2 with
    | zero =>
      intro j2  V2 hj2 i2_0
      obtain rfl : j2 = 21 := by omega
      refine aw_iload_n dX6_readLines_2 rfl ?_
      refine aw_iload_n dX6_readLines_3 rfl ?_
      refine aw_icmp_gt (tgt := 130) dX6_readLines_4 (by decide) (fun c_3 => ?_) (fun c_3 => ?_)
      rotate_left
      · exact absurd (nI_lt (a := 20) (b := 21) (by omega) (by omega)) c_3
      refine aw_aload_n dX6_readLines_130 rfl ?_
      refine aw_get dX6_readLines_131 fl_X6_9_2 ((i2_0.2.1 _ hp.1 hp.2).trans hR) (by omega) rfl ?_
      obtain ⟨ts_4, tn_4, tf_4, ta_4, e_4, hta_4⟩ := JW.get i2_0 ct_1
      refine aw_get dX6_readLines_134 fl_X6_28 e_4 (by omega) rfl ?_
      refine aw_ireti dX6_readLines_137 rfl (Nat.le_of_ble_eq_true rfl) (Nat.le_of_ble_eq_true rfl) ?_
      exact ⟨rfl, i2_0⟩
    | succ g_2 ih_2_1 =>
      intro j2  V2 hj2 i2_0
      have hlj2 : j2 < 21 := by omega
      refine aw_iload_n dX6_readLines_2 rfl ?_
      refine aw_iload_n dX6_readLines_3 rfl ?_
      refine aw_icmp_gt (tgt := 130) dX6_readLines_4 (by decide) (fun c_5 => ?_) (fun c_5 => ?_)
      · exact absurd ((nI_ltI (a := 20) (b := j2) (by omega) (by omega)).mp c_5) (by omega)
      refine aw_iload_n dX6_readLines_7 rfl ?_
      refine aw_if_le (tgt := 50) dX6_readLines_8 (by decide) (fun c_6 => ?_) (fun c_6 => ?_)
      · skip
        have nc_6 : j2 ≤ 0 := (nI_leI (a := j2) (b := 0) (by omega) (by omega)).mp c_6
        refine aw_aload_n dX6_readLines_50 rfl ?_
        refine aw_aload_n dX6_readLines_51 rfl ?_
        refine aw_get dX6_readLines_52 fl_X6_9_2 ((i2_0.2.1 _ hp.1 hp.2).trans hR) (by omega) rfl ?_
        obtain ⟨ts_7, tn_7, tf_7, ta_7, e_7, hta_7⟩ := JW.get i2_0 ct_1
        refine aw_callVi (J' := jX10_now) (As := []) (st := [.ref (b + p)]) dX6_readLines_55 tb_319 ok_X10_now ⟨_, e_7⟩ (by omega) rfl rfl (g_X10_now l D b N V2 hN i2_0.1 ta_7 (⟨⟨_, _, _, e_7⟩, by omega⟩)) rfl (Nat.le_of_ble_eq_true rfl) ⟨Nat.le_of_ble_eq_true rfl, Nat.le_of_ble_eq_true rfl, Nat.le_of_ble_eq_true rfl, Nat.le_of_ble_eq_true rfl⟩ (fun r_10 N_11 V_12 q_13 => ?_)
        obtain ⟨h_9, rfl, rfl⟩ := q_13
        refine aw_callWi (J' := jX2_startsLine) (y := ({ cls := "FearLocks$LinesReader", name := "startsLine", desc := "(I)Z" } : Jvm.MethodName)) (RC := "FearLocks$DreadsReader") (owner := "FearLocks$LinesReader") (As := [.int r_10]) (st := []) dX6_readLines_58 tb_320 okW_X2_startsLine_X2 ⟨_, ((i2_0.2.1 _ hp.1 hp.2).trans hR)⟩ (by omega) rfl rfl (g_X2_startsLine l D b N V2 hN i2_0.1 p c pn ⟨by omega, by omega⟩ hc ((i2_0.2.1 _ hp.1 hp.2).trans hR) r_10) rfl (Nat.le_of_ble_eq_true rfl) ⟨Nat.le_of_ble_eq_true rfl, Nat.le_of_ble_eq_true rfl, Nat.le_of_ble_eq_true rfl, Nat.le_of_ble_eq_true rfl⟩ (fun r_17 N_18 V_19 q_20 => ?_)
        obtain ⟨⟨z_16, h_15⟩, rfl, rfl⟩ := q_20
        refine aw_if_ne (tgt := 80) dX6_readLines_61 (by decide) (fun c_21 => ?_) (fun c_21 => ?_)
        · skip
          have h0c_21 := h_15.resolve_left c_21
          have hlc_21 := h_9.resolve_left (fun z => absurd h0c_21 (by rw [z]; decide))
          refine aw_iload_n dX6_readLines_80 rfl ?_
          refine aw_iload_n dX6_readLines_81 rfl ?_
          refine aw_icmp_ne (tgt := 109) dX6_readLines_82 (by decide) (fun c_22 => ?_) (fun c_22 => ?_)
          · skip
            have nc_22 : ¬ (j2 = 20) := fun z => c_22 ((nI_eq (a := j2) (b := 20) (by omega) (by omega)).mpr z)
            refine aw_aload_n dX6_readLines_109 rfl ?_
            refine aw_callWi (J' := jX2_readLine) (y := ({ cls := "FearLocks$LinesReader", name := "readLine", desc := "()Z" } : Jvm.MethodName)) (RC := "FearLocks$DreadsReader") (owner := "FearLocks$LinesReader") (As := []) (st := []) dX6_readLines_110 tb_343 okW_X2_readLine_X2 ⟨_, ((i2_0.2.1 _ hp.1 hp.2).trans hR)⟩ (by omega) rfl rfl (g_X2_readLine l D b N V2 hN i2_0.1 p c pn ⟨by omega, by omega⟩ hc ((i2_0.2.1 _ hp.1 hp.2).trans hR) ta_7 (⟨⟨_, _, _, e_7⟩, by omega⟩)) rfl (Nat.le_of_ble_eq_true rfl) ⟨Nat.le_of_ble_eq_true rfl, Nat.le_of_ble_eq_true rfl, Nat.le_of_ble_eq_true rfl, Nat.le_of_ble_eq_true rfl⟩ (fun r_31 N_32 V_27 q_33 => ?_)
            obtain ⟨⟨z_25, h_24⟩, rfl, q_23⟩ := q_33
            have j_26 := JW.trans i2_0 (JW.weak q_23 (Sub.cons LM0 (by decide) (by decide) (by decide) (Or.inr ⟨by decide, by decide⟩) (Sub.cons (LMs LM0) (by decide) (by decide) (by decide) (Or.inr ⟨by decide, by decide⟩) (Sub.cons (LMs (LMs LM0)) (by omega) (by omega) (by decide) (Or.inr ⟨by decide, by decide⟩) (Sub.cons (LMs (LMs (LMs LM0))) (by omega) (by omega) (by decide) (Or.inl rfl) Sub.nil)))))
            obtain ⟨a_28, ha_29, ⟨ts_t_30, tn_t_30, tf_t_30, te_t_30⟩, hb_t_30⟩ := h_24
            refine aw_if_ne (tgt := 124) dX6_readLines_113 (by decide) (fun c_34 => ?_) (fun c_34 => ?_)
            · skip
              refine aw_iinc (v := (nI (j2 + 1))) (ls' := [some (.ref (b + p)), some (.int 20), some (.int (nI (j2 + 1)))]) dX6_readLines_124 rfl (fx_up_1 _) (Nat.le_of_ble_eq_true rfl) rfl ?_
              refine aw_goto (tgt := 2) dX6_readLines_127 (by decide) ?_
              refine aw_le ?_ (ih_2_1 (j2 + 1)  V_27 (by omega) (j_26))
              exact ⟨rfl, ⟨rfl, ⟨rfl, trivial⟩⟩⟩
            · skip
              refine aw_aload_n dX6_readLines_116 rfl ?_
              refine aw_get dX6_readLines_117 fl_X6_9_2 ((j_26.2.1 _ hp.1 hp.2).trans hR) (by omega) rfl ?_
              refine aw_get dX6_readLines_120 fl_X6_28 te_t_30 (by omega) rfl ?_
              refine aw_ireti dX6_readLines_123 rfl (Nat.le_of_ble_eq_true rfl) (Nat.le_of_ble_eq_true rfl) ?_
              exact ⟨rfl, j_26⟩
          · skip
            have nc_22 : j2 = 20 := (nI_eq (a := j2) (b := 20) (by omega) (by omega)).mp c_22
            refine aw_aload_n dX6_readLines_85 rfl ?_
            refine aw_get dX6_readLines_86 fl_X6_9_2 ((i2_0.2.1 _ hp.1 hp.2).trans hR) (by omega) rfl ?_
            refine aw_iconst (v := 4) dX6_readLines_89 (by decide) ?_
            refine aw_aload_n dX6_readLines_90 rfl ?_
            refine aw_get dX6_readLines_91 fl_X6_9_2 ((i2_0.2.1 _ hp.1 hp.2).trans hR) (by omega) rfl ?_
            refine aw_get dX6_readLines_94 fl_X6_15 e_7 (by omega) rfl ?_
            refine aw_callVi (J' := jX10_fail) (As := [.int 4, .int (nI ta_7)]) (st := []) dX6_readLines_97 tb_342 ok_X10_fail ⟨_, e_7⟩ (by omega) rfl rfl (g_X10_fail l D b N V2 hN i2_0.1 4 (nI ta_7) ta_7 (⟨⟨_, _, _, e_7⟩, by omega⟩)) rfl (Nat.le_of_ble_eq_true rfl) ⟨Nat.le_of_ble_eq_true rfl, Nat.le_of_ble_eq_true rfl, Nat.le_of_ble_eq_true rfl, Nat.le_of_ble_eq_true rfl⟩ (fun r_44 N_45 V_39 q_46 => ?_)
            obtain ⟨⟨z_37, h_36⟩, rfl, q_35⟩ := q_46
            have j_38 := JW.trans i2_0 (JW.weak q_35 (Sub.cons (LMs LM0) (by decide) (by decide) (by decide) (Or.inr ⟨by decide, by decide⟩) Sub.nil))
            obtain ⟨h_43, a_40, ha_41, ⟨ts_t_42, tn_t_42, tf_t_42, te_t_42⟩, hb_t_42⟩ := h_36
            obtain rfl := h_43
            refine aw_pop dX6_readLines_100 rfl ?_
            refine aw_aload_n dX6_readLines_101 rfl ?_
            refine aw_get dX6_readLines_102 fl_X6_9_2 ((j_38.2.1 _ hp.1 hp.2).trans hR) (by omega) rfl ?_
            refine aw_get dX6_readLines_105 fl_X6_28 te_t_42 (by omega) rfl ?_
            refine aw_ireti dX6_readLines_108 rfl (Nat.le_of_ble_eq_true rfl) (Nat.le_of_ble_eq_true rfl) ?_
            exact ⟨rfl, j_38⟩
        · skip
          refine aw_aload_n dX6_readLines_64 rfl ?_
          refine aw_get dX6_readLines_65 fl_X6_9_2 ((i2_0.2.1 _ hp.1 hp.2).trans hR) (by omega) rfl ?_
          refine aw_callVi (J' := jX10_cannotStand) (As := []) (st := []) dX6_readLines_68 tb_338 ok_X10_cannotStand ⟨_, e_7⟩ (by omega) rfl rfl (g_X10_cannotStand l D b N V2 hN i2_0.1 ta_7 (⟨⟨_, _, _, e_7⟩, by omega⟩)) rfl (Nat.le_of_ble_eq_true rfl) ⟨Nat.le_of_ble_eq_true rfl, Nat.le_of_ble_eq_true rfl, Nat.le_of_ble_eq_true rfl, Nat.le_of_ble_eq_true rfl⟩ (fun r_56 N_57 V_51 q_58 => ?_)
          obtain ⟨⟨z_49, h_48⟩, rfl, q_47⟩ := q_58
          have j_50 := JW.trans i2_0 (JW.weak q_47 (Sub.cons (LMs LM0) (by decide) (by decide) (by decide) (Or.inr ⟨by decide, by decide⟩) Sub.nil))
          obtain ⟨h_55, a_52, ha_53, ⟨ts_t_54, tn_t_54, tf_t_54, te_t_54⟩, hb_t_54⟩ := h_48
          obtain rfl := h_55
          refine aw_pop dX6_readLines_71 rfl ?_
          refine aw_aload_n dX6_readLines_72 rfl ?_
          refine aw_get dX6_readLines_73 fl_X6_9_2 ((j_50.2.1 _ hp.1 hp.2).trans hR) (by omega) rfl ?_
          refine aw_get dX6_readLines_76 fl_X6_28 te_t_54 (by omega) rfl ?_
          refine aw_ireti dX6_readLines_79 rfl (Nat.le_of_ble_eq_true rfl) (Nat.le_of_ble_eq_true rfl) ?_
          exact ⟨rfl, j_50⟩
      · skip
        have nc_6 : ¬ (j2 ≤ 0) := fun z => c_6 ((nI_leI (a := j2) (b := 0) (by omega) (by omega)).mpr z)
        refine aw_aload_n dX6_readLines_11 rfl ?_
        refine aw_get dX6_readLines_12 fl_X6_9_2 ((i2_0.2.1 _ hp.1 hp.2).trans hR) (by omega) rfl ?_
        obtain ⟨ts_59, tn_59, tf_59, ta_59, e_59, hta_59⟩ := JW.get i2_0 ct_1
        refine aw_get dX6_readLines_15 fl_X6_15 e_59 (by omega) rfl ?_
        refine aw_aload_n dX6_readLines_18 rfl ?_
        refine aw_get dX6_readLines_19 fl_X6_9_2 ((i2_0.2.1 _ hp.1 hp.2).trans hR) (by omega) rfl ?_
        refine aw_get dX6_readLines_22 fl_X6_21 e_59 (by omega) rfl ?_
        refine aw_icmp_lt (tgt := 30) dX6_readLines_25 (by decide) (fun c_60 => ?_) (fun c_60 => ?_)
        · skip
          refine aw_aload_n dX6_readLines_30 rfl ?_
          refine aw_get dX6_readLines_31 fl_X6_9_2 ((i2_0.2.1 _ hp.1 hp.2).trans hR) (by omega) rfl ?_
          refine aw_bipush (v := 59) dX6_readLines_34 (by decide) ?_
          refine aw_callVi (J' := jX10_expect) (As := [.int 59]) (st := []) dX6_readLines_36 tb_307 ok_X10_expect ⟨_, e_59⟩ (by omega) rfl rfl (g_X10_expect l D b N V2 hN i2_0.1 59 ta_59 (⟨⟨_, _, _, e_59⟩, by omega⟩) (by decide)) rfl (Nat.le_of_ble_eq_true rfl) ⟨Nat.le_of_ble_eq_true rfl, Nat.le_of_ble_eq_true rfl, Nat.le_of_ble_eq_true rfl, Nat.le_of_ble_eq_true rfl⟩ (fun r_69 N_70 V_65 q_71 => ?_)
          obtain ⟨⟨z_63, h_62⟩, rfl, q_61⟩ := q_71
          have j_64 := JW.trans i2_0 (JW.weak q_61 (Sub.cons LM0 (by decide) (by decide) (by decide) (Or.inr ⟨by decide, by decide⟩) (Sub.cons (LMs LM0) (by decide) (by decide) (by decide) (Or.inr ⟨by decide, by decide⟩) Sub.nil)))
          obtain ⟨a_66, ha_67, ⟨ts_t_68, tn_t_68, tf_t_68, te_t_68⟩, hb_t_68⟩ := h_62
          refine aw_if_ne (tgt := 50) dX6_readLines_39 (by decide) (fun c_72 => ?_) (fun c_72 => ?_)
          · skip
            refine aw_aload_n dX6_readLines_50 rfl ?_
            refine aw_aload_n dX6_readLines_51 rfl ?_
            refine aw_get dX6_readLines_52 fl_X6_9_2 ((j_64.2.1 _ hp.1 hp.2).trans hR) (by omega) rfl ?_
            refine aw_callVi (J' := jX10_now) (As := []) (st := [.ref (b + p)]) dX6_readLines_55 tb_319 ok_X10_now ⟨_, te_t_68⟩ (by omega) rfl rfl (g_X10_now l D b N V_65 hN j_64.1 a_66 (⟨⟨_, _, _, te_t_68⟩, by omega⟩)) rfl (Nat.le_of_ble_eq_true rfl) ⟨Nat.le_of_ble_eq_true rfl, Nat.le_of_ble_eq_true rfl, Nat.le_of_ble_eq_true rfl, Nat.le_of_ble_eq_true rfl⟩ (fun r_75 N_76 V_77 q_78 => ?_)
            obtain ⟨h_74, rfl, rfl⟩ := q_78
            refine aw_callWi (J' := jX2_startsLine) (y := ({ cls := "FearLocks$LinesReader", name := "startsLine", desc := "(I)Z" } : Jvm.MethodName)) (RC := "FearLocks$DreadsReader") (owner := "FearLocks$LinesReader") (As := [.int r_75]) (st := []) dX6_readLines_58 tb_320 okW_X2_startsLine_X2 ⟨_, ((j_64.2.1 _ hp.1 hp.2).trans hR)⟩ (by omega) rfl rfl (g_X2_startsLine l D b N V_65 hN j_64.1 p c pn ⟨by omega, by omega⟩ hc ((j_64.2.1 _ hp.1 hp.2).trans hR) r_75) rfl (Nat.le_of_ble_eq_true rfl) ⟨Nat.le_of_ble_eq_true rfl, Nat.le_of_ble_eq_true rfl, Nat.le_of_ble_eq_true rfl, Nat.le_of_ble_eq_true rfl⟩ (fun r_82 N_83 V_84 q_85 => ?_)
            obtain ⟨⟨z_81, h_80⟩, rfl, rfl⟩ := q_85
            refine aw_if_ne (tgt := 80) dX6_readLines_61 (by decide) (fun c_86 => ?_) (fun c_86 => ?_)
            · skip
              have h0c_86 := h_80.resolve_left c_86
              have hlc_86 := h_74.resolve_left (fun z => absurd h0c_86 (by rw [z]; decide))
              refine aw_iload_n dX6_readLines_80 rfl ?_
              refine aw_iload_n dX6_readLines_81 rfl ?_
              refine aw_icmp_ne (tgt := 109) dX6_readLines_82 (by decide) (fun c_87 => ?_) (fun c_87 => ?_)
              · skip
                have nc_87 : ¬ (j2 = 20) := fun z => c_87 ((nI_eq (a := j2) (b := 20) (by omega) (by omega)).mpr z)
                refine aw_aload_n dX6_readLines_109 rfl ?_
                refine aw_callWi (J' := jX2_readLine) (y := ({ cls := "FearLocks$LinesReader", name := "readLine", desc := "()Z" } : Jvm.MethodName)) (RC := "FearLocks$DreadsReader") (owner := "FearLocks$LinesReader") (As := []) (st := []) dX6_readLines_110 tb_343 okW_X2_readLine_X2 ⟨_, ((j_64.2.1 _ hp.1 hp.2).trans hR)⟩ (by omega) rfl rfl (g_X2_readLine l D b N V_65 hN j_64.1 p c pn ⟨by omega, by omega⟩ hc ((j_64.2.1 _ hp.1 hp.2).trans hR) a_66 (⟨⟨_, _, _, te_t_68⟩, by omega⟩)) rfl (Nat.le_of_ble_eq_true rfl) ⟨Nat.le_of_ble_eq_true rfl, Nat.le_of_ble_eq_true rfl, Nat.le_of_ble_eq_true rfl, Nat.le_of_ble_eq_true rfl⟩ (fun r_96 N_97 V_92 q_98 => ?_)
                obtain ⟨⟨z_90, h_89⟩, rfl, q_88⟩ := q_98
                have j_91 := JW.trans j_64 (JW.weak q_88 (Sub.cons LM0 (by decide) (by decide) (by decide) (Or.inr ⟨by decide, by decide⟩) (Sub.cons (LMs LM0) (by decide) (by decide) (by decide) (Or.inr ⟨by decide, by decide⟩) (Sub.cons (LMs (LMs LM0)) (by omega) (by omega) (by decide) (Or.inr ⟨by decide, by decide⟩) (Sub.cons (LMs (LMs (LMs LM0))) (by omega) (by omega) (by decide) (Or.inl rfl) Sub.nil)))))
                obtain ⟨a_93, ha_94, ⟨ts_t_95, tn_t_95, tf_t_95, te_t_95⟩, hb_t_95⟩ := h_89
                refine aw_if_ne (tgt := 124) dX6_readLines_113 (by decide) (fun c_99 => ?_) (fun c_99 => ?_)
                · skip
                  refine aw_iinc (v := (nI (j2 + 1))) (ls' := [some (.ref (b + p)), some (.int 20), some (.int (nI (j2 + 1)))]) dX6_readLines_124 rfl (fx_up_1 _) (Nat.le_of_ble_eq_true rfl) rfl ?_
                  refine aw_goto (tgt := 2) dX6_readLines_127 (by decide) ?_
                  refine aw_le ?_ (ih_2_1 (j2 + 1)  V_92 (by omega) (j_91))
                  exact ⟨rfl, ⟨rfl, ⟨rfl, trivial⟩⟩⟩
                · skip
                  refine aw_aload_n dX6_readLines_116 rfl ?_
                  refine aw_get dX6_readLines_117 fl_X6_9_2 ((j_91.2.1 _ hp.1 hp.2).trans hR) (by omega) rfl ?_
                  refine aw_get dX6_readLines_120 fl_X6_28 te_t_95 (by omega) rfl ?_
                  refine aw_ireti dX6_readLines_123 rfl (Nat.le_of_ble_eq_true rfl) (Nat.le_of_ble_eq_true rfl) ?_
                  exact ⟨rfl, j_91⟩
              · skip
                have nc_87 : j2 = 20 := (nI_eq (a := j2) (b := 20) (by omega) (by omega)).mp c_87
                refine aw_aload_n dX6_readLines_85 rfl ?_
                refine aw_get dX6_readLines_86 fl_X6_9_2 ((j_64.2.1 _ hp.1 hp.2).trans hR) (by omega) rfl ?_
                refine aw_iconst (v := 4) dX6_readLines_89 (by decide) ?_
                refine aw_aload_n dX6_readLines_90 rfl ?_
                refine aw_get dX6_readLines_91 fl_X6_9_2 ((j_64.2.1 _ hp.1 hp.2).trans hR) (by omega) rfl ?_
                refine aw_get dX6_readLines_94 fl_X6_15 te_t_68 (by omega) rfl ?_
                refine aw_callVi (J' := jX10_fail) (As := [.int 4, .int (nI a_66)]) (st := []) dX6_readLines_97 tb_342 ok_X10_fail ⟨_, te_t_68⟩ (by omega) rfl rfl (g_X10_fail l D b N V_65 hN j_64.1 4 (nI a_66) a_66 (⟨⟨_, _, _, te_t_68⟩, by omega⟩)) rfl (Nat.le_of_ble_eq_true rfl) ⟨Nat.le_of_ble_eq_true rfl, Nat.le_of_ble_eq_true rfl, Nat.le_of_ble_eq_true rfl, Nat.le_of_ble_eq_true rfl⟩ (fun r_109 N_110 V_104 q_111 => ?_)
                obtain ⟨⟨z_102, h_101⟩, rfl, q_100⟩ := q_111
                have j_103 := JW.trans j_64 (JW.weak q_100 (Sub.cons (LMs LM0) (by decide) (by decide) (by decide) (Or.inr ⟨by decide, by decide⟩) Sub.nil))
                obtain ⟨h_108, a_105, ha_106, ⟨ts_t_107, tn_t_107, tf_t_107, te_t_107⟩, hb_t_107⟩ := h_101
                obtain rfl := h_108
                refine aw_pop dX6_readLines_100 rfl ?_
                refine aw_aload_n dX6_readLines_101 rfl ?_
                refine aw_get dX6_readLines_102 fl_X6_9_2 ((j_103.2.1 _ hp.1 hp.2).trans hR) (by omega) rfl ?_
                refine aw_get dX6_readLines_105 fl_X6_28 te_t_107 (by omega) rfl ?_
                refine aw_ireti dX6_readLines_108 rfl (Nat.le_of_ble_eq_true rfl) (Nat.le_of_ble_eq_true rfl) ?_
                exact ⟨rfl, j_103⟩
            · skip
              refine aw_aload_n dX6_readLines_64 rfl ?_
              refine aw_get dX6_readLines_65 fl_X6_9_2 ((j_64.2.1 _ hp.1 hp.2).trans hR) (by omega) rfl ?_
              refine aw_callVi (J' := jX10_cannotStand) (As := []) (st := []) dX6_readLines_68 tb_338 ok_X10_cannotStand ⟨_, te_t_68⟩ (by omega) rfl rfl (g_X10_cannotStand l D b N V_65 hN j_64.1 a_66 (⟨⟨_, _, _, te_t_68⟩, by omega⟩)) rfl (Nat.le_of_ble_eq_true rfl) ⟨Nat.le_of_ble_eq_true rfl, Nat.le_of_ble_eq_true rfl, Nat.le_of_ble_eq_true rfl, Nat.le_of_ble_eq_true rfl⟩ (fun r_121 N_122 V_116 q_123 => ?_)
              obtain ⟨⟨z_114, h_113⟩, rfl, q_112⟩ := q_123
              have j_115 := JW.trans j_64 (JW.weak q_112 (Sub.cons (LMs LM0) (by decide) (by decide) (by decide) (Or.inr ⟨by decide, by decide⟩) Sub.nil))
              obtain ⟨h_120, a_117, ha_118, ⟨ts_t_119, tn_t_119, tf_t_119, te_t_119⟩, hb_t_119⟩ := h_113
              obtain rfl := h_120
              refine aw_pop dX6_readLines_71 rfl ?_
              refine aw_aload_n dX6_readLines_72 rfl ?_
              refine aw_get dX6_readLines_73 fl_X6_9_2 ((j_115.2.1 _ hp.1 hp.2).trans hR) (by omega) rfl ?_
              refine aw_get dX6_readLines_76 fl_X6_28 te_t_119 (by omega) rfl ?_
              refine aw_ireti dX6_readLines_79 rfl (Nat.le_of_ble_eq_true rfl) (Nat.le_of_ble_eq_true rfl) ?_
              exact ⟨rfl, j_115⟩
          · skip
            refine aw_aload_n dX6_readLines_42 rfl ?_
            refine aw_get dX6_readLines_43 fl_X6_9_2 ((j_64.2.1 _ hp.1 hp.2).trans hR) (by omega) rfl ?_
            refine aw_get dX6_readLines_46 fl_X6_28 te_t_68 (by omega) rfl ?_
            refine aw_ireti dX6_readLines_49 rfl (Nat.le_of_ble_eq_true rfl) (Nat.le_of_ble_eq_true rfl) ?_
            exact ⟨rfl, j_64⟩
        · skip
          refine aw_iload_n dX6_readLines_28 rfl ?_
          refine aw_ireti dX6_readLines_29 rfl (Nat.le_of_ble_eq_true rfl) (Nat.le_of_ble_eq_true rfl) ?_
          exact ⟨rfl, i2_0⟩
  refine aw_le ?_ (loop_2_0 21 0  V (by omega) (hJ0))
  exact ⟨rfl, ⟨rfl, ⟨rfl, trivial⟩⟩⟩

set_option maxHeartbeats 4000000 in
set_option maxRecDepth 100000 in
theorem g_X6_readLines_O (l : Launch) (D : va_G) (b : Nat) (N : Nat) (V : Wd) (hN : 100 ≤ N) (hW : CW D b V) (p c : Nat) (hp : 100 ≤ p ∧ p < N) (hc : c = 3 ∨ c = 21 ∨ c = 39 ∨ c = 74) (hR : V p = cO 7 [.ref (b + 1), .ref (b + c)])  : MI l D b 5 jX6_readLines [.ref (b + p), .int 16] N V 0 0 (fun r N9 V9 => N = N9 ∧ JW D b N [(1, 1, 3, 3), (1, 1, 4, 4), (c + 14, c + 14, 0, 1000000), (c, c, 6, 6), (c + 15, c + 15, 0, 1000000), (c + 16, c + 16, 0, 1000000), (c + 17, c + 17, 0, 1000000)] V V9) := by
  have hJ0 : JW D b N [(1, 1, 3, 3), (1, 1, 4, 4), (c + 14, c + 14, 0, 1000000), (c, c, 6, 6), (c + 15, c + 15, 0, 1000000), (c + 16, c + 16, 0, 1000000), (c + 17, c + 17, 0, 1000000)] V V := JW.rf hW
  refine mw_of (by decide) (by simp [Value.category]) (Nat.le_of_ble_eq_true rfl) ?_
  show AW l D b jX6_readLines (fx_rm 5 0 0) none (fx_MQ D b 0 0 (fx_qi (fun r N9 V9 => N = N9 ∧ JW D b N [(1, 1, 3, 3), (1, 1, 4, 4), (c + 14, c + 14, 0, 1000000), (c, c, 6, 6), (c + 15, c + 15, 0, 1000000), (c + 16, c + 16, 0, 1000000), (c + 17, c + 17, 0, 1000000)] V V9))) 0 [some (.ref (b + p)), some (.int 16), none] [] N V 0 0
  refine aw_iconst (v := 0) dX6_readLines_0 (by decide) ?_
  refine aw_istore_n (ls' := [some (.ref (b + p)), some (.int 16), some (.int 0)]) dX6_readLines_1 (Nat.le_of_ble_eq_true rfl) rfl ?_
  have loop_2_0 : ∀ (g_2 : Nat), ∀ (j2 : Nat)  (V2 : Wd), j2 + g_2 = 17 → (JW D b N [(1, 1, 3, 3), (1, 1, 4, 4), (c + 14, c + 14, 0, 1000000), (c, c, 6, 6), (c + 15, c + 15, 0, 1000000), (c + 16, c + 16, 0, 1000000), (c + 17, c + 17, 0, 1000000)] V V2) → AW l D b jX6_readLines (fx_rm 5 0 0) none (fx_MQ D b 0 0 (fx_qi (fun r N9 V9 => N = N9 ∧ JW D b N [(1, 1, 3, 3), (1, 1, 4, 4), (c + 14, c + 14, 0, 1000000), (c, c, 6, 6), (c + 15, c + 15, 0, 1000000), (c + 16, c + 16, 0, 1000000), (c + 17, c + 17, 0, 1000000)] V V9))) 2 [some (.ref (b + p)), some (.int 16), some (.int (nI j2))] [] N V2 0 0 := by
    intro g_2
    induction g_2 with
    | zero =>
      intro j2  V2 hj2 i2_0
      obtain rfl : j2 = 17 := by omega
      refine aw_iload_n dX6_readLines_2 rfl ?_
      refine aw_iload_n dX6_readLines_3 rfl ?_
      refine aw_icmp_gt (tgt := 130) dX6_readLines_4 (by decide) (fun c_3 => ?_) (fun c_3 => ?_)
      rotate_left
      · exact absurd (nI_lt (a := 16) (b := 17) (by omega) (by omega)) c_3
      refine aw_aload_n dX6_readLines_130 rfl ?_
      refine aw_get dX6_readLines_131 fl_X6_9_7 ((i2_0.2.1 _ hp.1 hp.2).trans hR) (by omega) rfl ?_
      obtain ⟨ts_4, tn_4, tf_4, ta_4, e_4, hta_4⟩ := JW.get i2_0 ct_1
      refine aw_get dX6_readLines_134 fl_X6_28 e_4 (by omega) rfl ?_
      refine aw_ireti dX6_readLines_137 rfl (Nat.le_of_ble_eq_true rfl) (Nat.le_of_ble_eq_true rfl) ?_
      exact ⟨rfl, i2_0⟩
    | succ g_2 ih_2_1 =>
      intro j2  V2 hj2 i2_0
      have hlj2 : j2 < 17 := by omega
      refine aw_iload_n dX6_readLines_2 rfl ?_
      refine aw_iload_n dX6_readLines_3 rfl ?_
      refine aw_icmp_gt (tgt := 130) dX6_readLines_4 (by decide) (fun c_5 => ?_) (fun c_5 => ?_)
      · exact absurd ((nI_ltI (a := 16) (b := j2) (by omega) (by omega)).mp c_5) (by omega)
      refine aw_iload_n dX6_readLines_7 rfl ?_
      refine aw_if_le (tgt := 50) dX6_readLines_8 (by decide) (fun c_6 => ?_) (fun c_6 => ?_)
      · skip
        have nc_6 : j2 ≤ 0 := (nI_leI (a := j2) (b := 0) (by omega) (by omega)).mp c_6
        refine aw_aload_n dX6_readLines_50 rfl ?_
        refine aw_aload_n dX6_readLines_51 rfl ?_
        refine aw_get dX6_readLines_52 fl_X6_9_7 ((i2_0.2.1 _ hp.1 hp.2).trans hR) (by omega) rfl ?_
        obtain ⟨ts_7, tn_7, tf_7, ta_7, e_7, hta_7⟩ := JW.get i2_0 ct_1
        refine aw_callVi (J' := jX10_now) (As := []) (st := [.ref (b + p)]) dX6_readLines_55 tb_319 ok_X10_now ⟨_, e_7⟩ (by omega) rfl rfl (g_X10_now l D b N V2 hN i2_0.1 ta_7 (⟨⟨_, _, _, e_7⟩, by omega⟩)) rfl (Nat.le_of_ble_eq_true rfl) ⟨Nat.le_of_ble_eq_true rfl, Nat.le_of_ble_eq_true rfl, Nat.le_of_ble_eq_true rfl, Nat.le_of_ble_eq_true rfl⟩ (fun r_10 N_11 V_12 q_13 => ?_)
        obtain ⟨h_9, rfl, rfl⟩ := q_13
        refine aw_callWi (J' := jX8_startsLine) (y := ({ cls := "FearLocks$LinesReader", name := "startsLine", desc := "(I)Z" } : Jvm.MethodName)) (RC := "FearLocks$OrdersReader") (owner := "FearLocks$LinesReader") (As := [.int r_10]) (st := []) dX6_readLines_58 tb_320 okW_X8_startsLine_X8 ⟨_, ((i2_0.2.1 _ hp.1 hp.2).trans hR)⟩ (by omega) rfl rfl (g_X8_startsLine l D b N V2 hN i2_0.1 p c ⟨by omega, by omega⟩ hc ((i2_0.2.1 _ hp.1 hp.2).trans hR) r_10) rfl (Nat.le_of_ble_eq_true rfl) ⟨Nat.le_of_ble_eq_true rfl, Nat.le_of_ble_eq_true rfl, Nat.le_of_ble_eq_true rfl, Nat.le_of_ble_eq_true rfl⟩ (fun r_17 N_18 V_19 q_20 => ?_)
        obtain ⟨⟨z_16, h_15⟩, rfl, rfl⟩ := q_20
        refine aw_if_ne (tgt := 80) dX6_readLines_61 (by decide) (fun c_21 => ?_) (fun c_21 => ?_)
        · skip
          have h0c_21 := h_15.resolve_left c_21
          have hlc_21 := h_9.resolve_left (fun z => absurd h0c_21 (by rw [z]; decide))
          refine aw_iload_n dX6_readLines_80 rfl ?_
          refine aw_iload_n dX6_readLines_81 rfl ?_
          refine aw_icmp_ne (tgt := 109) dX6_readLines_82 (by decide) (fun c_22 => ?_) (fun c_22 => ?_)
          · skip
            have nc_22 : ¬ (j2 = 16) := fun z => c_22 ((nI_eq (a := j2) (b := 16) (by omega) (by omega)).mpr z)
            refine aw_aload_n dX6_readLines_109 rfl ?_
            refine aw_callWi (J' := jX8_readLine) (y := ({ cls := "FearLocks$LinesReader", name := "readLine", desc := "()Z" } : Jvm.MethodName)) (RC := "FearLocks$OrdersReader") (owner := "FearLocks$LinesReader") (As := []) (st := []) dX6_readLines_110 tb_343 okW_X8_readLine_X8 ⟨_, ((i2_0.2.1 _ hp.1 hp.2).trans hR)⟩ (by omega) rfl rfl (g_X8_readLine l D b N V2 hN i2_0.1 p c ⟨by omega, by omega⟩ hc ((i2_0.2.1 _ hp.1 hp.2).trans hR) ta_7 (⟨⟨_, _, _, e_7⟩, by omega⟩)) rfl (Nat.le_of_ble_eq_true rfl) ⟨Nat.le_of_ble_eq_true rfl, Nat.le_of_ble_eq_true rfl, Nat.le_of_ble_eq_true rfl, Nat.le_of_ble_eq_true rfl⟩ (fun r_31 N_32 V_27 q_33 => ?_)
            obtain ⟨⟨z_25, h_24⟩, rfl, q_23⟩ := q_33
            have j_26 := JW.trans i2_0 (JW.weak q_23 (Sub.cons LM0 (by decide) (by decide) (by decide) (Or.inr ⟨by decide, by decide⟩) (Sub.cons (LMs LM0) (by decide) (by decide) (by decide) (Or.inr ⟨by decide, by decide⟩) (Sub.cons (LMs (LMs LM0)) (by omega) (by omega) (by decide) (Or.inl rfl) (Sub.cons (LMs (LMs (LMs LM0))) (by omega) (by omega) (by decide) (Or.inr ⟨by decide, by decide⟩) (Sub.cons (LMs (LMs (LMs (LMs LM0)))) (by omega) (by omega) (by decide) (Or.inl rfl) (Sub.cons (LMs (LMs (LMs (LMs (LMs LM0))))) (by omega) (by omega) (by decide) (Or.inl rfl) (Sub.cons (LMs (LMs (LMs (LMs (LMs (LMs LM0)))))) (by omega) (by omega) (by decide) (Or.inl rfl) Sub.nil))))))))
            obtain ⟨a_28, ha_29, ⟨ts_t_30, tn_t_30, tf_t_30, te_t_30⟩, hb_t_30⟩ := h_24
            refine aw_if_ne (tgt := 124) dX6_readLines_113 (by decide) (fun c_34 => ?_) (fun c_34 => ?_)
            · skip
              refine aw_iinc (v := (nI (j2 + 1))) (ls' := [some (.ref (b + p)), some (.int 16), some (.int (nI (j2 + 1)))]) dX6_readLines_124 rfl (fx_up_1 _) (Nat.le_of_ble_eq_true rfl) rfl ?_
              refine aw_goto (tgt := 2) dX6_readLines_127 (by decide) ?_
              refine aw_le ?_ (ih_2_1 (j2 + 1)  V_27 (by omega) (j_26))
              exact ⟨rfl, ⟨rfl, ⟨rfl, trivial⟩⟩⟩
            · skip
              refine aw_aload_n dX6_readLines_116 rfl ?_
              refine aw_get dX6_readLines_117 fl_X6_9_7 ((j_26.2.1 _ hp.1 hp.2).trans hR) (by omega) rfl ?_
              refine aw_get dX6_readLines_120 fl_X6_28 te_t_30 (by omega) rfl ?_
              refine aw_ireti dX6_readLines_123 rfl (Nat.le_of_ble_eq_true rfl) (Nat.le_of_ble_eq_true rfl) ?_
              exact ⟨rfl, j_26⟩
          · skip
            have nc_22 : j2 = 16 := (nI_eq (a := j2) (b := 16) (by omega) (by omega)).mp c_22
            refine aw_aload_n dX6_readLines_85 rfl ?_
            refine aw_get dX6_readLines_86 fl_X6_9_7 ((i2_0.2.1 _ hp.1 hp.2).trans hR) (by omega) rfl ?_
            refine aw_iconst (v := 4) dX6_readLines_89 (by decide) ?_
            refine aw_aload_n dX6_readLines_90 rfl ?_
            refine aw_get dX6_readLines_91 fl_X6_9_7 ((i2_0.2.1 _ hp.1 hp.2).trans hR) (by omega) rfl ?_
            refine aw_get dX6_readLines_94 fl_X6_15 e_7 (by omega) rfl ?_
            refine aw_callVi (J' := jX10_fail) (As := [.int 4, .int (nI ta_7)]) (st := []) dX6_readLines_97 tb_342 ok_X10_fail ⟨_, e_7⟩ (by omega) rfl rfl (g_X10_fail l D b N V2 hN i2_0.1 4 (nI ta_7) ta_7 (⟨⟨_, _, _, e_7⟩, by omega⟩)) rfl (Nat.le_of_ble_eq_true rfl) ⟨Nat.le_of_ble_eq_true rfl, Nat.le_of_ble_eq_true rfl, Nat.le_of_ble_eq_true rfl, Nat.le_of_ble_eq_true rfl⟩ (fun r_44 N_45 V_39 q_46 => ?_)
            obtain ⟨⟨z_37, h_36⟩, rfl, q_35⟩ := q_46
            have j_38 := JW.trans i2_0 (JW.weak q_35 (Sub.cons (LMs LM0) (by decide) (by decide) (by decide) (Or.inr ⟨by decide, by decide⟩) Sub.nil))
            obtain ⟨h_43, a_40, ha_41, ⟨ts_t_42, tn_t_42, tf_t_42, te_t_42⟩, hb_t_42⟩ := h_36
            obtain rfl := h_43
            refine aw_pop dX6_readLines_100 rfl ?_
            refine aw_aload_n dX6_readLines_101 rfl ?_
            refine aw_get dX6_readLines_102 fl_X6_9_7 ((j_38.2.1 _ hp.1 hp.2).trans hR) (by omega) rfl ?_
            refine aw_get dX6_readLines_105 fl_X6_28 te_t_42 (by omega) rfl ?_
            refine aw_ireti dX6_readLines_108 rfl (Nat.le_of_ble_eq_true rfl) (Nat.le_of_ble_eq_true rfl) ?_
            exact ⟨rfl, j_38⟩
        · skip
          refine aw_aload_n dX6_readLines_64 rfl ?_
          refine aw_get dX6_readLines_65 fl_X6_9_7 ((i2_0.2.1 _ hp.1 hp.2).trans hR) (by omega) rfl ?_
          refine aw_callVi (J' := jX10_cannotStand) (As := []) (st := []) dX6_readLines_68 tb_338 ok_X10_cannotStand ⟨_, e_7⟩ (by omega) rfl rfl (g_X10_cannotStand l D b N V2 hN i2_0.1 ta_7 (⟨⟨_, _, _, e_7⟩, by omega⟩)) rfl (Nat.le_of_ble_eq_true rfl) ⟨Nat.le_of_ble_eq_true rfl, Nat.le_of_ble_eq_true rfl, Nat.le_of_ble_eq_true rfl, Nat.le_of_ble_eq_true rfl⟩ (fun r_56 N_57 V_51 q_58 => ?_)
          obtain ⟨⟨z_49, h_48⟩, rfl, q_47⟩ := q_58
          have j_50 := JW.trans i2_0 (JW.weak q_47 (Sub.cons (LMs LM0) (by decide) (by decide) (by decide) (Or.inr ⟨by decide, by decide⟩) Sub.nil))
          obtain ⟨h_55, a_52, ha_53, ⟨ts_t_54, tn_t_54, tf_t_54, te_t_54⟩, hb_t_54⟩ := h_48
          obtain rfl := h_55
          refine aw_pop dX6_readLines_71 rfl ?_
          refine aw_aload_n dX6_readLines_72 rfl ?_
          refine aw_get dX6_readLines_73 fl_X6_9_7 ((j_50.2.1 _ hp.1 hp.2).trans hR) (by omega) rfl ?_
          refine aw_get dX6_readLines_76 fl_X6_28 te_t_54 (by omega) rfl ?_
          refine aw_ireti dX6_readLines_79 rfl (Nat.le_of_ble_eq_true rfl) (Nat.le_of_ble_eq_true rfl) ?_
          exact ⟨rfl, j_50⟩
      · skip
        have nc_6 : ¬ (j2 ≤ 0) := fun z => c_6 ((nI_leI (a := j2) (b := 0) (by omega) (by omega)).mpr z)
        refine aw_aload_n dX6_readLines_11 rfl ?_
        refine aw_get dX6_readLines_12 fl_X6_9_7 ((i2_0.2.1 _ hp.1 hp.2).trans hR) (by omega) rfl ?_
        obtain ⟨ts_59, tn_59, tf_59, ta_59, e_59, hta_59⟩ := JW.get i2_0 ct_1
        refine aw_get dX6_readLines_15 fl_X6_15 e_59 (by omega) rfl ?_
        refine aw_aload_n dX6_readLines_18 rfl ?_
        refine aw_get dX6_readLines_19 fl_X6_9_7 ((i2_0.2.1 _ hp.1 hp.2).trans hR) (by omega) rfl ?_
        refine aw_get dX6_readLines_22 fl_X6_21 e_59 (by omega) rfl ?_
        refine aw_icmp_lt (tgt := 30) dX6_readLines_25 (by decide) (fun c_60 => ?_) (fun c_60 => ?_)
        · skip
          refine aw_aload_n dX6_readLines_30 rfl ?_
          refine aw_get dX6_readLines_31 fl_X6_9_7 ((i2_0.2.1 _ hp.1 hp.2).trans hR) (by omega) rfl ?_
          refine aw_bipush (v := 59) dX6_readLines_34 (by decide) ?_
          refine aw_callVi (J' := jX10_expect) (As := [.int 59]) (st := []) dX6_readLines_36 tb_307 ok_X10_expect ⟨_, e_59⟩ (by omega) rfl rfl (g_X10_expect l D b N V2 hN i2_0.1 59 ta_59 (⟨⟨_, _, _, e_59⟩, by omega⟩) (by decide)) rfl (Nat.le_of_ble_eq_true rfl) ⟨Nat.le_of_ble_eq_true rfl, Nat.le_of_ble_eq_true rfl, Nat.le_of_ble_eq_true rfl, Nat.le_of_ble_eq_true rfl⟩ (fun r_69 N_70 V_65 q_71 => ?_)
          obtain ⟨⟨z_63, h_62⟩, rfl, q_61⟩ := q_71
          have j_64 := JW.trans i2_0 (JW.weak q_61 (Sub.cons LM0 (by decide) (by decide) (by decide) (Or.inr ⟨by decide, by decide⟩) (Sub.cons (LMs LM0) (by decide) (by decide) (by decide) (Or.inr ⟨by decide, by decide⟩) Sub.nil)))
          obtain ⟨a_66, ha_67, ⟨ts_t_68, tn_t_68, tf_t_68, te_t_68⟩, hb_t_68⟩ := h_62
          refine aw_if_ne (tgt := 50) dX6_readLines_39 (by decide) (fun c_72 => ?_) (fun c_72 => ?_)
          · skip
            refine aw_aload_n dX6_readLines_50 rfl ?_
            refine aw_aload_n dX6_readLines_51 rfl ?_
            refine aw_get dX6_readLines_52 fl_X6_9_7 ((j_64.2.1 _ hp.1 hp.2).trans hR) (by omega) rfl ?_
            refine aw_callVi (J' := jX10_now) (As := []) (st := [.ref (b + p)]) dX6_readLines_55 tb_319 ok_X10_now ⟨_, te_t_68⟩ (by omega) rfl rfl (g_X10_now l D b N V_65 hN j_64.1 a_66 (⟨⟨_, _, _, te_t_68⟩, by omega⟩)) rfl (Nat.le_of_ble_eq_true rfl) ⟨Nat.le_of_ble_eq_true rfl, Nat.le_of_ble_eq_true rfl, Nat.le_of_ble_eq_true rfl, Nat.le_of_ble_eq_true rfl⟩ (fun r_75 N_76 V_77 q_78 => ?_)
            obtain ⟨h_74, rfl, rfl⟩ := q_78
            refine aw_callWi (J' := jX8_startsLine) (y := ({ cls := "FearLocks$LinesReader", name := "startsLine", desc := "(I)Z" } : Jvm.MethodName)) (RC := "FearLocks$OrdersReader") (owner := "FearLocks$LinesReader") (As := [.int r_75]) (st := []) dX6_readLines_58 tb_320 okW_X8_startsLine_X8 ⟨_, ((j_64.2.1 _ hp.1 hp.2).trans hR)⟩ (by omega) rfl rfl (g_X8_startsLine l D b N V_65 hN j_64.1 p c ⟨by omega, by omega⟩ hc ((j_64.2.1 _ hp.1 hp.2).trans hR) r_75) rfl (Nat.le_of_ble_eq_true rfl) ⟨Nat.le_of_ble_eq_true rfl, Nat.le_of_ble_eq_true rfl, Nat.le_of_ble_eq_true rfl, Nat.le_of_ble_eq_true rfl⟩ (fun r_82 N_83 V_84 q_85 => ?_)
            obtain ⟨⟨z_81, h_80⟩, rfl, rfl⟩ := q_85
            refine aw_if_ne (tgt := 80) dX6_readLines_61 (by decide) (fun c_86 => ?_) (fun c_86 => ?_)
            · skip
              have h0c_86 := h_80.resolve_left c_86
              have hlc_86 := h_74.resolve_left (fun z => absurd h0c_86 (by rw [z]; decide))
              refine aw_iload_n dX6_readLines_80 rfl ?_
              refine aw_iload_n dX6_readLines_81 rfl ?_
              refine aw_icmp_ne (tgt := 109) dX6_readLines_82 (by decide) (fun c_87 => ?_) (fun c_87 => ?_)
              · skip
                have nc_87 : ¬ (j2 = 16) := fun z => c_87 ((nI_eq (a := j2) (b := 16) (by omega) (by omega)).mpr z)
                refine aw_aload_n dX6_readLines_109 rfl ?_
                refine aw_callWi (J' := jX8_readLine) (y := ({ cls := "FearLocks$LinesReader", name := "readLine", desc := "()Z" } : Jvm.MethodName)) (RC := "FearLocks$OrdersReader") (owner := "FearLocks$LinesReader") (As := []) (st := []) dX6_readLines_110 tb_343 okW_X8_readLine_X8 ⟨_, ((j_64.2.1 _ hp.1 hp.2).trans hR)⟩ (by omega) rfl rfl (g_X8_readLine l D b N V_65 hN j_64.1 p c ⟨by omega, by omega⟩ hc ((j_64.2.1 _ hp.1 hp.2).trans hR) a_66 (⟨⟨_, _, _, te_t_68⟩, by omega⟩)) rfl (Nat.le_of_ble_eq_true rfl) ⟨Nat.le_of_ble_eq_true rfl, Nat.le_of_ble_eq_true rfl, Nat.le_of_ble_eq_true rfl, Nat.le_of_ble_eq_true rfl⟩ (fun r_96 N_97 V_92 q_98 => ?_)
                obtain ⟨⟨z_90, h_89⟩, rfl, q_88⟩ := q_98
                have j_91 := JW.trans j_64 (JW.weak q_88 (Sub.cons LM0 (by decide) (by decide) (by decide) (Or.inr ⟨by decide, by decide⟩) (Sub.cons (LMs LM0) (by decide) (by decide) (by decide) (Or.inr ⟨by decide, by decide⟩) (Sub.cons (LMs (LMs LM0)) (by omega) (by omega) (by decide) (Or.inl rfl) (Sub.cons (LMs (LMs (LMs LM0))) (by omega) (by omega) (by decide) (Or.inr ⟨by decide, by decide⟩) (Sub.cons (LMs (LMs (LMs (LMs LM0)))) (by omega) (by omega) (by decide) (Or.inl rfl) (Sub.cons (LMs (LMs (LMs (LMs (LMs LM0))))) (by omega) (by omega) (by decide) (Or.inl rfl) (Sub.cons (LMs (LMs (LMs (LMs (LMs (LMs LM0)))))) (by omega) (by omega) (by decide) (Or.inl rfl) Sub.nil))))))))
                obtain ⟨a_93, ha_94, ⟨ts_t_95, tn_t_95, tf_t_95, te_t_95⟩, hb_t_95⟩ := h_89
                refine aw_if_ne (tgt := 124) dX6_readLines_113 (by decide) (fun c_99 => ?_) (fun c_99 => ?_)
                · skip
                  refine aw_iinc (v := (nI (j2 + 1))) (ls' := [some (.ref (b + p)), some (.int 16), some (.int (nI (j2 + 1)))]) dX6_readLines_124 rfl (fx_up_1 _) (Nat.le_of_ble_eq_true rfl) rfl ?_
                  refine aw_goto (tgt := 2) dX6_readLines_127 (by decide) ?_
                  refine aw_le ?_ (ih_2_1 (j2 + 1)  V_92 (by omega) (j_91))
                  exact ⟨rfl, ⟨rfl, ⟨rfl, trivial⟩⟩⟩
                · skip
                  refine aw_aload_n dX6_readLines_116 rfl ?_
                  refine aw_get dX6_readLines_117 fl_X6_9_7 ((j_91.2.1 _ hp.1 hp.2).trans hR) (by omega) rfl ?_
                  refine aw_get dX6_readLines_120 fl_X6_28 te_t_95 (by omega) rfl ?_
                  refine aw_ireti dX6_readLines_123 rfl (Nat.le_of_ble_eq_true rfl) (Nat.le_of_ble_eq_true rfl) ?_
                  exact ⟨rfl, j_91⟩
              · skip
                have nc_87 : j2 = 16 := (nI_eq (a := j2) (b := 16) (by omega) (by omega)).mp c_87
                refine aw_aload_n dX6_readLines_85 rfl ?_
                refine aw_get dX6_readLines_86 fl_X6_9_7 ((j_64.2.1 _ hp.1 hp.2).trans hR) (by omega) rfl ?_
                refine aw_iconst (v := 4) dX6_readLines_89 (by decide) ?_
                refine aw_aload_n dX6_readLines_90 rfl ?_
                refine aw_get dX6_readLines_91 fl_X6_9_7 ((j_64.2.1 _ hp.1 hp.2).trans hR) (by omega) rfl ?_
                refine aw_get dX6_readLines_94 fl_X6_15 te_t_68 (by omega) rfl ?_
                refine aw_callVi (J' := jX10_fail) (As := [.int 4, .int (nI a_66)]) (st := []) dX6_readLines_97 tb_342 ok_X10_fail ⟨_, te_t_68⟩ (by omega) rfl rfl (g_X10_fail l D b N V_65 hN j_64.1 4 (nI a_66) a_66 (⟨⟨_, _, _, te_t_68⟩, by omega⟩)) rfl (Nat.le_of_ble_eq_true rfl) ⟨Nat.le_of_ble_eq_true rfl, Nat.le_of_ble_eq_true rfl, Nat.le_of_ble_eq_true rfl, Nat.le_of_ble_eq_true rfl⟩ (fun r_109 N_110 V_104 q_111 => ?_)
                obtain ⟨⟨z_102, h_101⟩, rfl, q_100⟩ := q_111
                have j_103 := JW.trans j_64 (JW.weak q_100 (Sub.cons (LMs LM0) (by decide) (by decide) (by decide) (Or.inr ⟨by decide, by decide⟩) Sub.nil))
                obtain ⟨h_108, a_105, ha_106, ⟨ts_t_107, tn_t_107, tf_t_107, te_t_107⟩, hb_t_107⟩ := h_101
                obtain rfl := h_108
                refine aw_pop dX6_readLines_100 rfl ?_
                refine aw_aload_n dX6_readLines_101 rfl ?_
                refine aw_get dX6_readLines_102 fl_X6_9_7 ((j_103.2.1 _ hp.1 hp.2).trans hR) (by omega) rfl ?_
                refine aw_get dX6_readLines_105 fl_X6_28 te_t_107 (by omega) rfl ?_
                refine aw_ireti dX6_readLines_108 rfl (Nat.le_of_ble_eq_true rfl) (Nat.le_of_ble_eq_true rfl) ?_
                exact ⟨rfl, j_103⟩
            · skip
              refine aw_aload_n dX6_readLines_64 rfl ?_
              refine aw_get dX6_readLines_65 fl_X6_9_7 ((j_64.2.1 _ hp.1 hp.2).trans hR) (by omega) rfl ?_
              refine aw_callVi (J' := jX10_cannotStand) (As := []) (st := []) dX6_readLines_68 tb_338 ok_X10_cannotStand ⟨_, te_t_68⟩ (by omega) rfl rfl (g_X10_cannotStand l D b N V_65 hN j_64.1 a_66 (⟨⟨_, _, _, te_t_68⟩, by omega⟩)) rfl (Nat.le_of_ble_eq_true rfl) ⟨Nat.le_of_ble_eq_true rfl, Nat.le_of_ble_eq_true rfl, Nat.le_of_ble_eq_true rfl, Nat.le_of_ble_eq_true rfl⟩ (fun r_121 N_122 V_116 q_123 => ?_)
              obtain ⟨⟨z_114, h_113⟩, rfl, q_112⟩ := q_123
              have j_115 := JW.trans j_64 (JW.weak q_112 (Sub.cons (LMs LM0) (by decide) (by decide) (by decide) (Or.inr ⟨by decide, by decide⟩) Sub.nil))
              obtain ⟨h_120, a_117, ha_118, ⟨ts_t_119, tn_t_119, tf_t_119, te_t_119⟩, hb_t_119⟩ := h_113
              obtain rfl := h_120
              refine aw_pop dX6_readLines_71 rfl ?_
              refine aw_aload_n dX6_readLines_72 rfl ?_
              refine aw_get dX6_readLines_73 fl_X6_9_7 ((j_115.2.1 _ hp.1 hp.2).trans hR) (by omega) rfl ?_
              refine aw_get dX6_readLines_76 fl_X6_28 te_t_119 (by omega) rfl ?_
              refine aw_ireti dX6_readLines_79 rfl (Nat.le_of_ble_eq_true rfl) (Nat.le_of_ble_eq_true rfl) ?_
              exact ⟨rfl, j_115⟩
          · skip
            refine aw_aload_n dX6_readLines_42 rfl ?_
            refine aw_get dX6_readLines_43 fl_X6_9_7 ((j_64.2.1 _ hp.1 hp.2).trans hR) (by omega) rfl ?_
            refine aw_get dX6_readLines_46 fl_X6_28 te_t_68 (by omega) rfl ?_
            refine aw_ireti dX6_readLines_49 rfl (Nat.le_of_ble_eq_true rfl) (Nat.le_of_ble_eq_true rfl) ?_
            exact ⟨rfl, j_64⟩
        · skip
          refine aw_iload_n dX6_readLines_28 rfl ?_
          refine aw_ireti dX6_readLines_29 rfl (Nat.le_of_ble_eq_true rfl) (Nat.le_of_ble_eq_true rfl) ?_
          exact ⟨rfl, i2_0⟩
  refine aw_le ?_ (loop_2_0 17 0  V (by omega) (hJ0))
  exact ⟨rfl, ⟨rfl, ⟨rfl, trivial⟩⟩⟩
