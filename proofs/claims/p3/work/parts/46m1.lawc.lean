set_option maxHeartbeats 4000000 in
set_option maxRecDepth 100000 in
theorem g_X10_readNumber_5S (l : Launch) (D : va_G) (b : Nat) (N : Nat) (V : Wd) (hN : 100 ≤ N) (hW : CW D b V)  (g : Nat → Int32) (hg : V 2 = cI D 260 g) (n a : Nat) (hna : a ≤ n ∧ n ≤ 240) (hE : fI (V 1) 2 = nI n) (hA : fI (V 1) 3 = nI a) : MI l D b 1 jX10_readNumber [.ref (b + 1), .int 5] N V 0 0 (fun r N9 V9 => ((∃ f, num g n 5 a = .inl f ∧ fI (V9 1) 4 = f ∧ r = -1) ∨ (∃ a9 v, num g n 5 a = .inr (a9, v) ∧ fI (V9 1) 3 = nI a9 ∧ (a < a9 ∧ a9 ≤ n ∧ v < 100000) ∧ r = nI v)) ∧ N = N9 ∧ JW D b N [(1, 1, 3, 3), (1, 1, 4, 4)] V V9) := by
  have hJ0 : JW D b N [(1, 1, 3, 3), (1, 1, 4, 4)] V V := JW.rf hW
  refine mw_of (by decide) (by simp [Value.category]) (Nat.le_of_ble_eq_true rfl) ?_
  show AW l D b jX10_readNumber (fx_rm 1 0 0) none (fx_MQ D b 0 0 (fx_qi (fun r N9 V9 => ((∃ f, num g n 5 a = .inl f ∧ fI (V9 1) 4 = f ∧ r = -1) ∨ (∃ a9 v, num g n 5 a = .inr (a9, v) ∧ fI (V9 1) 3 = nI a9 ∧ (a < a9 ∧ a9 ≤ n ∧ v < 100000) ∧ r = nI v)) ∧ N = N9 ∧ JW D b N [(1, 1, 3, 3), (1, 1, 4, 4)] V V9))) 0 [some (.ref (b + 1)), some (.int 5), none, none] [] N V 0 0
  refine aw_aload_n dX10_readNumber_0 rfl ?_
  obtain ⟨ts_3, tn_3, tf_3, ta_3, e_3, hta_3⟩ := JW.get hJ0 ct_1
  refine aw_callVi (J' := jX10_now) (As := []) (st := []) dX10_readNumber_1 tb_311 ok_X10_now ⟨_, e_3⟩ (by omega) rfl rfl (g_X10_nowS l D b N V hN hJ0.1 g hg n a ⟨by omega, by omega⟩ hE hA) rfl (Nat.le_of_ble_eq_true rfl) ⟨Nat.le_of_ble_eq_true rfl, Nat.le_of_ble_eq_true rfl, Nat.le_of_ble_eq_true rfl, Nat.le_of_ble_eq_true rfl⟩ (fun r_4 N_5 V_6 q_7 => ?_)
  obtain ⟨h_2, rfl, rfl⟩ := q_7
  refine aw_eqi (y := (hd g n a)) h_2 ?_
  refine aw_callSi (J' := jX10_isDigit) (As := [.int (hd g n a)]) (st := []) dX10_readNumber_4 tb_365 ok_X10_isDigit rfl (g_X10_isDigitS l D b N V hN hJ0.1 (hd g n a)) rfl (Nat.le_of_ble_eq_true rfl) ⟨Nat.le_of_ble_eq_true rfl, Nat.le_of_ble_eq_true rfl, Nat.le_of_ble_eq_true rfl, Nat.le_of_ble_eq_true rfl⟩ (fun r_11 N_12 V_13 q_14 => ?_)
  obtain ⟨⟨z_10, h_9⟩, rfl, rfl⟩ := q_14
  rcases h_9 with ⟨hy_15, e_16⟩ | ⟨hn_17, e_18⟩
  · skip
    refine aw_eqi (y := 1) e_16 ?_
    obtain ⟨z_19, hz_19, ez_19⟩ := isDg_nat hy_15
    have hlz_19 := isDg_hd hy_15
    refine aw_if_ne (tgt := 22) dX10_readNumber_7 (by decide) (fun c_20 => ?_) (fun c_20 => ?_)
    rotate_left
    · exact absurd c_20 (by decide)
    refine aw_aload_n dX10_readNumber_22 rfl ?_
    refine aw_get dX10_readNumber_23 fl_X10_22 e_3 (by omega) rfl ?_
    refine aw_eqi (y := (nI a)) ((Eq.symm (congrArg (fun z => fI z 3) e_3)).trans hA) ?_
    refine aw_istore_n (ls' := [some (.ref (b + 1)), some (.int 5), some (.int (nI a)), none]) dX10_readNumber_26 (Nat.le_of_ble_eq_true rfl) rfl ?_
    refine aw_iconst (v := 0) dX10_readNumber_27 (by decide) ?_
    refine aw_istore_n (ls' := [some (.ref (b + 1)), some (.int 5), some (.int (nI a)), some (.int 0)]) dX10_readNumber_28 (Nat.le_of_ble_eq_true rfl) rfl ?_
    have ml_29_21 : ∀ (m : Nat) (a29 : Nat) (v29 : Nat) (V29 : Wd), m = n - a29 → (JW D b N [(1, 1, 3, 3), (1, 1, 4, 4)] V V29) → (fI (V29 1) 2 = nI n) → (fI (V29 1) 3 = nI a29) → (V29 2 = cI D 260 g) → (numL g n 5 a (n - a29) a29 v29 = numL g n 5 a (n - a) a 0) → (a ≤ a29 ∧ a29 ≤ n ∧ a29 ≤ a + 5) → ((a29 = a ∧ v29 = 0) ∨ (a29 = a + 1 ∧ v29 < 10) ∨ (a29 = a + 2 ∧ v29 < 100) ∨ (a29 = a + 3 ∧ v29 < 1000) ∨ (a29 = a + 4 ∧ v29 < 10000) ∨ (a29 = a + 5 ∧ v29 < 100000)) → AW l D b jX10_readNumber (fx_rm 1 0 0) none (fx_MQ D b 0 0 (fx_qi (fun r N9 V9 => ((∃ f, num g n 5 a = .inl f ∧ fI (V9 1) 4 = f ∧ r = -1) ∨ (∃ a9 v, num g n 5 a = .inr (a9, v) ∧ fI (V9 1) 3 = nI a9 ∧ (a < a9 ∧ a9 ≤ n ∧ v < 100000) ∧ r = nI v)) ∧ N = N9 ∧ JW D b N [(1, 1, 3, 3), (1, 1, 4, 4)] V V9))) 29 [some (.ref (b + 1)), some (.int 5), some (.int (nI a)), some (.int (nI v29))] [] N V29 0 0 := by
      intro m; refine Nat.strongRecOn m ?_
      intro m mih_29_21 a29 v29 V29 hm29 i29_0 i29_1 i29_2 i29_3 i29_4 i29_5 i29_6
      refine aw_aload_n dX10_readNumber_29 rfl ?_
      obtain ⟨ts_22, tn_22, tf_22, ta_22, e_22, hta_22⟩ := JW.get i29_0 ct_1
      refine aw_get dX10_readNumber_30 fl_X10_22 e_22 (by omega) rfl ?_
      refine aw_eqi (y := (nI a29)) ((Eq.symm (congrArg (fun z => fI z 3) e_22)).trans i29_2) ?_
      refine aw_aload_n dX10_readNumber_33 rfl ?_
      refine aw_get dX10_readNumber_34 fl_X10_19 e_22 (by omega) rfl ?_
      refine aw_eqi (y := (nI n)) ((Eq.symm (congrArg (fun z => fI z 2) e_22)).trans i29_1) ?_
      refine aw_icmp_ge (tgt := 98) dX10_readNumber_37 (by decide) (fun c_23 => ?_) (fun c_23 => ?_)
      · skip
        have nc_23 : n ≤ a29 := (nI_leI (a := n) (b := a29) (by omega) (by omega)).mp c_23
        refine aw_iload_n dX10_readNumber_98 rfl ?_
        have hf9 : isDg (hd g n a29) = false := (isDg_ge (by omega))
        have hne9 : a29 ≠ a := fun e => bool_tf hy_15 (e ▸ hf9)
        refine aw_ireti dX10_readNumber_99 rfl (Nat.le_of_ble_eq_true rfl) (Nat.le_of_ble_eq_true rfl) ?_
        exact ⟨Or.inr ⟨a29, v29, (num_in hy_15).trans (i29_4.symm.trans (numL_stop hf9)), i29_2, ⟨by omega, by omega, by omega⟩, rfl⟩, rfl, i29_0⟩
      · skip
        have nc_23 : ¬ (n ≤ a29) := fun z => c_23 ((nI_leI (a := n) (b := a29) (by omega) (by omega)).mpr z)
        refine aw_aload_n dX10_readNumber_40 rfl ?_
        refine aw_callVi (J' := jX10_now) (As := []) (st := []) dX10_readNumber_41 tb_311 ok_X10_now ⟨_, e_22⟩ (by omega) rfl rfl (g_X10_nowS l D b N V29 hN i29_0.1 g i29_3 n a29 ⟨by omega, by omega⟩ i29_1 i29_2) rfl (Nat.le_of_ble_eq_true rfl) ⟨Nat.le_of_ble_eq_true rfl, Nat.le_of_ble_eq_true rfl, Nat.le_of_ble_eq_true rfl, Nat.le_of_ble_eq_true rfl⟩ (fun r_26 N_27 V_28 q_29 => ?_)
        obtain ⟨h_25, rfl, rfl⟩ := q_29
        refine aw_eqi (y := (hd g n a29)) h_25 ?_
        refine aw_callSi (J' := jX10_isDigit) (As := [.int (hd g n a29)]) (st := []) dX10_readNumber_44 tb_365 ok_X10_isDigit rfl (g_X10_isDigitS l D b N V29 hN i29_0.1 (hd g n a29)) rfl (Nat.le_of_ble_eq_true rfl) ⟨Nat.le_of_ble_eq_true rfl, Nat.le_of_ble_eq_true rfl, Nat.le_of_ble_eq_true rfl, Nat.le_of_ble_eq_true rfl⟩ (fun r_33 N_34 V_35 q_36 => ?_)
        obtain ⟨⟨z_32, h_31⟩, rfl, rfl⟩ := q_36
        rcases h_31 with ⟨hy_37, e_38⟩ | ⟨hn_39, e_40⟩
        · skip
          refine aw_eqi (y := 1) e_38 ?_
          obtain ⟨z_41, hz_41, ez_41⟩ := isDg_nat hy_37
          have hlz_41 := isDg_hd hy_37
          refine aw_if_eq (tgt := 98) dX10_readNumber_47 (by decide) (fun c_42 => ?_) (fun c_42 => ?_)
          · exact absurd c_42 (by decide)
          refine aw_aload_n dX10_readNumber_50 rfl ?_
          refine aw_get dX10_readNumber_51 fl_X10_22 e_22 (by omega) rfl ?_
          refine aw_eqi (y := (nI a29)) ((Eq.symm (congrArg (fun z => fI z 3) e_22)).trans i29_2) ?_
          refine aw_iload_n dX10_readNumber_54 rfl ?_
          refine aw_isub dX10_readNumber_55 ?_
          refine aw_eqi (y := (nI (a29 - a))) (pk_sub (a := a29) (b := a) (by omega)) ?_
          refine aw_iload_n dX10_readNumber_56 rfl ?_
          refine aw_icmp_lt (tgt := 72) dX10_readNumber_57 (by decide) (fun c_43 => ?_) (fun c_43 => ?_)
          · skip
            have nc_43 : (a29 - a) < 5 := (nI_ltI (a := (a29 - a)) (b := 5) (by omega) (by omega)).mp c_43
            refine aw_bipush (v := 10) dX10_readNumber_72 (by decide) ?_
            refine aw_iload_n dX10_readNumber_74 rfl ?_
            refine aw_imul dX10_readNumber_75 ?_
            refine aw_eqi (y := nI (10 * v29)) (pk_mul _ _) ?_
            refine aw_aload_n dX10_readNumber_76 rfl ?_
            refine aw_callVi (J' := jX10_now) (As := []) (st := [.int (nI (10 * v29))]) dX10_readNumber_77 tb_311 ok_X10_now ⟨_, e_22⟩ (by omega) rfl rfl (g_X10_nowS l D b N V29 hN i29_0.1 g i29_3 n a29 ⟨by omega, by omega⟩ i29_1 i29_2) rfl (Nat.le_of_ble_eq_true rfl) ⟨Nat.le_of_ble_eq_true rfl, Nat.le_of_ble_eq_true rfl, Nat.le_of_ble_eq_true rfl, Nat.le_of_ble_eq_true rfl⟩ (fun r_46 N_47 V_48 q_49 => ?_)
            obtain ⟨h_45, rfl, rfl⟩ := q_49
            refine aw_eqi (y := nI (48 + z_41)) (h_45.trans ez_41) ?_
            refine aw_bipush (v := 48) dX10_readNumber_80 (by decide) ?_
            refine aw_isub dX10_readNumber_82 ?_
            refine aw_eqi (y := (nI z_41)) (sub48 z_41) ?_
            refine aw_iadd dX10_readNumber_83 ?_
            refine aw_eqi (y := nI ((10 * v29) + z_41)) (nI_add _ _) ?_
            refine aw_istore_n (ls' := [some (.ref (b + 1)), some (.int 5), some (.int (nI a)), some (.int (nI ((10 * v29) + z_41)))]) dX10_readNumber_84 (Nat.le_of_ble_eq_true rfl) rfl ?_
            refine aw_aload_n dX10_readNumber_85 rfl ?_
            refine aw_dup dX10_readNumber_86 rfl ?_
            refine aw_get dX10_readNumber_87 fl_X10_22 e_22 (by omega) rfl ?_
            refine aw_eqi (y := (nI a29)) ((Eq.symm (congrArg (fun z => fI z 3) e_22)).trans i29_2) ?_
            refine aw_iconst (v := 1) dX10_readNumber_90 (by decide) ?_
            refine aw_iadd dX10_readNumber_91 ?_
            refine aw_eqi (y := nI (a29 + 1)) (nI_add _ _) ?_
            refine aw_put dX10_readNumber_92 fp_X10_22 e_22 (by omega) rfl rfl (Nat.le_of_ble_eq_true rfl) rfl ?_
            refine aw_up i29_0 ct_1 ⟨_, _, _, (a29 + 1), rfl, (by first | omega | (split <;> omega))⟩ (WO (s := 3) (x := .int (nI (a29 + 1))) e_22 rfl LM0 (by decide) (by decide) (by decide) (Or.inl (by decide))) (fun V_50 j_50 k_50 e_50 => ?_)
            refine aw_goto (tgt := 29) dX10_readNumber_95 (by decide) ?_
            refine aw_le ?_ (mih_29_21 _ (by omega) (a29 + 1) ((10 * v29) + z_41) V_50 rfl (j_50) ((KA (s := 3) (x := .int (nI (a29 + 1))) e_22 rfl (by decide) e_50 k_50 i29_1)) (((congrArg (fun z => fI z 3) e_50).trans rfl)) (((k_50 _ (by decide)).trans i29_3)) ((numL_step hy_37 (by omega) hz_41 ez_41).symm.trans i29_4) (⟨by omega, by omega, by omega⟩) (by omega))
            exact ⟨rfl, ⟨rfl, ⟨rfl, ⟨rfl, trivial⟩⟩⟩⟩
          · skip
            have nc_43 : ¬ ((a29 - a) < 5) := fun z => c_43 ((nI_ltI (a := (a29 - a)) (b := 5) (by omega) (by omega)).mpr z)
            refine aw_aload_n dX10_readNumber_60 rfl ?_
            refine aw_iconst (v := 2) dX10_readNumber_61 (by decide) ?_
            refine aw_aload_n dX10_readNumber_62 rfl ?_
            refine aw_get dX10_readNumber_63 fl_X10_22 e_22 (by omega) rfl ?_
            refine aw_eqi (y := (nI a29)) ((Eq.symm (congrArg (fun z => fI z 3) e_22)).trans i29_2) ?_
            refine aw_callVi (J' := jX10_fail) (As := [.int 2, .int (nI a29)]) (st := []) dX10_readNumber_66 tb_315 ok_X10_fail ⟨_, e_22⟩ (by omega) rfl rfl (g_X10_failS l D b N V29 hN i29_0.1 2 (nI a29)) rfl (Nat.le_of_ble_eq_true rfl) ⟨Nat.le_of_ble_eq_true rfl, Nat.le_of_ble_eq_true rfl, Nat.le_of_ble_eq_true rfl, Nat.le_of_ble_eq_true rfl⟩ (fun r_56 N_57 V_55 q_58 => ?_)
            obtain ⟨⟨z_53, h_52⟩, rfl, q_51⟩ := q_58
            have j_54 := JW.trans i29_0 (JW.weak q_51 (Sub.cons (LMs LM0) (by decide) (by decide) (by decide) (Or.inr ⟨by decide, by decide⟩) Sub.nil))
            obtain ⟨rfl, h_52f⟩ := h_52
            refine aw_pop dX10_readNumber_69 rfl ?_
            refine aw_iconst (v := (-1)) dX10_readNumber_70 (by decide) ?_
            refine aw_ireti dX10_readNumber_71 rfl (Nat.le_of_ble_eq_true rfl) (Nat.le_of_ble_eq_true rfl) ?_
            exact ⟨Or.inl ⟨_, (num_in hy_15).trans (i29_4.symm.trans (numL_over hy_37 (by omega))), h_52f, rfl⟩, rfl, j_54⟩
        · skip
          refine aw_eqi (y := 0) e_40 ?_
          refine aw_if_eq (tgt := 98) dX10_readNumber_47 (by decide) (fun c_59 => ?_) (fun c_59 => ?_)
          rotate_left
          · exact absurd (by decide) c_59
          refine aw_iload_n dX10_readNumber_98 rfl ?_
          have hf9 : isDg (hd g n a29) = false := hn_39
          have hne9 : a29 ≠ a := fun e => bool_tf hy_15 (e ▸ hf9)
          refine aw_ireti dX10_readNumber_99 rfl (Nat.le_of_ble_eq_true rfl) (Nat.le_of_ble_eq_true rfl) ?_
          exact ⟨Or.inr ⟨a29, v29, (num_in hy_15).trans (i29_4.symm.trans (numL_stop hf9)), i29_2, ⟨by omega, by omega, by omega⟩, rfl⟩, rfl, i29_0⟩
    refine aw_le ?_ (ml_29_21 _ a 0 V rfl (hJ0) (hE) (hA) (hg) (rfl) (⟨Nat.le_refl _, by omega, by omega⟩) (Or.inl ⟨rfl, rfl⟩))
    exact ⟨rfl, ⟨rfl, ⟨rfl, ⟨rfl, trivial⟩⟩⟩⟩
  · skip
    refine aw_eqi (y := 0) e_18 ?_
    refine aw_if_ne (tgt := 22) dX10_readNumber_7 (by decide) (fun c_60 => ?_) (fun c_60 => ?_)
    · exact absurd rfl c_60
    refine aw_aload_n dX10_readNumber_10 rfl ?_
    refine aw_iconst (v := 1) dX10_readNumber_11 (by decide) ?_
    refine aw_aload_n dX10_readNumber_12 rfl ?_
    refine aw_get dX10_readNumber_13 fl_X10_22 e_3 (by omega) rfl ?_
    refine aw_eqi (y := (nI a)) ((Eq.symm (congrArg (fun z => fI z 3) e_3)).trans hA) ?_
    refine aw_callVi (J' := jX10_fail) (As := [.int 1, .int (nI a)]) (st := []) dX10_readNumber_16 tb_315 ok_X10_fail ⟨_, e_3⟩ (by omega) rfl rfl (g_X10_failS l D b N V hN hJ0.1 1 (nI a)) rfl (Nat.le_of_ble_eq_true rfl) ⟨Nat.le_of_ble_eq_true rfl, Nat.le_of_ble_eq_true rfl, Nat.le_of_ble_eq_true rfl, Nat.le_of_ble_eq_true rfl⟩ (fun r_66 N_67 V_65 q_68 => ?_)
    obtain ⟨⟨z_63, h_62⟩, rfl, q_61⟩ := q_68
    have j_64 := JW.trans hJ0 (JW.weak q_61 (Sub.cons (LMs LM0) (by decide) (by decide) (by decide) (Or.inr ⟨by decide, by decide⟩) Sub.nil))
    obtain ⟨rfl, h_62f⟩ := h_62
    refine aw_pop dX10_readNumber_19 rfl ?_
    refine aw_iconst (v := (-1)) dX10_readNumber_20 (by decide) ?_
    refine aw_ireti dX10_readNumber_21 rfl (Nat.le_of_ble_eq_true rfl) (Nat.le_of_ble_eq_true rfl) ?_
    exact ⟨Or.inl ⟨_, num_no hn_17, h_62f, rfl⟩, rfl, j_64⟩

set_option maxHeartbeats 4000000 in
set_option maxRecDepth 100000 in
theorem g_X5_open_6S (l : Launch) (D : va_G) (b : Nat) (N : Nat) (V : Wd) (hN : 100 ≤ N) (hW : CW D b V) (p x : Nat) (hp : 100 ≤ p ∧ p < N) (hx : x = 57 ∨ x = 65) (hR : V p = cO 5 [.ref (b + 1), .ref (b + x)]) (g : Nat → Int32) (hg : V 2 = cI D 260 g) (n a : Nat) (hna : a ≤ n ∧ n ≤ 240) (hE : fI (V 1) 2 = nI n) (hA : fI (V 1) 3 = nI a) (hB : BY g) (hlt : a < n) : MI l D b 1 jX5_open [.ref (b + p), .int 6] N V 0 0 (fun r N9 V9 => ((r = 0 ∨ r = 1) ∧ (r = 0 ∧ fI (V9 1) 4 = flt 5 a)) ∧ N = N9 ∧ JW D b N [(1, 1, 4, 4)] V V9) := by
  have hJ0 : JW D b N [(1, 1, 4, 4)] V V := JW.rf hW
  refine mw_of (by decide) (by simp [Value.category]) (Nat.le_of_ble_eq_true rfl) ?_
  show AW l D b jX5_open (fx_rm 1 0 0) none (fx_MQ D b 0 0 (fx_qi (fun r N9 V9 => ((r = 0 ∨ r = 1) ∧ (r = 0 ∧ fI (V9 1) 4 = flt 5 a)) ∧ N = N9 ∧ JW D b N [(1, 1, 4, 4)] V V9))) 0 [some (.ref (b + p)), some (.int 6)] [] N V 0 0
  refine aw_iload_n dX5_open_0 rfl ?_
  refine aw_bipush (v := 6) dX5_open_1 (by decide) ?_
  refine aw_icmp_lt (tgt := 22) dX5_open_3 (by decide) (fun c_1 => ?_) (fun c_1 => ?_)
  · exact absurd c_1 (by decide)
  refine aw_aload_n dX5_open_6 rfl ?_
  refine aw_get dX5_open_7 fl_X5_15 ((hJ0.2.1 _ hp.1 hp.2).trans hR) (by omega) rfl ?_
  refine aw_iconst (v := 5) dX5_open_10 (by decide) ?_
  refine aw_aload_n dX5_open_11 rfl ?_
  refine aw_get dX5_open_12 fl_X5_15 ((hJ0.2.1 _ hp.1 hp.2).trans hR) (by omega) rfl ?_
  obtain ⟨ts_2, tn_2, tf_2, ta_2, e_2, hta_2⟩ := JW.get hJ0 ct_1
  refine aw_get dX5_open_15 fl_X5_25 e_2 (by omega) rfl ?_
  refine aw_eqi (y := (nI a)) ((Eq.symm (congrArg (fun z => fI z 3) e_2)).trans hA) ?_
  refine aw_callVi (J' := jX10_fail) (As := [.int 5, .int (nI a)]) (st := []) dX5_open_18 tb_411 ok_X10_fail ⟨_, e_2⟩ (by omega) rfl rfl (g_X10_failS l D b N V hN hJ0.1 5 (nI a)) rfl (Nat.le_of_ble_eq_true rfl) ⟨Nat.le_of_ble_eq_true rfl, Nat.le_of_ble_eq_true rfl, Nat.le_of_ble_eq_true rfl, Nat.le_of_ble_eq_true rfl⟩ (fun r_8 N_9 V_7 q_10 => ?_)
  obtain ⟨⟨z_5, h_4⟩, rfl, q_3⟩ := q_10
  have j_6 := JW.trans hJ0 (JW.weak q_3 (Sub.cons LM0 (by decide) (by decide) (by decide) (Or.inr ⟨by decide, by decide⟩) Sub.nil))
  obtain ⟨rfl, h_4f⟩ := h_4
  refine aw_zreti dX5_open_21 rfl (by first | exact Or.inl rfl | exact Or.inr rfl | assumption) (Nat.le_of_ble_eq_true rfl) (Nat.le_of_ble_eq_true rfl) ?_
  exact ⟨⟨(by first | exact Or.inl rfl | exact Or.inr rfl | assumption), ⟨rfl, h_4f⟩⟩, rfl, j_6⟩

set_option maxHeartbeats 20000000 in
set_option maxRecDepth 100000 in
theorem g_X5_readFactor_6S (l : Launch) (D : va_G) (b : Nat) (N : Nat) (V : Wd) (hN : 100 ≤ N) (hW : CW D b V) (p x : Nat) (hp : 100 ≤ p ∧ p < N) (hx : x = 57 ∨ x = 65) (hR : V p = cO 5 [.ref (b + 1), .ref (b + x)]) (g : Nat → Int32) (hg : V 2 = cI D 260 g) (n a : Nat) (hna : a ≤ n ∧ n ≤ 240) (hE : fI (V 1) 2 = nI n) (hA : fI (V 1) 3 = nI a) (hB : BY g) (s : List Nat) (hs : dpt s = 6) : MI l D b 5 jX5_readFactor [.ref (b + p), .int 6] N V 0 0 (fun r N9 V9 => ((r = 0 ∨ r = 1) ∧ ((∃ f, RES g n (0, a, s) (.inl f) ∧ fI (V9 1) 4 = f ∧ r = 0) ∨ (∃ a9, (∀ o, RES g n (1, a9, s) o → RES g n (0, a, s) o) ∧ fI (V9 1) 3 = nI a9 ∧ (a < a9 ∧ a9 ≤ n) ∧ r = 1))) ∧ N = N9 ∧ JW D b N [(1, 1, 3, 3), (1, 1, 4, 4), (x + 1, x + 1, 0, 1000000), (x + 2, x + 2, 0, 1000000), (x, x, 2, 2)] V V9) := by
  have hJ0 : JW D b N [(1, 1, 3, 3), (1, 1, 4, 4), (x + 1, x + 1, 0, 1000000), (x + 2, x + 2, 0, 1000000), (x, x, 2, 2)] V V := JW.rf hW
  refine mw_of (by decide) (by simp [Value.category]) (Nat.le_of_ble_eq_true rfl) ?_
  show AW l D b jX5_readFactor (fx_rm 5 0 0) none (fx_MQ D b 0 0 (fx_qi (fun r N9 V9 => ((r = 0 ∨ r = 1) ∧ ((∃ f, RES g n (0, a, s) (.inl f) ∧ fI (V9 1) 4 = f ∧ r = 0) ∨ (∃ a9, (∀ o, RES g n (1, a9, s) o → RES g n (0, a, s) o) ∧ fI (V9 1) 3 = nI a9 ∧ (a < a9 ∧ a9 ≤ n) ∧ r = 1))) ∧ N = N9 ∧ JW D b N [(1, 1, 3, 3), (1, 1, 4, 4), (x + 1, x + 1, 0, 1000000), (x + 2, x + 2, 0, 1000000), (x, x, 2, 2)] V V9))) 0 [some (.ref (b + p)), some (.int 6), none, none] [] N V 0 0
  refine aw_aload_n dX5_readFactor_0 rfl ?_
  refine aw_get dX5_readFactor_1 fl_X5_15 ((hJ0.2.1 _ hp.1 hp.2).trans hR) (by omega) rfl ?_
  obtain ⟨ts_3, tn_3, tf_3, ta_3, e_3, hta_3⟩ := JW.get hJ0 ct_1
  refine aw_callVi (J' := jX10_now) (As := []) (st := []) dX5_readFactor_4 tb_390 ok_X10_now ⟨_, e_3⟩ (by omega) rfl rfl (g_X10_nowS l D b N V hN hJ0.1 g hg n a ⟨by omega, by omega⟩ hE hA) rfl (Nat.le_of_ble_eq_true rfl) ⟨Nat.le_of_ble_eq_true rfl, Nat.le_of_ble_eq_true rfl, Nat.le_of_ble_eq_true rfl, Nat.le_of_ble_eq_true rfl⟩ (fun r_4 N_5 V_6 q_7 => ?_)
  obtain ⟨h_2, rfl, rfl⟩ := q_7
  refine aw_eqi (y := (hd g n a)) h_2 ?_
  refine aw_istore_n (ls' := [some (.ref (b + p)), some (.int 6), some (.int (hd g n a)), none]) dX5_readFactor_7 (Nat.le_of_ble_eq_true rfl) rfl ?_
  refine aw_iload_n dX5_readFactor_8 rfl ?_
  refine aw_bipush (v := 91) dX5_readFactor_9 (by decide) ?_
  refine aw_icmp_ne (tgt := 50) dX5_readFactor_11 (by decide) (fun c_8 => ?_) (fun c_8 => ?_)
  · skip
    refine aw_iload_n dX5_readFactor_50 rfl ?_
    refine aw_callSi (J' := jX10_isDigit) (As := [.int (hd g n a)]) (st := []) dX5_readFactor_51 tb_413 ok_X10_isDigit rfl (g_X10_isDigitS l D b N V hN hJ0.1 (hd g n a)) rfl (Nat.le_of_ble_eq_true rfl) ⟨Nat.le_of_ble_eq_true rfl, Nat.le_of_ble_eq_true rfl, Nat.le_of_ble_eq_true rfl, Nat.le_of_ble_eq_true rfl⟩ (fun r_12 N_13 V_14 q_15 => ?_)
    obtain ⟨⟨z_11, h_10⟩, rfl, rfl⟩ := q_15
    rcases h_10 with ⟨hy_16, e_17⟩ | ⟨hn_18, e_19⟩
    · skip
      refine aw_eqi (y := 1) e_17 ?_
      obtain ⟨z_20, hz_20, ez_20⟩ := isDg_nat hy_16
      have hlz_20 := isDg_hd hy_16
      refine aw_if_eq (tgt := 85) dX5_readFactor_54 (by decide) (fun c_21 => ?_) (fun c_21 => ?_)
      · exact absurd c_21 (by decide)
      refine aw_aload_n dX5_readFactor_57 rfl ?_
      refine aw_get dX5_readFactor_58 fl_X5_15 ((hJ0.2.1 _ hp.1 hp.2).trans hR) (by omega) rfl ?_
      refine aw_iconst (v := 5) dX5_readFactor_61 (by decide) ?_
      refine aw_callVi (J' := jX10_readNumber) (As := [.int 5]) (st := []) dX5_readFactor_62 tb_414 ok_X10_readNumber ⟨_, e_3⟩ (by omega) rfl rfl (g_X10_readNumber_5S l D b N V hN hJ0.1 g hg n a ⟨by omega, by omega⟩ hE hA) rfl (Nat.le_of_ble_eq_true rfl) ⟨Nat.le_of_ble_eq_true rfl, Nat.le_of_ble_eq_true rfl, Nat.le_of_ble_eq_true rfl, Nat.le_of_ble_eq_true rfl⟩ (fun r_26 N_27 V_25 q_28 => ?_)
      obtain ⟨h_23, rfl, q_22⟩ := q_28
      have j_24 := JW.trans hJ0 (JW.weak q_22 (Sub.cons LM0 (by decide) (by decide) (by decide) (Or.inr ⟨by decide, by decide⟩) (Sub.cons (LMs LM0) (by decide) (by decide) (by decide) (Or.inr ⟨by decide, by decide⟩) Sub.nil)))
      rcases h_23 with ⟨f_29, hx_30, hk_31, e_32⟩ | ⟨a_33, v_34, hx_35, hk_36, hb_37, e_38⟩
      · skip
        refine aw_eqi (y := (-1)) e_32 ?_
        refine aw_istore_n (ls' := [some (.ref (b + p)), some (.int 6), some (.int (hd g n a)), some (.int (-1))]) dX5_readFactor_65 (Nat.le_of_ble_eq_true rfl) rfl ?_
        refine aw_iload_n dX5_readFactor_66 rfl ?_
        refine aw_if_ge (tgt := 72) dX5_readFactor_67 (by decide) (fun c_39 => ?_) (fun c_39 => ?_)
        · exact absurd c_39 (by decide)
        refine aw_iconst (v := 0) dX5_readFactor_70 (by decide) ?_
        refine aw_zreti dX5_readFactor_71 rfl (by first | exact Or.inl rfl | exact Or.inr rfl | assumption) (Nat.le_of_ble_eq_true rfl) (Nat.le_of_ble_eq_true rfl) ?_
        exact ⟨⟨(by first | exact Or.inl rfl | exact Or.inr rfl | assumption), Or.inl ⟨_, F_numf hy_16 hx_30, hk_31, rfl⟩⟩, rfl, j_24⟩
      · skip
        refine aw_eqi (y := (nI v_34)) e_38 ?_
        obtain ⟨hb_37a, hb_37b, hb_37c⟩ := hb_37
        refine aw_istore_n (ls' := [some (.ref (b + p)), some (.int 6), some (.int (hd g n a)), some (.int (nI v_34))]) dX5_readFactor_65 (Nat.le_of_ble_eq_true rfl) rfl ?_
        refine aw_iload_n dX5_readFactor_66 rfl ?_
        refine aw_if_ge (tgt := 72) dX5_readFactor_67 (by decide) (fun c_40 => ?_) (fun c_40 => ?_)
        rotate_left
        · have nc_40 : ¬ (0 ≤ v_34) := fun z => c_40 ((nI_leI (a := 0) (b := v_34) (by omega) (by omega)).mpr z)
          omega
        have nc_40 : 0 ≤ v_34 := (nI_leI (a := 0) (b := v_34) (by omega) (by omega)).mp c_40
        refine aw_aload_n dX5_readFactor_72 rfl ?_
        refine aw_get dX5_readFactor_73 fl_X5_9 ((j_24.2.1 _ hp.1 hp.2).trans hR) (by omega) rfl ?_
        refine aw_bipush (v := 35) dX5_readFactor_76 (by decide) ?_
        refine aw_iload_n dX5_readFactor_78 rfl ?_
        obtain ⟨s8_44, r8_44, h8_44, e_44, hs_44, hr_44⟩ := JW.get j_24 (ctl_0 hx)
        refine aw_callVi (J' := jX4_add) (As := [.int 35, .int (nI v_34)]) (st := []) dX5_readFactor_79 tb_415 ok_X4_add ⟨_, e_44⟩ (by omega) rfl rfl (g_X4_add l D b N V_25 hN j_24.1 x hx 35 (nI v_34) (nI_pos' (by omega))) rfl (Nat.le_of_ble_eq_true rfl) ⟨Nat.le_of_ble_eq_true rfl, Nat.le_of_ble_eq_true rfl, Nat.le_of_ble_eq_true rfl, Nat.le_of_ble_eq_true rfl⟩ (fun r_45 N_46 V_43 q_47 => ?_)
        obtain ⟨rfl, q_41⟩ := q_47
        have j_42 := JW.trans j_24 (JW.weak q_41 (Sub.cons (LMs (LMs LM0)) (by omega) (by omega) (by decide) (Or.inl rfl) (Sub.cons (LMs (LMs (LMs LM0))) (by omega) (by omega) (by decide) (Or.inl rfl) (Sub.cons (LMs (LMs (LMs (LMs LM0)))) (by omega) (by omega) (by decide) (Or.inr ⟨by decide, by decide⟩) Sub.nil))))
        refine aw_pop dX5_readFactor_82 rfl ?_
        refine aw_iconst (v := 1) dX5_readFactor_83 (by decide) ?_
        refine aw_zreti dX5_readFactor_84 rfl (by first | exact Or.inl rfl | exact Or.inr rfl | assumption) (Nat.le_of_ble_eq_true rfl) (Nat.le_of_ble_eq_true rfl) ?_
        exact ⟨⟨(by first | exact Or.inl rfl | exact Or.inr rfl | assumption), Or.inr ⟨_, fun o q => F_num hy_16 hx_35 q, ((JW.fI q_41 (by omega) (nfc (by omega) (nfc (by omega) (nfc (by omega) nf0)))).trans hk_36), ⟨by omega, by omega⟩, rfl⟩⟩, rfl, j_42⟩
    · skip
      refine aw_eqi (y := 0) e_19 ?_
      refine aw_if_eq (tgt := 85) dX5_readFactor_54 (by decide) (fun c_48 => ?_) (fun c_48 => ?_)
      rotate_left
      · exact absurd (by decide) c_48
      refine aw_iload_n dX5_readFactor_85 rfl ?_
      refine aw_if_ge (tgt := 93) dX5_readFactor_86 (by decide) (fun c_49 => ?_) (fun c_49 => ?_)
      · skip
        refine aw_strIdx3 rfl dX5_readFactor_93 dX5_readFactor_95 dX5_readFactor_96 dX5_readFactor_97 rfl rfl (Nat.le_of_ble_eq_true rfl) ⟨Nat.le_of_ble_eq_true rfl, Nat.le_of_ble_eq_true rfl, Nat.le_of_ble_eq_true rfl, Nat.le_of_ble_eq_true rfl⟩ (fun ixr hix => ?_)
        have hfc := ix_fac hB (Int32.not_lt.mpr c_49) hix
        refine aw_istore_n (ls' := [some (.ref (b + p)), some (.int 6), some (.int (hd g n a)), some (.int ixr)]) dX5_readFactor_100 (Nat.le_of_ble_eq_true rfl) rfl ?_
        refine aw_iload_n dX5_readFactor_101 rfl ?_
        refine aw_if_ge (tgt := 113) dX5_readFactor_102 (by decide) (fun c_50 => ?_) (fun c_50 => ?_)
        · skip
          have hfac := (hfc.resolve_left (fun z => Int32.not_lt.mpr c_50 z.1)).2
          have hlf := fac_lt hfac
          refine aw_aload_n dX5_readFactor_113 rfl ?_
          refine aw_get dX5_readFactor_114 fl_X5_15 ((hJ0.2.1 _ hp.1 hp.2).trans hR) (by omega) rfl ?_
          refine aw_dup dX5_readFactor_117 rfl ?_
          refine aw_get dX5_readFactor_118 fl_X5_25 e_3 (by omega) rfl ?_
          refine aw_eqi (y := (nI a)) ((Eq.symm (congrArg (fun z => fI z 3) e_3)).trans hA) ?_
          refine aw_iconst (v := 1) dX5_readFactor_121 (by decide) ?_
          refine aw_iadd dX5_readFactor_122 ?_
          refine aw_eqi (y := nI (a + 1)) (nI_add _ _) ?_
          refine aw_put dX5_readFactor_123 fp_X5_25 e_3 (by omega) rfl rfl (Nat.le_of_ble_eq_true rfl) rfl ?_
          refine aw_up hJ0 ct_1 ⟨_, _, _, (a + 1), rfl, (by first | omega | (split <;> omega))⟩ (WO (s := 3) (x := .int (nI (a + 1))) e_3 rfl LM0 (by decide) (by decide) (by decide) (Or.inl (by decide))) (fun V_51 j_51 k_51 e_51 => ?_)
          refine aw_aload_n dX5_readFactor_126 rfl ?_
          refine aw_get dX5_readFactor_127 fl_X5_9 ((j_51.2.1 _ hp.1 hp.2).trans hR) (by omega) rfl ?_
          refine aw_bipush (v := 64) dX5_readFactor_130 (by decide) ?_
          refine aw_iload_n dX5_readFactor_132 rfl ?_
          obtain ⟨s8_55, r8_55, h8_55, e_55, hs_55, hr_55⟩ := JW.get j_51 (ctl_0 hx)
          refine aw_callVi (J' := jX4_add) (As := [.int 64, .int ixr]) (st := []) dX5_readFactor_133 tb_415 ok_X4_add ⟨_, e_55⟩ (by omega) rfl rfl (g_X4_add l D b N V_51 hN j_51.1 x hx 64 ixr c_50) rfl (Nat.le_of_ble_eq_true rfl) ⟨Nat.le_of_ble_eq_true rfl, Nat.le_of_ble_eq_true rfl, Nat.le_of_ble_eq_true rfl, Nat.le_of_ble_eq_true rfl⟩ (fun r_56 N_57 V_54 q_58 => ?_)
          obtain ⟨rfl, q_52⟩ := q_58
          have j_53 := JW.trans j_51 (JW.weak q_52 (Sub.cons (LMs (LMs LM0)) (by omega) (by omega) (by decide) (Or.inl rfl) (Sub.cons (LMs (LMs (LMs LM0))) (by omega) (by omega) (by decide) (Or.inl rfl) (Sub.cons (LMs (LMs (LMs (LMs LM0)))) (by omega) (by omega) (by decide) (Or.inr ⟨by decide, by decide⟩) Sub.nil))))
          refine aw_pop dX5_readFactor_136 rfl ?_
          refine aw_iconst (v := 1) dX5_readFactor_137 (by decide) ?_
          refine aw_zreti dX5_readFactor_138 rfl (by first | exact Or.inl rfl | exact Or.inr rfl | assumption) (Nat.le_of_ble_eq_true rfl) (Nat.le_of_ble_eq_true rfl) ?_
          exact ⟨⟨(by first | exact Or.inl rfl | exact Or.inr rfl | assumption), Or.inr ⟨_, fun o q => F_let hfac q, ((JW.fI q_52 (by omega) (nfc (by omega) (nfc (by omega) (nfc (by omega) nf0)))).trans ((congrArg (fun z => fI z 3) e_51).trans rfl)), ⟨by omega, by omega⟩, rfl⟩⟩, rfl, j_53⟩
        · skip
          refine aw_aload_n dX5_readFactor_105 rfl ?_
          refine aw_get dX5_readFactor_106 fl_X5_15 ((hJ0.2.1 _ hp.1 hp.2).trans hR) (by omega) rfl ?_
          refine aw_callVi (J' := jX10_cannotStand) (As := []) (st := []) dX5_readFactor_109 tb_493 ok_X10_cannotStand ⟨_, e_3⟩ (by omega) rfl rfl (g_X10_cannotStandS l D b N V hN hJ0.1 g hg n a ⟨by omega, by omega⟩ hE hA) rfl (Nat.le_of_ble_eq_true rfl) ⟨Nat.le_of_ble_eq_true rfl, Nat.le_of_ble_eq_true rfl, Nat.le_of_ble_eq_true rfl, Nat.le_of_ble_eq_true rfl⟩ (fun r_64 N_65 V_63 q_66 => ?_)
          obtain ⟨⟨z_61, h_60⟩, rfl, q_59⟩ := q_66
          have j_62 := JW.trans hJ0 (JW.weak q_59 (Sub.cons (LMs LM0) (by decide) (by decide) (by decide) (Or.inr ⟨by decide, by decide⟩) Sub.nil))
          obtain ⟨rfl, h_60f⟩ := h_60
          refine aw_zreti dX5_readFactor_112 rfl (by first | exact Or.inl rfl | exact Or.inr rfl | assumption) (Nat.le_of_ble_eq_true rfl) (Nat.le_of_ble_eq_true rfl) ?_
          exact ⟨⟨(by first | exact Or.inl rfl | exact Or.inr rfl | assumption), Or.inl ⟨_, F_no c_8 hn_18 (hfc.resolve_right (fun z => z.1 (Int32.not_le.mp c_50))).2, h_60f, rfl⟩⟩, rfl, j_62⟩
      · skip
        refine aw_iconst (v := (-1)) dX5_readFactor_89 (by decide) ?_
        refine aw_goto (tgt := 100) dX5_readFactor_90 (by decide) ?_
        refine aw_istore_n (ls' := [some (.ref (b + p)), some (.int 6), some (.int (hd g n a)), some (.int (-1))]) dX5_readFactor_100 (Nat.le_of_ble_eq_true rfl) rfl ?_
        refine aw_iload_n dX5_readFactor_101 rfl ?_
        refine aw_if_ge (tgt := 113) dX5_readFactor_102 (by decide) (fun c_67 => ?_) (fun c_67 => ?_)
        · exact absurd c_67 (by decide)
        refine aw_aload_n dX5_readFactor_105 rfl ?_
        refine aw_get dX5_readFactor_106 fl_X5_15 ((hJ0.2.1 _ hp.1 hp.2).trans hR) (by omega) rfl ?_
        refine aw_callVi (J' := jX10_cannotStand) (As := []) (st := []) dX5_readFactor_109 tb_493 ok_X10_cannotStand ⟨_, e_3⟩ (by omega) rfl rfl (g_X10_cannotStandS l D b N V hN hJ0.1 g hg n a ⟨by omega, by omega⟩ hE hA) rfl (Nat.le_of_ble_eq_true rfl) ⟨Nat.le_of_ble_eq_true rfl, Nat.le_of_ble_eq_true rfl, Nat.le_of_ble_eq_true rfl, Nat.le_of_ble_eq_true rfl⟩ (fun r_73 N_74 V_72 q_75 => ?_)
        obtain ⟨⟨z_70, h_69⟩, rfl, q_68⟩ := q_75
        have j_71 := JW.trans hJ0 (JW.weak q_68 (Sub.cons (LMs LM0) (by decide) (by decide) (by decide) (Or.inr ⟨by decide, by decide⟩) Sub.nil))
        obtain ⟨rfl, h_69f⟩ := h_69
        refine aw_zreti dX5_readFactor_112 rfl (by first | exact Or.inl rfl | exact Or.inr rfl | assumption) (Nat.le_of_ble_eq_true rfl) (Nat.le_of_ble_eq_true rfl) ?_
        exact ⟨⟨(by first | exact Or.inl rfl | exact Or.inr rfl | assumption), Or.inl ⟨_, F_no c_8 hn_18 (fac_neg hB (Int32.not_le.mp c_49)), h_69f, rfl⟩⟩, rfl, j_71⟩
  · skip
    have hlc_8 := hd_lit c_8 (by decide)
    refine aw_aload_n dX5_readFactor_14 rfl ?_
    refine aw_iload_n dX5_readFactor_15 rfl ?_
    refine aw_callVi (J' := jX5_open) (As := [.int 6]) (st := []) dX5_readFactor_16 tb_407 ok_X5_open ⟨_, ((hJ0.2.1 _ hp.1 hp.2).trans hR)⟩ (by omega) rfl rfl (g_X5_open_6S l D b N V hN hJ0.1 p x ⟨by omega, by omega⟩ hx ((hJ0.2.1 _ hp.1 hp.2).trans hR) g hg n a ⟨by omega, by omega⟩ hE hA hB (by omega)) rfl (Nat.le_of_ble_eq_true rfl) ⟨Nat.le_of_ble_eq_true rfl, Nat.le_of_ble_eq_true rfl, Nat.le_of_ble_eq_true rfl, Nat.le_of_ble_eq_true rfl⟩ (fun r_81 N_82 V_80 q_83 => ?_)
    obtain ⟨⟨z_78, h_77⟩, rfl, q_76⟩ := q_83
    have j_79 := JW.trans hJ0 (JW.weak q_76 (Sub.cons (LMs LM0) (by decide) (by decide) (by decide) (Or.inr ⟨by decide, by decide⟩) Sub.nil))
    obtain ⟨rfl, h_77f⟩ := h_77
    refine aw_if_eq (tgt := 48) dX5_readFactor_19 (by decide) (fun c_84 => ?_) (fun c_84 => ?_)
    rotate_left
    · exact absurd (by decide) c_84
    refine aw_iconst (v := 0) dX5_readFactor_48 (by decide) ?_
    refine aw_zreti dX5_readFactor_49 rfl (by first | exact Or.inl rfl | exact Or.inr rfl | assumption) (Nat.le_of_ble_eq_true rfl) (Nat.le_of_ble_eq_true rfl) ?_
    exact ⟨⟨(by first | exact Or.inl rfl | exact Or.inr rfl | assumption), Or.inl ⟨_, F_deep c_8 (by omega), h_77f, rfl⟩⟩, rfl, j_79⟩

set_option maxHeartbeats 4000000 in
set_option maxRecDepth 100000 in
theorem g_X5_joinsFactorsS (l : Launch) (D : va_G) (b : Nat) (N : Nat) (V : Wd) (hN : 100 ≤ N) (hW : CW D b V) (n0 : Int32)  : MI l D b 0 jX5_joinsFactors [.int n0] N V 0 0 (fun r N9 V9 => ((r = 0 ∨ r = 1) ∧ ((mlt n0 = true ∧ r = 1) ∨ (mlt n0 = false ∧ r = 0))) ∧ N = N9 ∧ V = V9) := by
  have hJ0 : JW D b N [] V V := JW.rf hW
  refine mw_of (by decide) (by simp [Value.category]) (Nat.le_of_ble_eq_true rfl) ?_
  show AW l D b jX5_joinsFactors (fx_rm 0 0 0) none (fx_MQ D b 0 0 (fx_qi (fun r N9 V9 => ((r = 0 ∨ r = 1) ∧ ((mlt n0 = true ∧ r = 1) ∨ (mlt n0 = false ∧ r = 0))) ∧ N = N9 ∧ V = V9))) 0 [some (.int n0)] [] N V 0 0
  refine aw_iload_n dX5_joinsFactors_0 rfl ?_
  refine aw_bipush (v := 42) dX5_joinsFactors_1 (by decide) ?_
  refine aw_icmp_eq (tgt := 18) dX5_joinsFactors_3 (by decide) (fun c_1 => ?_) (fun c_1 => ?_)
  · skip
    refine aw_iconst (v := 1) dX5_joinsFactors_18 (by decide) ?_
    refine aw_goto (tgt := 23) dX5_joinsFactors_19 (by decide) ?_
    refine aw_zreti dX5_joinsFactors_23 rfl (by first | exact Or.inl rfl | exact Or.inr rfl | assumption) (Nat.le_of_ble_eq_true rfl) (Nat.le_of_ble_eq_true rfl) ?_
    exact ⟨⟨(by first | exact Or.inl rfl | exact Or.inr rfl | assumption), Or.inl ⟨mlt_t (Or.inl c_1), rfl⟩⟩, rfl, rfl⟩
  · skip
    refine aw_iload_n dX5_joinsFactors_6 rfl ?_
    refine aw_bipush (v := 47) dX5_joinsFactors_7 (by decide) ?_
    refine aw_icmp_eq (tgt := 18) dX5_joinsFactors_9 (by decide) (fun c_2 => ?_) (fun c_2 => ?_)
    · skip
      refine aw_iconst (v := 1) dX5_joinsFactors_18 (by decide) ?_
      refine aw_goto (tgt := 23) dX5_joinsFactors_19 (by decide) ?_
      refine aw_zreti dX5_joinsFactors_23 rfl (by first | exact Or.inl rfl | exact Or.inr rfl | assumption) (Nat.le_of_ble_eq_true rfl) (Nat.le_of_ble_eq_true rfl) ?_
      exact ⟨⟨(by first | exact Or.inl rfl | exact Or.inr rfl | assumption), Or.inl ⟨mlt_t (Or.inr (Or.inl c_2)), rfl⟩⟩, rfl, rfl⟩
    · skip
      refine aw_iload_n dX5_joinsFactors_12 rfl ?_
      refine aw_bipush (v := 37) dX5_joinsFactors_13 (by decide) ?_
      refine aw_icmp_ne (tgt := 22) dX5_joinsFactors_15 (by decide) (fun c_3 => ?_) (fun c_3 => ?_)
      · skip
        refine aw_iconst (v := 0) dX5_joinsFactors_22 (by decide) ?_
        refine aw_zreti dX5_joinsFactors_23 rfl (by first | exact Or.inl rfl | exact Or.inr rfl | assumption) (Nat.le_of_ble_eq_true rfl) (Nat.le_of_ble_eq_true rfl) ?_
        exact ⟨⟨(by first | exact Or.inl rfl | exact Or.inr rfl | assumption), Or.inr ⟨mlt_f c_1 c_2 c_3, rfl⟩⟩, rfl, rfl⟩
      · skip
        refine aw_iconst (v := 1) dX5_joinsFactors_18 (by decide) ?_
        refine aw_goto (tgt := 23) dX5_joinsFactors_19 (by decide) ?_
        refine aw_zreti dX5_joinsFactors_23 rfl (by first | exact Or.inl rfl | exact Or.inr rfl | assumption) (Nat.le_of_ble_eq_true rfl) (Nat.le_of_ble_eq_true rfl) ?_
        exact ⟨⟨(by first | exact Or.inl rfl | exact Or.inr rfl | assumption), Or.inl ⟨mlt_t (Or.inr (Or.inr c_3)), rfl⟩⟩, rfl, rfl⟩

set_option maxHeartbeats 20000000 in
set_option maxRecDepth 100000 in
theorem g_X5_readProduct_6S (l : Launch) (D : va_G) (b : Nat) (N : Nat) (V : Wd) (hN : 100 ≤ N) (hW : CW D b V) (p x : Nat) (hp : 100 ≤ p ∧ p < N) (hx : x = 57 ∨ x = 65) (hR : V p = cO 5 [.ref (b + 1), .ref (b + x)]) (g : Nat → Int32) (hg : V 2 = cI D 260 g) (n a : Nat) (hna : a ≤ n ∧ n ≤ 240) (hE : fI (V 1) 2 = nI n) (hA : fI (V 1) 3 = nI a) (hB : BY g) (s : List Nat) (hs : dpt s = 6) : MI l D b 6 jX5_readProduct [.ref (b + p), .int 6] N V 0 0 (fun r N9 V9 => ((r = 0 ∨ r = 1) ∧ ((∃ f, RES g n (0, a, s) (.inl f) ∧ fI (V9 1) 4 = f ∧ r = 0) ∨ (∃ a9, (∀ o, RES g n (1, a9, s) o → RES g n (0, a, s) o) ∧ fI (V9 1) 3 = nI a9 ∧ (a < a9 ∧ a9 ≤ n) ∧ mlt (hd g n a9) = false ∧ r = 1))) ∧ N = N9 ∧ JW D b N [(1, 1, 3, 3), (1, 1, 4, 4), (x + 1, x + 1, 0, 1000000), (x + 2, x + 2, 0, 1000000), (x, x, 2, 2)] V V9) := by
  have hJ0 : JW D b N [(1, 1, 3, 3), (1, 1, 4, 4), (x + 1, x + 1, 0, 1000000), (x + 2, x + 2, 0, 1000000), (x, x, 2, 2)] V V := JW.rf hW
  refine mw_of (by decide) (by simp [Value.category]) (Nat.le_of_ble_eq_true rfl) ?_
  show AW l D b jX5_readProduct (fx_rm 6 0 0) none (fx_MQ D b 0 0 (fx_qi (fun r N9 V9 => ((r = 0 ∨ r = 1) ∧ ((∃ f, RES g n (0, a, s) (.inl f) ∧ fI (V9 1) 4 = f ∧ r = 0) ∨ (∃ a9, (∀ o, RES g n (1, a9, s) o → RES g n (0, a, s) o) ∧ fI (V9 1) 3 = nI a9 ∧ (a < a9 ∧ a9 ≤ n) ∧ mlt (hd g n a9) = false ∧ r = 1))) ∧ N = N9 ∧ JW D b N [(1, 1, 3, 3), (1, 1, 4, 4), (x + 1, x + 1, 0, 1000000), (x + 2, x + 2, 0, 1000000), (x, x, 2, 2)] V V9))) 0 [some (.ref (b + p)), some (.int 6), none] [] N V 0 0
  refine aw_aload_n dX5_readProduct_0 rfl ?_
  refine aw_iload_n dX5_readProduct_1 rfl ?_
  refine aw_callVi (J' := jX5_readFactor) (As := [.int 6]) (st := []) dX5_readProduct_2 tb_403 ok_X5_readFactor ⟨_, ((hJ0.2.1 _ hp.1 hp.2).trans hR)⟩ (by omega) rfl rfl (g_X5_readFactor_6S l D b N V hN hJ0.1 p x ⟨by omega, by omega⟩ hx ((hJ0.2.1 _ hp.1 hp.2).trans hR) g hg n a ⟨by omega, by omega⟩ hE hA hB s hs) rfl (Nat.le_of_ble_eq_true rfl) ⟨Nat.le_of_ble_eq_true rfl, Nat.le_of_ble_eq_true rfl, Nat.le_of_ble_eq_true rfl, Nat.le_of_ble_eq_true rfl⟩ (fun r_6 N_7 V_5 q_8 => ?_)
  obtain ⟨⟨z_3, h_2⟩, rfl, q_1⟩ := q_8
  have j_4 := JW.trans hJ0 (JW.weak q_1 (Sub.cons LM0 (by decide) (by decide) (by decide) (Or.inr ⟨by decide, by decide⟩) (Sub.cons (LMs LM0) (by decide) (by decide) (by decide) (Or.inr ⟨by decide, by decide⟩) (Sub.cons (LMs (LMs LM0)) (by omega) (by omega) (by decide) (Or.inl rfl) (Sub.cons (LMs (LMs (LMs LM0))) (by omega) (by omega) (by decide) (Or.inl rfl) (Sub.cons (LMs (LMs (LMs (LMs LM0)))) (by omega) (by omega) (by decide) (Or.inr ⟨by decide, by decide⟩) Sub.nil))))))
  rcases h_2 with ⟨f_9, hx_10, hk_11, e_12⟩ | ⟨a_13, hx_14, hk_15, hb_16, e_17⟩
  · skip
    refine aw_eqi (y := 0) e_12 ?_
    refine aw_if_ne (tgt := 10) dX5_readProduct_5 (by decide) (fun c_18 => ?_) (fun c_18 => ?_)
    · exact absurd rfl c_18
    refine aw_iconst (v := 0) dX5_readProduct_8 (by decide) ?_
    refine aw_zreti dX5_readProduct_9 rfl (by first | exact Or.inl rfl | exact Or.inr rfl | assumption) (Nat.le_of_ble_eq_true rfl) (Nat.le_of_ble_eq_true rfl) ?_
    exact ⟨⟨(by first | exact Or.inl rfl | exact Or.inr rfl | assumption), Or.inl ⟨_, hx_10, hk_11, rfl⟩⟩, rfl, j_4⟩
  · skip
    refine aw_eqi (y := 1) e_17 ?_
    obtain ⟨hb_16a, hb_16b⟩ := hb_16
    refine aw_if_ne (tgt := 10) dX5_readProduct_5 (by decide) (fun c_19 => ?_) (fun c_19 => ?_)
    rotate_left
    · exact absurd c_19 (by decide)
    have ml_10_20 : ∀ (m : Nat) (a10 : Nat) (V10 : Wd), m = n - a10 → (JW D b N [(1, 1, 3, 3), (1, 1, 4, 4), (x + 1, x + 1, 0, 1000000), (x + 2, x + 2, 0, 1000000), (x, x, 2, 2)] V V10) → (fI (V10 1) 2 = nI n) → (fI (V10 1) 3 = nI a10) → (V10 2 = cI D 260 g) → (∀ o, RES g n (1, a10, s) o → RES g n (0, a, s) o) → (a < a10 ∧ a10 ≤ n) → AW l D b jX5_readProduct (fx_rm 6 0 0) none (fx_MQ D b 0 0 (fx_qi (fun r N9 V9 => ((r = 0 ∨ r = 1) ∧ ((∃ f, RES g n (0, a, s) (.inl f) ∧ fI (V9 1) 4 = f ∧ r = 0) ∨ (∃ a9, (∀ o, RES g n (1, a9, s) o → RES g n (0, a, s) o) ∧ fI (V9 1) 3 = nI a9 ∧ (a < a9 ∧ a9 ≤ n) ∧ mlt (hd g n a9) = false ∧ r = 1))) ∧ N = N9 ∧ JW D b N [(1, 1, 3, 3), (1, 1, 4, 4), (x + 1, x + 1, 0, 1000000), (x + 2, x + 2, 0, 1000000), (x, x, 2, 2)] V V9))) 10 [some (.ref (b + p)), some (.int 6), none] [] N V10 0 0 := by
      intro m; refine Nat.strongRecOn m ?_
      intro m mih_10_20 a10 V10 hm10 i10_0 i10_1 i10_2 i10_3 i10_4 i10_5
      refine aw_aload_n dX5_readProduct_10 rfl ?_
      refine aw_get dX5_readProduct_11 fl_X5_15 ((i10_0.2.1 _ hp.1 hp.2).trans hR) (by omega) rfl ?_
      obtain ⟨ts_21, tn_21, tf_21, ta_21, e_21, hta_21⟩ := JW.get i10_0 ct_1
      refine aw_get dX5_readProduct_14 fl_X5_25 e_21 (by omega) rfl ?_
      refine aw_eqi (y := (nI a10)) ((Eq.symm (congrArg (fun z => fI z 3) e_21)).trans i10_2) ?_
      refine aw_aload_n dX5_readProduct_17 rfl ?_
      refine aw_get dX5_readProduct_18 fl_X5_15 ((i10_0.2.1 _ hp.1 hp.2).trans hR) (by omega) rfl ?_
      refine aw_get dX5_readProduct_21 fl_X5_59 e_21 (by omega) rfl ?_
      refine aw_eqi (y := (nI n)) ((Eq.symm (congrArg (fun z => fI z 2) e_21)).trans i10_1) ?_
      refine aw_icmp_ge (tgt := 84) dX5_readProduct_24 (by decide) (fun c_22 => ?_) (fun c_22 => ?_)
      · skip
        have nc_22 : n ≤ a10 := (nI_leI (a := n) (b := a10) (by omega) (by omega)).mp c_22
        refine aw_iconst (v := 1) dX5_readProduct_84 (by decide) ?_
        refine aw_zreti dX5_readProduct_85 rfl (by first | exact Or.inl rfl | exact Or.inr rfl | assumption) (Nat.le_of_ble_eq_true rfl) (Nat.le_of_ble_eq_true rfl) ?_
        exact ⟨⟨(by first | exact Or.inl rfl | exact Or.inr rfl | assumption), Or.inr ⟨_, i10_4, i10_2, ⟨by omega, by omega⟩, (mlt_ge (by omega)), rfl⟩⟩, rfl, i10_0⟩
      · skip
        have nc_22 : ¬ (n ≤ a10) := fun z => c_22 ((nI_leI (a := n) (b := a10) (by omega) (by omega)).mpr z)
        refine aw_aload_n dX5_readProduct_27 rfl ?_
        refine aw_get dX5_readProduct_28 fl_X5_15 ((i10_0.2.1 _ hp.1 hp.2).trans hR) (by omega) rfl ?_
        refine aw_callVi (J' := jX10_now) (As := []) (st := []) dX5_readProduct_31 tb_390 ok_X10_now ⟨_, e_21⟩ (by omega) rfl rfl (g_X10_nowS l D b N V10 hN i10_0.1 g i10_3 n a10 ⟨by omega, by omega⟩ i10_1 i10_2) rfl (Nat.le_of_ble_eq_true rfl) ⟨Nat.le_of_ble_eq_true rfl, Nat.le_of_ble_eq_true rfl, Nat.le_of_ble_eq_true rfl, Nat.le_of_ble_eq_true rfl⟩ (fun r_25 N_26 V_27 q_28 => ?_)
        obtain ⟨h_24, rfl, rfl⟩ := q_28
        refine aw_eqi (y := (hd g n a10)) h_24 ?_
        refine aw_callSi (J' := jX5_joinsFactors) (As := [.int (hd g n a10)]) (st := []) dX5_readProduct_34 tb_494 ok_X5_joinsFactors rfl (g_X5_joinsFactorsS l D b N V10 hN i10_0.1 (hd g n a10)) rfl (Nat.le_of_ble_eq_true rfl) ⟨Nat.le_of_ble_eq_true rfl, Nat.le_of_ble_eq_true rfl, Nat.le_of_ble_eq_true rfl, Nat.le_of_ble_eq_true rfl⟩ (fun r_32 N_33 V_34 q_35 => ?_)
        obtain ⟨⟨z_31, h_30⟩, rfl, rfl⟩ := q_35
        rcases h_30 with ⟨hy_36, e_37⟩ | ⟨hn_38, e_39⟩
        · skip
          refine aw_eqi (y := 1) e_37 ?_
          have hlhy_36 := mlt_lt hy_36
          refine aw_if_eq (tgt := 84) dX5_readProduct_37 (by decide) (fun c_40 => ?_) (fun c_40 => ?_)
          · exact absurd c_40 (by decide)
          refine aw_aload_n dX5_readProduct_40 rfl ?_
          refine aw_get dX5_readProduct_41 fl_X5_15 ((i10_0.2.1 _ hp.1 hp.2).trans hR) (by omega) rfl ?_
          refine aw_callVi (J' := jX10_now) (As := []) (st := []) dX5_readProduct_44 tb_390 ok_X10_now ⟨_, e_21⟩ (by omega) rfl rfl (g_X10_nowS l D b N V10 hN i10_0.1 g i10_3 n a10 ⟨by omega, by omega⟩ i10_1 i10_2) rfl (Nat.le_of_ble_eq_true rfl) ⟨Nat.le_of_ble_eq_true rfl, Nat.le_of_ble_eq_true rfl, Nat.le_of_ble_eq_true rfl, Nat.le_of_ble_eq_true rfl⟩ (fun r_43 N_44 V_45 q_46 => ?_)
          obtain ⟨h_42, rfl, rfl⟩ := q_46
          refine aw_eqi (y := (hd g n a10)) h_42 ?_
          refine aw_istore_n (ls' := [some (.ref (b + p)), some (.int 6), some (.int (hd g n a10))]) dX5_readProduct_47 (Nat.le_of_ble_eq_true rfl) rfl ?_
          refine aw_aload_n dX5_readProduct_48 rfl ?_
          refine aw_get dX5_readProduct_49 fl_X5_15 ((i10_0.2.1 _ hp.1 hp.2).trans hR) (by omega) rfl ?_
          refine aw_dup dX5_readProduct_52 rfl ?_
          refine aw_get dX5_readProduct_53 fl_X5_25 e_21 (by omega) rfl ?_
          refine aw_eqi (y := (nI a10)) ((Eq.symm (congrArg (fun z => fI z 3) e_21)).trans i10_2) ?_
          refine aw_iconst (v := 1) dX5_readProduct_56 (by decide) ?_
          refine aw_iadd dX5_readProduct_57 ?_
          refine aw_eqi (y := nI (a10 + 1)) (nI_add _ _) ?_
          refine aw_put dX5_readProduct_58 fp_X5_25 e_21 (by omega) rfl rfl (Nat.le_of_ble_eq_true rfl) rfl ?_
          refine aw_up i10_0 ct_1 ⟨_, _, _, (a10 + 1), rfl, (by first | omega | (split <;> omega))⟩ (WO (s := 3) (x := .int (nI (a10 + 1))) e_21 rfl LM0 (by decide) (by decide) (by decide) (Or.inl (by decide))) (fun V_47 j_47 k_47 e_47 => ?_)
          refine aw_aload_n dX5_readProduct_61 rfl ?_
          refine aw_iload_n dX5_readProduct_62 rfl ?_
          refine aw_callVi (J' := jX5_readFactor) (As := [.int 6]) (st := []) dX5_readProduct_63 tb_403 ok_X5_readFactor ⟨_, ((j_47.2.1 _ hp.1 hp.2).trans hR)⟩ (by omega) rfl rfl (g_X5_readFactor_6S l D b N V_47 hN j_47.1 p x ⟨by omega, by omega⟩ hx ((j_47.2.1 _ hp.1 hp.2).trans hR) g ((k_47 _ (by decide)).trans i10_3) n (a10 + 1) ⟨by omega, by omega⟩ (KA (s := 3) (x := .int (nI (a10 + 1))) e_21 rfl (by decide) e_47 k_47 i10_1) ((congrArg (fun z => fI z 3) e_47).trans rfl) hB s hs) rfl (Nat.le_of_ble_eq_true rfl) ⟨Nat.le_of_ble_eq_true rfl, Nat.le_of_ble_eq_true rfl, Nat.le_of_ble_eq_true rfl, Nat.le_of_ble_eq_true rfl⟩ (fun r_53 N_54 V_52 q_55 => ?_)
          obtain ⟨⟨z_50, h_49⟩, rfl, q_48⟩ := q_55
          have j_51 := JW.trans j_47 (JW.weak q_48 (Sub.cons LM0 (by decide) (by decide) (by decide) (Or.inr ⟨by decide, by decide⟩) (Sub.cons (LMs LM0) (by decide) (by decide) (by decide) (Or.inr ⟨by decide, by decide⟩) (Sub.cons (LMs (LMs LM0)) (by omega) (by omega) (by decide) (Or.inl rfl) (Sub.cons (LMs (LMs (LMs LM0))) (by omega) (by omega) (by decide) (Or.inl rfl) (Sub.cons (LMs (LMs (LMs (LMs LM0)))) (by omega) (by omega) (by decide) (Or.inr ⟨by decide, by decide⟩) Sub.nil))))))
          rcases h_49 with ⟨f_56, hx_57, hk_58, e_59⟩ | ⟨a_60, hx_61, hk_62, hb_63, e_64⟩
          · skip
            refine aw_eqi (y := 0) e_59 ?_
            refine aw_if_ne (tgt := 71) dX5_readProduct_66 (by decide) (fun c_65 => ?_) (fun c_65 => ?_)
            · exact absurd rfl c_65
            refine aw_iconst (v := 0) dX5_readProduct_69 (by decide) ?_
            refine aw_zreti dX5_readProduct_70 rfl (by first | exact Or.inl rfl | exact Or.inr rfl | assumption) (Nat.le_of_ble_eq_true rfl) (Nat.le_of_ble_eq_true rfl) ?_
            exact ⟨⟨(by first | exact Or.inl rfl | exact Or.inr rfl | assumption), Or.inl ⟨_, i10_4 _ (O_op (mlt_op hy_36) hx_57), hk_58, rfl⟩⟩, rfl, j_51⟩
          · skip
            refine aw_eqi (y := 1) e_64 ?_
            obtain ⟨hb_63a, hb_63b⟩ := hb_63
            refine aw_if_ne (tgt := 71) dX5_readProduct_66 (by decide) (fun c_66 => ?_) (fun c_66 => ?_)
            rotate_left
            · exact absurd c_66 (by decide)
            refine aw_aload_n dX5_readProduct_71 rfl ?_
            refine aw_get dX5_readProduct_72 fl_X5_9 ((j_51.2.1 _ hp.1 hp.2).trans hR) (by omega) rfl ?_
            refine aw_iload_n dX5_readProduct_75 rfl ?_
            refine aw_iconst (v := 0) dX5_readProduct_76 (by decide) ?_
            obtain ⟨s8_70, r8_70, h8_70, e_70, hs_70, hr_70⟩ := JW.get j_51 (ctl_0 hx)
            refine aw_callVi (J' := jX4_add) (As := [.int (hd g n a10), .int 0]) (st := []) dX5_readProduct_77 tb_415 ok_X4_add ⟨_, e_70⟩ (by omega) rfl rfl (g_X4_add l D b N V_52 hN j_51.1 x hx (hd g n a10) 0 (by decide)) rfl (Nat.le_of_ble_eq_true rfl) ⟨Nat.le_of_ble_eq_true rfl, Nat.le_of_ble_eq_true rfl, Nat.le_of_ble_eq_true rfl, Nat.le_of_ble_eq_true rfl⟩ (fun r_71 N_72 V_69 q_73 => ?_)
            obtain ⟨rfl, q_67⟩ := q_73
            have j_68 := JW.trans j_51 (JW.weak q_67 (Sub.cons (LMs (LMs LM0)) (by omega) (by omega) (by decide) (Or.inl rfl) (Sub.cons (LMs (LMs (LMs LM0))) (by omega) (by omega) (by decide) (Or.inl rfl) (Sub.cons (LMs (LMs (LMs (LMs LM0)))) (by omega) (by omega) (by decide) (Or.inr ⟨by decide, by decide⟩) Sub.nil))))
            refine aw_pop dX5_readProduct_80 rfl ?_
            refine aw_goto (tgt := 10) dX5_readProduct_81 (by decide) ?_
            refine aw_le ?_ (mih_10_20 _ (by omega) a_60 V_69 rfl (j_68) (((JW.fI q_67 (by omega) (nfc (by omega) (nfc (by omega) (nfc (by omega) nf0)))).trans ((JW.fI q_48 (by omega) (nfc (by omega) (nfc (by omega) (nfc (by omega) (nfc (by omega) (nfc (by omega) nf0)))))).trans (KA (s := 3) (x := .int (nI (a10 + 1))) e_21 rfl (by decide) e_47 k_47 i10_1)))) (((JW.fI q_67 (by omega) (nfc (by omega) (nfc (by omega) (nfc (by omega) nf0)))).trans hk_62)) (((JW.same q_67 (by decide) (fun k => (nfc (by omega) (nfc (by omega) (nfc (by omega) nf0))))).trans ((JW.same q_48 (by decide) (fun k => (nfc (by omega) (nfc (by omega) (nfc (by omega) (nfc (by omega) (nfc (by omega) nf0))))))).trans ((k_47 _ (by decide)).trans i10_3)))) (fun o q => i10_4 o (O_op (mlt_op hy_36) (hx_61 o q))) (⟨by omega, by omega⟩))
            exact ⟨rfl, ⟨rfl, trivial⟩⟩
        · skip
          refine aw_eqi (y := 0) e_39 ?_
          refine aw_if_eq (tgt := 84) dX5_readProduct_37 (by decide) (fun c_74 => ?_) (fun c_74 => ?_)
          rotate_left
          · exact absurd (by decide) c_74
          refine aw_iconst (v := 1) dX5_readProduct_84 (by decide) ?_
          refine aw_zreti dX5_readProduct_85 rfl (by first | exact Or.inl rfl | exact Or.inr rfl | assumption) (Nat.le_of_ble_eq_true rfl) (Nat.le_of_ble_eq_true rfl) ?_
          exact ⟨⟨(by first | exact Or.inl rfl | exact Or.inr rfl | assumption), Or.inr ⟨_, i10_4, i10_2, ⟨by omega, by omega⟩, hn_38, rfl⟩⟩, rfl, i10_0⟩
    refine aw_le ?_ (ml_10_20 _ a_13 V_5 rfl (j_4) (((JW.fI q_1 (by omega) (nfc (by omega) (nfc (by omega) (nfc (by omega) (nfc (by omega) (nfc (by omega) nf0)))))).trans hE)) (hk_15) (((JW.same q_1 (by decide) (fun k => (nfc (by omega) (nfc (by omega) (nfc (by omega) (nfc (by omega) (nfc (by omega) nf0))))))).trans hg)) (hx_14) (⟨by omega, by omega⟩))
    exact ⟨rfl, ⟨rfl, trivial⟩⟩

set_option maxHeartbeats 20000000 in
set_option maxRecDepth 100000 in
theorem g_X5_readSum_6S (l : Launch) (D : va_G) (b : Nat) (N : Nat) (V : Wd) (hN : 100 ≤ N) (hW : CW D b V) (p x : Nat) (hp : 100 ≤ p ∧ p < N) (hx : x = 57 ∨ x = 65) (hR : V p = cO 5 [.ref (b + 1), .ref (b + x)]) (g : Nat → Int32) (hg : V 2 = cI D 260 g) (n a : Nat) (hna : a ≤ n ∧ n ≤ 240) (hE : fI (V 1) 2 = nI n) (hA : fI (V 1) 3 = nI a) (hB : BY g) (s : List Nat) (hs : dpt s = 6) : MI l D b 7 jX5_readSum [.ref (b + p), .int 6] N V 0 0 (fun r N9 V9 => ((r = 0 ∨ r = 1) ∧ ((∃ f, RES g n (0, a, s) (.inl f) ∧ fI (V9 1) 4 = f ∧ r = 0) ∨ (∃ a9, (∀ o, RES g n (1, a9, s) o → RES g n (0, a, s) o) ∧ fI (V9 1) 3 = nI a9 ∧ (a < a9 ∧ a9 ≤ n) ∧ opr (hd g n a9) = false ∧ r = 1))) ∧ N = N9 ∧ JW D b N [(1, 1, 3, 3), (1, 1, 4, 4), (x + 1, x + 1, 0, 1000000), (x + 2, x + 2, 0, 1000000), (x, x, 2, 2)] V V9) := by
  have hJ0 : JW D b N [(1, 1, 3, 3), (1, 1, 4, 4), (x + 1, x + 1, 0, 1000000), (x + 2, x + 2, 0, 1000000), (x, x, 2, 2)] V V := JW.rf hW
  refine mw_of (by decide) (by simp [Value.category]) (Nat.le_of_ble_eq_true rfl) ?_
  show AW l D b jX5_readSum (fx_rm 7 0 0) none (fx_MQ D b 0 0 (fx_qi (fun r N9 V9 => ((r = 0 ∨ r = 1) ∧ ((∃ f, RES g n (0, a, s) (.inl f) ∧ fI (V9 1) 4 = f ∧ r = 0) ∨ (∃ a9, (∀ o, RES g n (1, a9, s) o → RES g n (0, a, s) o) ∧ fI (V9 1) 3 = nI a9 ∧ (a < a9 ∧ a9 ≤ n) ∧ opr (hd g n a9) = false ∧ r = 1))) ∧ N = N9 ∧ JW D b N [(1, 1, 3, 3), (1, 1, 4, 4), (x + 1, x + 1, 0, 1000000), (x + 2, x + 2, 0, 1000000), (x, x, 2, 2)] V V9))) 0 [some (.ref (b + p)), some (.int 6), none] [] N V 0 0
  refine aw_aload_n dX5_readSum_0 rfl ?_
  refine aw_iload_n dX5_readSum_1 rfl ?_
  refine aw_callVi (J' := jX5_readProduct) (As := [.int 6]) (st := []) dX5_readSum_2 tb_399 ok_X5_readProduct ⟨_, ((hJ0.2.1 _ hp.1 hp.2).trans hR)⟩ (by omega) rfl rfl (g_X5_readProduct_6S l D b N V hN hJ0.1 p x ⟨by omega, by omega⟩ hx ((hJ0.2.1 _ hp.1 hp.2).trans hR) g hg n a ⟨by omega, by omega⟩ hE hA hB s hs) rfl (Nat.le_of_ble_eq_true rfl) ⟨Nat.le_of_ble_eq_true rfl, Nat.le_of_ble_eq_true rfl, Nat.le_of_ble_eq_true rfl, Nat.le_of_ble_eq_true rfl⟩ (fun r_6 N_7 V_5 q_8 => ?_)
  obtain ⟨⟨z_3, h_2⟩, rfl, q_1⟩ := q_8
  have j_4 := JW.trans hJ0 (JW.weak q_1 (Sub.cons LM0 (by decide) (by decide) (by decide) (Or.inr ⟨by decide, by decide⟩) (Sub.cons (LMs LM0) (by decide) (by decide) (by decide) (Or.inr ⟨by decide, by decide⟩) (Sub.cons (LMs (LMs LM0)) (by omega) (by omega) (by decide) (Or.inl rfl) (Sub.cons (LMs (LMs (LMs LM0))) (by omega) (by omega) (by decide) (Or.inl rfl) (Sub.cons (LMs (LMs (LMs (LMs LM0)))) (by omega) (by omega) (by decide) (Or.inr ⟨by decide, by decide⟩) Sub.nil))))))
  rcases h_2 with ⟨f_9, hx_10, hk_11, e_12⟩ | ⟨a_13, hx_14, hk_15, hb_16, hz_17, e_18⟩
  · skip
    refine aw_eqi (y := 0) e_12 ?_
    refine aw_if_ne (tgt := 10) dX5_readSum_5 (by decide) (fun c_19 => ?_) (fun c_19 => ?_)
    · exact absurd rfl c_19
    refine aw_iconst (v := 0) dX5_readSum_8 (by decide) ?_
    refine aw_zreti dX5_readSum_9 rfl (by first | exact Or.inl rfl | exact Or.inr rfl | assumption) (Nat.le_of_ble_eq_true rfl) (Nat.le_of_ble_eq_true rfl) ?_
    exact ⟨⟨(by first | exact Or.inl rfl | exact Or.inr rfl | assumption), Or.inl ⟨_, hx_10, hk_11, rfl⟩⟩, rfl, j_4⟩
  · skip
    refine aw_eqi (y := 1) e_18 ?_
    obtain ⟨hb_16a, hb_16b⟩ := hb_16
    refine aw_if_ne (tgt := 10) dX5_readSum_5 (by decide) (fun c_20 => ?_) (fun c_20 => ?_)
    rotate_left
    · exact absurd c_20 (by decide)
    have ml_10_21 : ∀ (m : Nat) (a10 : Nat) (V10 : Wd), m = n - a10 → (JW D b N [(1, 1, 3, 3), (1, 1, 4, 4), (x + 1, x + 1, 0, 1000000), (x + 2, x + 2, 0, 1000000), (x, x, 2, 2)] V V10) → (fI (V10 1) 2 = nI n) → (fI (V10 1) 3 = nI a10) → (V10 2 = cI D 260 g) → (∀ o, RES g n (1, a10, s) o → RES g n (0, a, s) o) → (a < a10 ∧ a10 ≤ n) → (mlt (hd g n a10) = false) → AW l D b jX5_readSum (fx_rm 7 0 0) none (fx_MQ D b 0 0 (fx_qi (fun r N9 V9 => ((r = 0 ∨ r = 1) ∧ ((∃ f, RES g n (0, a, s) (.inl f) ∧ fI (V9 1) 4 = f ∧ r = 0) ∨ (∃ a9, (∀ o, RES g n (1, a9, s) o → RES g n (0, a, s) o) ∧ fI (V9 1) 3 = nI a9 ∧ (a < a9 ∧ a9 ≤ n) ∧ opr (hd g n a9) = false ∧ r = 1))) ∧ N = N9 ∧ JW D b N [(1, 1, 3, 3), (1, 1, 4, 4), (x + 1, x + 1, 0, 1000000), (x + 2, x + 2, 0, 1000000), (x, x, 2, 2)] V V9))) 10 [some (.ref (b + p)), some (.int 6), none] [] N V10 0 0 := by
      intro m; refine Nat.strongRecOn m ?_
      intro m mih_10_21 a10 V10 hm10 i10_0 i10_1 i10_2 i10_3 i10_4 i10_5 i10_6
      refine aw_aload_n dX5_readSum_10 rfl ?_
      refine aw_get dX5_readSum_11 fl_X5_15 ((i10_0.2.1 _ hp.1 hp.2).trans hR) (by omega) rfl ?_
      obtain ⟨ts_22, tn_22, tf_22, ta_22, e_22, hta_22⟩ := JW.get i10_0 ct_1
      refine aw_get dX5_readSum_14 fl_X5_25 e_22 (by omega) rfl ?_
      refine aw_eqi (y := (nI a10)) ((Eq.symm (congrArg (fun z => fI z 3) e_22)).trans i10_2) ?_
      refine aw_aload_n dX5_readSum_17 rfl ?_
      refine aw_get dX5_readSum_18 fl_X5_15 ((i10_0.2.1 _ hp.1 hp.2).trans hR) (by omega) rfl ?_
      refine aw_get dX5_readSum_21 fl_X5_59 e_22 (by omega) rfl ?_
      refine aw_eqi (y := (nI n)) ((Eq.symm (congrArg (fun z => fI z 2) e_22)).trans i10_1) ?_
      refine aw_icmp_ge (tgt := 95) dX5_readSum_24 (by decide) (fun c_23 => ?_) (fun c_23 => ?_)
      · skip
        have nc_23 : n ≤ a10 := (nI_leI (a := n) (b := a10) (by omega) (by omega)).mp c_23
        refine aw_iconst (v := 1) dX5_readSum_95 (by decide) ?_
        refine aw_zreti dX5_readSum_96 rfl (by first | exact Or.inl rfl | exact Or.inr rfl | assumption) (Nat.le_of_ble_eq_true rfl) (Nat.le_of_ble_eq_true rfl) ?_
        exact ⟨⟨(by first | exact Or.inl rfl | exact Or.inr rfl | assumption), Or.inr ⟨_, i10_4, i10_2, ⟨by omega, by omega⟩, (opr_ge (by omega)), rfl⟩⟩, rfl, i10_0⟩
      · skip
        have nc_23 : ¬ (n ≤ a10) := fun z => c_23 ((nI_leI (a := n) (b := a10) (by omega) (by omega)).mpr z)
        refine aw_aload_n dX5_readSum_27 rfl ?_
        refine aw_get dX5_readSum_28 fl_X5_15 ((i10_0.2.1 _ hp.1 hp.2).trans hR) (by omega) rfl ?_
        refine aw_callVi (J' := jX10_now) (As := []) (st := []) dX5_readSum_31 tb_390 ok_X10_now ⟨_, e_22⟩ (by omega) rfl rfl (g_X10_nowS l D b N V10 hN i10_0.1 g i10_3 n a10 ⟨by omega, by omega⟩ i10_1 i10_2) rfl (Nat.le_of_ble_eq_true rfl) ⟨Nat.le_of_ble_eq_true rfl, Nat.le_of_ble_eq_true rfl, Nat.le_of_ble_eq_true rfl, Nat.le_of_ble_eq_true rfl⟩ (fun r_26 N_27 V_28 q_29 => ?_)
        obtain ⟨h_25, rfl, rfl⟩ := q_29
        refine aw_eqi (y := (hd g n a10)) h_25 ?_
        refine aw_bipush (v := 43) dX5_readSum_34 (by decide) ?_
        refine aw_icmp_eq (tgt := 51) dX5_readSum_36 (by decide) (fun c_30 => ?_) (fun c_30 => ?_)
        · skip
          have hlc_30 := hd_lit c_30 (by decide)
          refine aw_aload_n dX5_readSum_51 rfl ?_
          refine aw_get dX5_readSum_52 fl_X5_15 ((i10_0.2.1 _ hp.1 hp.2).trans hR) (by omega) rfl ?_
          refine aw_callVi (J' := jX10_now) (As := []) (st := []) dX5_readSum_55 tb_390 ok_X10_now ⟨_, e_22⟩ (by omega) rfl rfl (g_X10_nowS l D b N V10 hN i10_0.1 g i10_3 n a10 ⟨by omega, by omega⟩ i10_1 i10_2) rfl (Nat.le_of_ble_eq_true rfl) ⟨Nat.le_of_ble_eq_true rfl, Nat.le_of_ble_eq_true rfl, Nat.le_of_ble_eq_true rfl, Nat.le_of_ble_eq_true rfl⟩ (fun r_33 N_34 V_35 q_36 => ?_)
          obtain ⟨h_32, rfl, rfl⟩ := q_36
          refine aw_eqi (y := (hd g n a10)) h_32 ?_
          refine aw_istore_n (ls' := [some (.ref (b + p)), some (.int 6), some (.int (hd g n a10))]) dX5_readSum_58 (Nat.le_of_ble_eq_true rfl) rfl ?_
          refine aw_aload_n dX5_readSum_59 rfl ?_
          refine aw_get dX5_readSum_60 fl_X5_15 ((i10_0.2.1 _ hp.1 hp.2).trans hR) (by omega) rfl ?_
          refine aw_dup dX5_readSum_63 rfl ?_
          refine aw_get dX5_readSum_64 fl_X5_25 e_22 (by omega) rfl ?_
          refine aw_eqi (y := (nI a10)) ((Eq.symm (congrArg (fun z => fI z 3) e_22)).trans i10_2) ?_
          refine aw_iconst (v := 1) dX5_readSum_67 (by decide) ?_
          refine aw_iadd dX5_readSum_68 ?_
          refine aw_eqi (y := nI (a10 + 1)) (nI_add _ _) ?_
          refine aw_put dX5_readSum_69 fp_X5_25 e_22 (by omega) rfl rfl (Nat.le_of_ble_eq_true rfl) rfl ?_
          refine aw_up i10_0 ct_1 ⟨_, _, _, (a10 + 1), rfl, (by first | omega | (split <;> omega))⟩ (WO (s := 3) (x := .int (nI (a10 + 1))) e_22 rfl LM0 (by decide) (by decide) (by decide) (Or.inl (by decide))) (fun V_37 j_37 k_37 e_37 => ?_)
          refine aw_aload_n dX5_readSum_72 rfl ?_
          refine aw_iload_n dX5_readSum_73 rfl ?_
          refine aw_callVi (J' := jX5_readProduct) (As := [.int 6]) (st := []) dX5_readSum_74 tb_399 ok_X5_readProduct ⟨_, ((j_37.2.1 _ hp.1 hp.2).trans hR)⟩ (by omega) rfl rfl (g_X5_readProduct_6S l D b N V_37 hN j_37.1 p x ⟨by omega, by omega⟩ hx ((j_37.2.1 _ hp.1 hp.2).trans hR) g ((k_37 _ (by decide)).trans i10_3) n (a10 + 1) ⟨by omega, by omega⟩ (KA (s := 3) (x := .int (nI (a10 + 1))) e_22 rfl (by decide) e_37 k_37 i10_1) ((congrArg (fun z => fI z 3) e_37).trans rfl) hB s hs) rfl (Nat.le_of_ble_eq_true rfl) ⟨Nat.le_of_ble_eq_true rfl, Nat.le_of_ble_eq_true rfl, Nat.le_of_ble_eq_true rfl, Nat.le_of_ble_eq_true rfl⟩ (fun r_43 N_44 V_42 q_45 => ?_)
          obtain ⟨⟨z_40, h_39⟩, rfl, q_38⟩ := q_45
          have j_41 := JW.trans j_37 (JW.weak q_38 (Sub.cons LM0 (by decide) (by decide) (by decide) (Or.inr ⟨by decide, by decide⟩) (Sub.cons (LMs LM0) (by decide) (by decide) (by decide) (Or.inr ⟨by decide, by decide⟩) (Sub.cons (LMs (LMs LM0)) (by omega) (by omega) (by decide) (Or.inl rfl) (Sub.cons (LMs (LMs (LMs LM0))) (by omega) (by omega) (by decide) (Or.inl rfl) (Sub.cons (LMs (LMs (LMs (LMs LM0)))) (by omega) (by omega) (by decide) (Or.inr ⟨by decide, by decide⟩) Sub.nil))))))
          rcases h_39 with ⟨f_46, hx_47, hk_48, e_49⟩ | ⟨a_50, hx_51, hk_52, hb_53, hz_54, e_55⟩
          · skip
            refine aw_eqi (y := 0) e_49 ?_
            refine aw_if_ne (tgt := 82) dX5_readSum_77 (by decide) (fun c_56 => ?_) (fun c_56 => ?_)
            · exact absurd rfl c_56
            refine aw_iconst (v := 0) dX5_readSum_80 (by decide) ?_
            refine aw_zreti dX5_readSum_81 rfl (by first | exact Or.inl rfl | exact Or.inr rfl | assumption) (Nat.le_of_ble_eq_true rfl) (Nat.le_of_ble_eq_true rfl) ?_
            exact ⟨⟨(by first | exact Or.inl rfl | exact Or.inr rfl | assumption), Or.inl ⟨_, i10_4 _ (O_op (opr_pm (Or.inl c_30)) hx_47), hk_48, rfl⟩⟩, rfl, j_41⟩
          · skip
            refine aw_eqi (y := 1) e_55 ?_
            obtain ⟨hb_53a, hb_53b⟩ := hb_53
            refine aw_if_ne (tgt := 82) dX5_readSum_77 (by decide) (fun c_57 => ?_) (fun c_57 => ?_)
            rotate_left
            · exact absurd c_57 (by decide)
            refine aw_aload_n dX5_readSum_82 rfl ?_
            refine aw_get dX5_readSum_83 fl_X5_9 ((j_41.2.1 _ hp.1 hp.2).trans hR) (by omega) rfl ?_
            refine aw_iload_n dX5_readSum_86 rfl ?_
            refine aw_iconst (v := 0) dX5_readSum_87 (by decide) ?_
            obtain ⟨s8_61, r8_61, h8_61, e_61, hs_61, hr_61⟩ := JW.get j_41 (ctl_0 hx)
            refine aw_callVi (J' := jX4_add) (As := [.int (hd g n a10), .int 0]) (st := []) dX5_readSum_88 tb_415 ok_X4_add ⟨_, e_61⟩ (by omega) rfl rfl (g_X4_add l D b N V_42 hN j_41.1 x hx (hd g n a10) 0 (by decide)) rfl (Nat.le_of_ble_eq_true rfl) ⟨Nat.le_of_ble_eq_true rfl, Nat.le_of_ble_eq_true rfl, Nat.le_of_ble_eq_true rfl, Nat.le_of_ble_eq_true rfl⟩ (fun r_62 N_63 V_60 q_64 => ?_)
            obtain ⟨rfl, q_58⟩ := q_64
            have j_59 := JW.trans j_41 (JW.weak q_58 (Sub.cons (LMs (LMs LM0)) (by omega) (by omega) (by decide) (Or.inl rfl) (Sub.cons (LMs (LMs (LMs LM0))) (by omega) (by omega) (by decide) (Or.inl rfl) (Sub.cons (LMs (LMs (LMs (LMs LM0)))) (by omega) (by omega) (by decide) (Or.inr ⟨by decide, by decide⟩) Sub.nil))))
            refine aw_pop dX5_readSum_91 rfl ?_
            refine aw_goto (tgt := 10) dX5_readSum_92 (by decide) ?_
            refine aw_le ?_ (mih_10_21 _ (by omega) a_50 V_60 rfl (j_59) (((JW.fI q_58 (by omega) (nfc (by omega) (nfc (by omega) (nfc (by omega) nf0)))).trans ((JW.fI q_38 (by omega) (nfc (by omega) (nfc (by omega) (nfc (by omega) (nfc (by omega) (nfc (by omega) nf0)))))).trans (KA (s := 3) (x := .int (nI (a10 + 1))) e_22 rfl (by decide) e_37 k_37 i10_1)))) (((JW.fI q_58 (by omega) (nfc (by omega) (nfc (by omega) (nfc (by omega) nf0)))).trans hk_52)) (((JW.same q_58 (by decide) (fun k => (nfc (by omega) (nfc (by omega) (nfc (by omega) nf0))))).trans ((JW.same q_38 (by decide) (fun k => (nfc (by omega) (nfc (by omega) (nfc (by omega) (nfc (by omega) (nfc (by omega) nf0))))))).trans ((k_37 _ (by decide)).trans i10_3)))) (fun o q => i10_4 o (O_op (opr_pm (Or.inl c_30)) (hx_51 o q))) (⟨by omega, by omega⟩) (hz_54))
            exact ⟨rfl, ⟨rfl, trivial⟩⟩
        · skip
          refine aw_aload_n dX5_readSum_39 rfl ?_
          refine aw_get dX5_readSum_40 fl_X5_15 ((i10_0.2.1 _ hp.1 hp.2).trans hR) (by omega) rfl ?_
          refine aw_callVi (J' := jX10_now) (As := []) (st := []) dX5_readSum_43 tb_390 ok_X10_now ⟨_, e_22⟩ (by omega) rfl rfl (g_X10_nowS l D b N V10 hN i10_0.1 g i10_3 n a10 ⟨by omega, by omega⟩ i10_1 i10_2) rfl (Nat.le_of_ble_eq_true rfl) ⟨Nat.le_of_ble_eq_true rfl, Nat.le_of_ble_eq_true rfl, Nat.le_of_ble_eq_true rfl, Nat.le_of_ble_eq_true rfl⟩ (fun r_67 N_68 V_69 q_70 => ?_)
          obtain ⟨h_66, rfl, rfl⟩ := q_70
          refine aw_eqi (y := (hd g n a10)) h_66 ?_
          refine aw_bipush (v := 45) dX5_readSum_46 (by decide) ?_
          refine aw_icmp_ne (tgt := 95) dX5_readSum_48 (by decide) (fun c_71 => ?_) (fun c_71 => ?_)
          · skip
            refine aw_iconst (v := 1) dX5_readSum_95 (by decide) ?_
            refine aw_zreti dX5_readSum_96 rfl (by first | exact Or.inl rfl | exact Or.inr rfl | assumption) (Nat.le_of_ble_eq_true rfl) (Nat.le_of_ble_eq_true rfl) ?_
            exact ⟨⟨(by first | exact Or.inl rfl | exact Or.inr rfl | assumption), Or.inr ⟨_, i10_4, i10_2, ⟨by omega, by omega⟩, (opr_f c_30 c_71 i10_6), rfl⟩⟩, rfl, i10_0⟩
          · skip
            have hlc_71 := hd_lit c_71 (by decide)
            refine aw_aload_n dX5_readSum_51 rfl ?_
            refine aw_get dX5_readSum_52 fl_X5_15 ((i10_0.2.1 _ hp.1 hp.2).trans hR) (by omega) rfl ?_
            refine aw_callVi (J' := jX10_now) (As := []) (st := []) dX5_readSum_55 tb_390 ok_X10_now ⟨_, e_22⟩ (by omega) rfl rfl (g_X10_nowS l D b N V10 hN i10_0.1 g i10_3 n a10 ⟨by omega, by omega⟩ i10_1 i10_2) rfl (Nat.le_of_ble_eq_true rfl) ⟨Nat.le_of_ble_eq_true rfl, Nat.le_of_ble_eq_true rfl, Nat.le_of_ble_eq_true rfl, Nat.le_of_ble_eq_true rfl⟩ (fun r_74 N_75 V_76 q_77 => ?_)
            obtain ⟨h_73, rfl, rfl⟩ := q_77
            refine aw_eqi (y := (hd g n a10)) h_73 ?_
            refine aw_istore_n (ls' := [some (.ref (b + p)), some (.int 6), some (.int (hd g n a10))]) dX5_readSum_58 (Nat.le_of_ble_eq_true rfl) rfl ?_
            refine aw_aload_n dX5_readSum_59 rfl ?_
            refine aw_get dX5_readSum_60 fl_X5_15 ((i10_0.2.1 _ hp.1 hp.2).trans hR) (by omega) rfl ?_
            refine aw_dup dX5_readSum_63 rfl ?_
            refine aw_get dX5_readSum_64 fl_X5_25 e_22 (by omega) rfl ?_
            refine aw_eqi (y := (nI a10)) ((Eq.symm (congrArg (fun z => fI z 3) e_22)).trans i10_2) ?_
            refine aw_iconst (v := 1) dX5_readSum_67 (by decide) ?_
            refine aw_iadd dX5_readSum_68 ?_
            refine aw_eqi (y := nI (a10 + 1)) (nI_add _ _) ?_
            refine aw_put dX5_readSum_69 fp_X5_25 e_22 (by omega) rfl rfl (Nat.le_of_ble_eq_true rfl) rfl ?_
            refine aw_up i10_0 ct_1 ⟨_, _, _, (a10 + 1), rfl, (by first | omega | (split <;> omega))⟩ (WO (s := 3) (x := .int (nI (a10 + 1))) e_22 rfl LM0 (by decide) (by decide) (by decide) (Or.inl (by decide))) (fun V_78 j_78 k_78 e_78 => ?_)
            refine aw_aload_n dX5_readSum_72 rfl ?_
            refine aw_iload_n dX5_readSum_73 rfl ?_
            refine aw_callVi (J' := jX5_readProduct) (As := [.int 6]) (st := []) dX5_readSum_74 tb_399 ok_X5_readProduct ⟨_, ((j_78.2.1 _ hp.1 hp.2).trans hR)⟩ (by omega) rfl rfl (g_X5_readProduct_6S l D b N V_78 hN j_78.1 p x ⟨by omega, by omega⟩ hx ((j_78.2.1 _ hp.1 hp.2).trans hR) g ((k_78 _ (by decide)).trans i10_3) n (a10 + 1) ⟨by omega, by omega⟩ (KA (s := 3) (x := .int (nI (a10 + 1))) e_22 rfl (by decide) e_78 k_78 i10_1) ((congrArg (fun z => fI z 3) e_78).trans rfl) hB s hs) rfl (Nat.le_of_ble_eq_true rfl) ⟨Nat.le_of_ble_eq_true rfl, Nat.le_of_ble_eq_true rfl, Nat.le_of_ble_eq_true rfl, Nat.le_of_ble_eq_true rfl⟩ (fun r_84 N_85 V_83 q_86 => ?_)
            obtain ⟨⟨z_81, h_80⟩, rfl, q_79⟩ := q_86
            have j_82 := JW.trans j_78 (JW.weak q_79 (Sub.cons LM0 (by decide) (by decide) (by decide) (Or.inr ⟨by decide, by decide⟩) (Sub.cons (LMs LM0) (by decide) (by decide) (by decide) (Or.inr ⟨by decide, by decide⟩) (Sub.cons (LMs (LMs LM0)) (by omega) (by omega) (by decide) (Or.inl rfl) (Sub.cons (LMs (LMs (LMs LM0))) (by omega) (by omega) (by decide) (Or.inl rfl) (Sub.cons (LMs (LMs (LMs (LMs LM0)))) (by omega) (by omega) (by decide) (Or.inr ⟨by decide, by decide⟩) Sub.nil))))))
            rcases h_80 with ⟨f_87, hx_88, hk_89, e_90⟩ | ⟨a_91, hx_92, hk_93, hb_94, hz_95, e_96⟩
            · skip
              refine aw_eqi (y := 0) e_90 ?_
              refine aw_if_ne (tgt := 82) dX5_readSum_77 (by decide) (fun c_97 => ?_) (fun c_97 => ?_)
              · exact absurd rfl c_97
              refine aw_iconst (v := 0) dX5_readSum_80 (by decide) ?_
              refine aw_zreti dX5_readSum_81 rfl (by first | exact Or.inl rfl | exact Or.inr rfl | assumption) (Nat.le_of_ble_eq_true rfl) (Nat.le_of_ble_eq_true rfl) ?_
              exact ⟨⟨(by first | exact Or.inl rfl | exact Or.inr rfl | assumption), Or.inl ⟨_, i10_4 _ (O_op (opr_pm (Or.inr c_71)) hx_88), hk_89, rfl⟩⟩, rfl, j_82⟩
            · skip
              refine aw_eqi (y := 1) e_96 ?_
              obtain ⟨hb_94a, hb_94b⟩ := hb_94
              refine aw_if_ne (tgt := 82) dX5_readSum_77 (by decide) (fun c_98 => ?_) (fun c_98 => ?_)
              rotate_left
              · exact absurd c_98 (by decide)
              refine aw_aload_n dX5_readSum_82 rfl ?_
              refine aw_get dX5_readSum_83 fl_X5_9 ((j_82.2.1 _ hp.1 hp.2).trans hR) (by omega) rfl ?_
              refine aw_iload_n dX5_readSum_86 rfl ?_
              refine aw_iconst (v := 0) dX5_readSum_87 (by decide) ?_
              obtain ⟨s8_102, r8_102, h8_102, e_102, hs_102, hr_102⟩ := JW.get j_82 (ctl_0 hx)
              refine aw_callVi (J' := jX4_add) (As := [.int (hd g n a10), .int 0]) (st := []) dX5_readSum_88 tb_415 ok_X4_add ⟨_, e_102⟩ (by omega) rfl rfl (g_X4_add l D b N V_83 hN j_82.1 x hx (hd g n a10) 0 (by decide)) rfl (Nat.le_of_ble_eq_true rfl) ⟨Nat.le_of_ble_eq_true rfl, Nat.le_of_ble_eq_true rfl, Nat.le_of_ble_eq_true rfl, Nat.le_of_ble_eq_true rfl⟩ (fun r_103 N_104 V_101 q_105 => ?_)
              obtain ⟨rfl, q_99⟩ := q_105
              have j_100 := JW.trans j_82 (JW.weak q_99 (Sub.cons (LMs (LMs LM0)) (by omega) (by omega) (by decide) (Or.inl rfl) (Sub.cons (LMs (LMs (LMs LM0))) (by omega) (by omega) (by decide) (Or.inl rfl) (Sub.cons (LMs (LMs (LMs (LMs LM0)))) (by omega) (by omega) (by decide) (Or.inr ⟨by decide, by decide⟩) Sub.nil))))
              refine aw_pop dX5_readSum_91 rfl ?_
              refine aw_goto (tgt := 10) dX5_readSum_92 (by decide) ?_
              refine aw_le ?_ (mih_10_21 _ (by omega) a_91 V_101 rfl (j_100) (((JW.fI q_99 (by omega) (nfc (by omega) (nfc (by omega) (nfc (by omega) nf0)))).trans ((JW.fI q_79 (by omega) (nfc (by omega) (nfc (by omega) (nfc (by omega) (nfc (by omega) (nfc (by omega) nf0)))))).trans (KA (s := 3) (x := .int (nI (a10 + 1))) e_22 rfl (by decide) e_78 k_78 i10_1)))) (((JW.fI q_99 (by omega) (nfc (by omega) (nfc (by omega) (nfc (by omega) nf0)))).trans hk_93)) (((JW.same q_99 (by decide) (fun k => (nfc (by omega) (nfc (by omega) (nfc (by omega) nf0))))).trans ((JW.same q_79 (by decide) (fun k => (nfc (by omega) (nfc (by omega) (nfc (by omega) (nfc (by omega) (nfc (by omega) nf0))))))).trans ((k_78 _ (by decide)).trans i10_3)))) (fun o q => i10_4 o (O_op (opr_pm (Or.inr c_71)) (hx_92 o q))) (⟨by omega, by omega⟩) (hz_95))
              exact ⟨rfl, ⟨rfl, trivial⟩⟩
    refine aw_le ?_ (ml_10_21 _ a_13 V_5 rfl (j_4) (((JW.fI q_1 (by omega) (nfc (by omega) (nfc (by omega) (nfc (by omega) (nfc (by omega) (nfc (by omega) nf0)))))).trans hE)) (hk_15) (((JW.same q_1 (by decide) (fun k => (nfc (by omega) (nfc (by omega) (nfc (by omega) (nfc (by omega) (nfc (by omega) nf0))))))).trans hg)) (hx_14) (⟨by omega, by omega⟩) (hz_17))
    exact ⟨rfl, ⟨rfl, trivial⟩⟩

set_option maxHeartbeats 20000000 in
set_option maxRecDepth 100000 in
theorem g_X5_readComparison_6S (l : Launch) (D : va_G) (b : Nat) (N : Nat) (V : Wd) (hN : 100 ≤ N) (hW : CW D b V) (p x : Nat) (hp : 100 ≤ p ∧ p < N) (hx : x = 57 ∨ x = 65) (hR : V p = cO 5 [.ref (b + 1), .ref (b + x)]) (g : Nat → Int32) (hg : V 2 = cI D 260 g) (n a : Nat) (hna : a ≤ n ∧ n ≤ 240) (hE : fI (V 1) 2 = nI n) (hA : fI (V 1) 3 = nI a) (hB : BY g) (k0 : Nat) (t : List Nat) (hs : dpt (k0 :: t) = 6) (h33 : ¬ hd g n a = 33) (h40 : ¬ hd g n a = 40) : MI l D b 8 jX5_readComparison [.ref (b + p), .int 6] N V 0 0 (fun r N9 V9 => ((r = 0 ∨ r = 1) ∧ ((∃ f, RES g n (2, a, (k0 :: t)) (.inl f) ∧ fI (V9 1) 4 = f ∧ r = 0) ∨ (∃ a9, (∀ o, RES g n (3, a9, (k0 :: t)) o → RES g n (2, a, (k0 :: t)) o) ∧ fI (V9 1) 3 = nI a9 ∧ (a < a9 ∧ a9 ≤ n) ∧ r = 1))) ∧ N = N9 ∧ JW D b N [(1, 1, 3, 3), (1, 1, 4, 4), (x + 1, x + 1, 0, 1000000), (x + 2, x + 2, 0, 1000000), (x, x, 2, 2)] V V9) := by
  have hJ0 : JW D b N [(1, 1, 3, 3), (1, 1, 4, 4), (x + 1, x + 1, 0, 1000000), (x + 2, x + 2, 0, 1000000), (x, x, 2, 2)] V V := JW.rf hW
  refine mw_of (by decide) (by simp [Value.category]) (Nat.le_of_ble_eq_true rfl) ?_
  show AW l D b jX5_readComparison (fx_rm 8 0 0) none (fx_MQ D b 0 0 (fx_qi (fun r N9 V9 => ((r = 0 ∨ r = 1) ∧ ((∃ f, RES g n (2, a, (k0 :: t)) (.inl f) ∧ fI (V9 1) 4 = f ∧ r = 0) ∨ (∃ a9, (∀ o, RES g n (3, a9, (k0 :: t)) o → RES g n (2, a, (k0 :: t)) o) ∧ fI (V9 1) 3 = nI a9 ∧ (a < a9 ∧ a9 ≤ n) ∧ r = 1))) ∧ N = N9 ∧ JW D b N [(1, 1, 3, 3), (1, 1, 4, 4), (x + 1, x + 1, 0, 1000000), (x + 2, x + 2, 0, 1000000), (x, x, 2, 2)] V V9))) 0 [some (.ref (b + p)), some (.int 6), none] [] N V 0 0
  refine aw_aload_n dX5_readComparison_0 rfl ?_
  refine aw_iload_n dX5_readComparison_1 rfl ?_
  refine aw_callVi (J' := jX5_readSum) (As := [.int 6]) (st := []) dX5_readComparison_2 tb_395 ok_X5_readSum ⟨_, ((hJ0.2.1 _ hp.1 hp.2).trans hR)⟩ (by omega) rfl rfl (g_X5_readSum_6S l D b N V hN hJ0.1 p x ⟨by omega, by omega⟩ hx ((hJ0.2.1 _ hp.1 hp.2).trans hR) g hg n a ⟨by omega, by omega⟩ hE hA hB (1 :: k0 :: t) (dpt_1 hs)) rfl (Nat.le_of_ble_eq_true rfl) ⟨Nat.le_of_ble_eq_true rfl, Nat.le_of_ble_eq_true rfl, Nat.le_of_ble_eq_true rfl, Nat.le_of_ble_eq_true rfl⟩ (fun r_6 N_7 V_5 q_8 => ?_)
  obtain ⟨⟨z_3, h_2⟩, rfl, q_1⟩ := q_8
  have j_4 := JW.trans hJ0 (JW.weak q_1 (Sub.cons LM0 (by decide) (by decide) (by decide) (Or.inr ⟨by decide, by decide⟩) (Sub.cons (LMs LM0) (by decide) (by decide) (by decide) (Or.inr ⟨by decide, by decide⟩) (Sub.cons (LMs (LMs LM0)) (by omega) (by omega) (by decide) (Or.inl rfl) (Sub.cons (LMs (LMs (LMs LM0))) (by omega) (by omega) (by decide) (Or.inl rfl) (Sub.cons (LMs (LMs (LMs (LMs LM0)))) (by omega) (by omega) (by decide) (Or.inr ⟨by decide, by decide⟩) Sub.nil))))))
  rcases h_2 with ⟨f_9, hx_10, hk_11, e_12⟩ | ⟨a_13, hx_14, hk_15, hb_16, hz_17, e_18⟩
  · skip
    refine aw_eqi (y := 0) e_12 ?_
    refine aw_if_ne (tgt := 10) dX5_readComparison_5 (by decide) (fun c_19 => ?_) (fun c_19 => ?_)
    · exact absurd rfl c_19
    refine aw_iconst (v := 0) dX5_readComparison_8 (by decide) ?_
    refine aw_zreti dX5_readComparison_9 rfl (by first | exact Or.inl rfl | exact Or.inr rfl | assumption) (Nat.le_of_ble_eq_true rfl) (Nat.le_of_ble_eq_true rfl) ?_
    exact ⟨⟨(by first | exact Or.inl rfl | exact Or.inr rfl | assumption), Or.inl ⟨_, T_cmp h33 h40 hx_10, hk_11, rfl⟩⟩, rfl, j_4⟩
  · skip
    refine aw_eqi (y := 1) e_18 ?_
    obtain ⟨hb_16a, hb_16b⟩ := hb_16
    refine aw_if_ne (tgt := 10) dX5_readComparison_5 (by decide) (fun c_20 => ?_) (fun c_20 => ?_)
    rotate_left
    · exact absurd c_20 (by decide)
    refine aw_aload_n dX5_readComparison_10 rfl ?_
    refine aw_get dX5_readComparison_11 fl_X5_15 ((j_4.2.1 _ hp.1 hp.2).trans hR) (by omega) rfl ?_
    obtain ⟨ts_23, tn_23, tf_23, ta_23, e_23, hta_23⟩ := JW.get j_4 ct_1
    refine aw_callVi (J' := jX10_now) (As := []) (st := []) dX5_readComparison_14 tb_390 ok_X10_now ⟨_, e_23⟩ (by omega) rfl rfl (g_X10_nowS l D b N V_5 hN j_4.1 g ((JW.same q_1 (by decide) (fun k => (nfc (by omega) (nfc (by omega) (nfc (by omega) (nfc (by omega) (nfc (by omega) nf0))))))).trans hg) n a_13 ⟨by omega, by omega⟩ ((JW.fI q_1 (by omega) (nfc (by omega) (nfc (by omega) (nfc (by omega) (nfc (by omega) (nfc (by omega) nf0)))))).trans hE) hk_15) rfl (Nat.le_of_ble_eq_true rfl) ⟨Nat.le_of_ble_eq_true rfl, Nat.le_of_ble_eq_true rfl, Nat.le_of_ble_eq_true rfl, Nat.le_of_ble_eq_true rfl⟩ (fun r_24 N_25 V_26 q_27 => ?_)
    obtain ⟨h_22, rfl, rfl⟩ := q_27
    refine aw_eqi (y := (hd g n a_13)) h_22 ?_
    refine aw_istore_n (ls' := [some (.ref (b + p)), some (.int 6), some (.int (hd g n a_13))]) dX5_readComparison_17 (Nat.le_of_ble_eq_true rfl) rfl ?_
    refine aw_iload_n dX5_readComparison_18 rfl ?_
    refine aw_bipush (v := 60) dX5_readComparison_19 (by decide) ?_
    refine aw_icmp_eq (tgt := 44) dX5_readComparison_21 (by decide) (fun c_28 => ?_) (fun c_28 => ?_)
    · skip
      have hlc_28 := hd_lit c_28 (by decide)
      refine aw_aload_n dX5_readComparison_44 rfl ?_
      refine aw_get dX5_readComparison_45 fl_X5_15 ((j_4.2.1 _ hp.1 hp.2).trans hR) (by omega) rfl ?_
      refine aw_dup dX5_readComparison_48 rfl ?_
      refine aw_get dX5_readComparison_49 fl_X5_25 e_23 (by omega) rfl ?_
      refine aw_eqi (y := (nI a_13)) ((Eq.symm (congrArg (fun z => fI z 3) e_23)).trans hk_15) ?_
      refine aw_iconst (v := 1) dX5_readComparison_52 (by decide) ?_
      refine aw_iadd dX5_readComparison_53 ?_
      refine aw_eqi (y := nI (a_13 + 1)) (nI_add _ _) ?_
      refine aw_put dX5_readComparison_54 fp_X5_25 e_23 (by omega) rfl rfl (Nat.le_of_ble_eq_true rfl) rfl ?_
      refine aw_up j_4 ct_1 ⟨_, _, _, (a_13 + 1), rfl, (by first | omega | (split <;> omega))⟩ (WO (s := 3) (x := .int (nI (a_13 + 1))) e_23 rfl LM0 (by decide) (by decide) (by decide) (Or.inl (by decide))) (fun V_29 j_29 k_29 e_29 => ?_)
      refine aw_aload_n dX5_readComparison_57 rfl ?_
      refine aw_iload_n dX5_readComparison_58 rfl ?_
      refine aw_callVi (J' := jX5_readSum) (As := [.int 6]) (st := []) dX5_readComparison_59 tb_395 ok_X5_readSum ⟨_, ((j_29.2.1 _ hp.1 hp.2).trans hR)⟩ (by omega) rfl rfl (g_X5_readSum_6S l D b N V_29 hN j_29.1 p x ⟨by omega, by omega⟩ hx ((j_29.2.1 _ hp.1 hp.2).trans hR) g ((k_29 _ (by decide)).trans ((JW.same q_1 (by decide) (fun k => (nfc (by omega) (nfc (by omega) (nfc (by omega) (nfc (by omega) (nfc (by omega) nf0))))))).trans hg)) n (a_13 + 1) ⟨by omega, by omega⟩ (KA (s := 3) (x := .int (nI (a_13 + 1))) e_23 rfl (by decide) e_29 k_29 ((JW.fI q_1 (by omega) (nfc (by omega) (nfc (by omega) (nfc (by omega) (nfc (by omega) (nfc (by omega) nf0)))))).trans hE)) ((congrArg (fun z => fI z 3) e_29).trans rfl) hB (2 :: k0 :: t) (dpt_2 hs)) rfl (Nat.le_of_ble_eq_true rfl) ⟨Nat.le_of_ble_eq_true rfl, Nat.le_of_ble_eq_true rfl, Nat.le_of_ble_eq_true rfl, Nat.le_of_ble_eq_true rfl⟩ (fun r_35 N_36 V_34 q_37 => ?_)
      obtain ⟨⟨z_32, h_31⟩, rfl, q_30⟩ := q_37
      have j_33 := JW.trans j_29 (JW.weak q_30 (Sub.cons LM0 (by decide) (by decide) (by decide) (Or.inr ⟨by decide, by decide⟩) (Sub.cons (LMs LM0) (by decide) (by decide) (by decide) (Or.inr ⟨by decide, by decide⟩) (Sub.cons (LMs (LMs LM0)) (by omega) (by omega) (by decide) (Or.inl rfl) (Sub.cons (LMs (LMs (LMs LM0))) (by omega) (by omega) (by decide) (Or.inl rfl) (Sub.cons (LMs (LMs (LMs (LMs LM0)))) (by omega) (by omega) (by decide) (Or.inr ⟨by decide, by decide⟩) Sub.nil))))))
      rcases h_31 with ⟨f_38, hx_39, hk_40, e_41⟩ | ⟨a_42, hx_43, hk_44, hb_45, hz_46, e_47⟩
      · skip
        refine aw_eqi (y := 0) e_41 ?_
        refine aw_if_ne (tgt := 67) dX5_readComparison_62 (by decide) (fun c_48 => ?_) (fun c_48 => ?_)
        · exact absurd rfl c_48
        refine aw_iconst (v := 0) dX5_readComparison_65 (by decide) ?_
        refine aw_zreti dX5_readComparison_66 rfl (by first | exact Or.inl rfl | exact Or.inr rfl | assumption) (Nat.le_of_ble_eq_true rfl) (Nat.le_of_ble_eq_true rfl) ?_
        exact ⟨⟨(by first | exact Or.inl rfl | exact Or.inr rfl | assumption), Or.inl ⟨_, T_cmp h33 h40 (hx_14 _ (O_cmp hz_17 (cmr_t (Or.inl c_28)) hx_39)), hk_40, rfl⟩⟩, rfl, j_33⟩
      · skip
        refine aw_eqi (y := 1) e_47 ?_
        obtain ⟨hb_45a, hb_45b⟩ := hb_45
        refine aw_if_ne (tgt := 67) dX5_readComparison_62 (by decide) (fun c_49 => ?_) (fun c_49 => ?_)
        rotate_left
        · exact absurd c_49 (by decide)
        refine aw_aload_n dX5_readComparison_67 rfl ?_
        refine aw_get dX5_readComparison_68 fl_X5_9 ((j_33.2.1 _ hp.1 hp.2).trans hR) (by omega) rfl ?_
        refine aw_iload_n dX5_readComparison_71 rfl ?_
        refine aw_iconst (v := 0) dX5_readComparison_72 (by decide) ?_
        obtain ⟨s8_53, r8_53, h8_53, e_53, hs_53, hr_53⟩ := JW.get j_33 (ctl_0 hx)
        refine aw_callVi (J' := jX4_add) (As := [.int (hd g n a_13), .int 0]) (st := []) dX5_readComparison_73 tb_415 ok_X4_add ⟨_, e_53⟩ (by omega) rfl rfl (g_X4_add l D b N V_34 hN j_33.1 x hx (hd g n a_13) 0 (by decide)) rfl (Nat.le_of_ble_eq_true rfl) ⟨Nat.le_of_ble_eq_true rfl, Nat.le_of_ble_eq_true rfl, Nat.le_of_ble_eq_true rfl, Nat.le_of_ble_eq_true rfl⟩ (fun r_54 N_55 V_52 q_56 => ?_)
        obtain ⟨rfl, q_50⟩ := q_56
        have j_51 := JW.trans j_33 (JW.weak q_50 (Sub.cons (LMs (LMs LM0)) (by omega) (by omega) (by decide) (Or.inl rfl) (Sub.cons (LMs (LMs (LMs LM0))) (by omega) (by omega) (by decide) (Or.inl rfl) (Sub.cons (LMs (LMs (LMs (LMs LM0)))) (by omega) (by omega) (by decide) (Or.inr ⟨by decide, by decide⟩) Sub.nil))))
        refine aw_pop dX5_readComparison_76 rfl ?_
        refine aw_iconst (v := 1) dX5_readComparison_77 (by decide) ?_
        refine aw_zreti dX5_readComparison_78 rfl (by first | exact Or.inl rfl | exact Or.inr rfl | assumption) (Nat.le_of_ble_eq_true rfl) (Nat.le_of_ble_eq_true rfl) ?_
        exact ⟨⟨(by first | exact Or.inl rfl | exact Or.inr rfl | assumption), Or.inr ⟨_, fun o q => T_cmp h33 h40 (hx_14 _ (O_cmp hz_17 (cmr_t (Or.inl c_28)) (hx_43 _ (O_r hz_46 q)))), ((JW.fI q_50 (by omega) (nfc (by omega) (nfc (by omega) (nfc (by omega) nf0)))).trans hk_44), ⟨by omega, by omega⟩, rfl⟩⟩, rfl, j_51⟩
    · skip
      refine aw_iload_n dX5_readComparison_24 rfl ?_
      refine aw_bipush (v := 62) dX5_readComparison_25 (by decide) ?_
      refine aw_icmp_eq (tgt := 44) dX5_readComparison_27 (by decide) (fun c_57 => ?_) (fun c_57 => ?_)
      · skip
        have hlc_57 := hd_lit c_57 (by decide)
        refine aw_aload_n dX5_readComparison_44 rfl ?_
        refine aw_get dX5_readComparison_45 fl_X5_15 ((j_4.2.1 _ hp.1 hp.2).trans hR) (by omega) rfl ?_
        refine aw_dup dX5_readComparison_48 rfl ?_
        refine aw_get dX5_readComparison_49 fl_X5_25 e_23 (by omega) rfl ?_
        refine aw_eqi (y := (nI a_13)) ((Eq.symm (congrArg (fun z => fI z 3) e_23)).trans hk_15) ?_
        refine aw_iconst (v := 1) dX5_readComparison_52 (by decide) ?_
        refine aw_iadd dX5_readComparison_53 ?_
        refine aw_eqi (y := nI (a_13 + 1)) (nI_add _ _) ?_
        refine aw_put dX5_readComparison_54 fp_X5_25 e_23 (by omega) rfl rfl (Nat.le_of_ble_eq_true rfl) rfl ?_
        refine aw_up j_4 ct_1 ⟨_, _, _, (a_13 + 1), rfl, (by first | omega | (split <;> omega))⟩ (WO (s := 3) (x := .int (nI (a_13 + 1))) e_23 rfl LM0 (by decide) (by decide) (by decide) (Or.inl (by decide))) (fun V_58 j_58 k_58 e_58 => ?_)
        refine aw_aload_n dX5_readComparison_57 rfl ?_
        refine aw_iload_n dX5_readComparison_58 rfl ?_
        refine aw_callVi (J' := jX5_readSum) (As := [.int 6]) (st := []) dX5_readComparison_59 tb_395 ok_X5_readSum ⟨_, ((j_58.2.1 _ hp.1 hp.2).trans hR)⟩ (by omega) rfl rfl (g_X5_readSum_6S l D b N V_58 hN j_58.1 p x ⟨by omega, by omega⟩ hx ((j_58.2.1 _ hp.1 hp.2).trans hR) g ((k_58 _ (by decide)).trans ((JW.same q_1 (by decide) (fun k => (nfc (by omega) (nfc (by omega) (nfc (by omega) (nfc (by omega) (nfc (by omega) nf0))))))).trans hg)) n (a_13 + 1) ⟨by omega, by omega⟩ (KA (s := 3) (x := .int (nI (a_13 + 1))) e_23 rfl (by decide) e_58 k_58 ((JW.fI q_1 (by omega) (nfc (by omega) (nfc (by omega) (nfc (by omega) (nfc (by omega) (nfc (by omega) nf0)))))).trans hE)) ((congrArg (fun z => fI z 3) e_58).trans rfl) hB (2 :: k0 :: t) (dpt_2 hs)) rfl (Nat.le_of_ble_eq_true rfl) ⟨Nat.le_of_ble_eq_true rfl, Nat.le_of_ble_eq_true rfl, Nat.le_of_ble_eq_true rfl, Nat.le_of_ble_eq_true rfl⟩ (fun r_64 N_65 V_63 q_66 => ?_)
        obtain ⟨⟨z_61, h_60⟩, rfl, q_59⟩ := q_66
        have j_62 := JW.trans j_58 (JW.weak q_59 (Sub.cons LM0 (by decide) (by decide) (by decide) (Or.inr ⟨by decide, by decide⟩) (Sub.cons (LMs LM0) (by decide) (by decide) (by decide) (Or.inr ⟨by decide, by decide⟩) (Sub.cons (LMs (LMs LM0)) (by omega) (by omega) (by decide) (Or.inl rfl) (Sub.cons (LMs (LMs (LMs LM0))) (by omega) (by omega) (by decide) (Or.inl rfl) (Sub.cons (LMs (LMs (LMs (LMs LM0)))) (by omega) (by omega) (by decide) (Or.inr ⟨by decide, by decide⟩) Sub.nil))))))
        rcases h_60 with ⟨f_67, hx_68, hk_69, e_70⟩ | ⟨a_71, hx_72, hk_73, hb_74, hz_75, e_76⟩
        · skip
          refine aw_eqi (y := 0) e_70 ?_
          refine aw_if_ne (tgt := 67) dX5_readComparison_62 (by decide) (fun c_77 => ?_) (fun c_77 => ?_)
          · exact absurd rfl c_77
          refine aw_iconst (v := 0) dX5_readComparison_65 (by decide) ?_
          refine aw_zreti dX5_readComparison_66 rfl (by first | exact Or.inl rfl | exact Or.inr rfl | assumption) (Nat.le_of_ble_eq_true rfl) (Nat.le_of_ble_eq_true rfl) ?_
          exact ⟨⟨(by first | exact Or.inl rfl | exact Or.inr rfl | assumption), Or.inl ⟨_, T_cmp h33 h40 (hx_14 _ (O_cmp hz_17 (cmr_t (Or.inr (Or.inl c_57))) hx_68)), hk_69, rfl⟩⟩, rfl, j_62⟩
        · skip
          refine aw_eqi (y := 1) e_76 ?_
          obtain ⟨hb_74a, hb_74b⟩ := hb_74
          refine aw_if_ne (tgt := 67) dX5_readComparison_62 (by decide) (fun c_78 => ?_) (fun c_78 => ?_)
          rotate_left
          · exact absurd c_78 (by decide)
          refine aw_aload_n dX5_readComparison_67 rfl ?_
          refine aw_get dX5_readComparison_68 fl_X5_9 ((j_62.2.1 _ hp.1 hp.2).trans hR) (by omega) rfl ?_
          refine aw_iload_n dX5_readComparison_71 rfl ?_
          refine aw_iconst (v := 0) dX5_readComparison_72 (by decide) ?_
          obtain ⟨s8_82, r8_82, h8_82, e_82, hs_82, hr_82⟩ := JW.get j_62 (ctl_0 hx)
          refine aw_callVi (J' := jX4_add) (As := [.int (hd g n a_13), .int 0]) (st := []) dX5_readComparison_73 tb_415 ok_X4_add ⟨_, e_82⟩ (by omega) rfl rfl (g_X4_add l D b N V_63 hN j_62.1 x hx (hd g n a_13) 0 (by decide)) rfl (Nat.le_of_ble_eq_true rfl) ⟨Nat.le_of_ble_eq_true rfl, Nat.le_of_ble_eq_true rfl, Nat.le_of_ble_eq_true rfl, Nat.le_of_ble_eq_true rfl⟩ (fun r_83 N_84 V_81 q_85 => ?_)
          obtain ⟨rfl, q_79⟩ := q_85
          have j_80 := JW.trans j_62 (JW.weak q_79 (Sub.cons (LMs (LMs LM0)) (by omega) (by omega) (by decide) (Or.inl rfl) (Sub.cons (LMs (LMs (LMs LM0))) (by omega) (by omega) (by decide) (Or.inl rfl) (Sub.cons (LMs (LMs (LMs (LMs LM0)))) (by omega) (by omega) (by decide) (Or.inr ⟨by decide, by decide⟩) Sub.nil))))
          refine aw_pop dX5_readComparison_76 rfl ?_
          refine aw_iconst (v := 1) dX5_readComparison_77 (by decide) ?_
          refine aw_zreti dX5_readComparison_78 rfl (by first | exact Or.inl rfl | exact Or.inr rfl | assumption) (Nat.le_of_ble_eq_true rfl) (Nat.le_of_ble_eq_true rfl) ?_
          exact ⟨⟨(by first | exact Or.inl rfl | exact Or.inr rfl | assumption), Or.inr ⟨_, fun o q => T_cmp h33 h40 (hx_14 _ (O_cmp hz_17 (cmr_t (Or.inr (Or.inl c_57))) (hx_72 _ (O_r hz_75 q)))), ((JW.fI q_79 (by omega) (nfc (by omega) (nfc (by omega) (nfc (by omega) nf0)))).trans hk_73), ⟨by omega, by omega⟩, rfl⟩⟩, rfl, j_80⟩
      · skip
        refine aw_iload_n dX5_readComparison_30 rfl ?_
        refine aw_bipush (v := 61) dX5_readComparison_31 (by decide) ?_
        refine aw_icmp_eq (tgt := 44) dX5_readComparison_33 (by decide) (fun c_86 => ?_) (fun c_86 => ?_)
        · skip
          have hlc_86 := hd_lit c_86 (by decide)
          refine aw_aload_n dX5_readComparison_44 rfl ?_
          refine aw_get dX5_readComparison_45 fl_X5_15 ((j_4.2.1 _ hp.1 hp.2).trans hR) (by omega) rfl ?_
          refine aw_dup dX5_readComparison_48 rfl ?_
          refine aw_get dX5_readComparison_49 fl_X5_25 e_23 (by omega) rfl ?_
          refine aw_eqi (y := (nI a_13)) ((Eq.symm (congrArg (fun z => fI z 3) e_23)).trans hk_15) ?_
          refine aw_iconst (v := 1) dX5_readComparison_52 (by decide) ?_
          refine aw_iadd dX5_readComparison_53 ?_
          refine aw_eqi (y := nI (a_13 + 1)) (nI_add _ _) ?_
          refine aw_put dX5_readComparison_54 fp_X5_25 e_23 (by omega) rfl rfl (Nat.le_of_ble_eq_true rfl) rfl ?_
          refine aw_up j_4 ct_1 ⟨_, _, _, (a_13 + 1), rfl, (by first | omega | (split <;> omega))⟩ (WO (s := 3) (x := .int (nI (a_13 + 1))) e_23 rfl LM0 (by decide) (by decide) (by decide) (Or.inl (by decide))) (fun V_87 j_87 k_87 e_87 => ?_)
          refine aw_aload_n dX5_readComparison_57 rfl ?_
          refine aw_iload_n dX5_readComparison_58 rfl ?_
          refine aw_callVi (J' := jX5_readSum) (As := [.int 6]) (st := []) dX5_readComparison_59 tb_395 ok_X5_readSum ⟨_, ((j_87.2.1 _ hp.1 hp.2).trans hR)⟩ (by omega) rfl rfl (g_X5_readSum_6S l D b N V_87 hN j_87.1 p x ⟨by omega, by omega⟩ hx ((j_87.2.1 _ hp.1 hp.2).trans hR) g ((k_87 _ (by decide)).trans ((JW.same q_1 (by decide) (fun k => (nfc (by omega) (nfc (by omega) (nfc (by omega) (nfc (by omega) (nfc (by omega) nf0))))))).trans hg)) n (a_13 + 1) ⟨by omega, by omega⟩ (KA (s := 3) (x := .int (nI (a_13 + 1))) e_23 rfl (by decide) e_87 k_87 ((JW.fI q_1 (by omega) (nfc (by omega) (nfc (by omega) (nfc (by omega) (nfc (by omega) (nfc (by omega) nf0)))))).trans hE)) ((congrArg (fun z => fI z 3) e_87).trans rfl) hB (2 :: k0 :: t) (dpt_2 hs)) rfl (Nat.le_of_ble_eq_true rfl) ⟨Nat.le_of_ble_eq_true rfl, Nat.le_of_ble_eq_true rfl, Nat.le_of_ble_eq_true rfl, Nat.le_of_ble_eq_true rfl⟩ (fun r_93 N_94 V_92 q_95 => ?_)
          obtain ⟨⟨z_90, h_89⟩, rfl, q_88⟩ := q_95
          have j_91 := JW.trans j_87 (JW.weak q_88 (Sub.cons LM0 (by decide) (by decide) (by decide) (Or.inr ⟨by decide, by decide⟩) (Sub.cons (LMs LM0) (by decide) (by decide) (by decide) (Or.inr ⟨by decide, by decide⟩) (Sub.cons (LMs (LMs LM0)) (by omega) (by omega) (by decide) (Or.inl rfl) (Sub.cons (LMs (LMs (LMs LM0))) (by omega) (by omega) (by decide) (Or.inl rfl) (Sub.cons (LMs (LMs (LMs (LMs LM0)))) (by omega) (by omega) (by decide) (Or.inr ⟨by decide, by decide⟩) Sub.nil))))))
          rcases h_89 with ⟨f_96, hx_97, hk_98, e_99⟩ | ⟨a_100, hx_101, hk_102, hb_103, hz_104, e_105⟩
          · skip
            refine aw_eqi (y := 0) e_99 ?_
            refine aw_if_ne (tgt := 67) dX5_readComparison_62 (by decide) (fun c_106 => ?_) (fun c_106 => ?_)
            · exact absurd rfl c_106
            refine aw_iconst (v := 0) dX5_readComparison_65 (by decide) ?_
            refine aw_zreti dX5_readComparison_66 rfl (by first | exact Or.inl rfl | exact Or.inr rfl | assumption) (Nat.le_of_ble_eq_true rfl) (Nat.le_of_ble_eq_true rfl) ?_
            exact ⟨⟨(by first | exact Or.inl rfl | exact Or.inr rfl | assumption), Or.inl ⟨_, T_cmp h33 h40 (hx_14 _ (O_cmp hz_17 (cmr_t (Or.inr (Or.inr c_86))) hx_97)), hk_98, rfl⟩⟩, rfl, j_91⟩
          · skip
            refine aw_eqi (y := 1) e_105 ?_
            obtain ⟨hb_103a, hb_103b⟩ := hb_103
            refine aw_if_ne (tgt := 67) dX5_readComparison_62 (by decide) (fun c_107 => ?_) (fun c_107 => ?_)
            rotate_left
            · exact absurd c_107 (by decide)
            refine aw_aload_n dX5_readComparison_67 rfl ?_
            refine aw_get dX5_readComparison_68 fl_X5_9 ((j_91.2.1 _ hp.1 hp.2).trans hR) (by omega) rfl ?_
            refine aw_iload_n dX5_readComparison_71 rfl ?_
            refine aw_iconst (v := 0) dX5_readComparison_72 (by decide) ?_
            obtain ⟨s8_111, r8_111, h8_111, e_111, hs_111, hr_111⟩ := JW.get j_91 (ctl_0 hx)
            refine aw_callVi (J' := jX4_add) (As := [.int (hd g n a_13), .int 0]) (st := []) dX5_readComparison_73 tb_415 ok_X4_add ⟨_, e_111⟩ (by omega) rfl rfl (g_X4_add l D b N V_92 hN j_91.1 x hx (hd g n a_13) 0 (by decide)) rfl (Nat.le_of_ble_eq_true rfl) ⟨Nat.le_of_ble_eq_true rfl, Nat.le_of_ble_eq_true rfl, Nat.le_of_ble_eq_true rfl, Nat.le_of_ble_eq_true rfl⟩ (fun r_112 N_113 V_110 q_114 => ?_)
            obtain ⟨rfl, q_108⟩ := q_114
            have j_109 := JW.trans j_91 (JW.weak q_108 (Sub.cons (LMs (LMs LM0)) (by omega) (by omega) (by decide) (Or.inl rfl) (Sub.cons (LMs (LMs (LMs LM0))) (by omega) (by omega) (by decide) (Or.inl rfl) (Sub.cons (LMs (LMs (LMs (LMs LM0)))) (by omega) (by omega) (by decide) (Or.inr ⟨by decide, by decide⟩) Sub.nil))))
            refine aw_pop dX5_readComparison_76 rfl ?_
            refine aw_iconst (v := 1) dX5_readComparison_77 (by decide) ?_
            refine aw_zreti dX5_readComparison_78 rfl (by first | exact Or.inl rfl | exact Or.inr rfl | assumption) (Nat.le_of_ble_eq_true rfl) (Nat.le_of_ble_eq_true rfl) ?_
            exact ⟨⟨(by first | exact Or.inl rfl | exact Or.inr rfl | assumption), Or.inr ⟨_, fun o q => T_cmp h33 h40 (hx_14 _ (O_cmp hz_17 (cmr_t (Or.inr (Or.inr c_86))) (hx_101 _ (O_r hz_104 q)))), ((JW.fI q_108 (by omega) (nfc (by omega) (nfc (by omega) (nfc (by omega) nf0)))).trans hk_102), ⟨by omega, by omega⟩, rfl⟩⟩, rfl, j_109⟩
        · skip
          refine aw_aload_n dX5_readComparison_36 rfl ?_
          refine aw_get dX5_readComparison_37 fl_X5_15 ((j_4.2.1 _ hp.1 hp.2).trans hR) (by omega) rfl ?_
          refine aw_callVi (J' := jX10_cannotStand) (As := []) (st := []) dX5_readComparison_40 tb_493 ok_X10_cannotStand ⟨_, e_23⟩ (by omega) rfl rfl (g_X10_cannotStandS l D b N V_5 hN j_4.1 g ((JW.same q_1 (by decide) (fun k => (nfc (by omega) (nfc (by omega) (nfc (by omega) (nfc (by omega) (nfc (by omega) nf0))))))).trans hg) n a_13 ⟨by omega, by omega⟩ ((JW.fI q_1 (by omega) (nfc (by omega) (nfc (by omega) (nfc (by omega) (nfc (by omega) (nfc (by omega) nf0)))))).trans hE) hk_15) rfl (Nat.le_of_ble_eq_true rfl) ⟨Nat.le_of_ble_eq_true rfl, Nat.le_of_ble_eq_true rfl, Nat.le_of_ble_eq_true rfl, Nat.le_of_ble_eq_true rfl⟩ (fun r_120 N_121 V_119 q_122 => ?_)
          obtain ⟨⟨z_117, h_116⟩, rfl, q_115⟩ := q_122
          have j_118 := JW.trans j_4 (JW.weak q_115 (Sub.cons (LMs LM0) (by decide) (by decide) (by decide) (Or.inr ⟨by decide, by decide⟩) Sub.nil))
          obtain ⟨rfl, h_116f⟩ := h_116
          refine aw_zreti dX5_readComparison_43 rfl (by first | exact Or.inl rfl | exact Or.inr rfl | assumption) (Nat.le_of_ble_eq_true rfl) (Nat.le_of_ble_eq_true rfl) ?_
          exact ⟨⟨(by first | exact Or.inl rfl | exact Or.inr rfl | assumption), Or.inl ⟨_, T_cmp h33 h40 (hx_14 _ (O_ncmp hz_17 (cmr_f c_28 c_57 c_86))), h_116f, rfl⟩⟩, rfl, j_118⟩

set_option maxHeartbeats 20000000 in
set_option maxRecDepth 100000 in
theorem g_X5_readNegation_6S (l : Launch) (D : va_G) (b : Nat) (N : Nat) (V : Wd) (hN : 100 ≤ N) (hW : CW D b V) (p x : Nat) (hp : 100 ≤ p ∧ p < N) (hx : x = 57 ∨ x = 65) (hR : V p = cO 5 [.ref (b + 1), .ref (b + x)]) (g : Nat → Int32) (hg : V 2 = cI D 260 g) (n a : Nat) (hna : a ≤ n ∧ n ≤ 240) (hE : fI (V 1) 2 = nI n) (hA : fI (V 1) 3 = nI a) (hB : BY g) (k0 : Nat) (t : List Nat) (hs : dpt (k0 :: t) = 6) (h33 : hd g n a = 33) : MI l D b 2 jX5_readNegation [.ref (b + p), .int 6] N V 0 0 (fun r N9 V9 => ((r = 0 ∨ r = 1) ∧ ((∃ f, RES g n (2, a, (k0 :: t)) (.inl f) ∧ fI (V9 1) 4 = f ∧ r = 0) ∨ (∃ a9, (∀ o, RES g n (3, a9, (k0 :: t)) o → RES g n (2, a, (k0 :: t)) o) ∧ fI (V9 1) 3 = nI a9 ∧ (a < a9 ∧ a9 ≤ n) ∧ r = 1))) ∧ N = N9 ∧ JW D b N [(1, 1, 4, 4)] V V9) := by
  have hJ0 : JW D b N [(1, 1, 4, 4)] V V := JW.rf hW
  refine mw_of (by decide) (by simp [Value.category]) (Nat.le_of_ble_eq_true rfl) ?_
  show AW l D b jX5_readNegation (fx_rm 2 0 0) none (fx_MQ D b 0 0 (fx_qi (fun r N9 V9 => ((r = 0 ∨ r = 1) ∧ ((∃ f, RES g n (2, a, (k0 :: t)) (.inl f) ∧ fI (V9 1) 4 = f ∧ r = 0) ∨ (∃ a9, (∀ o, RES g n (3, a9, (k0 :: t)) o → RES g n (2, a, (k0 :: t)) o) ∧ fI (V9 1) 3 = nI a9 ∧ (a < a9 ∧ a9 ≤ n) ∧ r = 1))) ∧ N = N9 ∧ JW D b N [(1, 1, 4, 4)] V V9))) 0 [some (.ref (b + p)), some (.int 6)] [] N V 0 0
  have hl33 := hd_lit h33 (by decide)
  refine aw_aload_n dX5_readNegation_0 rfl ?_
  refine aw_iload_n dX5_readNegation_1 rfl ?_
  refine aw_callVi (J' := jX5_open) (As := [.int 6]) (st := []) dX5_readNegation_2 tb_407 ok_X5_open ⟨_, ((hJ0.2.1 _ hp.1 hp.2).trans hR)⟩ (by omega) rfl rfl (g_X5_open_6S l D b N V hN hJ0.1 p x ⟨by omega, by omega⟩ hx ((hJ0.2.1 _ hp.1 hp.2).trans hR) g hg n a ⟨by omega, by omega⟩ hE hA hB (by omega)) rfl (Nat.le_of_ble_eq_true rfl) ⟨Nat.le_of_ble_eq_true rfl, Nat.le_of_ble_eq_true rfl, Nat.le_of_ble_eq_true rfl, Nat.le_of_ble_eq_true rfl⟩ (fun r_6 N_7 V_5 q_8 => ?_)
  obtain ⟨⟨z_3, h_2⟩, rfl, q_1⟩ := q_8
  have j_4 := JW.trans hJ0 (JW.weak q_1 (Sub.cons LM0 (by decide) (by decide) (by decide) (Or.inr ⟨by decide, by decide⟩) Sub.nil))
  obtain ⟨rfl, h_2f⟩ := h_2
  refine aw_if_eq (tgt := 18) dX5_readNegation_5 (by decide) (fun c_9 => ?_) (fun c_9 => ?_)
  rotate_left
  · exact absurd (by decide) c_9
  refine aw_iconst (v := 0) dX5_readNegation_18 (by decide) ?_
  refine aw_zreti dX5_readNegation_19 rfl (by first | exact Or.inl rfl | exact Or.inr rfl | assumption) (Nat.le_of_ble_eq_true rfl) (Nat.le_of_ble_eq_true rfl) ?_
  exact ⟨⟨(by first | exact Or.inl rfl | exact Or.inr rfl | assumption), Or.inl ⟨_, T_notd h33 (by omega), h_2f, rfl⟩⟩, rfl, j_4⟩

set_option maxHeartbeats 20000000 in
set_option maxRecDepth 100000 in
theorem g_X5_readTest_6S (l : Launch) (D : va_G) (b : Nat) (N : Nat) (V : Wd) (hN : 100 ≤ N) (hW : CW D b V) (p x : Nat) (hp : 100 ≤ p ∧ p < N) (hx : x = 57 ∨ x = 65) (hR : V p = cO 5 [.ref (b + 1), .ref (b + x)]) (g : Nat → Int32) (hg : V 2 = cI D 260 g) (n a : Nat) (hna : a ≤ n ∧ n ≤ 240) (hE : fI (V 1) 2 = nI n) (hA : fI (V 1) 3 = nI a) (hB : BY g) (k0 : Nat) (t : List Nat) (hs : dpt (k0 :: t) = 6) : MI l D b 9 jX5_readTest [.ref (b + p), .int 6] N V 0 0 (fun r N9 V9 => ((r = 0 ∨ r = 1) ∧ ((∃ f, RES g n (2, a, (k0 :: t)) (.inl f) ∧ fI (V9 1) 4 = f ∧ r = 0) ∨ (∃ a9, (∀ o, RES g n (3, a9, (k0 :: t)) o → RES g n (2, a, (k0 :: t)) o) ∧ fI (V9 1) 3 = nI a9 ∧ (a < a9 ∧ a9 ≤ n) ∧ r = 1))) ∧ N = N9 ∧ JW D b N [(1, 1, 3, 3), (1, 1, 4, 4), (x + 1, x + 1, 0, 1000000), (x + 2, x + 2, 0, 1000000), (x, x, 2, 2)] V V9) := by
  have hJ0 : JW D b N [(1, 1, 3, 3), (1, 1, 4, 4), (x + 1, x + 1, 0, 1000000), (x + 2, x + 2, 0, 1000000), (x, x, 2, 2)] V V := JW.rf hW
  refine mw_of (by decide) (by simp [Value.category]) (Nat.le_of_ble_eq_true rfl) ?_
  show AW l D b jX5_readTest (fx_rm 9 0 0) none (fx_MQ D b 0 0 (fx_qi (fun r N9 V9 => ((r = 0 ∨ r = 1) ∧ ((∃ f, RES g n (2, a, (k0 :: t)) (.inl f) ∧ fI (V9 1) 4 = f ∧ r = 0) ∨ (∃ a9, (∀ o, RES g n (3, a9, (k0 :: t)) o → RES g n (2, a, (k0 :: t)) o) ∧ fI (V9 1) 3 = nI a9 ∧ (a < a9 ∧ a9 ≤ n) ∧ r = 1))) ∧ N = N9 ∧ JW D b N [(1, 1, 3, 3), (1, 1, 4, 4), (x + 1, x + 1, 0, 1000000), (x + 2, x + 2, 0, 1000000), (x, x, 2, 2)] V V9))) 0 [some (.ref (b + p)), some (.int 6), none] [] N V 0 0
  refine aw_aload_n dX5_readTest_0 rfl ?_
  refine aw_get dX5_readTest_1 fl_X5_15 ((hJ0.2.1 _ hp.1 hp.2).trans hR) (by omega) rfl ?_
  obtain ⟨ts_3, tn_3, tf_3, ta_3, e_3, hta_3⟩ := JW.get hJ0 ct_1
  refine aw_callVi (J' := jX10_now) (As := []) (st := []) dX5_readTest_4 tb_390 ok_X10_now ⟨_, e_3⟩ (by omega) rfl rfl (g_X10_nowS l D b N V hN hJ0.1 g hg n a ⟨by omega, by omega⟩ hE hA) rfl (Nat.le_of_ble_eq_true rfl) ⟨Nat.le_of_ble_eq_true rfl, Nat.le_of_ble_eq_true rfl, Nat.le_of_ble_eq_true rfl, Nat.le_of_ble_eq_true rfl⟩ (fun r_4 N_5 V_6 q_7 => ?_)
  obtain ⟨h_2, rfl, rfl⟩ := q_7
  refine aw_eqi (y := (hd g n a)) h_2 ?_
  refine aw_istore_n (ls' := [some (.ref (b + p)), some (.int 6), some (.int (hd g n a))]) dX5_readTest_7 (Nat.le_of_ble_eq_true rfl) rfl ?_
  refine aw_iload_n dX5_readTest_8 rfl ?_
  refine aw_bipush (v := 33) dX5_readTest_9 (by decide) ?_
  refine aw_icmp_ne (tgt := 20) dX5_readTest_11 (by decide) (fun c_8 => ?_) (fun c_8 => ?_)
  · skip
    refine aw_iload_n dX5_readTest_20 rfl ?_
    refine aw_bipush (v := 40) dX5_readTest_21 (by decide) ?_
    refine aw_icmp_ne (tgt := 62) dX5_readTest_23 (by decide) (fun c_9 => ?_) (fun c_9 => ?_)
    · skip
      refine aw_aload_n dX5_readTest_62 rfl ?_
      refine aw_iload_n dX5_readTest_63 rfl ?_
      refine aw_callVi (J' := jX5_readComparison) (As := [.int 6]) (st := []) dX5_readTest_64 tb_517 ok_X5_readComparison ⟨_, ((hJ0.2.1 _ hp.1 hp.2).trans hR)⟩ (by omega) rfl rfl (g_X5_readComparison_6S l D b N V hN hJ0.1 p x ⟨by omega, by omega⟩ hx ((hJ0.2.1 _ hp.1 hp.2).trans hR) g hg n a ⟨by omega, by omega⟩ hE hA hB k0 t hs c_8 c_9) rfl (Nat.le_of_ble_eq_true rfl) ⟨Nat.le_of_ble_eq_true rfl, Nat.le_of_ble_eq_true rfl, Nat.le_of_ble_eq_true rfl, Nat.le_of_ble_eq_true rfl⟩ (fun r_15 N_16 V_14 q_17 => ?_)
      obtain ⟨⟨z_12, h_11⟩, rfl, q_10⟩ := q_17
      have j_13 := JW.trans hJ0 (JW.weak q_10 (Sub.cons LM0 (by decide) (by decide) (by decide) (Or.inr ⟨by decide, by decide⟩) (Sub.cons (LMs LM0) (by decide) (by decide) (by decide) (Or.inr ⟨by decide, by decide⟩) (Sub.cons (LMs (LMs LM0)) (by omega) (by omega) (by decide) (Or.inl rfl) (Sub.cons (LMs (LMs (LMs LM0))) (by omega) (by omega) (by decide) (Or.inl rfl) (Sub.cons (LMs (LMs (LMs (LMs LM0)))) (by omega) (by omega) (by decide) (Or.inr ⟨by decide, by decide⟩) Sub.nil))))))
      rcases h_11 with ⟨f_18, hx_19, hk_20, e_21⟩ | ⟨a_22, hx_23, hk_24, hb_25, e_26⟩
      · skip
        refine aw_eqi (y := 0) e_21 ?_
        refine aw_zreti dX5_readTest_67 rfl (by first | exact Or.inl rfl | exact Or.inr rfl | assumption) (Nat.le_of_ble_eq_true rfl) (Nat.le_of_ble_eq_true rfl) ?_
        exact ⟨⟨(by first | exact Or.inl rfl | exact Or.inr rfl | assumption), Or.inl ⟨_, hx_19, hk_20, rfl⟩⟩, rfl, j_13⟩
      · skip
        refine aw_eqi (y := 1) e_26 ?_
        obtain ⟨hb_25a, hb_25b⟩ := hb_25
        refine aw_zreti dX5_readTest_67 rfl (by first | exact Or.inl rfl | exact Or.inr rfl | assumption) (Nat.le_of_ble_eq_true rfl) (Nat.le_of_ble_eq_true rfl) ?_
        exact ⟨⟨(by first | exact Or.inl rfl | exact Or.inr rfl | assumption), Or.inr ⟨_, hx_23, hk_24, ⟨by omega, by omega⟩, rfl⟩⟩, rfl, j_13⟩
    · skip
      have hlc_9 := hd_lit c_9 (by decide)
      refine aw_aload_n dX5_readTest_26 rfl ?_
      refine aw_iload_n dX5_readTest_27 rfl ?_
      refine aw_callVi (J' := jX5_open) (As := [.int 6]) (st := []) dX5_readTest_28 tb_407 ok_X5_open ⟨_, ((hJ0.2.1 _ hp.1 hp.2).trans hR)⟩ (by omega) rfl rfl (g_X5_open_6S l D b N V hN hJ0.1 p x ⟨by omega, by omega⟩ hx ((hJ0.2.1 _ hp.1 hp.2).trans hR) g hg n a ⟨by omega, by omega⟩ hE hA hB (by omega)) rfl (Nat.le_of_ble_eq_true rfl) ⟨Nat.le_of_ble_eq_true rfl, Nat.le_of_ble_eq_true rfl, Nat.le_of_ble_eq_true rfl, Nat.le_of_ble_eq_true rfl⟩ (fun r_32 N_33 V_31 q_34 => ?_)
      obtain ⟨⟨z_29, h_28⟩, rfl, q_27⟩ := q_34
      have j_30 := JW.trans hJ0 (JW.weak q_27 (Sub.cons (LMs LM0) (by decide) (by decide) (by decide) (Or.inr ⟨by decide, by decide⟩) Sub.nil))
      obtain ⟨rfl, h_28f⟩ := h_28
      refine aw_if_eq (tgt := 60) dX5_readTest_31 (by decide) (fun c_35 => ?_) (fun c_35 => ?_)
      rotate_left
      · exact absurd (by decide) c_35
      refine aw_iconst (v := 0) dX5_readTest_60 (by decide) ?_
      refine aw_zreti dX5_readTest_61 rfl (by first | exact Or.inl rfl | exact Or.inr rfl | assumption) (Nat.le_of_ble_eq_true rfl) (Nat.le_of_ble_eq_true rfl) ?_
      exact ⟨⟨(by first | exact Or.inl rfl | exact Or.inr rfl | assumption), Or.inl ⟨_, T_pard c_8 c_9 (by omega), h_28f, rfl⟩⟩, rfl, j_30⟩
  · skip
    have hlc_8 := hd_lit c_8 (by decide)
    refine aw_aload_n dX5_readTest_14 rfl ?_
    refine aw_iload_n dX5_readTest_15 rfl ?_
    refine aw_callVi (J' := jX5_readNegation) (As := [.int 6]) (st := []) dX5_readTest_16 tb_513 ok_X5_readNegation ⟨_, ((hJ0.2.1 _ hp.1 hp.2).trans hR)⟩ (by omega) rfl rfl (g_X5_readNegation_6S l D b N V hN hJ0.1 p x ⟨by omega, by omega⟩ hx ((hJ0.2.1 _ hp.1 hp.2).trans hR) g hg n a ⟨by omega, by omega⟩ hE hA hB k0 t hs c_8) rfl (Nat.le_of_ble_eq_true rfl) ⟨Nat.le_of_ble_eq_true rfl, Nat.le_of_ble_eq_true rfl, Nat.le_of_ble_eq_true rfl, Nat.le_of_ble_eq_true rfl⟩ (fun r_41 N_42 V_40 q_43 => ?_)
    obtain ⟨⟨z_38, h_37⟩, rfl, q_36⟩ := q_43
    have j_39 := JW.trans hJ0 (JW.weak q_36 (Sub.cons (LMs LM0) (by decide) (by decide) (by decide) (Or.inr ⟨by decide, by decide⟩) Sub.nil))
    rcases h_37 with ⟨f_44, hx_45, hk_46, e_47⟩ | ⟨a_48, hx_49, hk_50, hb_51, e_52⟩
    · skip
      refine aw_eqi (y := 0) e_47 ?_
      refine aw_zreti dX5_readTest_19 rfl (by first | exact Or.inl rfl | exact Or.inr rfl | assumption) (Nat.le_of_ble_eq_true rfl) (Nat.le_of_ble_eq_true rfl) ?_
      exact ⟨⟨(by first | exact Or.inl rfl | exact Or.inr rfl | assumption), Or.inl ⟨_, hx_45, hk_46, rfl⟩⟩, rfl, j_39⟩
    · skip
      refine aw_eqi (y := 1) e_52 ?_
      obtain ⟨hb_51a, hb_51b⟩ := hb_51
      refine aw_zreti dX5_readTest_19 rfl (by first | exact Or.inl rfl | exact Or.inr rfl | assumption) (Nat.le_of_ble_eq_true rfl) (Nat.le_of_ble_eq_true rfl) ?_
      exact ⟨⟨(by first | exact Or.inl rfl | exact Or.inr rfl | assumption), Or.inr ⟨_, hx_49, hk_50, ⟨by omega, by omega⟩, rfl⟩⟩, rfl, j_39⟩

set_option maxHeartbeats 20000000 in
set_option maxRecDepth 100000 in
theorem g_X5_readAllOf_6S (l : Launch) (D : va_G) (b : Nat) (N : Nat) (V : Wd) (hN : 100 ≤ N) (hW : CW D b V) (p x : Nat) (hp : 100 ≤ p ∧ p < N) (hx : x = 57 ∨ x = 65) (hR : V p = cO 5 [.ref (b + 1), .ref (b + x)]) (g : Nat → Int32) (hg : V 2 = cI D 260 g) (n a : Nat) (hna : a ≤ n ∧ n ≤ 240) (hE : fI (V 1) 2 = nI n) (hA : fI (V 1) 3 = nI a) (hB : BY g) (t : List Nat) (hs : dpt (5 :: t) = 6) : MI l D b 10 jX5_readAllOf [.ref (b + p), .int 6] N V 0 0 (fun r N9 V9 => ((r = 0 ∨ r = 1) ∧ ((∃ f, RES g n (2, a, (5 :: t)) (.inl f) ∧ fI (V9 1) 4 = f ∧ r = 0) ∨ (∃ a9, (∀ o, RES g n (3, a9, (5 :: t)) o → RES g n (2, a, (5 :: t)) o) ∧ fI (V9 1) 3 = nI a9 ∧ (a < a9 ∧ a9 ≤ n) ∧ ¬ hd g n a9 = 38 ∧ r = 1))) ∧ N = N9 ∧ JW D b N [(1, 1, 3, 3), (1, 1, 4, 4), (x + 1, x + 1, 0, 1000000), (x + 2, x + 2, 0, 1000000), (x, x, 2, 2)] V V9) := by
  have hJ0 : JW D b N [(1, 1, 3, 3), (1, 1, 4, 4), (x + 1, x + 1, 0, 1000000), (x + 2, x + 2, 0, 1000000), (x, x, 2, 2)] V V := JW.rf hW
  refine mw_of (by decide) (by simp [Value.category]) (Nat.le_of_ble_eq_true rfl) ?_
  show AW l D b jX5_readAllOf (fx_rm 10 0 0) none (fx_MQ D b 0 0 (fx_qi (fun r N9 V9 => ((r = 0 ∨ r = 1) ∧ ((∃ f, RES g n (2, a, (5 :: t)) (.inl f) ∧ fI (V9 1) 4 = f ∧ r = 0) ∨ (∃ a9, (∀ o, RES g n (3, a9, (5 :: t)) o → RES g n (2, a, (5 :: t)) o) ∧ fI (V9 1) 3 = nI a9 ∧ (a < a9 ∧ a9 ≤ n) ∧ ¬ hd g n a9 = 38 ∧ r = 1))) ∧ N = N9 ∧ JW D b N [(1, 1, 3, 3), (1, 1, 4, 4), (x + 1, x + 1, 0, 1000000), (x + 2, x + 2, 0, 1000000), (x, x, 2, 2)] V V9))) 0 [some (.ref (b + p)), some (.int 6), none] [] N V 0 0
  refine aw_aload_n dX5_readAllOf_0 rfl ?_
  refine aw_iload_n dX5_readAllOf_1 rfl ?_
  refine aw_callVi (J' := jX5_readTest) (As := [.int 6]) (st := []) dX5_readAllOf_2 tb_509 ok_X5_readTest ⟨_, ((hJ0.2.1 _ hp.1 hp.2).trans hR)⟩ (by omega) rfl rfl (g_X5_readTest_6S l D b N V hN hJ0.1 p x ⟨by omega, by omega⟩ hx ((hJ0.2.1 _ hp.1 hp.2).trans hR) g hg n a ⟨by omega, by omega⟩ hE hA hB 5 t hs) rfl (Nat.le_of_ble_eq_true rfl) ⟨Nat.le_of_ble_eq_true rfl, Nat.le_of_ble_eq_true rfl, Nat.le_of_ble_eq_true rfl, Nat.le_of_ble_eq_true rfl⟩ (fun r_6 N_7 V_5 q_8 => ?_)
  obtain ⟨⟨z_3, h_2⟩, rfl, q_1⟩ := q_8
  have j_4 := JW.trans hJ0 (JW.weak q_1 (Sub.cons LM0 (by decide) (by decide) (by decide) (Or.inr ⟨by decide, by decide⟩) (Sub.cons (LMs LM0) (by decide) (by decide) (by decide) (Or.inr ⟨by decide, by decide⟩) (Sub.cons (LMs (LMs LM0)) (by omega) (by omega) (by decide) (Or.inl rfl) (Sub.cons (LMs (LMs (LMs LM0))) (by omega) (by omega) (by decide) (Or.inl rfl) (Sub.cons (LMs (LMs (LMs (LMs LM0)))) (by omega) (by omega) (by decide) (Or.inr ⟨by decide, by decide⟩) Sub.nil))))))
  rcases h_2 with ⟨f_9, hx_10, hk_11, e_12⟩ | ⟨a_13, hx_14, hk_15, hb_16, e_17⟩
  · skip
    refine aw_eqi (y := 0) e_12 ?_
    refine aw_if_ne (tgt := 10) dX5_readAllOf_5 (by decide) (fun c_18 => ?_) (fun c_18 => ?_)
    · exact absurd rfl c_18
    refine aw_iconst (v := 0) dX5_readAllOf_8 (by decide) ?_
    refine aw_zreti dX5_readAllOf_9 rfl (by first | exact Or.inl rfl | exact Or.inr rfl | assumption) (Nat.le_of_ble_eq_true rfl) (Nat.le_of_ble_eq_true rfl) ?_
    exact ⟨⟨(by first | exact Or.inl rfl | exact Or.inr rfl | assumption), Or.inl ⟨_, hx_10, hk_11, rfl⟩⟩, rfl, j_4⟩
  · skip
    refine aw_eqi (y := 1) e_17 ?_
    obtain ⟨hb_16a, hb_16b⟩ := hb_16
    refine aw_if_ne (tgt := 10) dX5_readAllOf_5 (by decide) (fun c_19 => ?_) (fun c_19 => ?_)
    rotate_left
    · exact absurd c_19 (by decide)
    have ml_10_20 : ∀ (m : Nat) (a10 : Nat) (V10 : Wd), m = n - a10 → (JW D b N [(1, 1, 3, 3), (1, 1, 4, 4), (x + 1, x + 1, 0, 1000000), (x + 2, x + 2, 0, 1000000), (x, x, 2, 2)] V V10) → (fI (V10 1) 2 = nI n) → (fI (V10 1) 3 = nI a10) → (V10 2 = cI D 260 g) → (∀ o, RES g n (3, a10, (5 :: t)) o → RES g n (2, a, (5 :: t)) o) → (a < a10 ∧ a10 ≤ n) → AW l D b jX5_readAllOf (fx_rm 10 0 0) none (fx_MQ D b 0 0 (fx_qi (fun r N9 V9 => ((r = 0 ∨ r = 1) ∧ ((∃ f, RES g n (2, a, (5 :: t)) (.inl f) ∧ fI (V9 1) 4 = f ∧ r = 0) ∨ (∃ a9, (∀ o, RES g n (3, a9, (5 :: t)) o → RES g n (2, a, (5 :: t)) o) ∧ fI (V9 1) 3 = nI a9 ∧ (a < a9 ∧ a9 ≤ n) ∧ ¬ hd g n a9 = 38 ∧ r = 1))) ∧ N = N9 ∧ JW D b N [(1, 1, 3, 3), (1, 1, 4, 4), (x + 1, x + 1, 0, 1000000), (x + 2, x + 2, 0, 1000000), (x, x, 2, 2)] V V9))) 10 [some (.ref (b + p)), some (.int 6), none] [] N V10 0 0 := by
      intro m; refine Nat.strongRecOn m ?_
      intro m mih_10_20 a10 V10 hm10 i10_0 i10_1 i10_2 i10_3 i10_4 i10_5
      refine aw_aload_n dX5_readAllOf_10 rfl ?_
      refine aw_get dX5_readAllOf_11 fl_X5_15 ((i10_0.2.1 _ hp.1 hp.2).trans hR) (by omega) rfl ?_
      obtain ⟨ts_21, tn_21, tf_21, ta_21, e_21, hta_21⟩ := JW.get i10_0 ct_1
      refine aw_get dX5_readAllOf_14 fl_X5_25 e_21 (by omega) rfl ?_
      refine aw_eqi (y := (nI a10)) ((Eq.symm (congrArg (fun z => fI z 3) e_21)).trans i10_2) ?_
      refine aw_aload_n dX5_readAllOf_17 rfl ?_
      refine aw_get dX5_readAllOf_18 fl_X5_15 ((i10_0.2.1 _ hp.1 hp.2).trans hR) (by omega) rfl ?_
      refine aw_get dX5_readAllOf_21 fl_X5_59 e_21 (by omega) rfl ?_
      refine aw_eqi (y := (nI n)) ((Eq.symm (congrArg (fun z => fI z 2) e_21)).trans i10_1) ?_
      refine aw_icmp_ge (tgt := 84) dX5_readAllOf_24 (by decide) (fun c_22 => ?_) (fun c_22 => ?_)
      · skip
        have nc_22 : n ≤ a10 := (nI_leI (a := n) (b := a10) (by omega) (by omega)).mp c_22
        refine aw_iconst (v := 1) dX5_readAllOf_84 (by decide) ?_
        refine aw_zreti dX5_readAllOf_85 rfl (by first | exact Or.inl rfl | exact Or.inr rfl | assumption) (Nat.le_of_ble_eq_true rfl) (Nat.le_of_ble_eq_true rfl) ?_
        exact ⟨⟨(by first | exact Or.inl rfl | exact Or.inr rfl | assumption), Or.inr ⟨_, i10_4, i10_2, ⟨by omega, by omega⟩, (hd_ne (by omega) (by decide)), rfl⟩⟩, rfl, i10_0⟩
      · skip
        have nc_22 : ¬ (n ≤ a10) := fun z => c_22 ((nI_leI (a := n) (b := a10) (by omega) (by omega)).mpr z)
        refine aw_aload_n dX5_readAllOf_27 rfl ?_
        refine aw_get dX5_readAllOf_28 fl_X5_15 ((i10_0.2.1 _ hp.1 hp.2).trans hR) (by omega) rfl ?_
        refine aw_callVi (J' := jX10_now) (As := []) (st := []) dX5_readAllOf_31 tb_390 ok_X10_now ⟨_, e_21⟩ (by omega) rfl rfl (g_X10_nowS l D b N V10 hN i10_0.1 g i10_3 n a10 ⟨by omega, by omega⟩ i10_1 i10_2) rfl (Nat.le_of_ble_eq_true rfl) ⟨Nat.le_of_ble_eq_true rfl, Nat.le_of_ble_eq_true rfl, Nat.le_of_ble_eq_true rfl, Nat.le_of_ble_eq_true rfl⟩ (fun r_25 N_26 V_27 q_28 => ?_)
        obtain ⟨h_24, rfl, rfl⟩ := q_28
        refine aw_eqi (y := (hd g n a10)) h_24 ?_
        refine aw_bipush (v := 38) dX5_readAllOf_34 (by decide) ?_
        refine aw_icmp_ne (tgt := 84) dX5_readAllOf_36 (by decide) (fun c_29 => ?_) (fun c_29 => ?_)
        · skip
          refine aw_iconst (v := 1) dX5_readAllOf_84 (by decide) ?_
          refine aw_zreti dX5_readAllOf_85 rfl (by first | exact Or.inl rfl | exact Or.inr rfl | assumption) (Nat.le_of_ble_eq_true rfl) (Nat.le_of_ble_eq_true rfl) ?_
          exact ⟨⟨(by first | exact Or.inl rfl | exact Or.inr rfl | assumption), Or.inr ⟨_, i10_4, i10_2, ⟨by omega, by omega⟩, c_29, rfl⟩⟩, rfl, i10_0⟩
        · skip
          have hlc_29 := hd_lit c_29 (by decide)
          refine aw_aload_n dX5_readAllOf_39 rfl ?_
          refine aw_get dX5_readAllOf_40 fl_X5_15 ((i10_0.2.1 _ hp.1 hp.2).trans hR) (by omega) rfl ?_
          refine aw_dup dX5_readAllOf_43 rfl ?_
          refine aw_get dX5_readAllOf_44 fl_X5_25 e_21 (by omega) rfl ?_
          refine aw_eqi (y := (nI a10)) ((Eq.symm (congrArg (fun z => fI z 3) e_21)).trans i10_2) ?_
          refine aw_iconst (v := 1) dX5_readAllOf_47 (by decide) ?_
          refine aw_iadd dX5_readAllOf_48 ?_
          refine aw_eqi (y := nI (a10 + 1)) (nI_add _ _) ?_
          refine aw_put dX5_readAllOf_49 fp_X5_25 e_21 (by omega) rfl rfl (Nat.le_of_ble_eq_true rfl) rfl ?_
          refine aw_up i10_0 ct_1 ⟨_, _, _, (a10 + 1), rfl, (by first | omega | (split <;> omega))⟩ (WO (s := 3) (x := .int (nI (a10 + 1))) e_21 rfl LM0 (by decide) (by decide) (by decide) (Or.inl (by decide))) (fun V_30 j_30 k_30 e_30 => ?_)
          refine aw_aload_n dX5_readAllOf_52 rfl ?_
          refine aw_get dX5_readAllOf_53 fl_X5_9 ((j_30.2.1 _ hp.1 hp.2).trans hR) (by omega) rfl ?_
          refine aw_bipush (v := 38) dX5_readAllOf_56 (by decide) ?_
          refine aw_iconst (v := 0) dX5_readAllOf_58 (by decide) ?_
          obtain ⟨s8_34, r8_34, h8_34, e_34, hs_34, hr_34⟩ := JW.get j_30 (ctl_0 hx)
          refine aw_callVi (J' := jX4_add) (As := [.int 38, .int 0]) (st := []) dX5_readAllOf_59 tb_415 ok_X4_add ⟨_, e_34⟩ (by omega) rfl rfl (g_X4_add l D b N V_30 hN j_30.1 x hx 38 0 (by decide)) rfl (Nat.le_of_ble_eq_true rfl) ⟨Nat.le_of_ble_eq_true rfl, Nat.le_of_ble_eq_true rfl, Nat.le_of_ble_eq_true rfl, Nat.le_of_ble_eq_true rfl⟩ (fun r_35 N_36 V_33 q_37 => ?_)
          obtain ⟨rfl, q_31⟩ := q_37
          have j_32 := JW.trans j_30 (JW.weak q_31 (Sub.cons (LMs (LMs LM0)) (by omega) (by omega) (by decide) (Or.inl rfl) (Sub.cons (LMs (LMs (LMs LM0))) (by omega) (by omega) (by decide) (Or.inl rfl) (Sub.cons (LMs (LMs (LMs (LMs LM0)))) (by omega) (by omega) (by decide) (Or.inr ⟨by decide, by decide⟩) Sub.nil))))
          refine aw_istore_n (ls' := [some (.ref (b + p)), some (.int 6), some (.int r_35)]) dX5_readAllOf_62 (Nat.le_of_ble_eq_true rfl) rfl ?_
          refine aw_aload_n dX5_readAllOf_63 rfl ?_
          refine aw_iload_n dX5_readAllOf_64 rfl ?_
          refine aw_callVi (J' := jX5_readTest) (As := [.int 6]) (st := []) dX5_readAllOf_65 tb_509 ok_X5_readTest ⟨_, ((j_32.2.1 _ hp.1 hp.2).trans hR)⟩ (by omega) rfl rfl (g_X5_readTest_6S l D b N V_33 hN j_32.1 p x ⟨by omega, by omega⟩ hx ((j_32.2.1 _ hp.1 hp.2).trans hR) g ((JW.same q_31 (by decide) (fun k => (nfc (by omega) (nfc (by omega) (nfc (by omega) nf0))))).trans ((k_30 _ (by decide)).trans i10_3)) n (a10 + 1) ⟨by omega, by omega⟩ ((JW.fI q_31 (by omega) (nfc (by omega) (nfc (by omega) (nfc (by omega) nf0)))).trans (KA (s := 3) (x := .int (nI (a10 + 1))) e_21 rfl (by decide) e_30 k_30 i10_1)) ((JW.fI q_31 (by omega) (nfc (by omega) (nfc (by omega) (nfc (by omega) nf0)))).trans ((congrArg (fun z => fI z 3) e_30).trans rfl)) hB 5 t hs) rfl (Nat.le_of_ble_eq_true rfl) ⟨Nat.le_of_ble_eq_true rfl, Nat.le_of_ble_eq_true rfl, Nat.le_of_ble_eq_true rfl, Nat.le_of_ble_eq_true rfl⟩ (fun r_43 N_44 V_42 q_45 => ?_)
          obtain ⟨⟨z_40, h_39⟩, rfl, q_38⟩ := q_45
          have j_41 := JW.trans j_32 (JW.weak q_38 (Sub.cons LM0 (by decide) (by decide) (by decide) (Or.inr ⟨by decide, by decide⟩) (Sub.cons (LMs LM0) (by decide) (by decide) (by decide) (Or.inr ⟨by decide, by decide⟩) (Sub.cons (LMs (LMs LM0)) (by omega) (by omega) (by decide) (Or.inl rfl) (Sub.cons (LMs (LMs (LMs LM0))) (by omega) (by omega) (by decide) (Or.inl rfl) (Sub.cons (LMs (LMs (LMs (LMs LM0)))) (by omega) (by omega) (by decide) (Or.inr ⟨by decide, by decide⟩) Sub.nil))))))
          rcases h_39 with ⟨f_46, hx_47, hk_48, e_49⟩ | ⟨a_50, hx_51, hk_52, hb_53, e_54⟩
          · skip
            refine aw_eqi (y := 0) e_49 ?_
            refine aw_if_ne (tgt := 73) dX5_readAllOf_68 (by decide) (fun c_55 => ?_) (fun c_55 => ?_)
            · exact absurd rfl c_55
            refine aw_iconst (v := 0) dX5_readAllOf_71 (by decide) ?_
            refine aw_zreti dX5_readAllOf_72 rfl (by first | exact Or.inl rfl | exact Or.inr rfl | assumption) (Nat.le_of_ble_eq_true rfl) (Nat.le_of_ble_eq_true rfl) ?_
            exact ⟨⟨(by first | exact Or.inl rfl | exact Or.inr rfl | assumption), Or.inl ⟨_, i10_4 _ (A_and (Or.inl c_29) hx_47), hk_48, rfl⟩⟩, rfl, j_41⟩
          · skip
            refine aw_eqi (y := 1) e_54 ?_
            obtain ⟨hb_53a, hb_53b⟩ := hb_53
            refine aw_if_ne (tgt := 73) dX5_readAllOf_68 (by decide) (fun c_56 => ?_) (fun c_56 => ?_)
            rotate_left
            · exact absurd c_56 (by decide)
            refine aw_aload_n dX5_readAllOf_73 rfl ?_
            refine aw_get dX5_readAllOf_74 fl_X5_9 ((j_41.2.1 _ hp.1 hp.2).trans hR) (by omega) rfl ?_
            refine aw_iload_n dX5_readAllOf_77 rfl ?_
            obtain ⟨s8_60, r8_60, h8_60, e_60, hs_60, hr_60⟩ := JW.get j_41 (ctl_0 hx)
            refine aw_callVv (J' := jX4_leadHere) (As := [.int r_35]) (st := []) dX5_readAllOf_78 tb_521 ok_X4_leadHere ⟨_, e_60⟩ (by omega) rfl rfl (g_X4_leadHere l D b N V_42 hN j_41.1 x hx r_35) rfl (Nat.le_of_ble_eq_true rfl) ⟨Nat.le_of_ble_eq_true rfl, Nat.le_of_ble_eq_true rfl, Nat.le_of_ble_eq_true rfl, Nat.le_of_ble_eq_true rfl⟩ (fun  N_61 V_59 q_62 => ?_)
            obtain ⟨rfl, q_57⟩ := q_62
            have j_58 := JW.trans j_41 (JW.weak q_57 (Sub.cons (LMs (LMs (LMs LM0))) (by omega) (by omega) (by decide) (Or.inl rfl) Sub.nil))
            refine aw_goto (tgt := 10) dX5_readAllOf_81 (by decide) ?_
            refine aw_le ?_ (mih_10_20 _ (by omega) a_50 V_59 rfl (j_58) (((JW.fI q_57 (by omega) (nfc (by omega) nf0)).trans ((JW.fI q_38 (by omega) (nfc (by omega) (nfc (by omega) (nfc (by omega) (nfc (by omega) (nfc (by omega) nf0)))))).trans ((JW.fI q_31 (by omega) (nfc (by omega) (nfc (by omega) (nfc (by omega) nf0)))).trans (KA (s := 3) (x := .int (nI (a10 + 1))) e_21 rfl (by decide) e_30 k_30 i10_1))))) (((JW.fI q_57 (by omega) (nfc (by omega) nf0)).trans hk_52)) (((JW.same q_57 (by decide) (fun k => (nfc (by omega) nf0))).trans ((JW.same q_38 (by decide) (fun k => (nfc (by omega) (nfc (by omega) (nfc (by omega) (nfc (by omega) (nfc (by omega) nf0))))))).trans ((JW.same q_31 (by decide) (fun k => (nfc (by omega) (nfc (by omega) (nfc (by omega) nf0))))).trans ((k_30 _ (by decide)).trans i10_3))))) (fun o q => i10_4 o (A_and (Or.inl c_29) (hx_51 o q))) (⟨by omega, by omega⟩))
            exact ⟨rfl, ⟨rfl, trivial⟩⟩
    refine aw_le ?_ (ml_10_20 _ a_13 V_5 rfl (j_4) (((JW.fI q_1 (by omega) (nfc (by omega) (nfc (by omega) (nfc (by omega) (nfc (by omega) (nfc (by omega) nf0)))))).trans hE)) (hk_15) (((JW.same q_1 (by decide) (fun k => (nfc (by omega) (nfc (by omega) (nfc (by omega) (nfc (by omega) (nfc (by omega) nf0))))))).trans hg)) (hx_14) (⟨by omega, by omega⟩))
    exact ⟨rfl, ⟨rfl, trivial⟩⟩

set_option maxHeartbeats 20000000 in
set_option maxRecDepth 100000 in
theorem g_X5_readAnyOf_6S (l : Launch) (D : va_G) (b : Nat) (N : Nat) (V : Wd) (hN : 100 ≤ N) (hW : CW D b V) (p x : Nat) (hp : 100 ≤ p ∧ p < N) (hx : x = 57 ∨ x = 65) (hR : V p = cO 5 [.ref (b + 1), .ref (b + x)]) (g : Nat → Int32) (hg : V 2 = cI D 260 g) (n a : Nat) (hna : a ≤ n ∧ n ≤ 240) (hE : fI (V 1) 2 = nI n) (hA : fI (V 1) 3 = nI a) (hB : BY g) (t : List Nat) (hs : dpt (5 :: t) = 6) : MI l D b 11 jX5_readAnyOf [.ref (b + p), .int 6] N V 0 0 (fun r N9 V9 => ((r = 0 ∨ r = 1) ∧ ((∃ f, RES g n (2, a, (5 :: t)) (.inl f) ∧ fI (V9 1) 4 = f ∧ r = 0) ∨ (∃ a9, (∀ o, RES g n (3, a9, (5 :: t)) o → RES g n (2, a, (5 :: t)) o) ∧ fI (V9 1) 3 = nI a9 ∧ (a < a9 ∧ a9 ≤ n) ∧ (¬ hd g n a9 = 38 ∧ ¬ hd g n a9 = 124) ∧ r = 1))) ∧ N = N9 ∧ JW D b N [(1, 1, 3, 3), (1, 1, 4, 4), (x + 1, x + 1, 0, 1000000), (x + 2, x + 2, 0, 1000000), (x, x, 2, 2)] V V9) := by
  have hJ0 : JW D b N [(1, 1, 3, 3), (1, 1, 4, 4), (x + 1, x + 1, 0, 1000000), (x + 2, x + 2, 0, 1000000), (x, x, 2, 2)] V V := JW.rf hW
  refine mw_of (by decide) (by simp [Value.category]) (Nat.le_of_ble_eq_true rfl) ?_
  show AW l D b jX5_readAnyOf (fx_rm 11 0 0) none (fx_MQ D b 0 0 (fx_qi (fun r N9 V9 => ((r = 0 ∨ r = 1) ∧ ((∃ f, RES g n (2, a, (5 :: t)) (.inl f) ∧ fI (V9 1) 4 = f ∧ r = 0) ∨ (∃ a9, (∀ o, RES g n (3, a9, (5 :: t)) o → RES g n (2, a, (5 :: t)) o) ∧ fI (V9 1) 3 = nI a9 ∧ (a < a9 ∧ a9 ≤ n) ∧ (¬ hd g n a9 = 38 ∧ ¬ hd g n a9 = 124) ∧ r = 1))) ∧ N = N9 ∧ JW D b N [(1, 1, 3, 3), (1, 1, 4, 4), (x + 1, x + 1, 0, 1000000), (x + 2, x + 2, 0, 1000000), (x, x, 2, 2)] V V9))) 0 [some (.ref (b + p)), some (.int 6), none] [] N V 0 0
  refine aw_aload_n dX5_readAnyOf_0 rfl ?_
  refine aw_iload_n dX5_readAnyOf_1 rfl ?_
  refine aw_callVi (J' := jX5_readAllOf) (As := [.int 6]) (st := []) dX5_readAnyOf_2 tb_505 ok_X5_readAllOf ⟨_, ((hJ0.2.1 _ hp.1 hp.2).trans hR)⟩ (by omega) rfl rfl (g_X5_readAllOf_6S l D b N V hN hJ0.1 p x ⟨by omega, by omega⟩ hx ((hJ0.2.1 _ hp.1 hp.2).trans hR) g hg n a ⟨by omega, by omega⟩ hE hA hB t hs) rfl (Nat.le_of_ble_eq_true rfl) ⟨Nat.le_of_ble_eq_true rfl, Nat.le_of_ble_eq_true rfl, Nat.le_of_ble_eq_true rfl, Nat.le_of_ble_eq_true rfl⟩ (fun r_6 N_7 V_5 q_8 => ?_)
  obtain ⟨⟨z_3, h_2⟩, rfl, q_1⟩ := q_8
  have j_4 := JW.trans hJ0 (JW.weak q_1 (Sub.cons LM0 (by decide) (by decide) (by decide) (Or.inr ⟨by decide, by decide⟩) (Sub.cons (LMs LM0) (by decide) (by decide) (by decide) (Or.inr ⟨by decide, by decide⟩) (Sub.cons (LMs (LMs LM0)) (by omega) (by omega) (by decide) (Or.inl rfl) (Sub.cons (LMs (LMs (LMs LM0))) (by omega) (by omega) (by decide) (Or.inl rfl) (Sub.cons (LMs (LMs (LMs (LMs LM0)))) (by omega) (by omega) (by decide) (Or.inr ⟨by decide, by decide⟩) Sub.nil))))))
  rcases h_2 with ⟨f_9, hx_10, hk_11, e_12⟩ | ⟨a_13, hx_14, hk_15, hb_16, hz_17, e_18⟩
  · skip
    refine aw_eqi (y := 0) e_12 ?_
    refine aw_if_ne (tgt := 10) dX5_readAnyOf_5 (by decide) (fun c_19 => ?_) (fun c_19 => ?_)
    · exact absurd rfl c_19
    refine aw_iconst (v := 0) dX5_readAnyOf_8 (by decide) ?_
    refine aw_zreti dX5_readAnyOf_9 rfl (by first | exact Or.inl rfl | exact Or.inr rfl | assumption) (Nat.le_of_ble_eq_true rfl) (Nat.le_of_ble_eq_true rfl) ?_
    exact ⟨⟨(by first | exact Or.inl rfl | exact Or.inr rfl | assumption), Or.inl ⟨_, hx_10, hk_11, rfl⟩⟩, rfl, j_4⟩
  · skip
    refine aw_eqi (y := 1) e_18 ?_
    obtain ⟨hb_16a, hb_16b⟩ := hb_16
    refine aw_if_ne (tgt := 10) dX5_readAnyOf_5 (by decide) (fun c_20 => ?_) (fun c_20 => ?_)
    rotate_left
    · exact absurd c_20 (by decide)
    have ml_10_21 : ∀ (m : Nat) (a10 : Nat) (V10 : Wd), m = n - a10 → (JW D b N [(1, 1, 3, 3), (1, 1, 4, 4), (x + 1, x + 1, 0, 1000000), (x + 2, x + 2, 0, 1000000), (x, x, 2, 2)] V V10) → (fI (V10 1) 2 = nI n) → (fI (V10 1) 3 = nI a10) → (V10 2 = cI D 260 g) → (∀ o, RES g n (3, a10, (5 :: t)) o → RES g n (2, a, (5 :: t)) o) → (a < a10 ∧ a10 ≤ n) → (¬ hd g n a10 = 38) → AW l D b jX5_readAnyOf (fx_rm 11 0 0) none (fx_MQ D b 0 0 (fx_qi (fun r N9 V9 => ((r = 0 ∨ r = 1) ∧ ((∃ f, RES g n (2, a, (5 :: t)) (.inl f) ∧ fI (V9 1) 4 = f ∧ r = 0) ∨ (∃ a9, (∀ o, RES g n (3, a9, (5 :: t)) o → RES g n (2, a, (5 :: t)) o) ∧ fI (V9 1) 3 = nI a9 ∧ (a < a9 ∧ a9 ≤ n) ∧ (¬ hd g n a9 = 38 ∧ ¬ hd g n a9 = 124) ∧ r = 1))) ∧ N = N9 ∧ JW D b N [(1, 1, 3, 3), (1, 1, 4, 4), (x + 1, x + 1, 0, 1000000), (x + 2, x + 2, 0, 1000000), (x, x, 2, 2)] V V9))) 10 [some (.ref (b + p)), some (.int 6), none] [] N V10 0 0 := by
      intro m; refine Nat.strongRecOn m ?_
      intro m mih_10_21 a10 V10 hm10 i10_0 i10_1 i10_2 i10_3 i10_4 i10_5 i10_6
      refine aw_aload_n dX5_readAnyOf_10 rfl ?_
      refine aw_get dX5_readAnyOf_11 fl_X5_15 ((i10_0.2.1 _ hp.1 hp.2).trans hR) (by omega) rfl ?_
      obtain ⟨ts_22, tn_22, tf_22, ta_22, e_22, hta_22⟩ := JW.get i10_0 ct_1
      refine aw_get dX5_readAnyOf_14 fl_X5_25 e_22 (by omega) rfl ?_
      refine aw_eqi (y := (nI a10)) ((Eq.symm (congrArg (fun z => fI z 3) e_22)).trans i10_2) ?_
      refine aw_aload_n dX5_readAnyOf_17 rfl ?_
      refine aw_get dX5_readAnyOf_18 fl_X5_15 ((i10_0.2.1 _ hp.1 hp.2).trans hR) (by omega) rfl ?_
      refine aw_get dX5_readAnyOf_21 fl_X5_59 e_22 (by omega) rfl ?_
      refine aw_eqi (y := (nI n)) ((Eq.symm (congrArg (fun z => fI z 2) e_22)).trans i10_1) ?_
      refine aw_icmp_ge (tgt := 84) dX5_readAnyOf_24 (by decide) (fun c_23 => ?_) (fun c_23 => ?_)
      · skip
        have nc_23 : n ≤ a10 := (nI_leI (a := n) (b := a10) (by omega) (by omega)).mp c_23
        refine aw_iconst (v := 1) dX5_readAnyOf_84 (by decide) ?_
        refine aw_zreti dX5_readAnyOf_85 rfl (by first | exact Or.inl rfl | exact Or.inr rfl | assumption) (Nat.le_of_ble_eq_true rfl) (Nat.le_of_ble_eq_true rfl) ?_
        exact ⟨⟨(by first | exact Or.inl rfl | exact Or.inr rfl | assumption), Or.inr ⟨_, i10_4, i10_2, ⟨by omega, by omega⟩, ⟨i10_6, (hd_ne (by omega) (by decide))⟩, rfl⟩⟩, rfl, i10_0⟩
      · skip
        have nc_23 : ¬ (n ≤ a10) := fun z => c_23 ((nI_leI (a := n) (b := a10) (by omega) (by omega)).mpr z)
        refine aw_aload_n dX5_readAnyOf_27 rfl ?_
        refine aw_get dX5_readAnyOf_28 fl_X5_15 ((i10_0.2.1 _ hp.1 hp.2).trans hR) (by omega) rfl ?_
        refine aw_callVi (J' := jX10_now) (As := []) (st := []) dX5_readAnyOf_31 tb_390 ok_X10_now ⟨_, e_22⟩ (by omega) rfl rfl (g_X10_nowS l D b N V10 hN i10_0.1 g i10_3 n a10 ⟨by omega, by omega⟩ i10_1 i10_2) rfl (Nat.le_of_ble_eq_true rfl) ⟨Nat.le_of_ble_eq_true rfl, Nat.le_of_ble_eq_true rfl, Nat.le_of_ble_eq_true rfl, Nat.le_of_ble_eq_true rfl⟩ (fun r_26 N_27 V_28 q_29 => ?_)
        obtain ⟨h_25, rfl, rfl⟩ := q_29
        refine aw_eqi (y := (hd g n a10)) h_25 ?_
        refine aw_bipush (v := 124) dX5_readAnyOf_34 (by decide) ?_
        refine aw_icmp_ne (tgt := 84) dX5_readAnyOf_36 (by decide) (fun c_30 => ?_) (fun c_30 => ?_)
        · skip
          refine aw_iconst (v := 1) dX5_readAnyOf_84 (by decide) ?_
          refine aw_zreti dX5_readAnyOf_85 rfl (by first | exact Or.inl rfl | exact Or.inr rfl | assumption) (Nat.le_of_ble_eq_true rfl) (Nat.le_of_ble_eq_true rfl) ?_
          exact ⟨⟨(by first | exact Or.inl rfl | exact Or.inr rfl | assumption), Or.inr ⟨_, i10_4, i10_2, ⟨by omega, by omega⟩, ⟨i10_6, c_30⟩, rfl⟩⟩, rfl, i10_0⟩
        · skip
          have hlc_30 := hd_lit c_30 (by decide)
          refine aw_aload_n dX5_readAnyOf_39 rfl ?_
          refine aw_get dX5_readAnyOf_40 fl_X5_15 ((i10_0.2.1 _ hp.1 hp.2).trans hR) (by omega) rfl ?_
          refine aw_dup dX5_readAnyOf_43 rfl ?_
          refine aw_get dX5_readAnyOf_44 fl_X5_25 e_22 (by omega) rfl ?_
          refine aw_eqi (y := (nI a10)) ((Eq.symm (congrArg (fun z => fI z 3) e_22)).trans i10_2) ?_
          refine aw_iconst (v := 1) dX5_readAnyOf_47 (by decide) ?_
          refine aw_iadd dX5_readAnyOf_48 ?_
          refine aw_eqi (y := nI (a10 + 1)) (nI_add _ _) ?_
          refine aw_put dX5_readAnyOf_49 fp_X5_25 e_22 (by omega) rfl rfl (Nat.le_of_ble_eq_true rfl) rfl ?_
          refine aw_up i10_0 ct_1 ⟨_, _, _, (a10 + 1), rfl, (by first | omega | (split <;> omega))⟩ (WO (s := 3) (x := .int (nI (a10 + 1))) e_22 rfl LM0 (by decide) (by decide) (by decide) (Or.inl (by decide))) (fun V_31 j_31 k_31 e_31 => ?_)
          refine aw_aload_n dX5_readAnyOf_52 rfl ?_
          refine aw_get dX5_readAnyOf_53 fl_X5_9 ((j_31.2.1 _ hp.1 hp.2).trans hR) (by omega) rfl ?_
          refine aw_bipush (v := 124) dX5_readAnyOf_56 (by decide) ?_
          refine aw_iconst (v := 0) dX5_readAnyOf_58 (by decide) ?_
          obtain ⟨s8_35, r8_35, h8_35, e_35, hs_35, hr_35⟩ := JW.get j_31 (ctl_0 hx)
          refine aw_callVi (J' := jX4_add) (As := [.int 124, .int 0]) (st := []) dX5_readAnyOf_59 tb_415 ok_X4_add ⟨_, e_35⟩ (by omega) rfl rfl (g_X4_add l D b N V_31 hN j_31.1 x hx 124 0 (by decide)) rfl (Nat.le_of_ble_eq_true rfl) ⟨Nat.le_of_ble_eq_true rfl, Nat.le_of_ble_eq_true rfl, Nat.le_of_ble_eq_true rfl, Nat.le_of_ble_eq_true rfl⟩ (fun r_36 N_37 V_34 q_38 => ?_)
          obtain ⟨rfl, q_32⟩ := q_38
          have j_33 := JW.trans j_31 (JW.weak q_32 (Sub.cons (LMs (LMs LM0)) (by omega) (by omega) (by decide) (Or.inl rfl) (Sub.cons (LMs (LMs (LMs LM0))) (by omega) (by omega) (by decide) (Or.inl rfl) (Sub.cons (LMs (LMs (LMs (LMs LM0)))) (by omega) (by omega) (by decide) (Or.inr ⟨by decide, by decide⟩) Sub.nil))))
          refine aw_istore_n (ls' := [some (.ref (b + p)), some (.int 6), some (.int r_36)]) dX5_readAnyOf_62 (Nat.le_of_ble_eq_true rfl) rfl ?_
          refine aw_aload_n dX5_readAnyOf_63 rfl ?_
          refine aw_iload_n dX5_readAnyOf_64 rfl ?_
          refine aw_callVi (J' := jX5_readAllOf) (As := [.int 6]) (st := []) dX5_readAnyOf_65 tb_505 ok_X5_readAllOf ⟨_, ((j_33.2.1 _ hp.1 hp.2).trans hR)⟩ (by omega) rfl rfl (g_X5_readAllOf_6S l D b N V_34 hN j_33.1 p x ⟨by omega, by omega⟩ hx ((j_33.2.1 _ hp.1 hp.2).trans hR) g ((JW.same q_32 (by decide) (fun k => (nfc (by omega) (nfc (by omega) (nfc (by omega) nf0))))).trans ((k_31 _ (by decide)).trans i10_3)) n (a10 + 1) ⟨by omega, by omega⟩ ((JW.fI q_32 (by omega) (nfc (by omega) (nfc (by omega) (nfc (by omega) nf0)))).trans (KA (s := 3) (x := .int (nI (a10 + 1))) e_22 rfl (by decide) e_31 k_31 i10_1)) ((JW.fI q_32 (by omega) (nfc (by omega) (nfc (by omega) (nfc (by omega) nf0)))).trans ((congrArg (fun z => fI z 3) e_31).trans rfl)) hB t hs) rfl (Nat.le_of_ble_eq_true rfl) ⟨Nat.le_of_ble_eq_true rfl, Nat.le_of_ble_eq_true rfl, Nat.le_of_ble_eq_true rfl, Nat.le_of_ble_eq_true rfl⟩ (fun r_44 N_45 V_43 q_46 => ?_)
          obtain ⟨⟨z_41, h_40⟩, rfl, q_39⟩ := q_46
          have j_42 := JW.trans j_33 (JW.weak q_39 (Sub.cons LM0 (by decide) (by decide) (by decide) (Or.inr ⟨by decide, by decide⟩) (Sub.cons (LMs LM0) (by decide) (by decide) (by decide) (Or.inr ⟨by decide, by decide⟩) (Sub.cons (LMs (LMs LM0)) (by omega) (by omega) (by decide) (Or.inl rfl) (Sub.cons (LMs (LMs (LMs LM0))) (by omega) (by omega) (by decide) (Or.inl rfl) (Sub.cons (LMs (LMs (LMs (LMs LM0)))) (by omega) (by omega) (by decide) (Or.inr ⟨by decide, by decide⟩) Sub.nil))))))
          rcases h_40 with ⟨f_47, hx_48, hk_49, e_50⟩ | ⟨a_51, hx_52, hk_53, hb_54, hz_55, e_56⟩
          · skip
            refine aw_eqi (y := 0) e_50 ?_
            refine aw_if_ne (tgt := 73) dX5_readAnyOf_68 (by decide) (fun c_57 => ?_) (fun c_57 => ?_)
            · exact absurd rfl c_57
            refine aw_iconst (v := 0) dX5_readAnyOf_71 (by decide) ?_
            refine aw_zreti dX5_readAnyOf_72 rfl (by first | exact Or.inl rfl | exact Or.inr rfl | assumption) (Nat.le_of_ble_eq_true rfl) (Nat.le_of_ble_eq_true rfl) ?_
            exact ⟨⟨(by first | exact Or.inl rfl | exact Or.inr rfl | assumption), Or.inl ⟨_, i10_4 _ (A_and (Or.inr c_30) hx_48), hk_49, rfl⟩⟩, rfl, j_42⟩
          · skip
            refine aw_eqi (y := 1) e_56 ?_
            obtain ⟨hb_54a, hb_54b⟩ := hb_54
            refine aw_if_ne (tgt := 73) dX5_readAnyOf_68 (by decide) (fun c_58 => ?_) (fun c_58 => ?_)
            rotate_left
            · exact absurd c_58 (by decide)
            refine aw_aload_n dX5_readAnyOf_73 rfl ?_
            refine aw_get dX5_readAnyOf_74 fl_X5_9 ((j_42.2.1 _ hp.1 hp.2).trans hR) (by omega) rfl ?_
            refine aw_iload_n dX5_readAnyOf_77 rfl ?_
            obtain ⟨s8_62, r8_62, h8_62, e_62, hs_62, hr_62⟩ := JW.get j_42 (ctl_0 hx)
            refine aw_callVv (J' := jX4_leadHere) (As := [.int r_36]) (st := []) dX5_readAnyOf_78 tb_521 ok_X4_leadHere ⟨_, e_62⟩ (by omega) rfl rfl (g_X4_leadHere l D b N V_43 hN j_42.1 x hx r_36) rfl (Nat.le_of_ble_eq_true rfl) ⟨Nat.le_of_ble_eq_true rfl, Nat.le_of_ble_eq_true rfl, Nat.le_of_ble_eq_true rfl, Nat.le_of_ble_eq_true rfl⟩ (fun  N_63 V_61 q_64 => ?_)
            obtain ⟨rfl, q_59⟩ := q_64
            have j_60 := JW.trans j_42 (JW.weak q_59 (Sub.cons (LMs (LMs (LMs LM0))) (by omega) (by omega) (by decide) (Or.inl rfl) Sub.nil))
            refine aw_goto (tgt := 10) dX5_readAnyOf_81 (by decide) ?_
            refine aw_le ?_ (mih_10_21 _ (by omega) a_51 V_61 rfl (j_60) (((JW.fI q_59 (by omega) (nfc (by omega) nf0)).trans ((JW.fI q_39 (by omega) (nfc (by omega) (nfc (by omega) (nfc (by omega) (nfc (by omega) (nfc (by omega) nf0)))))).trans ((JW.fI q_32 (by omega) (nfc (by omega) (nfc (by omega) (nfc (by omega) nf0)))).trans (KA (s := 3) (x := .int (nI (a10 + 1))) e_22 rfl (by decide) e_31 k_31 i10_1))))) (((JW.fI q_59 (by omega) (nfc (by omega) nf0)).trans hk_53)) (((JW.same q_59 (by decide) (fun k => (nfc (by omega) nf0))).trans ((JW.same q_39 (by decide) (fun k => (nfc (by omega) (nfc (by omega) (nfc (by omega) (nfc (by omega) (nfc (by omega) nf0))))))).trans ((JW.same q_32 (by decide) (fun k => (nfc (by omega) (nfc (by omega) (nfc (by omega) nf0))))).trans ((k_31 _ (by decide)).trans i10_3))))) (fun o q => i10_4 o (A_and (Or.inr c_30) (hx_52 o q))) (⟨by omega, by omega⟩) (hz_55))
            exact ⟨rfl, ⟨rfl, trivial⟩⟩
    refine aw_le ?_ (ml_10_21 _ a_13 V_5 rfl (j_4) (((JW.fI q_1 (by omega) (nfc (by omega) (nfc (by omega) (nfc (by omega) (nfc (by omega) (nfc (by omega) nf0)))))).trans hE)) (hk_15) (((JW.same q_1 (by decide) (fun k => (nfc (by omega) (nfc (by omega) (nfc (by omega) (nfc (by omega) (nfc (by omega) nf0))))))).trans hg)) (hx_14) (⟨by omega, by omega⟩) (hz_17))
    exact ⟨rfl, ⟨rfl, trivial⟩⟩

