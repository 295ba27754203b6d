set_option maxHeartbeats 4000000 in
set_option maxRecDepth 100000 in
theorem g_X10_holds (l : Launch) (D : va_G) (b : Nat) (N : Nat) (V : Wd) (hN : 100 ≤ N) (hW : CW D b V) (n0 : Int32) (n1 : Int32) (n2 : Int32)  : MI l D b 0 jX10_holds [.ref (b + 1), .int n0, .int n1, .int n2] N V 0 0 (fun r N9 V9 => (r = 0 ∨ r = 1) ∧ N = N9 ∧ V = V9) := by
  have hJ0 : JW D b N [] V V := JW.rf hW
  refine mw_of (by decide) (by simp [Value.category]) (Nat.le_of_ble_eq_true rfl) ?_
  show AW l D b jX10_holds (fx_rm 0 0 0) none (fx_MQ D b 0 0 (fx_qi (fun r N9 V9 => (r = 0 ∨ r = 1) ∧ N = N9 ∧ V = V9))) 0 [some (.ref (b + 1)), some (.int n0), some (.int n1), some (.int n2)] [] N V 0 0
  refine aw_iload_n dX10_holds_0 rfl ?_
  refine aw_iload_n dX10_holds_1 rfl ?_
  refine aw_icmp_lt (tgt := 22) dX10_holds_2 (by decide) (fun c_1 => ?_) (fun c_1 => ?_)
  · skip
    refine aw_iconst (v := 0) dX10_holds_22 (by decide) ?_
    refine aw_zreti dX10_holds_23 rfl (by first | exact Or.inl rfl | exact Or.inr rfl | assumption) (Nat.le_of_ble_eq_true rfl) (Nat.le_of_ble_eq_true rfl) ?_
    exact ⟨(by first | exact Or.inl rfl | exact Or.inr rfl | assumption), rfl, rfl⟩
  · skip
    refine aw_iload_n dX10_holds_5 rfl ?_
    refine aw_iload_n dX10_holds_6 rfl ?_
    refine aw_icmp_gt (tgt := 22) dX10_holds_7 (by decide) (fun c_2 => ?_) (fun c_2 => ?_)
    · skip
      refine aw_iconst (v := 0) dX10_holds_22 (by decide) ?_
      refine aw_zreti dX10_holds_23 rfl (by first | exact Or.inl rfl | exact Or.inr rfl | assumption) (Nat.le_of_ble_eq_true rfl) (Nat.le_of_ble_eq_true rfl) ?_
      exact ⟨(by first | exact Or.inl rfl | exact Or.inr rfl | assumption), rfl, rfl⟩
    · skip
      refine aw_iload_n dX10_holds_10 rfl ?_
      refine aw_aload_n dX10_holds_11 rfl ?_
      obtain ⟨ts_3, tn_3, tf_3, ta_3, e_3, hta_3⟩ := JW.get hJ0 ct_1
      refine aw_get dX10_holds_12 fl_X10_15 e_3 (by omega) rfl ?_
      refine aw_icmp_gt (tgt := 22) dX10_holds_15 (by decide) (fun c_4 => ?_) (fun c_4 => ?_)
      · skip
        refine aw_iconst (v := 0) dX10_holds_22 (by decide) ?_
        refine aw_zreti dX10_holds_23 rfl (by first | exact Or.inl rfl | exact Or.inr rfl | assumption) (Nat.le_of_ble_eq_true rfl) (Nat.le_of_ble_eq_true rfl) ?_
        exact ⟨(by first | exact Or.inl rfl | exact Or.inr rfl | assumption), rfl, rfl⟩
      · skip
        refine aw_iconst (v := 1) dX10_holds_18 (by decide) ?_
        refine aw_goto (tgt := 23) dX10_holds_19 (by decide) ?_
        refine aw_zreti dX10_holds_23 rfl (by first | exact Or.inl rfl | exact Or.inr rfl | assumption) (Nat.le_of_ble_eq_true rfl) (Nat.le_of_ble_eq_true rfl) ?_
        exact ⟨(by first | exact Or.inl rfl | exact Or.inr rfl | assumption), rfl, rfl⟩

set_option maxHeartbeats 4000000 in
set_option maxRecDepth 100000 in
theorem g_X10_take (l : Launch) (D : va_G) (b : Nat) (N : Nat) (V : Wd) (hN : 100 ≤ N) (hW : CW D b V) (n0 : Int32)  : MV l D b 0 jX10_take [.ref (b + 1), .int n0] N V 0 0 (fun N9 V9 => N = N9 ∧ JW D b N [(1, 1, 2, 2), (1, 1, 3, 3), (1, 1, 4, 4), (1, 1, 1, 1)] V V9) := by
  have hJ0 : JW D b N [(1, 1, 2, 2), (1, 1, 3, 3), (1, 1, 4, 4), (1, 1, 1, 1)] V V := JW.rf hW
  refine mw_of (by decide) (by simp [Value.category]) (Nat.le_of_ble_eq_true rfl) ?_
  show AW l D b jX10_take (fx_rm 0 0 0) none (fx_MQ D b 0 0 (fx_qv (fun N9 V9 => N = N9 ∧ JW D b N [(1, 1, 2, 2), (1, 1, 3, 3), (1, 1, 4, 4), (1, 1, 1, 1)] V V9))) 0 [some (.ref (b + 1)), some (.int n0)] [] N V 0 0
  refine aw_aload_n dX10_take_0 rfl ?_
  refine aw_iload_n dX10_take_1 rfl ?_
  obtain ⟨ts_1, tn_1, tf_1, ta_1, e_1, hta_1⟩ := JW.get hJ0 ct_1
  refine aw_put dX10_take_2 fp_X10_19 e_1 (by omega) rfl rfl (Nat.le_of_ble_eq_true rfl) rfl ?_
  refine aw_up hJ0 ct_1 ⟨_, _, _, ta_1, rfl, (by first | omega | (split <;> omega))⟩ (WO (s := 2) (x := .int n0) e_1 rfl LM0 (by decide) (by decide) (by decide) (Or.inl (by decide))) (fun V_2 j_2 k_2 e_2 => ?_)
  refine aw_aload_n dX10_take_5 rfl ?_
  refine aw_iconst (v := 0) dX10_take_6 (by decide) ?_
  refine aw_put dX10_take_7 fp_X10_22 e_2 (by omega) rfl rfl (Nat.le_of_ble_eq_true rfl) rfl ?_
  refine aw_up j_2 ct_1 ⟨_, _, _, 0, rfl, (by first | omega | (split <;> omega))⟩ (WO (s := 3) (x := .int 0) e_2 rfl (LMs LM0) (by decide) (by decide) (by decide) (Or.inl (by decide))) (fun V_3 j_3 k_3 e_3 => ?_)
  refine aw_aload_n dX10_take_10 rfl ?_
  refine aw_iconst (v := 0) dX10_take_11 (by decide) ?_
  refine aw_put dX10_take_12 fp_X10_25 e_3 (by omega) rfl rfl (Nat.le_of_ble_eq_true rfl) rfl ?_
  refine aw_up j_3 ct_1 ⟨_, _, _, 0, rfl, (by first | omega | (split <;> omega))⟩ (WO (s := 4) (x := .int 0) e_3 rfl (LMs (LMs LM0)) (by decide) (by decide) (by decide) (Or.inl (by decide))) (fun V_4 j_4 k_4 e_4 => ?_)
  refine aw_aload_n dX10_take_15 rfl ?_
  refine aw_iconst (v := 0) dX10_take_16 (by decide) ?_
  refine aw_put dX10_take_17 fp_X10_15 e_4 (by omega) rfl rfl (Nat.le_of_ble_eq_true rfl) rfl ?_
  refine aw_up j_4 ct_1 ⟨_, _, _, 0, rfl, (by first | omega | (split <;> omega))⟩ (WO (s := 1) (x := .int 0) e_4 rfl (LMs (LMs (LMs LM0))) (by decide) (by decide) (by decide) (Or.inl (by decide))) (fun V_5 j_5 k_5 e_5 => ?_)
  refine aw_vreti dX10_take_20 rfl (Nat.le_of_ble_eq_true rfl) (Nat.le_of_ble_eq_true rfl) ?_
  exact ⟨rfl, j_5⟩

set_option maxHeartbeats 4000000 in
set_option maxRecDepth 100000 in
theorem g_X10_byteAt (l : Launch) (D : va_G) (b : Nat) (N : Nat) (V : Wd) (hN : 100 ≤ N) (hW : CW D b V) (n0 : Int32)  : MI l D b 0 jX10_byteAt [.ref (b + 1), .int n0] N V 0 0 (fun r N9 V9 => N = N9 ∧ V = V9) := by
  have hJ0 : JW D b N [] V V := JW.rf hW
  refine mw_of (by decide) (by simp [Value.category]) (Nat.le_of_ble_eq_true rfl) ?_
  show AW l D b jX10_byteAt (fx_rm 0 0 0) none (fx_MQ D b 0 0 (fx_qi (fun r N9 V9 => N = N9 ∧ V = V9))) 0 [some (.ref (b + 1)), some (.int n0)] [] N V 0 0
  refine aw_iload_n dX10_byteAt_0 rfl ?_
  refine aw_if_lt (tgt := 21) dX10_byteAt_1 (by decide) (fun c_1 => ?_) (fun c_1 => ?_)
  · skip
    refine aw_iconst (v := (-1)) dX10_byteAt_21 (by decide) ?_
    refine aw_ireti dX10_byteAt_22 rfl (Nat.le_of_ble_eq_true rfl) (Nat.le_of_ble_eq_true rfl) ?_
    exact ⟨rfl, rfl⟩
  · skip
    refine aw_iload_n dX10_byteAt_4 rfl ?_
    refine aw_aload_n dX10_byteAt_5 rfl ?_
    obtain ⟨ts_2, tn_2, tf_2, ta_2, e_2, hta_2⟩ := JW.get hJ0 ct_1
    refine aw_get dX10_byteAt_6 fl_X10_19 e_2 (by omega) rfl ?_
    refine aw_icmp_ge (tgt := 21) dX10_byteAt_9 (by decide) (fun c_3 => ?_) (fun c_3 => ?_)
    · skip
      refine aw_iconst (v := (-1)) dX10_byteAt_21 (by decide) ?_
      refine aw_ireti dX10_byteAt_22 rfl (Nat.le_of_ble_eq_true rfl) (Nat.le_of_ble_eq_true rfl) ?_
      exact ⟨rfl, rfl⟩
    · skip
      refine aw_iload_n dX10_byteAt_12 rfl ?_
      refine aw_aload_n dX10_byteAt_13 rfl ?_
      refine aw_get dX10_byteAt_14 fl_X10_9 e_2 (by omega) rfl ?_
      obtain ⟨g_4, e_4⟩ := JW.get hJ0 ct_2
      refine aw_alen (t0 := 0) (v := 260) dX10_byteAt_17 e_4 (by omega) rfl rfl ?_
      refine aw_icmp_lt (tgt := 23) dX10_byteAt_18 (by decide) (fun c_5 => ?_) (fun c_5 => ?_)
      · skip
        refine aw_aload_n dX10_byteAt_23 rfl ?_
        refine aw_get dX10_byteAt_24 fl_X10_9 e_2 (by omega) rfl ?_
        refine aw_iload_n dX10_byteAt_27 rfl ?_
        refine aw_iald (v := (g_4 (Int32.toNatClampNeg n0))) dX10_byteAt_28 e_4 (by omega) (vi_in (Int32.not_lt.mp c_1) (vi_lt (n := 260) c_5 (by decide)) (by decide)) rfl ?_
        refine aw_ireti dX10_byteAt_29 rfl (Nat.le_of_ble_eq_true rfl) (Nat.le_of_ble_eq_true rfl) ?_
        exact ⟨rfl, rfl⟩
      · skip
        refine aw_iconst (v := (-1)) dX10_byteAt_21 (by decide) ?_
        refine aw_ireti dX10_byteAt_22 rfl (Nat.le_of_ble_eq_true rfl) (Nat.le_of_ble_eq_true rfl) ?_
        exact ⟨rfl, rfl⟩

set_option maxHeartbeats 4000000 in
set_option maxRecDepth 100000 in
theorem g_X10_append (l : Launch) (D : va_G) (b : Nat) (N : Nat) (V : Wd) (hN : 100 ≤ N) (hW : CW D b V) (n0 : Int32)  : MV l D b 0 jX10_append [.ref (b + 1), .int n0] N V 0 0 (fun N9 V9 => N = N9 ∧ JW D b N [(2, 2, 0, 1000000), (1, 1, 1, 1)] V V9) := by
  have hJ0 : JW D b N [(2, 2, 0, 1000000), (1, 1, 1, 1)] V V := JW.rf hW
  refine mw_of (by decide) (by simp [Value.category]) (Nat.le_of_ble_eq_true rfl) ?_
  show AW l D b jX10_append (fx_rm 0 0 0) none (fx_MQ D b 0 0 (fx_qv (fun N9 V9 => N = N9 ∧ JW D b N [(2, 2, 0, 1000000), (1, 1, 1, 1)] V V9))) 0 [some (.ref (b + 1)), some (.int n0), none] [] N V 0 0
  refine aw_bipush (v := 24) dX10_append_0 (by decide) ?_
  refine aw_istore_n (ls' := [some (.ref (b + 1)), some (.int n0), some (.int 24)]) dX10_append_2 (Nat.le_of_ble_eq_true rfl) rfl ?_
  have loop_3_0 : ∀ (j3 : Nat), ∀ (V3 : Wd), j3 ≤ 4 → (JW D b N [(2, 2, 0, 1000000), (1, 1, 1, 1)] V V3) → AW l D b jX10_append (fx_rm 0 0 0) none (fx_MQ D b 0 0 (fx_qv (fun N9 V9 => N = N9 ∧ JW D b N [(2, 2, 0, 1000000), (1, 1, 1, 1)] V V9))) 3 [some (.ref (b + 1)), some (.int n0), some (.int (fx_d8 j3))] [] N V3 0 0 := by
    intro j3
    induction j3 with
    | zero =>
      intro V3 hj3 i3_0
      show AW l D b jX10_append (fx_rm 0 0 0) none (fx_MQ D b 0 0 (fx_qv (fun N9 V9 => N = N9 ∧ JW D b N [(2, 2, 0, 1000000), (1, 1, 1, 1)] V V9))) 3 [some (.ref (b + 1)), some (.int n0), some (.int (-8))] [] N V3 0 0
      refine aw_iload_n dX10_append_3 rfl ?_
      refine aw_if_lt (tgt := 58) dX10_append_4 (by decide) (fun c_3 => ?_) (fun c_3 => ?_)
      rotate_left
      · exact absurd (by decide) c_3
      refine aw_vreti dX10_append_58 rfl (Nat.le_of_ble_eq_true rfl) (Nat.le_of_ble_eq_true rfl) ?_
      exact ⟨rfl, i3_0⟩
    | succ j3 ih_3_1 =>
      intro V3 hj3 i3_0
      show AW l D b jX10_append (fx_rm 0 0 0) none (fx_MQ D b 0 0 (fx_qv (fun N9 V9 => N = N9 ∧ JW D b N [(2, 2, 0, 1000000), (1, 1, 1, 1)] V V9))) 3 [some (.ref (b + 1)), some (.int n0), some (.int (nI (8 * j3)))] [] N V3 0 0
      refine aw_iload_n dX10_append_3 rfl ?_
      refine aw_if_lt (tgt := 58) dX10_append_4 (by decide) (fun c_4 => ?_) (fun c_4 => ?_)
      · exact absurd c_4 (nI_pos (by omega))
      refine aw_aload_n dX10_append_7 rfl ?_
      obtain ⟨ts_5, tn_5, tf_5, ta_5, e_5, hta_5⟩ := JW.get i3_0 ct_1
      refine aw_get dX10_append_8 fl_X10_15 e_5 (by omega) rfl ?_
      refine aw_if_lt (tgt := 52) dX10_append_11 (by decide) (fun c_6 => ?_) (fun c_6 => ?_)
      · skip
        refine aw_iinc (v := (fx_d8 j3)) (ls' := [some (.ref (b + 1)), some (.int n0), some (.int (fx_d8 j3))]) dX10_append_52 rfl (fx_d8_1 _ (by omega)) (Nat.le_of_ble_eq_true rfl) rfl ?_
        refine aw_goto (tgt := 3) dX10_append_55 (by decide) ?_
        refine aw_le ?_ (ih_3_1  V3 (by omega) (i3_0))
        exact ⟨rfl, ⟨rfl, ⟨rfl, trivial⟩⟩⟩
      · skip
        refine aw_aload_n dX10_append_14 rfl ?_
        refine aw_get dX10_append_15 fl_X10_15 e_5 (by omega) rfl ?_
        refine aw_aload_n dX10_append_18 rfl ?_
        refine aw_get dX10_append_19 fl_X10_9 e_5 (by omega) rfl ?_
        obtain ⟨g_7, e_7⟩ := JW.get i3_0 ct_2
        refine aw_alen (t0 := 0) (v := 260) dX10_append_22 e_7 (by omega) rfl rfl ?_
        refine aw_icmp_ge (tgt := 52) dX10_append_23 (by decide) (fun c_8 => ?_) (fun c_8 => ?_)
        · skip
          refine aw_iinc (v := (fx_d8 j3)) (ls' := [some (.ref (b + 1)), some (.int n0), some (.int (fx_d8 j3))]) dX10_append_52 rfl (fx_d8_1 _ (by omega)) (Nat.le_of_ble_eq_true rfl) rfl ?_
          refine aw_goto (tgt := 3) dX10_append_55 (by decide) ?_
          refine aw_le ?_ (ih_3_1  V3 (by omega) (i3_0))
          exact ⟨rfl, ⟨rfl, ⟨rfl, trivial⟩⟩⟩
        · skip
          refine aw_aload_n dX10_append_26 rfl ?_
          refine aw_get dX10_append_27 fl_X10_9 e_5 (by omega) rfl ?_
          refine aw_aload_n dX10_append_30 rfl ?_
          refine aw_get dX10_append_31 fl_X10_15 e_5 (by omega) rfl ?_
          refine aw_iload_n dX10_append_34 rfl ?_
          refine aw_iload_n dX10_append_35 rfl ?_
          refine aw_ishr dX10_append_36 ?_
          refine aw_sipush (v := 255) dX10_append_37 (by decide) ?_
          refine aw_iand dX10_append_40 ?_
          refine aw_iast dX10_append_41 e_7 (by omega) (vi_in (Int32.not_lt.mp c_6) (vi_lt (n := 260) (Int32.not_le.mp c_8) (by decide)) (by decide)) ?_
          refine aw_up i3_0 ct_2 ⟨_, rfl⟩ (WA LM0 (by decide) (by decide)) (fun V_9 j_9 k_9 e_9 => ?_)
          refine aw_aload_n dX10_append_42 rfl ?_
          refine aw_dup dX10_append_43 rfl ?_
          refine aw_get dX10_append_44 fl_X10_15 ((k_9 _ (by decide)).trans e_5) (by omega) rfl ?_
          refine aw_iconst (v := 1) dX10_append_47 (by decide) ?_
          refine aw_iadd dX10_append_48 ?_
          refine aw_put dX10_append_49 fp_X10_15 ((k_9 _ (by decide)).trans e_5) (by omega) rfl rfl (Nat.le_of_ble_eq_true rfl) rfl ?_
          refine aw_up j_9 ct_1 ⟨_, _, _, ta_5, rfl, (by first | omega | (split <;> omega))⟩ (WO (s := 1) (x := .int (ts_5 + 1)) ((k_9 _ (by decide)).trans e_5) rfl (LMs LM0) (by decide) (by decide) (by decide) (Or.inl (by decide))) (fun V_10 j_10 k_10 e_10 => ?_)
          refine aw_iinc (v := (fx_d8 j3)) (ls' := [some (.ref (b + 1)), some (.int n0), some (.int (fx_d8 j3))]) dX10_append_52 rfl (fx_d8_1 _ (by omega)) (Nat.le_of_ble_eq_true rfl) rfl ?_
          refine aw_goto (tgt := 3) dX10_append_55 (by decide) ?_
          refine aw_le ?_ (ih_3_1  V_10 (by omega) (j_10))
          exact ⟨rfl, ⟨rfl, ⟨rfl, trivial⟩⟩⟩
  refine aw_le ?_ (loop_3_0 4  V (by omega) (hJ0))
  exact ⟨rfl, ⟨rfl, ⟨rfl, trivial⟩⟩⟩

set_option maxHeartbeats 4000000 in
set_option maxRecDepth 100000 in
theorem g_X10_isDigit (l : Launch) (D : va_G) (b : Nat) (N : Nat) (V : Wd) (hN : 100 ≤ N) (hW : CW D b V) (n0 : Int32)  : MI l D b 0 jX10_isDigit [.int n0] N V 0 0 (fun r N9 V9 => ((r = 0 ∨ r = 1) ∧ (r = 0 ∨ 0 ≤ n0)) ∧ N = N9 ∧ V = V9) := by
  have hJ0 : JW D b N [] V V := JW.rf hW
  refine mw_of (by decide) (by simp [Value.category]) (Nat.le_of_ble_eq_true rfl) ?_
  show AW l D b jX10_isDigit (fx_rm 0 0 0) none (fx_MQ D b 0 0 (fx_qi (fun r N9 V9 => ((r = 0 ∨ r = 1) ∧ (r = 0 ∨ 0 ≤ n0)) ∧ N = N9 ∧ V = V9))) 0 [some (.int n0)] [] N V 0 0
  refine aw_iload_n dX10_isDigit_0 rfl ?_
  refine aw_bipush (v := 48) dX10_isDigit_1 (by decide) ?_
  refine aw_icmp_lt (tgt := 16) dX10_isDigit_3 (by decide) (fun c_1 => ?_) (fun c_1 => ?_)
  · skip
    refine aw_iconst (v := 0) dX10_isDigit_16 (by decide) ?_
    refine aw_zreti dX10_isDigit_17 rfl (by first | exact Or.inl rfl | exact Or.inr rfl | assumption) (Nat.le_of_ble_eq_true rfl) (Nat.le_of_ble_eq_true rfl) ?_
    exact ⟨⟨(by first | exact Or.inl rfl | exact Or.inr rfl | assumption), Or.inl rfl⟩, rfl, rfl⟩
  · skip
    refine aw_iload_n dX10_isDigit_6 rfl ?_
    refine aw_bipush (v := 57) dX10_isDigit_7 (by decide) ?_
    refine aw_icmp_gt (tgt := 16) dX10_isDigit_9 (by decide) (fun c_2 => ?_) (fun c_2 => ?_)
    · skip
      refine aw_iconst (v := 0) dX10_isDigit_16 (by decide) ?_
      refine aw_zreti dX10_isDigit_17 rfl (by first | exact Or.inl rfl | exact Or.inr rfl | assumption) (Nat.le_of_ble_eq_true rfl) (Nat.le_of_ble_eq_true rfl) ?_
      exact ⟨⟨(by first | exact Or.inl rfl | exact Or.inr rfl | assumption), Or.inl rfl⟩, rfl, rfl⟩
    · skip
      refine aw_iconst (v := 1) dX10_isDigit_12 (by decide) ?_
      refine aw_goto (tgt := 17) dX10_isDigit_13 (by decide) ?_
      refine aw_zreti dX10_isDigit_17 rfl (by first | exact Or.inl rfl | exact Or.inr rfl | assumption) (Nat.le_of_ble_eq_true rfl) (Nat.le_of_ble_eq_true rfl) ?_
      exact ⟨⟨(by first | exact Or.inl rfl | exact Or.inr rfl | assumption), Or.inr (Int32.le_trans (by decide) (Int32.not_lt.mp c_1))⟩, rfl, rfl⟩

set_option maxHeartbeats 4000000 in
set_option maxRecDepth 100000 in
theorem g_X10_isFear (l : Launch) (D : va_G) (b : Nat) (N : Nat) (V : Wd) (hN : 100 ≤ N) (hW : CW D b V) (n0 : Int32)  : MI l D b 0 jX10_isFear [.int n0] N V 0 0 (fun r N9 V9 => ((r = 0 ∨ r = 1) ∧ (r = 0 ∨ 0 ≤ n0)) ∧ N = N9 ∧ V = V9) := by
  have hJ0 : JW D b N [] V V := JW.rf hW
  refine mw_of (by decide) (by simp [Value.category]) (Nat.le_of_ble_eq_true rfl) ?_
  show AW l D b jX10_isFear (fx_rm 0 0 0) none (fx_MQ D b 0 0 (fx_qi (fun r N9 V9 => ((r = 0 ∨ r = 1) ∧ (r = 0 ∨ 0 ≤ n0)) ∧ N = N9 ∧ V = V9))) 0 [some (.int n0)] [] N V 0 0
  refine aw_iload_n dX10_isFear_0 rfl ?_
  refine aw_bipush (v := 97) dX10_isFear_1 (by decide) ?_
  refine aw_icmp_lt (tgt := 16) dX10_isFear_3 (by decide) (fun c_1 => ?_) (fun c_1 => ?_)
  · skip
    refine aw_iconst (v := 0) dX10_isFear_16 (by decide) ?_
    refine aw_zreti dX10_isFear_17 rfl (by first | exact Or.inl rfl | exact Or.inr rfl | assumption) (Nat.le_of_ble_eq_true rfl) (Nat.le_of_ble_eq_true rfl) ?_
    exact ⟨⟨(by first | exact Or.inl rfl | exact Or.inr rfl | assumption), Or.inl rfl⟩, rfl, rfl⟩
  · skip
    refine aw_iload_n dX10_isFear_6 rfl ?_
    refine aw_bipush (v := 113) dX10_isFear_7 (by decide) ?_
    refine aw_icmp_ge (tgt := 16) dX10_isFear_9 (by decide) (fun c_2 => ?_) (fun c_2 => ?_)
    · skip
      refine aw_iconst (v := 0) dX10_isFear_16 (by decide) ?_
      refine aw_zreti dX10_isFear_17 rfl (by first | exact Or.inl rfl | exact Or.inr rfl | assumption) (Nat.le_of_ble_eq_true rfl) (Nat.le_of_ble_eq_true rfl) ?_
      exact ⟨⟨(by first | exact Or.inl rfl | exact Or.inr rfl | assumption), Or.inl rfl⟩, rfl, rfl⟩
    · skip
      refine aw_iconst (v := 1) dX10_isFear_12 (by decide) ?_
      refine aw_goto (tgt := 17) dX10_isFear_13 (by decide) ?_
      refine aw_zreti dX10_isFear_17 rfl (by first | exact Or.inl rfl | exact Or.inr rfl | assumption) (Nat.le_of_ble_eq_true rfl) (Nat.le_of_ble_eq_true rfl) ?_
      exact ⟨⟨(by first | exact Or.inl rfl | exact Or.inr rfl | assumption), Or.inr (Int32.le_trans (by decide) (Int32.not_lt.mp c_1))⟩, rfl, rfl⟩

set_option maxHeartbeats 4000000 in
set_option maxRecDepth 100000 in
theorem g_X10_now (l : Launch) (D : va_G) (b : Nat) (N : Nat) (V : Wd) (hN : 100 ≤ N) (hW : CW D b V)  (a : Nat) (hT : TA b a V) : MI l D b 0 jX10_now [.ref (b + 1)] N V 0 0 (fun r N9 V9 => (r = -1 ∨ a < 260) ∧ N = N9 ∧ V = V9) := by
  have hJ0 : JW D b N [] V V := JW.rf hW
  obtain ⟨⟨ts_0, tn_0, tf_0, te_0⟩, ha_0⟩ := id hT
  refine mw_of (by decide) (by simp [Value.category]) (Nat.le_of_ble_eq_true rfl) ?_
  show AW l D b jX10_now (fx_rm 0 0 0) none (fx_MQ D b 0 0 (fx_qi (fun r N9 V9 => (r = -1 ∨ a < 260) ∧ N = N9 ∧ V = V9))) 0 [some (.ref (b + 1))] [] N V 0 0
  refine aw_aload_n dX10_now_0 rfl ?_
  refine aw_get dX10_now_1 fl_X10_22 te_0 (by omega) rfl ?_
  refine aw_if_lt (tgt := 42) dX10_now_4 (by decide) (fun c_1 => ?_) (fun c_1 => ?_)
  · skip
    have nc_1 : a < 0 := (nI_ltI (a := a) (b := 0) (by omega) (by omega)).mp c_1
    refine aw_iconst (v := (-1)) dX10_now_42 (by decide) ?_
    refine aw_ireti dX10_now_43 rfl (Nat.le_of_ble_eq_true rfl) (Nat.le_of_ble_eq_true rfl) ?_
    exact ⟨Or.inl rfl, rfl, rfl⟩
  · skip
    have nc_1 : ¬ (a < 0) := fun z => c_1 ((nI_ltI (a := a) (b := 0) (by omega) (by omega)).mpr z)
    refine aw_aload_n dX10_now_7 rfl ?_
    refine aw_get dX10_now_8 fl_X10_22 te_0 (by omega) rfl ?_
    refine aw_aload_n dX10_now_11 rfl ?_
    refine aw_get dX10_now_12 fl_X10_19 te_0 (by omega) rfl ?_
    refine aw_icmp_ge (tgt := 42) dX10_now_15 (by decide) (fun c_2 => ?_) (fun c_2 => ?_)
    · skip
      refine aw_iconst (v := (-1)) dX10_now_42 (by decide) ?_
      refine aw_ireti dX10_now_43 rfl (Nat.le_of_ble_eq_true rfl) (Nat.le_of_ble_eq_true rfl) ?_
      exact ⟨Or.inl rfl, rfl, rfl⟩
    · skip
      refine aw_aload_n dX10_now_18 rfl ?_
      refine aw_get dX10_now_19 fl_X10_22 te_0 (by omega) rfl ?_
      refine aw_aload_n dX10_now_22 rfl ?_
      refine aw_get dX10_now_23 fl_X10_9 te_0 (by omega) rfl ?_
      obtain ⟨g_3, e_3⟩ := JW.get hJ0 ct_2
      refine aw_alen (t0 := 0) (v := 260) dX10_now_26 e_3 (by omega) rfl rfl ?_
      refine aw_icmp_ge (tgt := 42) dX10_now_27 (by decide) (fun c_4 => ?_) (fun c_4 => ?_)
      · skip
        have nc_4 : 260 ≤ a := (nI_leI (a := 260) (b := a) (by omega) (by omega)).mp c_4
        refine aw_iconst (v := (-1)) dX10_now_42 (by decide) ?_
        refine aw_ireti dX10_now_43 rfl (Nat.le_of_ble_eq_true rfl) (Nat.le_of_ble_eq_true rfl) ?_
        exact ⟨Or.inl rfl, rfl, rfl⟩
      · skip
        have nc_4 : ¬ (260 ≤ a) := fun z => c_4 ((nI_leI (a := 260) (b := a) (by omega) (by omega)).mpr z)
        refine aw_aload_n dX10_now_30 rfl ?_
        refine aw_get dX10_now_31 fl_X10_9 te_0 (by omega) rfl ?_
        refine aw_aload_n dX10_now_34 rfl ?_
        refine aw_get dX10_now_35 fl_X10_22 te_0 (by omega) rfl ?_
        refine aw_iald (v := (g_3 a)) dX10_now_38 e_3 (by omega) (vp_in_nI (n := a) (by omega) (by omega)) (congrArg g_3 (nI_clamp (n := a) (by omega))) ?_
        refine aw_goto (tgt := 43) dX10_now_39 (by decide) ?_
        refine aw_ireti dX10_now_43 rfl (Nat.le_of_ble_eq_true rfl) (Nat.le_of_ble_eq_true rfl) ?_
        exact ⟨Or.inr (by omega), rfl, rfl⟩

set_option maxHeartbeats 4000000 in
set_option maxRecDepth 100000 in
theorem g_X10_fail (l : Launch) (D : va_G) (b : Nat) (N : Nat) (V : Wd) (hN : 100 ≤ N) (hW : CW D b V) (n0 : Int32) (n1 : Int32) (a : Nat) (hT : TA b a V) : MI l D b 0 jX10_fail [.ref (b + 1), .int n0, .int n1] N V 0 0 (fun r N9 V9 => ((r = 0 ∨ r = 1) ∧ ((r = 0) ∧ ∃ a9, a ≤ a9 ∧ TA b a9 V9)) ∧ N = N9 ∧ JW D b N [(1, 1, 4, 4)] V V9) := by
  have hJ0 : JW D b N [(1, 1, 4, 4)] V V := JW.rf hW
  obtain ⟨⟨ts_0, tn_0, tf_0, te_0⟩, ha_0⟩ := id hT
  refine mw_of (by decide) (by simp [Value.category]) (Nat.le_of_ble_eq_true rfl) ?_
  show AW l D b jX10_fail (fx_rm 0 0 0) none (fx_MQ D b 0 0 (fx_qi (fun r N9 V9 => ((r = 0 ∨ r = 1) ∧ ((r = 0) ∧ ∃ a9, a ≤ a9 ∧ TA b a9 V9)) ∧ N = N9 ∧ JW D b N [(1, 1, 4, 4)] V V9))) 0 [some (.ref (b + 1)), some (.int n0), some (.int n1)] [] N V 0 0
  refine aw_aload_n dX10_fail_0 rfl ?_
  refine aw_sipush (v := (-1000)) dX10_fail_1 (by decide) ?_
  refine aw_iload_n dX10_fail_4 rfl ?_
  refine aw_imul dX10_fail_5 ?_
  refine aw_iload_n dX10_fail_6 rfl ?_
  refine aw_isub dX10_fail_7 ?_
  refine aw_put dX10_fail_8 fp_X10_25 te_0 (by omega) rfl rfl (Nat.le_of_ble_eq_true rfl) rfl ?_
  refine aw_up hJ0 ct_1 ⟨_, _, _, a, rfl, (by first | omega | (split <;> omega))⟩ (WO (s := 4) (x := .int (((-1000) * n0) - n1)) te_0 rfl LM0 (by decide) (by decide) (by decide) (Or.inl (by decide))) (fun V_1 j_1 k_1 e_1 => ?_)
  refine aw_iconst (v := 0) dX10_fail_11 (by decide) ?_
  refine aw_zreti dX10_fail_12 rfl (by first | exact Or.inl rfl | exact Or.inr rfl | assumption) (Nat.le_of_ble_eq_true rfl) (Nat.le_of_ble_eq_true rfl) ?_
  exact ⟨⟨(by first | exact Or.inl rfl | exact Or.inr rfl | assumption), ⟨rfl, ⟨a, by omega, ⟨⟨_, _, _, e_1⟩, by omega⟩⟩⟩⟩, rfl, j_1⟩

set_option maxHeartbeats 4000000 in
set_option maxRecDepth 100000 in
theorem g_X10_cannotStand (l : Launch) (D : va_G) (b : Nat) (N : Nat) (V : Wd) (hN : 100 ≤ N) (hW : CW D b V)  (a : Nat) (hT : TA b a V) : MI l D b 1 jX10_cannotStand [.ref (b + 1)] N V 0 0 (fun r N9 V9 => ((r = 0 ∨ r = 1) ∧ ((r = 0) ∧ ∃ a9, a ≤ a9 ∧ TA b a9 V9)) ∧ N = N9 ∧ JW D b N [(1, 1, 4, 4)] V V9) := by
  have hJ0 : JW D b N [(1, 1, 4, 4)] V V := JW.rf hW
  obtain ⟨⟨ts_0, tn_0, tf_0, te_0⟩, ha_0⟩ := id hT
  refine mw_of (by decide) (by simp [Value.category]) (Nat.le_of_ble_eq_true rfl) ?_
  show AW l D b jX10_cannotStand (fx_rm 1 0 0) none (fx_MQ D b 0 0 (fx_qi (fun r N9 V9 => ((r = 0 ∨ r = 1) ∧ ((r = 0) ∧ ∃ a9, a ≤ a9 ∧ TA b a9 V9)) ∧ N = N9 ∧ JW D b N [(1, 1, 4, 4)] V V9))) 0 [some (.ref (b + 1))] [] N V 0 0
  refine aw_aload_n dX10_cannotStand_0 rfl ?_
  refine aw_iconst (v := 1) dX10_cannotStand_1 (by decide) ?_
  refine aw_aload_n dX10_cannotStand_2 rfl ?_
  refine aw_get dX10_cannotStand_3 fl_X10_22 te_0 (by omega) rfl ?_
  refine aw_callVi (J' := jX10_fail) (As := [.int 1, .int (nI a)]) (st := []) dX10_cannotStand_6 tb_315 ok_X10_fail ⟨_, te_0⟩ (by omega) rfl rfl (g_X10_fail l D b N V hN hJ0.1 1 (nI a) a (⟨⟨_, _, _, te_0⟩, by omega⟩)) rfl (Nat.le_of_ble_eq_true rfl) ⟨Nat.le_of_ble_eq_true rfl, Nat.le_of_ble_eq_true rfl, Nat.le_of_ble_eq_true rfl, Nat.le_of_ble_eq_true rfl⟩ (fun r_10 N_11 V_5 q_12 => ?_)
  obtain ⟨⟨z_3, h_2⟩, rfl, q_1⟩ := q_12
  have j_4 := JW.trans hJ0 (JW.weak q_1 (Sub.cons LM0 (by decide) (by decide) (by decide) (Or.inr ⟨by decide, by decide⟩) Sub.nil))
  obtain ⟨h_9, a_6, ha_7, ⟨ts_t_8, tn_t_8, tf_t_8, te_t_8⟩, hb_t_8⟩ := h_2
  obtain rfl := h_9
  refine aw_zreti dX10_cannotStand_9 rfl (by first | exact Or.inl rfl | exact Or.inr rfl | assumption) (Nat.le_of_ble_eq_true rfl) (Nat.le_of_ble_eq_true rfl) ?_
  exact ⟨⟨(by first | exact Or.inl rfl | exact Or.inr rfl | assumption), ⟨rfl, ⟨a_6, by omega, ⟨⟨_, _, _, te_t_8⟩, by omega⟩⟩⟩⟩, rfl, j_4⟩

set_option maxHeartbeats 4000000 in
set_option maxRecDepth 100000 in
theorem g_X10_expect (l : Launch) (D : va_G) (b : Nat) (N : Nat) (V : Wd) (hN : 100 ≤ N) (hW : CW D b V) (n0 : Int32) (a : Nat) (hT : TA b a V) (hn0 : 0 ≤ n0) : MI l D b 1 jX10_expect [.ref (b + 1), .int n0] N V 0 0 (fun r N9 V9 => ((r = 0 ∨ r = 1) ∧ (∃ a9, a ≤ a9 ∧ TA b a9 V9)) ∧ N = N9 ∧ JW D b N [(1, 1, 3, 3), (1, 1, 4, 4)] V V9) := by
  have hJ0 : JW D b N [(1, 1, 3, 3), (1, 1, 4, 4)] V V := JW.rf hW
  obtain ⟨⟨ts_0, tn_0, tf_0, te_0⟩, ha_0⟩ := id hT
  refine mw_of (by decide) (by simp [Value.category]) (Nat.le_of_ble_eq_true rfl) ?_
  show AW l D b jX10_expect (fx_rm 1 0 0) none (fx_MQ D b 0 0 (fx_qi (fun r N9 V9 => ((r = 0 ∨ r = 1) ∧ (∃ a9, a ≤ a9 ∧ TA b a9 V9)) ∧ N = N9 ∧ JW D b N [(1, 1, 3, 3), (1, 1, 4, 4)] V V9))) 0 [some (.ref (b + 1)), some (.int n0)] [] N V 0 0
  refine aw_aload_n dX10_expect_0 rfl ?_
  refine aw_callVi (J' := jX10_now) (As := []) (st := []) dX10_expect_1 tb_311 ok_X10_now ⟨_, te_0⟩ (by omega) rfl rfl (g_X10_now l D b N V hN hJ0.1 a (⟨⟨_, _, _, te_0⟩, by omega⟩)) rfl (Nat.le_of_ble_eq_true rfl) ⟨Nat.le_of_ble_eq_true rfl, Nat.le_of_ble_eq_true rfl, Nat.le_of_ble_eq_true rfl, Nat.le_of_ble_eq_true rfl⟩ (fun r_3 N_4 V_5 q_6 => ?_)
  obtain ⟨h_2, rfl, rfl⟩ := q_6
  refine aw_iload_n dX10_expect_4 rfl ?_
  refine aw_icmp_eq (tgt := 18) dX10_expect_5 (by decide) (fun c_7 => ?_) (fun c_7 => ?_)
  · skip
    have hlc_7 := h_2.resolve_left (fun z => absurd hn0 (by rw [← c_7, z]; decide))
    refine aw_aload_n dX10_expect_18 rfl ?_
    refine aw_dup dX10_expect_19 rfl ?_
    refine aw_get dX10_expect_20 fl_X10_22 te_0 (by omega) rfl ?_
    refine aw_iconst (v := 1) dX10_expect_23 (by decide) ?_
    refine aw_iadd dX10_expect_24 ?_
    refine aw_eqi (y := nI (a + 1)) (nI_add _ _) ?_
    refine aw_put dX10_expect_25 fp_X10_22 te_0 (by omega) rfl rfl (Nat.le_of_ble_eq_true rfl) rfl ?_
    refine aw_up hJ0 ct_1 ⟨_, _, _, (a + 1), rfl, (by first | omega | (split <;> omega))⟩ (WO (s := 3) (x := .int (nI (a + 1))) te_0 rfl LM0 (by decide) (by decide) (by decide) (Or.inl (by decide))) (fun V_8 j_8 k_8 e_8 => ?_)
    refine aw_iconst (v := 1) dX10_expect_28 (by decide) ?_
    refine aw_zreti dX10_expect_29 rfl (by first | exact Or.inl rfl | exact Or.inr rfl | assumption) (Nat.le_of_ble_eq_true rfl) (Nat.le_of_ble_eq_true rfl) ?_
    exact ⟨⟨(by first | exact Or.inl rfl | exact Or.inr rfl | assumption), ⟨(a + 1), by omega, ⟨⟨_, _, _, e_8⟩, by omega⟩⟩⟩, rfl, j_8⟩
  · skip
    refine aw_aload_n dX10_expect_8 rfl ?_
    refine aw_iconst (v := 1) dX10_expect_9 (by decide) ?_
    refine aw_aload_n dX10_expect_10 rfl ?_
    refine aw_get dX10_expect_11 fl_X10_22 te_0 (by omega) rfl ?_
    refine aw_callVi (J' := jX10_fail) (As := [.int 1, .int (nI a)]) (st := []) dX10_expect_14 tb_315 ok_X10_fail ⟨_, te_0⟩ (by omega) rfl rfl (g_X10_fail l D b N V hN hJ0.1 1 (nI a) a (⟨⟨_, _, _, te_0⟩, by omega⟩)) rfl (Nat.le_of_ble_eq_true rfl) ⟨Nat.le_of_ble_eq_true rfl, Nat.le_of_ble_eq_true rfl, Nat.le_of_ble_eq_true rfl, Nat.le_of_ble_eq_true rfl⟩ (fun r_18 N_19 V_13 q_20 => ?_)
    obtain ⟨⟨z_11, h_10⟩, rfl, q_9⟩ := q_20
    have j_12 := JW.trans hJ0 (JW.weak q_9 (Sub.cons (LMs LM0) (by decide) (by decide) (by decide) (Or.inr ⟨by decide, by decide⟩) Sub.nil))
    obtain ⟨h_17, a_14, ha_15, ⟨ts_t_16, tn_t_16, tf_t_16, te_t_16⟩, hb_t_16⟩ := h_10
    obtain rfl := h_17
    refine aw_zreti dX10_expect_17 rfl (by first | exact Or.inl rfl | exact Or.inr rfl | assumption) (Nat.le_of_ble_eq_true rfl) (Nat.le_of_ble_eq_true rfl) ?_
    exact ⟨⟨(by first | exact Or.inl rfl | exact Or.inr rfl | assumption), ⟨a_14, by omega, ⟨⟨_, _, _, te_t_16⟩, by omega⟩⟩⟩, rfl, j_12⟩

set_option maxHeartbeats 4000000 in
set_option maxRecDepth 100000 in
theorem g_X10_readNumber (l : Launch) (D : va_G) (b : Nat) (N : Nat) (V : Wd) (hN : 100 ≤ N) (hW : CW D b V) (n0 : Int32) (a : Nat) (hT : TA b a V) : MI l D b 1 jX10_readNumber [.ref (b + 1), .int n0] N V 0 0 (fun r N9 V9 => (∃ a9, a ≤ a9 ∧ TA b a9 V9) ∧ N = N9 ∧ JW D b N [(1, 1, 3, 3), (1, 1, 4, 4)] V V9) := by
  have hJ0 : JW D b N [(1, 1, 3, 3), (1, 1, 4, 4)] V V := JW.rf hW
  obtain ⟨⟨ts_0, tn_0, tf_0, te_0⟩, ha_0⟩ := id hT
  refine mw_of (by decide) (by simp [Value.category]) (Nat.le_of_ble_eq_true rfl) ?_
  show AW l D b jX10_readNumber (fx_rm 1 0 0) none (fx_MQ D b 0 0 (fx_qi (fun r N9 V9 => (∃ a9, a ≤ a9 ∧ TA b a9 V9) ∧ N = N9 ∧ JW D b N [(1, 1, 3, 3), (1, 1, 4, 4)] V V9))) 0 [some (.ref (b + 1)), some (.int n0), none, none] [] N V 0 0
  refine aw_aload_n dX10_readNumber_0 rfl ?_
  refine aw_callVi (J' := jX10_now) (As := []) (st := []) dX10_readNumber_1 tb_311 ok_X10_now ⟨_, te_0⟩ (by omega) rfl rfl (g_X10_now l D b N V hN hJ0.1 a (⟨⟨_, _, _, te_0⟩, by omega⟩)) rfl (Nat.le_of_ble_eq_true rfl) ⟨Nat.le_of_ble_eq_true rfl, Nat.le_of_ble_eq_true rfl, Nat.le_of_ble_eq_true rfl, Nat.le_of_ble_eq_true rfl⟩ (fun r_3 N_4 V_5 q_6 => ?_)
  obtain ⟨h_2, rfl, rfl⟩ := q_6
  refine aw_callSi (J' := jX10_isDigit) (As := [.int r_3]) (st := []) dX10_readNumber_4 tb_365 ok_X10_isDigit rfl (g_X10_isDigit l D b N V hN hJ0.1 r_3) rfl (Nat.le_of_ble_eq_true rfl) ⟨Nat.le_of_ble_eq_true rfl, Nat.le_of_ble_eq_true rfl, Nat.le_of_ble_eq_true rfl, Nat.le_of_ble_eq_true rfl⟩ (fun r_10 N_11 V_12 q_13 => ?_)
  obtain ⟨⟨z_9, h_8⟩, rfl, rfl⟩ := q_13
  refine aw_if_ne (tgt := 22) dX10_readNumber_7 (by decide) (fun c_14 => ?_) (fun c_14 => ?_)
  · skip
    have h0c_14 := h_8.resolve_left c_14
    have hlc_14 := h_2.resolve_left (fun z => absurd h0c_14 (by rw [z]; decide))
    refine aw_aload_n dX10_readNumber_22 rfl ?_
    refine aw_get dX10_readNumber_23 fl_X10_22 te_0 (by omega) rfl ?_
    refine aw_istore_n (ls' := [some (.ref (b + 1)), some (.int n0), some (.int (nI a)), none]) dX10_readNumber_26 (Nat.le_of_ble_eq_true rfl) rfl ?_
    refine aw_iconst (v := 0) dX10_readNumber_27 (by decide) ?_
    refine aw_istore_n (ls' := [some (.ref (b + 1)), some (.int n0), some (.int (nI a)), some (.int 0)]) dX10_readNumber_28 (Nat.le_of_ble_eq_true rfl) rfl ?_
    have ml_29_15 : ∀ (m : Nat) (a29 : Nat) (v29_3 : Int32) (V29 : Wd), m = 260 - a29 → (JW D b N [(1, 1, 3, 3), (1, 1, 4, 4)] V V29) → (TA b a29 V29) → (a ≤ a29) → AW l D b jX10_readNumber (fx_rm 1 0 0) none (fx_MQ D b 0 0 (fx_qi (fun r N9 V9 => (∃ a9, a ≤ a9 ∧ TA b a9 V9) ∧ N = N9 ∧ JW D b N [(1, 1, 3, 3), (1, 1, 4, 4)] V V9))) 29 [some (.ref (b + 1)), some (.int n0), some (.int (nI a)), some (.int v29_3)] [] N V29 0 0 := by
      intro m; refine Nat.strongRecOn m ?_
      intro m mih_29_15 a29 v29_3 V29 hm29 i29_0 i29_1 i29_2
      obtain ⟨⟨ts_29, tn_29, tf_29, te_29⟩, hb_29⟩ := i29_1
      refine aw_aload_n dX10_readNumber_29 rfl ?_
      refine aw_get dX10_readNumber_30 fl_X10_22 te_29 (by omega) rfl ?_
      refine aw_aload_n dX10_readNumber_33 rfl ?_
      refine aw_get dX10_readNumber_34 fl_X10_19 te_29 (by omega) rfl ?_
      refine aw_icmp_ge (tgt := 98) dX10_readNumber_37 (by decide) (fun c_16 => ?_) (fun c_16 => ?_)
      · skip
        refine aw_iload_n dX10_readNumber_98 rfl ?_
        refine aw_ireti dX10_readNumber_99 rfl (Nat.le_of_ble_eq_true rfl) (Nat.le_of_ble_eq_true rfl) ?_
        exact ⟨⟨a29, by omega, ⟨⟨_, _, _, te_29⟩, by omega⟩⟩, rfl, i29_0⟩
      · skip
        refine aw_aload_n dX10_readNumber_40 rfl ?_
        refine aw_callVi (J' := jX10_now) (As := []) (st := []) dX10_readNumber_41 tb_311 ok_X10_now ⟨_, te_29⟩ (by omega) rfl rfl (g_X10_now l D b N V29 hN i29_0.1 a29 (⟨⟨_, _, _, te_29⟩, by omega⟩)) rfl (Nat.le_of_ble_eq_true rfl) ⟨Nat.le_of_ble_eq_true rfl, Nat.le_of_ble_eq_true rfl, Nat.le_of_ble_eq_true rfl, Nat.le_of_ble_eq_true rfl⟩ (fun r_19 N_20 V_21 q_22 => ?_)
        obtain ⟨h_18, rfl, rfl⟩ := q_22
        refine aw_callSi (J' := jX10_isDigit) (As := [.int r_19]) (st := []) dX10_readNumber_44 tb_365 ok_X10_isDigit rfl (g_X10_isDigit l D b N V29 hN i29_0.1 r_19) rfl (Nat.le_of_ble_eq_true rfl) ⟨Nat.le_of_ble_eq_true rfl, Nat.le_of_ble_eq_true rfl, Nat.le_of_ble_eq_true rfl, Nat.le_of_ble_eq_true rfl⟩ (fun r_26 N_27 V_28 q_29 => ?_)
        obtain ⟨⟨z_25, h_24⟩, rfl, rfl⟩ := q_29
        refine aw_if_eq (tgt := 98) dX10_readNumber_47 (by decide) (fun c_30 => ?_) (fun c_30 => ?_)
        · skip
          refine aw_iload_n dX10_readNumber_98 rfl ?_
          refine aw_ireti dX10_readNumber_99 rfl (Nat.le_of_ble_eq_true rfl) (Nat.le_of_ble_eq_true rfl) ?_
          exact ⟨⟨a29, by omega, ⟨⟨_, _, _, te_29⟩, by omega⟩⟩, rfl, i29_0⟩
        · skip
          have h0c_30 := h_24.resolve_left c_30
          have hlc_30 := h_18.resolve_left (fun z => absurd h0c_30 (by rw [z]; decide))
          refine aw_aload_n dX10_readNumber_50 rfl ?_
          refine aw_get dX10_readNumber_51 fl_X10_22 te_29 (by omega) rfl ?_
          refine aw_iload_n dX10_readNumber_54 rfl ?_
          refine aw_isub dX10_readNumber_55 ?_
          refine aw_iload_n dX10_readNumber_56 rfl ?_
          refine aw_icmp_lt (tgt := 72) dX10_readNumber_57 (by decide) (fun c_31 => ?_) (fun c_31 => ?_)
          · skip
            refine aw_bipush (v := 10) dX10_readNumber_72 (by decide) ?_
            refine aw_iload_n dX10_readNumber_74 rfl ?_
            refine aw_imul dX10_readNumber_75 ?_
            refine aw_aload_n dX10_readNumber_76 rfl ?_
            refine aw_callVi (J' := jX10_now) (As := []) (st := [.int (10 * v29_3)]) dX10_readNumber_77 tb_311 ok_X10_now ⟨_, te_29⟩ (by omega) rfl rfl (g_X10_now l D b N V29 hN i29_0.1 a29 (⟨⟨_, _, _, te_29⟩, by omega⟩)) rfl (Nat.le_of_ble_eq_true rfl) ⟨Nat.le_of_ble_eq_true rfl, Nat.le_of_ble_eq_true rfl, Nat.le_of_ble_eq_true rfl, Nat.le_of_ble_eq_true rfl⟩ (fun r_34 N_35 V_36 q_37 => ?_)
            obtain ⟨h_33, rfl, rfl⟩ := q_37
            refine aw_bipush (v := 48) dX10_readNumber_80 (by decide) ?_
            refine aw_isub dX10_readNumber_82 ?_
            refine aw_iadd dX10_readNumber_83 ?_
            refine aw_istore_n (ls' := [some (.ref (b + 1)), some (.int n0), some (.int (nI a)), some (.int ((10 * v29_3) + (r_34 - 48)))]) dX10_readNumber_84 (Nat.le_of_ble_eq_true rfl) rfl ?_
            refine aw_aload_n dX10_readNumber_85 rfl ?_
            refine aw_dup dX10_readNumber_86 rfl ?_
            refine aw_get dX10_readNumber_87 fl_X10_22 te_29 (by omega) rfl ?_
            refine aw_iconst (v := 1) dX10_readNumber_90 (by decide) ?_
            refine aw_iadd dX10_readNumber_91 ?_
            refine aw_eqi (y := nI (a29 + 1)) (nI_add _ _) ?_
            refine aw_put dX10_readNumber_92 fp_X10_22 te_29 (by omega) rfl rfl (Nat.le_of_ble_eq_true rfl) rfl ?_
            refine aw_up i29_0 ct_1 ⟨_, _, _, (a29 + 1), rfl, (by first | omega | (split <;> omega))⟩ (WO (s := 3) (x := .int (nI (a29 + 1))) te_29 rfl LM0 (by decide) (by decide) (by decide) (Or.inl (by decide))) (fun V_38 j_38 k_38 e_38 => ?_)
            refine aw_goto (tgt := 29) dX10_readNumber_95 (by decide) ?_
            refine aw_le ?_ (mih_29_15 _ (by omega) (a29 + 1) ((10 * v29_3) + (r_34 - 48)) V_38 rfl (j_38) (⟨⟨_, _, _, e_38⟩, by omega⟩) (by omega))
            exact ⟨rfl, ⟨rfl, ⟨rfl, ⟨rfl, trivial⟩⟩⟩⟩
          · skip
            refine aw_aload_n dX10_readNumber_60 rfl ?_
            refine aw_iconst (v := 2) dX10_readNumber_61 (by decide) ?_
            refine aw_aload_n dX10_readNumber_62 rfl ?_
            refine aw_get dX10_readNumber_63 fl_X10_22 te_29 (by omega) rfl ?_
            refine aw_callVi (J' := jX10_fail) (As := [.int 2, .int (nI a29)]) (st := []) dX10_readNumber_66 tb_315 ok_X10_fail ⟨_, te_29⟩ (by omega) rfl rfl (g_X10_fail l D b N V29 hN i29_0.1 2 (nI a29) a29 (⟨⟨_, _, _, te_29⟩, by omega⟩)) rfl (Nat.le_of_ble_eq_true rfl) ⟨Nat.le_of_ble_eq_true rfl, Nat.le_of_ble_eq_true rfl, Nat.le_of_ble_eq_true rfl, Nat.le_of_ble_eq_true rfl⟩ (fun r_48 N_49 V_43 q_50 => ?_)
            obtain ⟨⟨z_41, h_40⟩, rfl, q_39⟩ := q_50
            have j_42 := JW.trans i29_0 (JW.weak q_39 (Sub.cons (LMs LM0) (by decide) (by decide) (by decide) (Or.inr ⟨by decide, by decide⟩) Sub.nil))
            obtain ⟨h_47, a_44, ha_45, ⟨ts_t_46, tn_t_46, tf_t_46, te_t_46⟩, hb_t_46⟩ := h_40
            obtain rfl := h_47
            refine aw_pop dX10_readNumber_69 rfl ?_
            refine aw_iconst (v := (-1)) dX10_readNumber_70 (by decide) ?_
            refine aw_ireti dX10_readNumber_71 rfl (Nat.le_of_ble_eq_true rfl) (Nat.le_of_ble_eq_true rfl) ?_
            exact ⟨⟨a_44, by omega, ⟨⟨_, _, _, te_t_46⟩, by omega⟩⟩, rfl, j_42⟩
    refine aw_le ?_ (ml_29_15 _ a 0 V rfl (hJ0) (⟨⟨_, _, _, te_0⟩, by omega⟩) (by omega))
    exact ⟨rfl, ⟨rfl, ⟨rfl, ⟨rfl, trivial⟩⟩⟩⟩
  · skip
    refine aw_aload_n dX10_readNumber_10 rfl ?_
    refine aw_iconst (v := 1) dX10_readNumber_11 (by decide) ?_
    refine aw_aload_n dX10_readNumber_12 rfl ?_
    refine aw_get dX10_readNumber_13 fl_X10_22 te_0 (by omega) rfl ?_
    refine aw_callVi (J' := jX10_fail) (As := [.int 1, .int (nI a)]) (st := []) dX10_readNumber_16 tb_315 ok_X10_fail ⟨_, te_0⟩ (by omega) rfl rfl (g_X10_fail l D b N V hN hJ0.1 1 (nI a) a (⟨⟨_, _, _, te_0⟩, by omega⟩)) rfl (Nat.le_of_ble_eq_true rfl) ⟨Nat.le_of_ble_eq_true rfl, Nat.le_of_ble_eq_true rfl, Nat.le_of_ble_eq_true rfl, Nat.le_of_ble_eq_true rfl⟩ (fun r_60 N_61 V_55 q_62 => ?_)
    obtain ⟨⟨z_53, h_52⟩, rfl, q_51⟩ := q_62
    have j_54 := JW.trans hJ0 (JW.weak q_51 (Sub.cons (LMs LM0) (by decide) (by decide) (by decide) (Or.inr ⟨by decide, by decide⟩) Sub.nil))
    obtain ⟨h_59, a_56, ha_57, ⟨ts_t_58, tn_t_58, tf_t_58, te_t_58⟩, hb_t_58⟩ := h_52
    obtain rfl := h_59
    refine aw_pop dX10_readNumber_19 rfl ?_
    refine aw_iconst (v := (-1)) dX10_readNumber_20 (by decide) ?_
    refine aw_ireti dX10_readNumber_21 rfl (Nat.le_of_ble_eq_true rfl) (Nat.le_of_ble_eq_true rfl) ?_
    exact ⟨⟨a_56, by omega, ⟨⟨_, _, _, te_t_58⟩, by omega⟩⟩, rfl, j_54⟩
