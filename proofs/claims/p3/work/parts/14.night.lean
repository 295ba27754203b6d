set_option maxHeartbeats 4000000 in
set_option maxRecDepth 100000 in
theorem g_X7_meanDoorFor (l : Launch) (D : va_G) (b : Nat) (N : Nat) (V : Wd) (hN : 100 ≤ N) (hW : CW D b V) (c : Nat) (hc : c = 3 ∨ c = 21 ∨ c = 39 ∨ c = 74) (x : Nat) (hx : x = 57 ∨ x = 65) (n0 : Int32) (n1 : Int32)  : MV l D b 2 jX7_meanDoorFor [.ref (b + c), .ref (b + x), .int n0, .int n1] N V 0 0 (fun N9 V9 => N = N9 ∧ JW D b N [(x + 6, x + 6, 0, 1000000)] V V9) := by
  have hJ0 : JW D b N [(x + 6, x + 6, 0, 1000000)] V V := JW.rf hW
  refine mw_of (by decide) (by simp [Value.category]) (Nat.le_of_ble_eq_true rfl) ?_
  show AW l D b jX7_meanDoorFor (fx_rm 2 0 0) none (fx_MQ D b 0 0 (fx_qv (fun N9 V9 => N = N9 ∧ JW D b N [(x + 6, x + 6, 0, 1000000)] V V9))) 0 [some (.ref (b + c)), some (.ref (b + x)), some (.int n0), some (.int n1), none] [] N V 0 0
  refine aw_aload_n dX7_meanDoorFor_0 rfl ?_
  refine aw_iload_n dX7_meanDoorFor_1 rfl ?_
  obtain ⟨pe_4, dd_4, ni_4, xx_4, e_4⟩ := JW.get hJ0 (ctc_0 hc)
  refine aw_callVi (J' := jX0_isDoor) (As := [.int n1]) (st := []) dX7_meanDoorFor_2 tb_699 ok_X0_isDoor ⟨_, e_4⟩ (by omega) rfl rfl (g_X0_isDoor l D b N V hN hJ0.1 c hc n1) rfl (Nat.le_of_ble_eq_true rfl) ⟨Nat.le_of_ble_eq_true rfl, Nat.le_of_ble_eq_true rfl, Nat.le_of_ble_eq_true rfl, Nat.le_of_ble_eq_true rfl⟩ (fun r_5 N_6 V_7 q_8 => ?_)
  obtain ⟨⟨z_3, h_2⟩, rfl, rfl⟩ := q_8
  refine aw_if_eq (tgt := 46) dX7_meanDoorFor_5 (by decide) (fun c_9 => ?_) (fun c_9 => ?_)
  · skip
    refine aw_vreti dX7_meanDoorFor_46 rfl (Nat.le_of_ble_eq_true rfl) (Nat.le_of_ble_eq_true rfl) ?_
    exact ⟨rfl, hJ0⟩
  · skip
    refine aw_aload_n dX7_meanDoorFor_8 rfl ?_
    refine aw_get dX7_meanDoorFor_9 fl_X7_93 e_4 (by omega) rfl ?_
    refine aw_iload_n dX7_meanDoorFor_12 rfl ?_
    obtain ⟨g_10, e_10⟩ := JW.get hJ0 (ctc_15 hc)
    refine aw_iald (v := (g_10 (Int32.toNatClampNeg n1))) dX7_meanDoorFor_13 e_10 (by omega) (vi_res h_2 c_9 (by decide)) rfl ?_
    refine aw_istore (ls' := [some (.ref (b + c)), some (.ref (b + x)), some (.int n0), some (.int n1), some (.int (g_10 (Int32.toNatClampNeg n1)))]) dX7_meanDoorFor_14 (Nat.le_of_ble_eq_true rfl) rfl ?_
    refine aw_aload_n dX7_meanDoorFor_16 rfl ?_
    refine aw_iload_n dX7_meanDoorFor_17 rfl ?_
    refine aw_iload dX7_meanDoorFor_18 rfl ?_
    refine aw_aload_n dX7_meanDoorFor_20 rfl ?_
    refine aw_iload_n dX7_meanDoorFor_21 rfl ?_
    refine aw_iload dX7_meanDoorFor_22 rfl ?_
    refine aw_callVi (J' := jX0_dreadOf) (As := [.int n0, .int (g_10 (Int32.toNatClampNeg n1))]) (st := [.int (g_10 (Int32.toNatClampNeg n1)), .int n1, .ref (b + x)]) dX7_meanDoorFor_24 tb_703 ok_X0_dreadOf ⟨_, e_4⟩ (by omega) rfl rfl (g_X0_dreadOf l D b N V hN hJ0.1 c hc n0 (g_10 (Int32.toNatClampNeg n1))) rfl (Nat.le_of_ble_eq_true rfl) ⟨Nat.le_of_ble_eq_true rfl, Nat.le_of_ble_eq_true rfl, Nat.le_of_ble_eq_true rfl, Nat.le_of_ble_eq_true rfl⟩ (fun r_12 N_13 V_14 q_15 => ?_)
    obtain ⟨rfl, rfl⟩ := q_15
    obtain ⟨s8_19, r8_19, h8_19, e_19, hs_19, hr_19⟩ := JW.get hJ0 (ctl_0 hx)
    refine aw_callVv (J' := jX4_meanOther) (As := [.int n1, .int (g_10 (Int32.toNatClampNeg n1)), .int r_12]) (st := []) dX7_meanDoorFor_27 tb_655 ok_X4_meanOther ⟨_, e_19⟩ (by omega) rfl rfl (g_X4_meanOther l D b N V hN hJ0.1 x hx n1 (g_10 (Int32.toNatClampNeg n1)) r_12) rfl (Nat.le_of_ble_eq_true rfl) ⟨Nat.le_of_ble_eq_true rfl, Nat.le_of_ble_eq_true rfl, Nat.le_of_ble_eq_true rfl, Nat.le_of_ble_eq_true rfl⟩ (fun  N_20 V_18 q_21 => ?_)
    obtain ⟨rfl, q_16⟩ := q_21
    have j_17 := JW.trans hJ0 (JW.weak q_16 (Sub.cons LM0 (by omega) (by omega) (by decide) (Or.inl rfl) Sub.nil))
    refine aw_aload_n dX7_meanDoorFor_30 rfl ?_
    refine aw_aload_n dX7_meanDoorFor_31 rfl ?_
    obtain ⟨pe_22, dd_22, ni_22, xx_22, e_22⟩ := JW.get j_17 (ctc_0 hc)
    refine aw_get dX7_meanDoorFor_32 fl_X7_100 e_22 (by omega) rfl ?_
    refine aw_iload_n dX7_meanDoorFor_35 rfl ?_
    obtain ⟨g_23, e_23⟩ := JW.get j_17 (ctc_16 hc)
    refine aw_iald (v := (g_23 (Int32.toNatClampNeg n1))) dX7_meanDoorFor_36 e_23 (by omega) (vi_res h_2 c_9 (by decide)) rfl ?_
    refine aw_aload_n dX7_meanDoorFor_37 rfl ?_
    refine aw_get dX7_meanDoorFor_38 fl_X7_103 e_22 (by omega) rfl ?_
    refine aw_iload_n dX7_meanDoorFor_41 rfl ?_
    obtain ⟨g_24, e_24⟩ := JW.get j_17 (ctc_17 hc)
    refine aw_iald (v := (g_24 (Int32.toNatClampNeg n1))) dX7_meanDoorFor_42 e_24 (by omega) (vi_res h_2 c_9 (by decide)) rfl ?_
    obtain ⟨s8_28, r8_28, h8_28, e_28, hs_28, hr_28⟩ := JW.get j_17 (ctl_0 hx)
    refine aw_callVv (J' := jX4_meanDoor) (As := [.int (g_23 (Int32.toNatClampNeg n1)), .int (g_24 (Int32.toNatClampNeg n1))]) (st := []) dX7_meanDoorFor_43 tb_659 ok_X4_meanDoor ⟨_, e_28⟩ (by omega) rfl rfl (g_X4_meanDoor l D b N V_18 hN j_17.1 x hx (g_23 (Int32.toNatClampNeg n1)) (g_24 (Int32.toNatClampNeg n1))) rfl (Nat.le_of_ble_eq_true rfl) ⟨Nat.le_of_ble_eq_true rfl, Nat.le_of_ble_eq_true rfl, Nat.le_of_ble_eq_true rfl, Nat.le_of_ble_eq_true rfl⟩ (fun  N_29 V_27 q_30 => ?_)
    obtain ⟨rfl, q_25⟩ := q_30
    have j_26 := JW.trans j_17 (JW.weak q_25 (Sub.cons LM0 (by omega) (by omega) (by decide) (Or.inl rfl) Sub.nil))
    refine aw_vreti dX7_meanDoorFor_46 rfl (Nat.le_of_ble_eq_true rfl) (Nat.le_of_ble_eq_true rfl) ?_
    exact ⟨rfl, j_26⟩

set_option maxHeartbeats 4000000 in
set_option maxRecDepth 100000 in
theorem g_X7_doorTried (l : Launch) (D : va_G) (b : Nat) (N : Nat) (V : Wd) (hN : 100 ≤ N) (hW : CW D b V) (c : Nat) (hc : c = 3 ∨ c = 21 ∨ c = 39 ∨ c = 74) (x : Nat) (hx : x = 57 ∨ x = 65) (n0 : Int32)  : MI l D b 3 jX7_doorTried [.ref (b + c), .ref (b + x), .int n0] N V 0 0 (fun r N9 V9 => N = N9 ∧ JW D b N [(x + 6, x + 6, 0, 1000000), (x, x, 9, 9), (x + 7, x + 7, 0, 1000000)] V V9) := by
  have hJ0 : JW D b N [(x + 6, x + 6, 0, 1000000), (x, x, 9, 9), (x + 7, x + 7, 0, 1000000)] V V := JW.rf hW
  refine mw_of (by decide) (by simp [Value.category]) (Nat.le_of_ble_eq_true rfl) ?_
  show AW l D b jX7_doorTried (fx_rm 3 0 0) none (fx_MQ D b 0 0 (fx_qi (fun r N9 V9 => N = N9 ∧ JW D b N [(x + 6, x + 6, 0, 1000000), (x, x, 9, 9), (x + 7, x + 7, 0, 1000000)] V V9))) 0 [some (.ref (b + c)), some (.ref (b + x)), some (.int n0), none, none, none, none] [] N V 0 0
  refine aw_bipush (v := (-2)) dX7_doorTried_0 (by decide) ?_
  refine aw_istore_n (ls' := [some (.ref (b + c)), some (.ref (b + x)), some (.int n0), some (.int (-2)), none, none, none]) dX7_doorTried_2 (Nat.le_of_ble_eq_true rfl) rfl ?_
  refine aw_iconst (v := 0) dX7_doorTried_3 (by decide) ?_
  refine aw_istore (ls' := [some (.ref (b + c)), some (.ref (b + x)), some (.int n0), some (.int (-2)), some (.int 0), none, none]) dX7_doorTried_4 (Nat.le_of_ble_eq_true rfl) rfl ?_
  refine aw_iconst (v := 0) dX7_doorTried_6 (by decide) ?_
  refine aw_istore (ls' := [some (.ref (b + c)), some (.ref (b + x)), some (.int n0), some (.int (-2)), some (.int 0), some (.int 0), none]) dX7_doorTried_7 (Nat.le_of_ble_eq_true rfl) rfl ?_
  have loop_9_0 : ∀ (g_9 : Nat), ∀ (j9 : Nat) (v9_3 : Int32) (v9_4 : Int32) (V9 : Wd), j9 + g_9 = 16 → (JW D b N [(x + 6, x + 6, 0, 1000000), (x, x, 9, 9), (x + 7, x + 7, 0, 1000000)] V V9) → AW l D b jX7_doorTried (fx_rm 3 0 0) none (fx_MQ D b 0 0 (fx_qi (fun r N9 V9 => N = N9 ∧ JW D b N [(x + 6, x + 6, 0, 1000000), (x, x, 9, 9), (x + 7, x + 7, 0, 1000000)] V V9))) 9 [some (.ref (b + c)), some (.ref (b + x)), some (.int n0), some (.int v9_3), some (.int v9_4), some (.int (nI j9)), none] [] N V9 0 0 := by
    intro g_9
    induction g_9 with
    | zero =>
      intro j9 v9_3 v9_4 V9 hj9 i9_0
      obtain rfl : j9 = 16 := by omega
      refine aw_iload dX7_doorTried_9 rfl ?_
      refine aw_bipush (v := 16) dX7_doorTried_11 (by decide) ?_
      refine aw_icmp_ge (tgt := 64) dX7_doorTried_13 (by decide) (fun c_3 => ?_) (fun c_3 => ?_)
      rotate_left
      · exact absurd (nI_le (a := 16) (b := 16) (Nat.le_refl _) (by omega)) c_3
      refine aw_iload_n dX7_doorTried_64 rfl ?_
      refine aw_ireti dX7_doorTried_65 rfl (Nat.le_of_ble_eq_true rfl) (Nat.le_of_ble_eq_true rfl) ?_
      exact ⟨rfl, i9_0⟩
    | succ g_9 ih_9_1 =>
      intro j9 v9_3 v9_4 V9 hj9 i9_0
      have hlj9 : j9 < 16 := by omega
      refine aw_iload dX7_doorTried_9 rfl ?_
      refine aw_bipush (v := 16) dX7_doorTried_11 (by decide) ?_
      refine aw_icmp_ge (tgt := 64) dX7_doorTried_13 (by decide) (fun c_4 => ?_) (fun c_4 => ?_)
      · exact absurd c_4 (nI_ge (a := j9) (b := 16) (by omega) (by omega))
      refine aw_aload_n dX7_doorTried_16 rfl ?_
      refine aw_iload dX7_doorTried_17 rfl ?_
      obtain ⟨pe_8, dd_8, ni_8, xx_8, e_8⟩ := JW.get i9_0 (ctc_0 hc)
      refine aw_callVi (J' := jX0_isDoor) (As := [.int (nI j9)]) (st := []) dX7_doorTried_19 tb_699 ok_X0_isDoor ⟨_, e_8⟩ (by omega) rfl rfl (g_X0_isDoor l D b N V9 hN i9_0.1 c hc (nI j9)) rfl (Nat.le_of_ble_eq_true rfl) ⟨Nat.le_of_ble_eq_true rfl, Nat.le_of_ble_eq_true rfl, Nat.le_of_ble_eq_true rfl, Nat.le_of_ble_eq_true rfl⟩ (fun r_9 N_10 V_11 q_12 => ?_)
      obtain ⟨⟨z_7, h_6⟩, rfl, rfl⟩ := q_12
      refine aw_if_eq (tgt := 58) dX7_doorTried_22 (by decide) (fun c_13 => ?_) (fun c_13 => ?_)
      · skip
        refine aw_iinc (v := (nI (j9 + 1))) (ls' := [some (.ref (b + c)), some (.ref (b + x)), some (.int n0), some (.int v9_3), some (.int v9_4), some (.int (nI (j9 + 1))), none]) dX7_doorTried_58 rfl (fx_up_1 _) (Nat.le_of_ble_eq_true rfl) rfl ?_
        refine aw_goto (tgt := 9) dX7_doorTried_61 (by decide) ?_
        refine aw_le ?_ (ih_9_1 (j9 + 1) v9_3 v9_4 V9 (by omega) (i9_0))
        exact ⟨rfl, ⟨rfl, ⟨rfl, ⟨rfl, ⟨rfl, ⟨rfl, trivial⟩⟩⟩⟩⟩⟩
      · skip
        refine aw_aload_n dX7_doorTried_25 rfl ?_
        refine aw_aload_n dX7_doorTried_26 rfl ?_
        refine aw_iload_n dX7_doorTried_27 rfl ?_
        refine aw_iload dX7_doorTried_28 rfl ?_
        refine aw_callSv (J' := jX7_meanDoorFor) (As := [.ref (b + c), .ref (b + x), .int n0, .int (nI j9)]) (st := []) dX7_doorTried_30 tb_700 ok_X7_meanDoorFor rfl (g_X7_meanDoorFor l D b N V9 hN i9_0.1 c hc x hx n0 (nI j9)) rfl (Nat.le_of_ble_eq_true rfl) ⟨Nat.le_of_ble_eq_true rfl, Nat.le_of_ble_eq_true rfl, Nat.le_of_ble_eq_true rfl, Nat.le_of_ble_eq_true rfl⟩ (fun  N_17 V_16 q_18 => ?_)
        obtain ⟨rfl, q_14⟩ := q_18
        have j_15 := JW.trans i9_0 (JW.weak q_14 (Sub.cons LM0 (by omega) (by omega) (by decide) (Or.inl rfl) Sub.nil))
        refine aw_aload_n dX7_doorTried_33 rfl ?_
        refine aw_bipush (v := 101) dX7_doorTried_34 (by decide) ?_
        refine aw_sipush (v := 9999) dX7_doorTried_36 (by decide) ?_
        obtain ⟨s8_22, r8_22, h8_22, e_22, hs_22, hr_22⟩ := JW.get j_15 (ctl_0 hx)
        refine aw_callVi (J' := jX4_worth) (As := [.int 101, .int 9999]) (st := []) dX7_doorTried_39 tb_704 ok_X4_worth ⟨_, e_22⟩ (by omega) rfl rfl (g_X4_worth l D b N V_16 hN j_15.1 x hx 101 9999) rfl (Nat.le_of_ble_eq_true rfl) ⟨Nat.le_of_ble_eq_true rfl, Nat.le_of_ble_eq_true rfl, Nat.le_of_ble_eq_true rfl, Nat.le_of_ble_eq_true rfl⟩ (fun r_23 N_24 V_21 q_25 => ?_)
        obtain ⟨rfl, q_19⟩ := q_25
        have j_20 := JW.trans j_15 (JW.weak q_19 (Sub.cons (LMs LM0) (by omega) (by omega) (by decide) (Or.inr ⟨by decide, by decide⟩) (Sub.cons (LMs (LMs LM0)) (by omega) (by omega) (by decide) (Or.inl rfl) Sub.nil)))
        refine aw_istore (ls' := [some (.ref (b + c)), some (.ref (b + x)), some (.int n0), some (.int v9_3), some (.int v9_4), some (.int (nI j9)), some (.int r_23)]) dX7_doorTried_42 (Nat.le_of_ble_eq_true rfl) rfl ?_
        refine aw_iload dX7_doorTried_44 rfl ?_
        refine aw_iload dX7_doorTried_46 rfl ?_
        refine aw_icmp_le (tgt := 58) dX7_doorTried_48 (by decide) (fun c_26 => ?_) (fun c_26 => ?_)
        · skip
          refine aw_iinc (v := (nI (j9 + 1))) (ls' := [some (.ref (b + c)), some (.ref (b + x)), some (.int n0), some (.int v9_3), some (.int v9_4), some (.int (nI (j9 + 1))), some (.int r_23)]) dX7_doorTried_58 rfl (fx_up_1 _) (Nat.le_of_ble_eq_true rfl) rfl ?_
          refine aw_goto (tgt := 9) dX7_doorTried_61 (by decide) ?_
          refine aw_le ?_ (ih_9_1 (j9 + 1) v9_3 v9_4 V_21 (by omega) (j_20))
          exact ⟨rfl, ⟨rfl, ⟨rfl, ⟨rfl, ⟨rfl, ⟨rfl, trivial⟩⟩⟩⟩⟩⟩
        · skip
          refine aw_iload dX7_doorTried_51 rfl ?_
          refine aw_istore (ls' := [some (.ref (b + c)), some (.ref (b + x)), some (.int n0), some (.int v9_3), some (.int r_23), some (.int (nI j9)), some (.int r_23)]) dX7_doorTried_53 (Nat.le_of_ble_eq_true rfl) rfl ?_
          refine aw_iload dX7_doorTried_55 rfl ?_
          refine aw_istore_n (ls' := [some (.ref (b + c)), some (.ref (b + x)), some (.int n0), some (.int (nI j9)), some (.int r_23), some (.int (nI j9)), some (.int r_23)]) dX7_doorTried_57 (Nat.le_of_ble_eq_true rfl) rfl ?_
          refine aw_iinc (v := (nI (j9 + 1))) (ls' := [some (.ref (b + c)), some (.ref (b + x)), some (.int n0), some (.int (nI j9)), some (.int r_23), some (.int (nI (j9 + 1))), some (.int r_23)]) dX7_doorTried_58 rfl (fx_up_1 _) (Nat.le_of_ble_eq_true rfl) rfl ?_
          refine aw_goto (tgt := 9) dX7_doorTried_61 (by decide) ?_
          refine aw_le ?_ (ih_9_1 (j9 + 1) (nI j9) r_23 V_21 (by omega) (j_20))
          exact ⟨rfl, ⟨rfl, ⟨rfl, ⟨rfl, ⟨rfl, ⟨rfl, trivial⟩⟩⟩⟩⟩⟩
  refine aw_le ?_ (loop_9_0 16 0 (-2) 0 V (by omega) (hJ0))
  exact ⟨rfl, ⟨rfl, ⟨rfl, ⟨rfl, ⟨rfl, ⟨rfl, trivial⟩⟩⟩⟩⟩⟩

set_option maxHeartbeats 4000000 in
set_option maxRecDepth 100000 in
theorem g_X7_tryDoor (l : Launch) (D : va_G) (b : Nat) (N : Nat) (V : Wd) (hN : 100 ≤ N) (hW : CW D b V) (c : Nat) (hc : c = 3 ∨ c = 21 ∨ c = 39 ∨ c = 74) (x : Nat) (hx : x = 57 ∨ x = 65) (n0 : Int32) (n1 : Int32)  : MV l D b 4 jX7_tryDoor [.ref (b + 73), .ref (b + c), .ref (b + x), .int n0, .int n1] N V 0 0 (fun N9 V9 => N = N9 ∧ JW D b N [(73, 73, 2, 2), (c + 2, c + 13, 0, 1000000), (x + 6, x + 6, 0, 1000000), (x, x, 9, 9), (x + 7, x + 7, 0, 1000000), (73, 73, 1, 1), (c + 17, c + 17, 0, 1000000)] V V9) := by
  have hJ0 : JW D b N [(73, 73, 2, 2), (c + 2, c + 13, 0, 1000000), (x + 6, x + 6, 0, 1000000), (x, x, 9, 9), (x + 7, x + 7, 0, 1000000), (73, 73, 1, 1), (c + 17, c + 17, 0, 1000000)] V V := JW.rf hW
  refine mw_of (by decide) (by simp [Value.category]) (Nat.le_of_ble_eq_true rfl) ?_
  show AW l D b jX7_tryDoor (fx_rm 4 0 0) none (fx_MQ D b 0 0 (fx_qv (fun N9 V9 => N = N9 ∧ JW D b N [(73, 73, 2, 2), (c + 2, c + 13, 0, 1000000), (x + 6, x + 6, 0, 1000000), (x, x, 9, 9), (x + 7, x + 7, 0, 1000000), (73, 73, 1, 1), (c + 17, c + 17, 0, 1000000)] V V9))) 0 [some (.ref (b + 73)), some (.ref (b + c)), some (.ref (b + x)), some (.int n0), some (.int n1), none, none, none] [] N V 0 0
  refine aw_aload_n dX7_tryDoor_0 rfl ?_
  refine aw_iload dX7_tryDoor_1 rfl ?_
  obtain ⟨pe_4, dd_4, ni_4, xx_4, e_4⟩ := JW.get hJ0 (ctc_0 hc)
  refine aw_callVi (J' := jX0_isDoor) (As := [.int n1]) (st := []) dX7_tryDoor_3 tb_699 ok_X0_isDoor ⟨_, e_4⟩ (by omega) rfl rfl (g_X0_isDoor l D b N V hN hJ0.1 c hc n1) rfl (Nat.le_of_ble_eq_true rfl) ⟨Nat.le_of_ble_eq_true rfl, Nat.le_of_ble_eq_true rfl, Nat.le_of_ble_eq_true rfl, Nat.le_of_ble_eq_true rfl⟩ (fun r_5 N_6 V_7 q_8 => ?_)
  obtain ⟨⟨z_3, h_2⟩, rfl, rfl⟩ := q_8
  refine aw_if_ne (tgt := 10) dX7_tryDoor_6 (by decide) (fun c_9 => ?_) (fun c_9 => ?_)
  · skip
    refine aw_aload_n dX7_tryDoor_10 rfl ?_
    refine aw_get dX7_tryDoor_11 fl_X7_93 e_4 (by omega) rfl ?_
    refine aw_iload dX7_tryDoor_14 rfl ?_
    obtain ⟨g_10, e_10⟩ := JW.get hJ0 (ctc_15 hc)
    refine aw_iald (v := (g_10 (Int32.toNatClampNeg n1))) dX7_tryDoor_16 e_10 (by omega) (vi_res h_2 c_9 (by decide)) rfl ?_
    refine aw_istore (ls' := [some (.ref (b + 73)), some (.ref (b + c)), some (.ref (b + x)), some (.int n0), some (.int n1), some (.int (g_10 (Int32.toNatClampNeg n1))), none, none]) dX7_tryDoor_17 (Nat.le_of_ble_eq_true rfl) rfl ?_
    refine aw_aload_n dX7_tryDoor_19 rfl ?_
    refine aw_iload_n dX7_tryDoor_20 rfl ?_
    refine aw_iload dX7_tryDoor_21 rfl ?_
    refine aw_callVi (J' := jX0_dreadOf) (As := [.int n0, .int (g_10 (Int32.toNatClampNeg n1))]) (st := []) dX7_tryDoor_23 tb_703 ok_X0_dreadOf ⟨_, e_4⟩ (by omega) rfl rfl (g_X0_dreadOf l D b N V hN hJ0.1 c hc n0 (g_10 (Int32.toNatClampNeg n1))) rfl (Nat.le_of_ble_eq_true rfl) ⟨Nat.le_of_ble_eq_true rfl, Nat.le_of_ble_eq_true rfl, Nat.le_of_ble_eq_true rfl, Nat.le_of_ble_eq_true rfl⟩ (fun r_12 N_13 V_14 q_15 => ?_)
    obtain ⟨rfl, rfl⟩ := q_15
    refine aw_istore (ls' := [some (.ref (b + 73)), some (.ref (b + c)), some (.ref (b + x)), some (.int n0), some (.int n1), some (.int (g_10 (Int32.toNatClampNeg n1))), some (.int r_12), none]) dX7_tryDoor_26 (Nat.le_of_ble_eq_true rfl) rfl ?_
    refine aw_aload_n dX7_tryDoor_28 rfl ?_
    refine aw_iload_n dX7_tryDoor_29 rfl ?_
    refine aw_iload dX7_tryDoor_30 rfl ?_
    refine aw_callVi (J' := jX0_opens) (As := [.int n0, .int n1]) (st := []) dX7_tryDoor_32 tb_713 ok_X0_opens ⟨_, e_4⟩ (by omega) rfl rfl (g_X0_opens l D b N V hN hJ0.1 c hc n0 n1) rfl (Nat.le_of_ble_eq_true rfl) ⟨Nat.le_of_ble_eq_true rfl, Nat.le_of_ble_eq_true rfl, Nat.le_of_ble_eq_true rfl, Nat.le_of_ble_eq_true rfl⟩ (fun r_18 N_19 V_20 q_21 => ?_)
    obtain ⟨h_17, rfl, rfl⟩ := q_21
    refine aw_if_eq (tgt := 103) dX7_tryDoor_35 (by decide) (fun c_22 => ?_) (fun c_22 => ?_)
    · skip
      refine aw_aload_n dX7_tryDoor_103 rfl ?_
      refine aw_dup dX7_tryDoor_104 rfl ?_
      obtain ⟨no_23, nf_23, e_23⟩ := JW.get hJ0 ct_73
      refine aw_get dX7_tryDoor_105 fl_X7_22 e_23 (by omega) rfl ?_
      refine aw_iconst (v := 1) dX7_tryDoor_108 (by decide) ?_
      refine aw_iadd dX7_tryDoor_109 ?_
      refine aw_put dX7_tryDoor_110 fp_X7_22 e_23 (by omega) rfl rfl (Nat.le_of_ble_eq_true rfl) rfl ?_
      refine aw_up hJ0 ct_73 ⟨_, _, rfl⟩ (WO (s := 2) (x := .int (nf_23 + 1)) e_23 rfl LM0 (by decide) (by decide) (by decide) (Or.inl (by decide))) (fun V_24 j_24 k_24 e_24 => ?_)
      refine aw_aload_n dX7_tryDoor_113 rfl ?_
      refine aw_iload_n dX7_tryDoor_114 rfl ?_
      refine aw_iload dX7_tryDoor_115 rfl ?_
      refine aw_iload dX7_tryDoor_117 rfl ?_
      refine aw_iconst (v := 1) dX7_tryDoor_119 (by decide) ?_
      refine aw_iadd dX7_tryDoor_120 ?_
      refine aw_callVv (J' := jX0_setDread) (As := [.int n0, .int (g_10 (Int32.toNatClampNeg n1)), .int (r_12 + 1)]) (st := []) dX7_tryDoor_121 tb_725 ok_X0_setDread ⟨_, ((k_24 _ (by omega)).trans e_4)⟩ (by omega) rfl rfl (g_X0_setDread l D b N V_24 hN j_24.1 c hc n0 (g_10 (Int32.toNatClampNeg n1)) (r_12 + 1)) rfl (Nat.le_of_ble_eq_true rfl) ⟨Nat.le_of_ble_eq_true rfl, Nat.le_of_ble_eq_true rfl, Nat.le_of_ble_eq_true rfl, Nat.le_of_ble_eq_true rfl⟩ (fun  N_28 V_27 q_29 => ?_)
      obtain ⟨rfl, q_25⟩ := q_29
      have j_26 := JW.trans j_24 (JW.weak q_25 (Sub.cons (LMs LM0) (by omega) (by omega) (by decide) (Or.inl rfl) Sub.nil))
      refine aw_vreti dX7_tryDoor_124 rfl (Nat.le_of_ble_eq_true rfl) (Nat.le_of_ble_eq_true rfl) ?_
      exact ⟨rfl, j_26⟩
    · skip
      refine aw_aload_n dX7_tryDoor_38 rfl ?_
      refine aw_aload_n dX7_tryDoor_39 rfl ?_
      refine aw_iload_n dX7_tryDoor_40 rfl ?_
      refine aw_iload dX7_tryDoor_41 rfl ?_
      refine aw_callSv (J' := jX7_meanDoorFor) (As := [.ref (b + c), .ref (b + x), .int n0, .int n1]) (st := []) dX7_tryDoor_43 tb_700 ok_X7_meanDoorFor rfl (g_X7_meanDoorFor l D b N V hN hJ0.1 c hc x hx n0 n1) rfl (Nat.le_of_ble_eq_true rfl) ⟨Nat.le_of_ble_eq_true rfl, Nat.le_of_ble_eq_true rfl, Nat.le_of_ble_eq_true rfl, Nat.le_of_ble_eq_true rfl⟩ (fun  N_33 V_32 q_34 => ?_)
      obtain ⟨rfl, q_30⟩ := q_34
      have j_31 := JW.trans hJ0 (JW.weak q_30 (Sub.cons (LMs (LMs LM0)) (by omega) (by omega) (by decide) (Or.inl rfl) Sub.nil))
      refine aw_aload_n dX7_tryDoor_46 rfl ?_
      refine aw_bipush (v := 99) dX7_tryDoor_47 (by decide) ?_
      refine aw_bipush (v := 99) dX7_tryDoor_49 (by decide) ?_
      obtain ⟨s8_38, r8_38, h8_38, e_38, hs_38, hr_38⟩ := JW.get j_31 (ctl_0 hx)
      refine aw_callVi (J' := jX4_worth) (As := [.int 99, .int 99]) (st := []) dX7_tryDoor_51 tb_704 ok_X4_worth ⟨_, e_38⟩ (by omega) rfl rfl (g_X4_worth l D b N V_32 hN j_31.1 x hx 99 99) rfl (Nat.le_of_ble_eq_true rfl) ⟨Nat.le_of_ble_eq_true rfl, Nat.le_of_ble_eq_true rfl, Nat.le_of_ble_eq_true rfl, Nat.le_of_ble_eq_true rfl⟩ (fun r_39 N_40 V_37 q_41 => ?_)
      obtain ⟨rfl, q_35⟩ := q_41
      have j_36 := JW.trans j_31 (JW.weak q_35 (Sub.cons (LMs (LMs (LMs LM0))) (by omega) (by omega) (by decide) (Or.inr ⟨by decide, by decide⟩) (Sub.cons (LMs (LMs (LMs (LMs LM0)))) (by omega) (by omega) (by decide) (Or.inl rfl) Sub.nil)))
      refine aw_istore (ls' := [some (.ref (b + 73)), some (.ref (b + c)), some (.ref (b + x)), some (.int n0), some (.int n1), some (.int (g_10 (Int32.toNatClampNeg n1))), some (.int r_12), some (.int r_39)]) dX7_tryDoor_54 (Nat.le_of_ble_eq_true rfl) rfl ?_
      refine aw_aload_n dX7_tryDoor_56 rfl ?_
      refine aw_dup dX7_tryDoor_57 rfl ?_
      obtain ⟨no_42, nf_42, e_42⟩ := JW.get j_36 ct_73
      refine aw_get dX7_tryDoor_58 fl_X7_18 e_42 (by omega) rfl ?_
      refine aw_iconst (v := 1) dX7_tryDoor_61 (by decide) ?_
      refine aw_iadd dX7_tryDoor_62 ?_
      refine aw_put dX7_tryDoor_63 fp_X7_18 e_42 (by omega) rfl rfl (Nat.le_of_ble_eq_true rfl) rfl ?_
      refine aw_up j_36 ct_73 ⟨_, _, rfl⟩ (WO (s := 1) (x := .int (no_42 + 1)) e_42 rfl (LMs (LMs (LMs (LMs (LMs LM0))))) (by decide) (by decide) (by decide) (Or.inl (by decide))) (fun V_43 j_43 k_43 e_43 => ?_)
      refine aw_aload_n dX7_tryDoor_66 rfl ?_
      obtain ⟨pe_44, dd_44, ni_44, xx_44, e_44⟩ := JW.get j_43 (ctc_0 hc)
      refine aw_get dX7_tryDoor_67 fl_X7_103 e_44 (by omega) rfl ?_
      refine aw_iload dX7_tryDoor_70 rfl ?_
      refine aw_sipush (v := 9999) dX7_tryDoor_72 (by decide) ?_
      refine aw_aload_n dX7_tryDoor_75 rfl ?_
      refine aw_get dX7_tryDoor_76 fl_X7_103 e_44 (by omega) rfl ?_
      refine aw_iload dX7_tryDoor_79 rfl ?_
      obtain ⟨g_45, e_45⟩ := JW.get j_43 (ctc_17 hc)
      refine aw_iald (v := (g_45 (Int32.toNatClampNeg n1))) dX7_tryDoor_81 e_45 (by omega) (vi_res h_2 c_9 (by decide)) rfl ?_
      refine aw_iconst (v := 1) dX7_tryDoor_82 (by decide) ?_
      refine aw_iadd dX7_tryDoor_83 ?_
      refine aw_mmin dX7_tryDoor_84 tb_724 tb_382 tb_13 tb_383 ⟨Nat.le_of_ble_eq_true rfl, Nat.le_of_ble_eq_true rfl, Nat.le_of_ble_eq_true rfl, Nat.le_of_ble_eq_true rfl⟩ ?_
      refine aw_iast dX7_tryDoor_87 e_45 (by omega) (vi_res h_2 c_9 (by decide)) ?_
      refine aw_up j_43 (ctc_17 hc) ⟨_, rfl⟩ (WA (LMs (LMs (LMs (LMs (LMs (LMs LM0)))))) (by omega) (by omega)) (fun V_46 j_46 k_46 e_46 => ?_)
      refine aw_aload_n dX7_tryDoor_88 rfl ?_
      refine aw_iload_n dX7_tryDoor_89 rfl ?_
      refine aw_iload dX7_tryDoor_90 rfl ?_
      refine aw_iload dX7_tryDoor_92 rfl ?_
      refine aw_iload dX7_tryDoor_94 rfl ?_
      refine aw_isub dX7_tryDoor_96 ?_
      refine aw_callVv (J' := jX0_setDread) (As := [.int n0, .int (g_10 (Int32.toNatClampNeg n1)), .int (r_12 - r_39)]) (st := []) dX7_tryDoor_97 tb_725 ok_X0_setDread ⟨_, ((k_46 _ (by omega)).trans e_44)⟩ (by omega) rfl rfl (g_X0_setDread l D b N V_46 hN j_46.1 c hc n0 (g_10 (Int32.toNatClampNeg n1)) (r_12 - r_39)) rfl (Nat.le_of_ble_eq_true rfl) ⟨Nat.le_of_ble_eq_true rfl, Nat.le_of_ble_eq_true rfl, Nat.le_of_ble_eq_true rfl, Nat.le_of_ble_eq_true rfl⟩ (fun  N_50 V_49 q_51 => ?_)
      obtain ⟨rfl, q_47⟩ := q_51
      have j_48 := JW.trans j_46 (JW.weak q_47 (Sub.cons (LMs LM0) (by omega) (by omega) (by decide) (Or.inl rfl) Sub.nil))
      refine aw_goto (tgt := 124) dX7_tryDoor_100 (by decide) ?_
      refine aw_vreti dX7_tryDoor_124 rfl (Nat.le_of_ble_eq_true rfl) (Nat.le_of_ble_eq_true rfl) ?_
      exact ⟨rfl, j_48⟩
  · skip
    refine aw_vreti dX7_tryDoor_9 rfl (Nat.le_of_ble_eq_true rfl) (Nat.le_of_ble_eq_true rfl) ?_
    exact ⟨rfl, hJ0⟩

set_option maxHeartbeats 4000000 in
set_option maxRecDepth 100000 in
theorem g_X7_goOut (l : Launch) (D : va_G) (b : Nat) (N : Nat) (V : Wd) (hN : 100 ≤ N) (hW : CW D b V) (c : Nat) (hc : c = 3 ∨ c = 21 ∨ c = 39 ∨ c = 74) (x : Nat) (hx : x = 57 ∨ x = 65) (n0 : Int32)  : MV l D b 5 jX7_goOut [.ref (b + 73), .ref (b + c), .ref (b + x), .int n0] N V 0 0 (fun N9 V9 => N = N9 ∧ JW D b N [(x + 6, x + 6, 0, 1000000), (c, c, 8, 8), (x, x, 9, 9), (x + 7, x + 7, 0, 1000000), (73, 73, 2, 2), (c + 2, c + 13, 0, 1000000), (73, 73, 1, 1), (c + 17, c + 17, 0, 1000000)] V V9) := by
  have hJ0 : JW D b N [(x + 6, x + 6, 0, 1000000), (c, c, 8, 8), (x, x, 9, 9), (x + 7, x + 7, 0, 1000000), (73, 73, 2, 2), (c + 2, c + 13, 0, 1000000), (73, 73, 1, 1), (c + 17, c + 17, 0, 1000000)] V V := JW.rf hW
  refine mw_of (by decide) (by simp [Value.category]) (Nat.le_of_ble_eq_true rfl) ?_
  show AW l D b jX7_goOut (fx_rm 5 0 0) none (fx_MQ D b 0 0 (fx_qv (fun N9 V9 => N = N9 ∧ JW D b N [(x + 6, x + 6, 0, 1000000), (c, c, 8, 8), (x, x, 9, 9), (x + 7, x + 7, 0, 1000000), (73, 73, 2, 2), (c + 2, c + 13, 0, 1000000), (73, 73, 1, 1), (c + 17, c + 17, 0, 1000000)] V V9))) 0 [some (.ref (b + 73)), some (.ref (b + c)), some (.ref (b + x)), some (.int n0), none] [] N V 0 0
  refine aw_aload_n dX7_goOut_0 rfl ?_
  refine aw_iload_n dX7_goOut_1 rfl ?_
  refine aw_aload_n dX7_goOut_2 rfl ?_
  refine aw_iload_n dX7_goOut_3 rfl ?_
  obtain ⟨pe_2, dd_2, ni_2, xx_2, e_2⟩ := JW.get hJ0 (ctc_0 hc)
  refine aw_callVi (J' := jX0_greatestDread) (As := [.int n0]) (st := [.int n0, .ref (b + x)]) dX7_goOut_4 tb_635 ok_X0_greatestDread ⟨_, e_2⟩ (by omega) rfl rfl (g_X0_greatestDread l D b N V hN hJ0.1 c hc n0) rfl (Nat.le_of_ble_eq_true rfl) ⟨Nat.le_of_ble_eq_true rfl, Nat.le_of_ble_eq_true rfl, Nat.le_of_ble_eq_true rfl, Nat.le_of_ble_eq_true rfl⟩ (fun r_3 N_4 V_5 q_6 => ?_)
  obtain ⟨rfl, rfl⟩ := q_6
  refine aw_aload_n dX7_goOut_7 rfl ?_
  refine aw_iload_n dX7_goOut_8 rfl ?_
  refine aw_callVi (J' := jX0_knownTo) (As := [.int n0]) (st := [.int r_3, .int n0, .ref (b + x)]) dX7_goOut_9 tb_641 ok_X0_knownTo ⟨_, e_2⟩ (by omega) rfl rfl (g_X0_knownTo l D b N V hN hJ0.1 c hc n0) rfl (Nat.le_of_ble_eq_true rfl) ⟨Nat.le_of_ble_eq_true rfl, Nat.le_of_ble_eq_true rfl, Nat.le_of_ble_eq_true rfl, Nat.le_of_ble_eq_true rfl⟩ (fun r_8 N_9 V_10 q_11 => ?_)
  obtain ⟨rfl, rfl⟩ := q_11
  refine aw_callSi (J' := jJ6_bitCount_0f7a4) (As := [.int r_8]) (st := [.int r_3, .int n0, .ref (b + x)]) dX7_goOut_12 tb_645 ok_J6_bitCount_0f7a4 rfl (c_bitCount l D b N V r_8) rfl (Nat.le_of_ble_eq_true rfl) ⟨Nat.le_of_ble_eq_true rfl, Nat.le_of_ble_eq_true rfl, Nat.le_of_ble_eq_true rfl, Nat.le_of_ble_eq_true rfl⟩ (fun r_12 N_13 V_14 q_15 => ?_)
  obtain ⟨rfl, rfl⟩ := q_15
  obtain ⟨s8_19, r8_19, h8_19, e_19, hs_19, hr_19⟩ := JW.get hJ0 (ctl_0 hx)
  refine aw_callVv (J' := jX4_meanPerson) (As := [.int n0, .int r_3, .int r_12]) (st := []) dX7_goOut_15 tb_651 ok_X4_meanPerson ⟨_, e_19⟩ (by omega) rfl rfl (g_X4_meanPerson l D b N V hN hJ0.1 x hx n0 r_3 r_12) rfl (Nat.le_of_ble_eq_true rfl) ⟨Nat.le_of_ble_eq_true rfl, Nat.le_of_ble_eq_true rfl, Nat.le_of_ble_eq_true rfl, Nat.le_of_ble_eq_true rfl⟩ (fun  N_20 V_18 q_21 => ?_)
  obtain ⟨rfl, q_16⟩ := q_21
  have j_17 := JW.trans hJ0 (JW.weak q_16 (Sub.cons LM0 (by omega) (by omega) (by decide) (Or.inl rfl) Sub.nil))
  refine aw_aload_n dX7_goOut_18 rfl ?_
  refine aw_iconst (v := 0) dX7_goOut_19 (by decide) ?_
  refine aw_iconst (v := 0) dX7_goOut_20 (by decide) ?_
  refine aw_iconst (v := 0) dX7_goOut_21 (by decide) ?_
  obtain ⟨s8_25, r8_25, h8_25, e_25, hs_25, hr_25⟩ := JW.get j_17 (ctl_0 hx)
  refine aw_callVv (J' := jX4_meanOther) (As := [.int 0, .int 0, .int 0]) (st := []) dX7_goOut_22 tb_655 ok_X4_meanOther ⟨_, e_25⟩ (by omega) rfl rfl (g_X4_meanOther l D b N V_18 hN j_17.1 x hx 0 0 0) rfl (Nat.le_of_ble_eq_true rfl) ⟨Nat.le_of_ble_eq_true rfl, Nat.le_of_ble_eq_true rfl, Nat.le_of_ble_eq_true rfl, Nat.le_of_ble_eq_true rfl⟩ (fun  N_26 V_24 q_27 => ?_)
  obtain ⟨rfl, q_22⟩ := q_27
  have j_23 := JW.trans j_17 (JW.weak q_22 (Sub.cons LM0 (by omega) (by omega) (by decide) (Or.inl rfl) Sub.nil))
  refine aw_aload_n dX7_goOut_25 rfl ?_
  refine aw_iconst (v := 0) dX7_goOut_26 (by decide) ?_
  refine aw_iconst (v := 0) dX7_goOut_27 (by decide) ?_
  obtain ⟨s8_31, r8_31, h8_31, e_31, hs_31, hr_31⟩ := JW.get j_23 (ctl_0 hx)
  refine aw_callVv (J' := jX4_meanDoor) (As := [.int 0, .int 0]) (st := []) dX7_goOut_28 tb_659 ok_X4_meanDoor ⟨_, e_31⟩ (by omega) rfl rfl (g_X4_meanDoor l D b N V_24 hN j_23.1 x hx 0 0) rfl (Nat.le_of_ble_eq_true rfl) ⟨Nat.le_of_ble_eq_true rfl, Nat.le_of_ble_eq_true rfl, Nat.le_of_ble_eq_true rfl, Nat.le_of_ble_eq_true rfl⟩ (fun  N_32 V_30 q_33 => ?_)
  obtain ⟨rfl, q_28⟩ := q_33
  have j_29 := JW.trans j_23 (JW.weak q_28 (Sub.cons LM0 (by omega) (by omega) (by decide) (Or.inl rfl) Sub.nil))
  refine aw_aload_n dX7_goOut_31 rfl ?_
  refine aw_aload_n dX7_goOut_32 rfl ?_
  obtain ⟨pe_34, dd_34, ni_34, xx_34, e_34⟩ := JW.get j_29 (ctc_0 hc)
  refine aw_get dX7_goOut_33 fl_X7_25 e_34 (by omega) rfl ?_
  refine aw_bipush (v := 100) dX7_goOut_36 (by decide) ?_
  refine aw_irem dX7_goOut_38 (by decide) ?_
  refine aw_aload_n dX7_goOut_39 rfl ?_
  refine aw_callVi (J' := jX0_draw) (As := []) (st := [.int (ni_34 - ni_34 / 100 * 100), .ref (b + x)]) dX7_goOut_40 tb_663 ok_X0_draw ⟨_, e_34⟩ (by omega) rfl rfl (g_X0_draw l D b N V_30 hN j_29.1 c hc) rfl (Nat.le_of_ble_eq_true rfl) ⟨Nat.le_of_ble_eq_true rfl, Nat.le_of_ble_eq_true rfl, Nat.le_of_ble_eq_true rfl, Nat.le_of_ble_eq_true rfl⟩ (fun r_38 N_39 V_37 q_40 => ?_)
  obtain ⟨rfl, q_35⟩ := q_40
  have j_36 := JW.trans j_29 (JW.weak q_35 (Sub.cons (LMs LM0) (by omega) (by omega) (by decide) (Or.inr ⟨by decide, by decide⟩) Sub.nil))
  obtain ⟨s8_44, r8_44, h8_44, e_44, hs_44, hr_44⟩ := JW.get j_36 (ctl_0 hx)
  refine aw_callVv (J' := jX4_meanTime) (As := [.int (ni_34 - ni_34 / 100 * 100), .int r_38]) (st := []) dX7_goOut_43 tb_668 ok_X4_meanTime ⟨_, e_44⟩ (by omega) rfl rfl (g_X4_meanTime l D b N V_37 hN j_36.1 x hx (ni_34 - ni_34 / 100 * 100) r_38) rfl (Nat.le_of_ble_eq_true rfl) ⟨Nat.le_of_ble_eq_true rfl, Nat.le_of_ble_eq_true rfl, Nat.le_of_ble_eq_true rfl, Nat.le_of_ble_eq_true rfl⟩ (fun  N_45 V_43 q_46 => ?_)
  obtain ⟨rfl, q_41⟩ := q_46
  have j_42 := JW.trans j_36 (JW.weak q_41 (Sub.cons LM0 (by omega) (by omega) (by decide) (Or.inl rfl) Sub.nil))
  refine aw_aload_n dX7_goOut_46 rfl ?_
  refine aw_bipush (v := 120) dX7_goOut_47 (by decide) ?_
  obtain ⟨s8_51, r8_51, h8_51, e_51, hs_51, hr_51⟩ := JW.get j_42 (ctl_0 hx)
  refine aw_callVi (J' := jX4_anyHolds) (As := [.int 120]) (st := []) dX7_goOut_49 tb_672 ok_X4_anyHolds ⟨_, e_51⟩ (by omega) rfl rfl (g_X4_anyHolds l D b N V_43 hN j_42.1 x hx 120) rfl (Nat.le_of_ble_eq_true rfl) ⟨Nat.le_of_ble_eq_true rfl, Nat.le_of_ble_eq_true rfl, Nat.le_of_ble_eq_true rfl, Nat.le_of_ble_eq_true rfl⟩ (fun r_52 N_53 V_50 q_54 => ?_)
  obtain ⟨h_48, rfl, q_47⟩ := q_54
  have j_49 := JW.trans j_42 (JW.weak q_47 (Sub.cons (LMs (LMs LM0)) (by omega) (by omega) (by decide) (Or.inr ⟨by decide, by decide⟩) (Sub.cons (LMs (LMs (LMs LM0))) (by omega) (by omega) (by decide) (Or.inl rfl) Sub.nil)))
  refine aw_if_eq (tgt := 56) dX7_goOut_52 (by decide) (fun c_55 => ?_) (fun c_55 => ?_)
  · skip
    refine aw_aload_n dX7_goOut_56 rfl ?_
    refine aw_aload_n dX7_goOut_57 rfl ?_
    refine aw_iload_n dX7_goOut_58 rfl ?_
    refine aw_callSi (J' := jX7_doorTried) (As := [.ref (b + c), .ref (b + x), .int n0]) (st := []) dX7_goOut_59 tb_696 ok_X7_doorTried rfl (g_X7_doorTried l D b N V_50 hN j_49.1 c hc x hx n0) rfl (Nat.le_of_ble_eq_true rfl) ⟨Nat.le_of_ble_eq_true rfl, Nat.le_of_ble_eq_true rfl, Nat.le_of_ble_eq_true rfl, Nat.le_of_ble_eq_true rfl⟩ (fun r_59 N_60 V_58 q_61 => ?_)
    obtain ⟨rfl, q_56⟩ := q_61
    have j_57 := JW.trans j_49 (JW.weak q_56 (Sub.cons LM0 (by omega) (by omega) (by decide) (Or.inl rfl) (Sub.cons (LMs (LMs LM0)) (by omega) (by omega) (by decide) (Or.inr ⟨by decide, by decide⟩) (Sub.cons (LMs (LMs (LMs LM0))) (by omega) (by omega) (by decide) (Or.inl rfl) Sub.nil))))
    refine aw_istore (ls' := [some (.ref (b + 73)), some (.ref (b + c)), some (.ref (b + x)), some (.int n0), some (.int r_59)]) dX7_goOut_62 (Nat.le_of_ble_eq_true rfl) rfl ?_
    refine aw_iload dX7_goOut_64 rfl ?_
    refine aw_if_lt (tgt := 78) dX7_goOut_66 (by decide) (fun c_62 => ?_) (fun c_62 => ?_)
    · skip
      refine aw_vreti dX7_goOut_78 rfl (Nat.le_of_ble_eq_true rfl) (Nat.le_of_ble_eq_true rfl) ?_
      exact ⟨rfl, j_57⟩
    · skip
      refine aw_aload_n dX7_goOut_69 rfl ?_
      refine aw_aload_n dX7_goOut_70 rfl ?_
      refine aw_aload_n dX7_goOut_71 rfl ?_
      refine aw_iload_n dX7_goOut_72 rfl ?_
      refine aw_iload dX7_goOut_73 rfl ?_
      obtain ⟨no_66, nf_66, e_66⟩ := JW.get j_57 ct_73
      refine aw_callVv (J' := jX7_tryDoor) (As := [.ref (b + c), .ref (b + x), .int n0, .int r_59]) (st := []) dX7_goOut_75 tb_709 ok_X7_tryDoor ⟨_, e_66⟩ (by omega) rfl rfl (g_X7_tryDoor l D b N V_58 hN j_57.1 c hc x hx n0 r_59) rfl (Nat.le_of_ble_eq_true rfl) ⟨Nat.le_of_ble_eq_true rfl, Nat.le_of_ble_eq_true rfl, Nat.le_of_ble_eq_true rfl, Nat.le_of_ble_eq_true rfl⟩ (fun  N_67 V_65 q_68 => ?_)
      obtain ⟨rfl, q_63⟩ := q_68
      have j_64 := JW.trans j_57 (JW.weak q_63 (Sub.cons (LMs (LMs (LMs (LMs LM0)))) (by decide) (by decide) (by decide) (Or.inr ⟨by decide, by decide⟩) (Sub.cons (LMs (LMs (LMs (LMs (LMs LM0))))) (by omega) (by omega) (by decide) (Or.inl rfl) (Sub.cons LM0 (by omega) (by omega) (by decide) (Or.inl rfl) (Sub.cons (LMs (LMs LM0)) (by omega) (by omega) (by decide) (Or.inr ⟨by decide, by decide⟩) (Sub.cons (LMs (LMs (LMs LM0))) (by omega) (by omega) (by decide) (Or.inl rfl) (Sub.cons (LMs (LMs (LMs (LMs (LMs (LMs LM0)))))) (by decide) (by decide) (by decide) (Or.inr ⟨by decide, by decide⟩) (Sub.cons (LMs (LMs (LMs (LMs (LMs (LMs (LMs LM0))))))) (by omega) (by omega) (by decide) (Or.inl rfl) Sub.nil))))))))
      refine aw_vreti dX7_goOut_78 rfl (Nat.le_of_ble_eq_true rfl) (Nat.le_of_ble_eq_true rfl) ?_
      exact ⟨rfl, j_64⟩
  · skip
    refine aw_vreti dX7_goOut_55 rfl (Nat.le_of_ble_eq_true rfl) (Nat.le_of_ble_eq_true rfl) ?_
    exact ⟨rfl, j_49⟩

set_option maxHeartbeats 4000000 in
set_option maxRecDepth 100000 in
theorem g_X7_catchDread (l : Launch) (D : va_G) (b : Nat) (N : Nat) (V : Wd) (hN : 100 ≤ N) (hW : CW D b V) (c : Nat) (hc : c = 3 ∨ c = 21 ∨ c = 39 ∨ c = 74) (x : Nat) (hx : x = 57 ∨ x = 65) (n0 : Int32) (n1 : Int32)  : MV l D b 3 jX7_catchDread [.ref (b + 73), .ref (b + c), .ref (b + x), .int n0, .int n1] N V 0 0 (fun N9 V9 => N = N9 ∧ JW D b N [(x + 6, x + 6, 0, 1000000), (x, x, 9, 9), (x + 7, x + 7, 0, 1000000), (c + 2, c + 13, 0, 1000000)] V V9) := by
  have hJ0 : JW D b N [(x + 6, x + 6, 0, 1000000), (x, x, 9, 9), (x + 7, x + 7, 0, 1000000), (c + 2, c + 13, 0, 1000000)] V V := JW.rf hW
  refine mw_of (by decide) (by simp [Value.category]) (Nat.le_of_ble_eq_true rfl) ?_
  show AW l D b jX7_catchDread (fx_rm 3 0 0) none (fx_MQ D b 0 0 (fx_qv (fun N9 V9 => N = N9 ∧ JW D b N [(x + 6, x + 6, 0, 1000000), (x, x, 9, 9), (x + 7, x + 7, 0, 1000000), (c + 2, c + 13, 0, 1000000)] V V9))) 0 [some (.ref (b + 73)), some (.ref (b + c)), some (.ref (b + x)), some (.int n0), some (.int n1), none, none] [] N V 0 0
  refine aw_aload_n dX7_catchDread_0 rfl ?_
  obtain ⟨no_1, nf_1, e_1⟩ := JW.get hJ0 ct_73
  refine aw_get dX7_catchDread_1 fl_X7_12 e_1 (by omega) rfl ?_
  refine aw_iload dX7_catchDread_4 rfl ?_
  obtain ⟨pe_3, dd_3, ni_3, xx_3, e_3⟩ := JW.get hJ0 (ctc_0 cA_74)
  refine aw_callVi (J' := jX0_fearOf) (As := [.int n1]) (st := []) dX7_catchDread_6 tb_736 ok_X0_fearOf ⟨_, e_3⟩ (by omega) rfl rfl (g_X0_fearOf l D b N V hN hJ0.1 74 cA_74 n1) rfl (Nat.le_of_ble_eq_true rfl) ⟨Nat.le_of_ble_eq_true rfl, Nat.le_of_ble_eq_true rfl, Nat.le_of_ble_eq_true rfl, Nat.le_of_ble_eq_true rfl⟩ (fun r_4 N_5 V_6 q_7 => ?_)
  obtain ⟨rfl, rfl⟩ := q_7
  refine aw_istore (ls' := [some (.ref (b + 73)), some (.ref (b + c)), some (.ref (b + x)), some (.int n0), some (.int n1), some (.int r_4), none]) dX7_catchDread_9 (Nat.le_of_ble_eq_true rfl) rfl ?_
  refine aw_iload dX7_catchDread_11 rfl ?_
  refine aw_if_ge (tgt := 17) dX7_catchDread_13 (by decide) (fun c_8 => ?_) (fun c_8 => ?_)
  · skip
    refine aw_aload_n dX7_catchDread_17 rfl ?_
    refine aw_iload_n dX7_catchDread_18 rfl ?_
    refine aw_aload_n dX7_catchDread_19 rfl ?_
    refine aw_get dX7_catchDread_20 fl_X7_12 e_1 (by omega) rfl ?_
    refine aw_iload_n dX7_catchDread_23 rfl ?_
    refine aw_callVi (J' := jX0_greatestDread) (As := [.int n0]) (st := [.int n0, .ref (b + x)]) dX7_catchDread_24 tb_635 ok_X0_greatestDread ⟨_, e_3⟩ (by omega) rfl rfl (g_X0_greatestDread l D b N V hN hJ0.1 74 cA_74 n0) rfl (Nat.le_of_ble_eq_true rfl) ⟨Nat.le_of_ble_eq_true rfl, Nat.le_of_ble_eq_true rfl, Nat.le_of_ble_eq_true rfl, Nat.le_of_ble_eq_true rfl⟩ (fun r_10 N_11 V_12 q_13 => ?_)
    obtain ⟨rfl, rfl⟩ := q_13
    refine aw_aload_n dX7_catchDread_27 rfl ?_
    refine aw_iload_n dX7_catchDread_28 rfl ?_
    obtain ⟨pe_15, dd_15, ni_15, xx_15, e_15⟩ := JW.get hJ0 (ctc_0 hc)
    refine aw_callVi (J' := jX0_knownTo) (As := [.int n0]) (st := [.int r_10, .int n0, .ref (b + x)]) dX7_catchDread_29 tb_641 ok_X0_knownTo ⟨_, e_15⟩ (by omega) rfl rfl (g_X0_knownTo l D b N V hN hJ0.1 c hc n0) rfl (Nat.le_of_ble_eq_true rfl) ⟨Nat.le_of_ble_eq_true rfl, Nat.le_of_ble_eq_true rfl, Nat.le_of_ble_eq_true rfl, Nat.le_of_ble_eq_true rfl⟩ (fun r_16 N_17 V_18 q_19 => ?_)
    obtain ⟨rfl, rfl⟩ := q_19
    refine aw_callSi (J' := jJ6_bitCount_0f7a4) (As := [.int r_16]) (st := [.int r_10, .int n0, .ref (b + x)]) dX7_catchDread_32 tb_645 ok_J6_bitCount_0f7a4 rfl (c_bitCount l D b N V r_16) rfl (Nat.le_of_ble_eq_true rfl) ⟨Nat.le_of_ble_eq_true rfl, Nat.le_of_ble_eq_true rfl, Nat.le_of_ble_eq_true rfl, Nat.le_of_ble_eq_true rfl⟩ (fun r_20 N_21 V_22 q_23 => ?_)
    obtain ⟨rfl, rfl⟩ := q_23
    obtain ⟨s8_27, r8_27, h8_27, e_27, hs_27, hr_27⟩ := JW.get hJ0 (ctl_0 hx)
    refine aw_callVv (J' := jX4_meanPerson) (As := [.int n0, .int r_10, .int r_20]) (st := []) dX7_catchDread_35 tb_651 ok_X4_meanPerson ⟨_, e_27⟩ (by omega) rfl rfl (g_X4_meanPerson l D b N V hN hJ0.1 x hx n0 r_10 r_20) rfl (Nat.le_of_ble_eq_true rfl) ⟨Nat.le_of_ble_eq_true rfl, Nat.le_of_ble_eq_true rfl, Nat.le_of_ble_eq_true rfl, Nat.le_of_ble_eq_true rfl⟩ (fun  N_28 V_26 q_29 => ?_)
    obtain ⟨rfl, q_24⟩ := q_29
    have j_25 := JW.trans hJ0 (JW.weak q_24 (Sub.cons LM0 (by omega) (by omega) (by decide) (Or.inl rfl) Sub.nil))
    refine aw_aload_n dX7_catchDread_38 rfl ?_
    refine aw_iload dX7_catchDread_39 rfl ?_
    refine aw_iload dX7_catchDread_41 rfl ?_
    refine aw_aload_n dX7_catchDread_43 rfl ?_
    obtain ⟨no_30, nf_30, e_30⟩ := JW.get j_25 ct_73
    refine aw_get dX7_catchDread_44 fl_X7_12 e_30 (by omega) rfl ?_
    refine aw_iload_n dX7_catchDread_47 rfl ?_
    refine aw_iload dX7_catchDread_48 rfl ?_
    obtain ⟨pe_32, dd_32, ni_32, xx_32, e_32⟩ := JW.get j_25 (ctc_0 cA_74)
    refine aw_callVi (J' := jX0_dreadOf) (As := [.int n0, .int r_4]) (st := [.int r_4, .int n1, .ref (b + x)]) dX7_catchDread_50 tb_703 ok_X0_dreadOf ⟨_, e_32⟩ (by omega) rfl rfl (g_X0_dreadOf l D b N V_26 hN j_25.1 74 cA_74 n0 r_4) rfl (Nat.le_of_ble_eq_true rfl) ⟨Nat.le_of_ble_eq_true rfl, Nat.le_of_ble_eq_true rfl, Nat.le_of_ble_eq_true rfl, Nat.le_of_ble_eq_true rfl⟩ (fun r_33 N_34 V_35 q_36 => ?_)
    obtain ⟨rfl, rfl⟩ := q_36
    obtain ⟨s8_40, r8_40, h8_40, e_40, hs_40, hr_40⟩ := JW.get j_25 (ctl_0 hx)
    refine aw_callVv (J' := jX4_meanOther) (As := [.int n1, .int r_4, .int r_33]) (st := []) dX7_catchDread_53 tb_655 ok_X4_meanOther ⟨_, e_40⟩ (by omega) rfl rfl (g_X4_meanOther l D b N V_26 hN j_25.1 x hx n1 r_4 r_33) rfl (Nat.le_of_ble_eq_true rfl) ⟨Nat.le_of_ble_eq_true rfl, Nat.le_of_ble_eq_true rfl, Nat.le_of_ble_eq_true rfl, Nat.le_of_ble_eq_true rfl⟩ (fun  N_41 V_39 q_42 => ?_)
    obtain ⟨rfl, q_37⟩ := q_42
    have j_38 := JW.trans j_25 (JW.weak q_37 (Sub.cons LM0 (by omega) (by omega) (by decide) (Or.inl rfl) Sub.nil))
    refine aw_aload_n dX7_catchDread_56 rfl ?_
    refine aw_bipush (v := 115) dX7_catchDread_57 (by decide) ?_
    refine aw_bipush (v := 99) dX7_catchDread_59 (by decide) ?_
    obtain ⟨s8_46, r8_46, h8_46, e_46, hs_46, hr_46⟩ := JW.get j_38 (ctl_0 hx)
    refine aw_callVi (J' := jX4_worth) (As := [.int 115, .int 99]) (st := []) dX7_catchDread_61 tb_704 ok_X4_worth ⟨_, e_46⟩ (by omega) rfl rfl (g_X4_worth l D b N V_39 hN j_38.1 x hx 115 99) rfl (Nat.le_of_ble_eq_true rfl) ⟨Nat.le_of_ble_eq_true rfl, Nat.le_of_ble_eq_true rfl, Nat.le_of_ble_eq_true rfl, Nat.le_of_ble_eq_true rfl⟩ (fun r_47 N_48 V_45 q_49 => ?_)
    obtain ⟨rfl, q_43⟩ := q_49
    have j_44 := JW.trans j_38 (JW.weak q_43 (Sub.cons (LMs LM0) (by omega) (by omega) (by decide) (Or.inr ⟨by decide, by decide⟩) (Sub.cons (LMs (LMs LM0)) (by omega) (by omega) (by decide) (Or.inl rfl) Sub.nil)))
    refine aw_istore (ls' := [some (.ref (b + 73)), some (.ref (b + c)), some (.ref (b + x)), some (.int n0), some (.int n1), some (.int r_4), some (.int r_47)]) dX7_catchDread_64 (Nat.le_of_ble_eq_true rfl) rfl ?_
    refine aw_aload_n dX7_catchDread_66 rfl ?_
    refine aw_iload_n dX7_catchDread_67 rfl ?_
    refine aw_iload dX7_catchDread_68 rfl ?_
    refine aw_aload_n dX7_catchDread_70 rfl ?_
    refine aw_iload_n dX7_catchDread_71 rfl ?_
    refine aw_iload dX7_catchDread_72 rfl ?_
    obtain ⟨pe_51, dd_51, ni_51, xx_51, e_51⟩ := JW.get j_44 (ctc_0 hc)
    refine aw_callVi (J' := jX0_dreadOf) (As := [.int n0, .int r_4]) (st := [.int r_4, .int n0, .ref (b + c)]) dX7_catchDread_74 tb_703 ok_X0_dreadOf ⟨_, e_51⟩ (by omega) rfl rfl (g_X0_dreadOf l D b N V_45 hN j_44.1 c hc n0 r_4) rfl (Nat.le_of_ble_eq_true rfl) ⟨Nat.le_of_ble_eq_true rfl, Nat.le_of_ble_eq_true rfl, Nat.le_of_ble_eq_true rfl, Nat.le_of_ble_eq_true rfl⟩ (fun r_52 N_53 V_54 q_55 => ?_)
    obtain ⟨rfl, rfl⟩ := q_55
    refine aw_iload dX7_catchDread_77 rfl ?_
    refine aw_iadd dX7_catchDread_79 ?_
    refine aw_callVv (J' := jX0_setDread) (As := [.int n0, .int r_4, .int (r_52 + r_47)]) (st := []) dX7_catchDread_80 tb_725 ok_X0_setDread ⟨_, e_51⟩ (by omega) rfl rfl (g_X0_setDread l D b N V_45 hN j_44.1 c hc n0 r_4 (r_52 + r_47)) rfl (Nat.le_of_ble_eq_true rfl) ⟨Nat.le_of_ble_eq_true rfl, Nat.le_of_ble_eq_true rfl, Nat.le_of_ble_eq_true rfl, Nat.le_of_ble_eq_true rfl⟩ (fun  N_59 V_58 q_60 => ?_)
    obtain ⟨rfl, q_56⟩ := q_60
    have j_57 := JW.trans j_44 (JW.weak q_56 (Sub.cons (LMs (LMs (LMs LM0))) (by omega) (by omega) (by decide) (Or.inl rfl) Sub.nil))
    refine aw_vreti dX7_catchDread_83 rfl (Nat.le_of_ble_eq_true rfl) (Nat.le_of_ble_eq_true rfl) ?_
    exact ⟨rfl, j_57⟩
  · skip
    refine aw_vreti dX7_catchDread_16 rfl (Nat.le_of_ble_eq_true rfl) (Nat.le_of_ble_eq_true rfl) ?_
    exact ⟨rfl, hJ0⟩

set_option maxHeartbeats 4000000 in
set_option maxRecDepth 100000 in
theorem g_X7_spreadDread (l : Launch) (D : va_G) (b : Nat) (N : Nat) (V : Wd) (hN : 100 ≤ N) (hW : CW D b V) (c : Nat) (hc : c = 3 ∨ c = 21 ∨ c = 39 ∨ c = 74) (x : Nat) (hx : x = 57 ∨ x = 65)  : MV l D b 4 jX7_spreadDread [.ref (b + 73), .ref (b + c), .ref (b + x)] N V 0 0 (fun N9 V9 => N = N9 ∧ JW D b N [(76, 91, 0, 1000000), (74, 74, 5, 5), (74, 74, 6, 6), (74, 74, 7, 7), (74, 74, 8, 8), (x + 6, x + 6, 0, 1000000), (x, x, 9, 9), (x + 7, x + 7, 0, 1000000), (c + 2, c + 13, 0, 1000000)] V V9) := by
  have hJ0 : JW D b N [(76, 91, 0, 1000000), (74, 74, 5, 5), (74, 74, 6, 6), (74, 74, 7, 7), (74, 74, 8, 8), (x + 6, x + 6, 0, 1000000), (x, x, 9, 9), (x + 7, x + 7, 0, 1000000), (c + 2, c + 13, 0, 1000000)] V V := JW.rf hW
  refine mw_of (by decide) (by simp [Value.category]) (Nat.le_of_ble_eq_true rfl) ?_
  show AW l D b jX7_spreadDread (fx_rm 4 0 0) none (fx_MQ D b 0 0 (fx_qv (fun N9 V9 => N = N9 ∧ JW D b N [(76, 91, 0, 1000000), (74, 74, 5, 5), (74, 74, 6, 6), (74, 74, 7, 7), (74, 74, 8, 8), (x + 6, x + 6, 0, 1000000), (x, x, 9, 9), (x + 7, x + 7, 0, 1000000), (c + 2, c + 13, 0, 1000000)] V V9))) 0 [some (.ref (b + 73)), some (.ref (b + c)), some (.ref (b + x)), none, none] [] N V 0 0
  refine aw_aload_n dX7_spreadDread_0 rfl ?_
  obtain ⟨no_1, nf_1, e_1⟩ := JW.get hJ0 ct_73
  refine aw_get dX7_spreadDread_1 fl_X7_12 e_1 (by omega) rfl ?_
  refine aw_aload_n dX7_spreadDread_4 rfl ?_
  obtain ⟨pe_5, dd_5, ni_5, xx_5, e_5⟩ := JW.get hJ0 (ctc_0 cA_74)
  refine aw_callVv (J' := jX0_copyFrom) (As := [.ref (b + c)]) (st := []) dX7_spreadDread_5 tb_730 ok_X0_copyFrom ⟨_, e_5⟩ (by omega) rfl rfl (g_X0_copyFrom l D b N V hN hJ0.1 74 cA_74 c hc) rfl (Nat.le_of_ble_eq_true rfl) ⟨Nat.le_of_ble_eq_true rfl, Nat.le_of_ble_eq_true rfl, Nat.le_of_ble_eq_true rfl, Nat.le_of_ble_eq_true rfl⟩ (fun  N_6 V_4 q_7 => ?_)
  obtain ⟨rfl, q_2⟩ := q_7
  have j_3 := JW.trans hJ0 (JW.weak q_2 (Sub.cons LM0 (by decide) (by decide) (by decide) (Or.inl rfl) (Sub.cons (LMs LM0) (by decide) (by decide) (by decide) (Or.inr ⟨by decide, by decide⟩) (Sub.cons (LMs (LMs LM0)) (by decide) (by decide) (by decide) (Or.inr ⟨by decide, by decide⟩) (Sub.cons (LMs (LMs (LMs LM0))) (by decide) (by decide) (by decide) (Or.inr ⟨by decide, by decide⟩) (Sub.cons (LMs (LMs (LMs (LMs LM0)))) (by decide) (by decide) (by decide) (Or.inr ⟨by decide, by decide⟩) (Sub.cons LM0 (by decide) (by decide) (by decide) (Or.inl rfl) (Sub.cons LM0 (by decide) (by decide) (by decide) (Or.inl rfl) (Sub.cons LM0 (by decide) (by decide) (by decide) (Or.inl rfl) (Sub.cons LM0 (by decide) (by decide) (by decide) (Or.inl rfl) Sub.nil))))))))))
  refine aw_aload_n dX7_spreadDread_8 rfl ?_
  refine aw_iconst (v := 0) dX7_spreadDread_9 (by decide) ?_
  refine aw_iconst (v := 0) dX7_spreadDread_10 (by decide) ?_
  obtain ⟨s8_11, r8_11, h8_11, e_11, hs_11, hr_11⟩ := JW.get j_3 (ctl_0 hx)
  refine aw_callVv (J' := jX4_meanDoor) (As := [.int 0, .int 0]) (st := []) dX7_spreadDread_11 tb_659 ok_X4_meanDoor ⟨_, e_11⟩ (by omega) rfl rfl (g_X4_meanDoor l D b N V_4 hN j_3.1 x hx 0 0) rfl (Nat.le_of_ble_eq_true rfl) ⟨Nat.le_of_ble_eq_true rfl, Nat.le_of_ble_eq_true rfl, Nat.le_of_ble_eq_true rfl, Nat.le_of_ble_eq_true rfl⟩ (fun  N_12 V_10 q_13 => ?_)
  obtain ⟨rfl, q_8⟩ := q_13
  have j_9 := JW.trans j_3 (JW.weak q_8 (Sub.cons (LMs (LMs (LMs (LMs (LMs LM0))))) (by omega) (by omega) (by decide) (Or.inl rfl) Sub.nil))
  refine aw_aload_n dX7_spreadDread_14 rfl ?_
  refine aw_aload_n dX7_spreadDread_15 rfl ?_
  obtain ⟨pe_14, dd_14, ni_14, xx_14, e_14⟩ := JW.get j_9 (ctc_0 hc)
  refine aw_get dX7_spreadDread_16 fl_X7_25 e_14 (by omega) rfl ?_
  refine aw_bipush (v := 100) dX7_spreadDread_19 (by decide) ?_
  refine aw_irem dX7_spreadDread_21 (by decide) ?_
  refine aw_iconst (v := 0) dX7_spreadDread_22 (by decide) ?_
  obtain ⟨s8_18, r8_18, h8_18, e_18, hs_18, hr_18⟩ := JW.get j_9 (ctl_0 hx)
  refine aw_callVv (J' := jX4_meanTime) (As := [.int (ni_14 - ni_14 / 100 * 100), .int 0]) (st := []) dX7_spreadDread_23 tb_668 ok_X4_meanTime ⟨_, e_18⟩ (by omega) rfl rfl (g_X4_meanTime l D b N V_10 hN j_9.1 x hx (ni_14 - ni_14 / 100 * 100) 0) rfl (Nat.le_of_ble_eq_true rfl) ⟨Nat.le_of_ble_eq_true rfl, Nat.le_of_ble_eq_true rfl, Nat.le_of_ble_eq_true rfl, Nat.le_of_ble_eq_true rfl⟩ (fun  N_19 V_17 q_20 => ?_)
  obtain ⟨rfl, q_15⟩ := q_20
  have j_16 := JW.trans j_9 (JW.weak q_15 (Sub.cons (LMs (LMs (LMs (LMs (LMs LM0))))) (by omega) (by omega) (by decide) (Or.inl rfl) Sub.nil))
  refine aw_iconst (v := 0) dX7_spreadDread_26 (by decide) ?_
  refine aw_istore_n (ls' := [some (.ref (b + 73)), some (.ref (b + c)), some (.ref (b + x)), some (.int 0), none]) dX7_spreadDread_27 (Nat.le_of_ble_eq_true rfl) rfl ?_
  have loop_28_20 : ∀ (g_28 : Nat), ∀ (j28 : Nat)  (V28 : Wd), j28 + g_28 = 12 → (JW D b N [(76, 91, 0, 1000000), (74, 74, 5, 5), (74, 74, 6, 6), (74, 74, 7, 7), (74, 74, 8, 8), (x + 6, x + 6, 0, 1000000), (x, x, 9, 9), (x + 7, x + 7, 0, 1000000), (c + 2, c + 13, 0, 1000000)] V V28) → AW l D b jX7_spreadDread (fx_rm 4 0 0) none (fx_MQ D b 0 0 (fx_qv (fun N9 V9 => N = N9 ∧ JW D b N [(76, 91, 0, 1000000), (74, 74, 5, 5), (74, 74, 6, 6), (74, 74, 7, 7), (74, 74, 8, 8), (x + 6, x + 6, 0, 1000000), (x, x, 9, 9), (x + 7, x + 7, 0, 1000000), (c + 2, c + 13, 0, 1000000)] V V9))) 28 [some (.ref (b + 73)), some (.ref (b + c)), some (.ref (b + x)), some (.int (nI j28)), none] [] N V28 0 0 := by
    intro g_28
    induction g_28 with
    | zero =>
      intro j28  V28 hj28 i28_0
      obtain rfl : j28 = 12 := by omega
      refine aw_iload_n dX7_spreadDread_28 rfl ?_
      refine aw_bipush (v := 12) dX7_spreadDread_29 (by decide) ?_
      refine aw_icmp_ge (tgt := 89) dX7_spreadDread_31 (by decide) (fun c_23 => ?_) (fun c_23 => ?_)
      rotate_left
      · exact absurd (nI_le (a := 12) (b := 12) (Nat.le_refl _) (by omega)) c_23
      refine aw_vreti dX7_spreadDread_89 rfl (Nat.le_of_ble_eq_true rfl) (Nat.le_of_ble_eq_true rfl) ?_
      exact ⟨rfl, i28_0⟩
    | succ g_28 ih_28_21 =>
      intro j28  V28 hj28 i28_0
      have hlj28 : j28 < 12 := by omega
      refine aw_iload_n dX7_spreadDread_28 rfl ?_
      refine aw_bipush (v := 12) dX7_spreadDread_29 (by decide) ?_
      refine aw_icmp_ge (tgt := 89) dX7_spreadDread_31 (by decide) (fun c_24 => ?_) (fun c_24 => ?_)
      · exact absurd c_24 (nI_ge (a := j28) (b := 12) (by omega) (by omega))
      refine aw_iload_n dX7_spreadDread_34 rfl ?_
      refine aw_iconst (v := 1) dX7_spreadDread_35 (by decide) ?_
      refine aw_iadd dX7_spreadDread_36 ?_
      refine aw_eqi (y := nI (j28 + 1)) (nI_add _ _) ?_
      refine aw_istore (ls' := [some (.ref (b + 73)), some (.ref (b + c)), some (.ref (b + x)), some (.int (nI j28)), some (.int (nI (j28 + 1)))]) dX7_spreadDread_37 (Nat.le_of_ble_eq_true rfl) rfl ?_
      have loop_39_24 : ∀ (g_39 : Nat), ∀ (j39 : Nat)  (V39 : Wd), j39 + g_39 = 12 → (JW D b N [(76, 91, 0, 1000000), (74, 74, 5, 5), (74, 74, 6, 6), (74, 74, 7, 7), (74, 74, 8, 8), (x + 6, x + 6, 0, 1000000), (x, x, 9, 9), (x + 7, x + 7, 0, 1000000), (c + 2, c + 13, 0, 1000000)] V V39) → AW l D b jX7_spreadDread (fx_rm 4 0 0) none (fx_MQ D b 0 0 (fx_qv (fun N9 V9 => N = N9 ∧ JW D b N [(76, 91, 0, 1000000), (74, 74, 5, 5), (74, 74, 6, 6), (74, 74, 7, 7), (74, 74, 8, 8), (x + 6, x + 6, 0, 1000000), (x, x, 9, 9), (x + 7, x + 7, 0, 1000000), (c + 2, c + 13, 0, 1000000)] V V9))) 39 [some (.ref (b + 73)), some (.ref (b + c)), some (.ref (b + x)), some (.int (nI j28)), some (.int (nI j39))] [] N V39 0 0 := by
        intro g_39
        induction g_39 with
        | zero =>
          intro j39  V39 hj39 i39_0
          obtain rfl : j39 = 12 := by omega
          refine aw_iload dX7_spreadDread_39 rfl ?_
          refine aw_bipush (v := 12) dX7_spreadDread_41 (by decide) ?_
          refine aw_icmp_ge (tgt := 83) dX7_spreadDread_43 (by decide) (fun c_27 => ?_) (fun c_27 => ?_)
          rotate_left
          · exact absurd (nI_le (a := 12) (b := 12) (Nat.le_refl _) (by omega)) c_27
          refine aw_iinc (v := (nI (j28 + 1))) (ls' := [some (.ref (b + 73)), some (.ref (b + c)), some (.ref (b + x)), some (.int (nI (j28 + 1))), some (.int (nI 12))]) dX7_spreadDread_83 rfl (fx_up_1 _) (Nat.le_of_ble_eq_true rfl) rfl ?_
          refine aw_goto (tgt := 28) dX7_spreadDread_86 (by decide) ?_
          refine aw_le ?_ (ih_28_21 (j28 + 1)  V39 (by omega) (i39_0))
          exact ⟨rfl, ⟨rfl, ⟨rfl, ⟨rfl, trivial⟩⟩⟩⟩
        | succ g_39 ih_39_25 =>
          intro j39  V39 hj39 i39_0
          have hlj39 : j39 < 12 := by omega
          refine aw_iload dX7_spreadDread_39 rfl ?_
          refine aw_bipush (v := 12) dX7_spreadDread_41 (by decide) ?_
          refine aw_icmp_ge (tgt := 83) dX7_spreadDread_43 (by decide) (fun c_28 => ?_) (fun c_28 => ?_)
          · exact absurd c_28 (nI_ge (a := j39) (b := 12) (by omega) (by omega))
          refine aw_aload_n dX7_spreadDread_46 rfl ?_
          refine aw_iload_n dX7_spreadDread_47 rfl ?_
          obtain ⟨pe_30, dd_30, ni_30, xx_30, e_30⟩ := JW.get i39_0 (ctc_0 hc)
          refine aw_callVi (J' := jX0_knownTo) (As := [.int (nI j28)]) (st := []) dX7_spreadDread_48 tb_641 ok_X0_knownTo ⟨_, e_30⟩ (by omega) rfl rfl (g_X0_knownTo l D b N V39 hN i39_0.1 c hc (nI j28)) rfl (Nat.le_of_ble_eq_true rfl) ⟨Nat.le_of_ble_eq_true rfl, Nat.le_of_ble_eq_true rfl, Nat.le_of_ble_eq_true rfl, Nat.le_of_ble_eq_true rfl⟩ (fun r_31 N_32 V_33 q_34 => ?_)
          obtain ⟨rfl, rfl⟩ := q_34
          refine aw_iload dX7_spreadDread_51 rfl ?_
          refine aw_callSNi (J' := jX11_has) (As := [.int r_31, .int (nI j39)]) (st := []) dX7_spreadDread_53 tb_731 ok_X11_has rfl (g_X11_has l D b N V39 hN i39_0.1 r_31 (nI j39)) rfl (Nat.le_of_ble_eq_true rfl) ⟨Nat.le_of_ble_eq_true rfl, Nat.le_of_ble_eq_true rfl, Nat.le_of_ble_eq_true rfl, Nat.le_of_ble_eq_true rfl⟩ (fun r_37 N_38 V_39 q_40 => ?_)
          obtain ⟨h_36, rfl, rfl⟩ := q_40
          refine aw_if_eq (tgt := 77) dX7_spreadDread_56 (by decide) (fun c_41 => ?_) (fun c_41 => ?_)
          · skip
            refine aw_iinc (v := (nI (j39 + 1))) (ls' := [some (.ref (b + 73)), some (.ref (b + c)), some (.ref (b + x)), some (.int (nI j28)), some (.int (nI (j39 + 1)))]) dX7_spreadDread_77 rfl (fx_up_1 _) (Nat.le_of_ble_eq_true rfl) rfl ?_
            refine aw_goto (tgt := 39) dX7_spreadDread_80 (by decide) ?_
            refine aw_le ?_ (ih_39_25 (j39 + 1)  V39 (by omega) (i39_0))
            exact ⟨rfl, ⟨rfl, ⟨rfl, ⟨rfl, ⟨rfl, trivial⟩⟩⟩⟩⟩
          · skip
            refine aw_aload_n dX7_spreadDread_59 rfl ?_
            refine aw_aload_n dX7_spreadDread_60 rfl ?_
            refine aw_aload_n dX7_spreadDread_61 rfl ?_
            refine aw_iload_n dX7_spreadDread_62 rfl ?_
            refine aw_iload dX7_spreadDread_63 rfl ?_
            obtain ⟨no_45, nf_45, e_45⟩ := JW.get i39_0 ct_73
            refine aw_callVv (J' := jX7_catchDread) (As := [.ref (b + c), .ref (b + x), .int (nI j28), .int (nI j39)]) (st := []) dX7_spreadDread_65 tb_732 ok_X7_catchDread ⟨_, e_45⟩ (by omega) rfl rfl (g_X7_catchDread l D b N V39 hN i39_0.1 c hc x hx (nI j28) (nI j39)) rfl (Nat.le_of_ble_eq_true rfl) ⟨Nat.le_of_ble_eq_true rfl, Nat.le_of_ble_eq_true rfl, Nat.le_of_ble_eq_true rfl, Nat.le_of_ble_eq_true rfl⟩ (fun  N_46 V_44 q_47 => ?_)
            obtain ⟨rfl, q_42⟩ := q_47
            have j_43 := JW.trans i39_0 (JW.weak q_42 (Sub.cons (LMs (LMs (LMs (LMs (LMs LM0))))) (by omega) (by omega) (by decide) (Or.inl rfl) (Sub.cons (LMs (LMs (LMs (LMs (LMs (LMs LM0)))))) (by omega) (by omega) (by decide) (Or.inr ⟨by decide, by decide⟩) (Sub.cons (LMs (LMs (LMs (LMs (LMs (LMs (LMs LM0))))))) (by omega) (by omega) (by decide) (Or.inl rfl) (Sub.cons (LMs (LMs (LMs (LMs (LMs (LMs (LMs (LMs LM0)))))))) (by omega) (by omega) (by decide) (Or.inl rfl) Sub.nil)))))
            refine aw_aload_n dX7_spreadDread_68 rfl ?_
            refine aw_aload_n dX7_spreadDread_69 rfl ?_
            refine aw_aload_n dX7_spreadDread_70 rfl ?_
            refine aw_iload dX7_spreadDread_71 rfl ?_
            refine aw_iload_n dX7_spreadDread_73 rfl ?_
            obtain ⟨no_51, nf_51, e_51⟩ := JW.get j_43 ct_73
            refine aw_callVv (J' := jX7_catchDread) (As := [.ref (b + c), .ref (b + x), .int (nI j39), .int (nI j28)]) (st := []) dX7_spreadDread_74 tb_732 ok_X7_catchDread ⟨_, e_51⟩ (by omega) rfl rfl (g_X7_catchDread l D b N V_44 hN j_43.1 c hc x hx (nI j39) (nI j28)) rfl (Nat.le_of_ble_eq_true rfl) ⟨Nat.le_of_ble_eq_true rfl, Nat.le_of_ble_eq_true rfl, Nat.le_of_ble_eq_true rfl, Nat.le_of_ble_eq_true rfl⟩ (fun  N_52 V_50 q_53 => ?_)
            obtain ⟨rfl, q_48⟩ := q_53
            have j_49 := JW.trans j_43 (JW.weak q_48 (Sub.cons (LMs (LMs (LMs (LMs (LMs LM0))))) (by omega) (by omega) (by decide) (Or.inl rfl) (Sub.cons (LMs (LMs (LMs (LMs (LMs (LMs LM0)))))) (by omega) (by omega) (by decide) (Or.inr ⟨by decide, by decide⟩) (Sub.cons (LMs (LMs (LMs (LMs (LMs (LMs (LMs LM0))))))) (by omega) (by omega) (by decide) (Or.inl rfl) (Sub.cons (LMs (LMs (LMs (LMs (LMs (LMs (LMs (LMs LM0)))))))) (by omega) (by omega) (by decide) (Or.inl rfl) Sub.nil)))))
            refine aw_iinc (v := (nI (j39 + 1))) (ls' := [some (.ref (b + 73)), some (.ref (b + c)), some (.ref (b + x)), some (.int (nI j28)), some (.int (nI (j39 + 1)))]) dX7_spreadDread_77 rfl (fx_up_1 _) (Nat.le_of_ble_eq_true rfl) rfl ?_
            refine aw_goto (tgt := 39) dX7_spreadDread_80 (by decide) ?_
            refine aw_le ?_ (ih_39_25 (j39 + 1)  V_50 (by omega) (j_49))
            exact ⟨rfl, ⟨rfl, ⟨rfl, ⟨rfl, ⟨rfl, trivial⟩⟩⟩⟩⟩
      refine aw_le ?_ (loop_39_24 (12 - (j28 + 1)) (j28 + 1)  V28 (by omega) (i28_0))
      exact ⟨rfl, ⟨rfl, ⟨rfl, ⟨rfl, ⟨rfl, trivial⟩⟩⟩⟩⟩
  refine aw_le ?_ (loop_28_20 12 0  V_17 (by omega) (j_16))
  exact ⟨rfl, ⟨rfl, ⟨rfl, ⟨rfl, trivial⟩⟩⟩⟩

set_option maxHeartbeats 4000000 in
set_option maxRecDepth 100000 in
theorem g_X7_pass (l : Launch) (D : va_G) (b : Nat) (N : Nat) (V : Wd) (hN : 100 ≤ N) (hW : CW D b V) (c : Nat) (hc : c = 3 ∨ c = 21 ∨ c = 39 ∨ c = 74) (x : Nat) (hx : x = 57 ∨ x = 65) (n0 : Int32)  : MV l D b 6 jX7_pass [.ref (b + 73), .ref (b + c), .ref (b + x), .int n0] N V 0 0 (fun N9 V9 => N = N9 ∧ JW D b N [(76, 91, 0, 1000000), (73, 73, 1, 1), (73, 73, 2, 2), (74, 74, 5, 5), (74, 74, 6, 6), (74, 74, 7, 7), (74, 74, 8, 8), (x + 6, x + 6, 0, 1000000), (x, x, 9, 9), (x + 7, x + 7, 0, 1000000), (c + 2, c + 13, 0, 1000000), (c, c, 7, 7), (c, c, 8, 8), (c + 17, c + 17, 0, 1000000)] V V9) := by
  have hJ0 : JW D b N [(76, 91, 0, 1000000), (73, 73, 1, 1), (73, 73, 2, 2), (74, 74, 5, 5), (74, 74, 6, 6), (74, 74, 7, 7), (74, 74, 8, 8), (x + 6, x + 6, 0, 1000000), (x, x, 9, 9), (x + 7, x + 7, 0, 1000000), (c + 2, c + 13, 0, 1000000), (c, c, 7, 7), (c, c, 8, 8), (c + 17, c + 17, 0, 1000000)] V V := JW.rf hW
  refine mw_of (by decide) (by simp [Value.category]) (Nat.le_of_ble_eq_true rfl) ?_
  show AW l D b jX7_pass (fx_rm 6 0 0) none (fx_MQ D b 0 0 (fx_qv (fun N9 V9 => N = N9 ∧ JW D b N [(76, 91, 0, 1000000), (73, 73, 1, 1), (73, 73, 2, 2), (74, 74, 5, 5), (74, 74, 6, 6), (74, 74, 7, 7), (74, 74, 8, 8), (x + 6, x + 6, 0, 1000000), (x, x, 9, 9), (x + 7, x + 7, 0, 1000000), (c + 2, c + 13, 0, 1000000), (c, c, 7, 7), (c, c, 8, 8), (c + 17, c + 17, 0, 1000000)] V V9))) 0 [some (.ref (b + 73)), some (.ref (b + c)), some (.ref (b + x)), some (.int n0), none, none] [] N V 0 0
  refine aw_aload_n dX7_pass_0 rfl ?_
  refine aw_iconst (v := 0) dX7_pass_1 (by decide) ?_
  obtain ⟨no_1, nf_1, e_1⟩ := JW.get hJ0 ct_73
  refine aw_put dX7_pass_2 fp_X7_18 e_1 (by omega) rfl rfl (Nat.le_of_ble_eq_true rfl) rfl ?_
  refine aw_up hJ0 ct_73 ⟨_, _, rfl⟩ (WO (s := 1) (x := .int 0) e_1 rfl (LMs LM0) (by decide) (by decide) (by decide) (Or.inl (by decide))) (fun V_2 j_2 k_2 e_2 => ?_)
  refine aw_aload_n dX7_pass_5 rfl ?_
  refine aw_iconst (v := 0) dX7_pass_6 (by decide) ?_
  refine aw_put dX7_pass_7 fp_X7_22 e_2 (by omega) rfl rfl (Nat.le_of_ble_eq_true rfl) rfl ?_
  refine aw_up j_2 ct_73 ⟨_, _, rfl⟩ (WO (s := 2) (x := .int 0) e_2 rfl (LMs (LMs LM0)) (by decide) (by decide) (by decide) (Or.inl (by decide))) (fun V_3 j_3 k_3 e_3 => ?_)
  refine aw_iconst (v := 0) dX7_pass_10 (by decide) ?_
  refine aw_istore (ls' := [some (.ref (b + 73)), some (.ref (b + c)), some (.ref (b + x)), some (.int n0), some (.int 0), none]) dX7_pass_11 (Nat.le_of_ble_eq_true rfl) rfl ?_
  have hb_4 := fx_clt n0
  have loop_13_4 : ∀ (g_13 : Nat), ∀ (j13 : Nat)  (V13 : Wd), j13 + g_13 = (Int32.toNatClampNeg n0) → (JW D b N [(76, 91, 0, 1000000), (73, 73, 1, 1), (73, 73, 2, 2), (74, 74, 5, 5), (74, 74, 6, 6), (74, 74, 7, 7), (74, 74, 8, 8), (x + 6, x + 6, 0, 1000000), (x, x, 9, 9), (x + 7, x + 7, 0, 1000000), (c + 2, c + 13, 0, 1000000), (c, c, 7, 7), (c, c, 8, 8), (c + 17, c + 17, 0, 1000000)] V V13) → AW l D b jX7_pass (fx_rm 6 0 0) none (fx_MQ D b 0 0 (fx_qv (fun N9 V9 => N = N9 ∧ JW D b N [(76, 91, 0, 1000000), (73, 73, 1, 1), (73, 73, 2, 2), (74, 74, 5, 5), (74, 74, 6, 6), (74, 74, 7, 7), (74, 74, 8, 8), (x + 6, x + 6, 0, 1000000), (x, x, 9, 9), (x + 7, x + 7, 0, 1000000), (c + 2, c + 13, 0, 1000000), (c, c, 7, 7), (c, c, 8, 8), (c + 17, c + 17, 0, 1000000)] V V9))) 13 [some (.ref (b + 73)), some (.ref (b + c)), some (.ref (b + x)), some (.int n0), some (.int (nI j13)), none] [] N V13 0 0 := by
    intro g_13
    induction g_13 with
    | zero =>
      intro j13  V13 hj13 i13_0
      obtain rfl : j13 = (Int32.toNatClampNeg n0) := by omega
      refine aw_iload dX7_pass_13 rfl ?_
      refine aw_iload_n dX7_pass_15 rfl ?_
      refine aw_icmp_ge (tgt := 84) dX7_pass_16 (by decide) (fun c_7 => ?_) (fun c_7 => ?_)
      rotate_left
      · exact absurd (fx_gec n0) c_7
      refine aw_vreti dX7_pass_84 rfl (Nat.le_of_ble_eq_true rfl) (Nat.le_of_ble_eq_true rfl) ?_
      exact ⟨rfl, i13_0⟩
    | succ g_13 ih_13_5 =>
      intro j13  V13 hj13 i13_0
      have hlj13 : j13 < (Int32.toNatClampNeg n0) := by omega
      refine aw_iload dX7_pass_13 rfl ?_
      refine aw_iload_n dX7_pass_15 rfl ?_
      refine aw_icmp_ge (tgt := 84) dX7_pass_16 (by decide) (fun c_8 => ?_) (fun c_8 => ?_)
      · exact absurd c_8 (fx_gej (by omega))
      refine aw_aload_n dX7_pass_19 rfl ?_
      obtain ⟨pe_9, dd_9, ni_9, xx_9, e_9⟩ := JW.get i13_0 (ctc_0 hc)
      refine aw_get dX7_pass_20 fl_X7_25 e_9 (by omega) rfl ?_
      refine aw_sipush (v := 9999) dX7_pass_23 (by decide) ?_
      refine aw_icmp_ge (tgt := 84) dX7_pass_26 (by decide) (fun c_10 => ?_) (fun c_10 => ?_)
      · skip
        refine aw_vreti dX7_pass_84 rfl (Nat.le_of_ble_eq_true rfl) (Nat.le_of_ble_eq_true rfl) ?_
        exact ⟨rfl, i13_0⟩
      · skip
        refine aw_iconst (v := 0) dX7_pass_29 (by decide) ?_
        refine aw_istore (ls' := [some (.ref (b + 73)), some (.ref (b + c)), some (.ref (b + x)), some (.int n0), some (.int (nI j13)), some (.int 0)]) dX7_pass_30 (Nat.le_of_ble_eq_true rfl) rfl ?_
        have loop_32_10 : ∀ (g_32 : Nat), ∀ (j32 : Nat)  (V32 : Wd), j32 + g_32 = 12 → (JW D b N [(76, 91, 0, 1000000), (73, 73, 1, 1), (73, 73, 2, 2), (74, 74, 5, 5), (74, 74, 6, 6), (74, 74, 7, 7), (74, 74, 8, 8), (x + 6, x + 6, 0, 1000000), (x, x, 9, 9), (x + 7, x + 7, 0, 1000000), (c + 2, c + 13, 0, 1000000), (c, c, 7, 7), (c, c, 8, 8), (c + 17, c + 17, 0, 1000000)] V V32) → AW l D b jX7_pass (fx_rm 6 0 0) none (fx_MQ D b 0 0 (fx_qv (fun N9 V9 => N = N9 ∧ JW D b N [(76, 91, 0, 1000000), (73, 73, 1, 1), (73, 73, 2, 2), (74, 74, 5, 5), (74, 74, 6, 6), (74, 74, 7, 7), (74, 74, 8, 8), (x + 6, x + 6, 0, 1000000), (x, x, 9, 9), (x + 7, x + 7, 0, 1000000), (c + 2, c + 13, 0, 1000000), (c, c, 7, 7), (c, c, 8, 8), (c + 17, c + 17, 0, 1000000)] V V9))) 32 [some (.ref (b + 73)), some (.ref (b + c)), some (.ref (b + x)), some (.int n0), some (.int (nI j13)), some (.int (nI j32))] [] N V32 0 0 := by
          intro g_32
          induction g_32 with
          | zero =>
            intro j32  V32 hj32 i32_0
            obtain rfl : j32 = 12 := by omega
            refine aw_iload dX7_pass_32 rfl ?_
            refine aw_bipush (v := 12) dX7_pass_34 (by decide) ?_
            refine aw_icmp_ge (tgt := 62) dX7_pass_36 (by decide) (fun c_13 => ?_) (fun c_13 => ?_)
            rotate_left
            · exact absurd (nI_le (a := 12) (b := 12) (Nat.le_refl _) (by omega)) c_13
            refine aw_aload_n dX7_pass_62 rfl ?_
            refine aw_aload_n dX7_pass_63 rfl ?_
            refine aw_aload_n dX7_pass_64 rfl ?_
            obtain ⟨no_17, nf_17, e_17⟩ := JW.get i32_0 ct_73
            refine aw_callVv (J' := jX7_spreadDread) (As := [.ref (b + c), .ref (b + x)]) (st := []) dX7_pass_65 tb_726 ok_X7_spreadDread ⟨_, e_17⟩ (by omega) rfl rfl (g_X7_spreadDread l D b N V32 hN i32_0.1 c hc x hx) rfl (Nat.le_of_ble_eq_true rfl) ⟨Nat.le_of_ble_eq_true rfl, Nat.le_of_ble_eq_true rfl, Nat.le_of_ble_eq_true rfl, Nat.le_of_ble_eq_true rfl⟩ (fun  N_18 V_16 q_19 => ?_)
            obtain ⟨rfl, q_14⟩ := q_19
            have j_15 := JW.trans i32_0 (JW.weak q_14 (Sub.cons LM0 (by decide) (by decide) (by decide) (Or.inl rfl) (Sub.cons (LMs (LMs (LMs LM0))) (by decide) (by decide) (by decide) (Or.inr ⟨by decide, by decide⟩) (Sub.cons (LMs (LMs (LMs (LMs LM0)))) (by decide) (by decide) (by decide) (Or.inr ⟨by decide, by decide⟩) (Sub.cons (LMs (LMs (LMs (LMs (LMs LM0))))) (by decide) (by decide) (by decide) (Or.inr ⟨by decide, by decide⟩) (Sub.cons (LMs (LMs (LMs (LMs (LMs (LMs LM0)))))) (by decide) (by decide) (by decide) (Or.inr ⟨by decide, by decide⟩) (Sub.cons (LMs (LMs (LMs (LMs (LMs (LMs (LMs LM0))))))) (by omega) (by omega) (by decide) (Or.inl rfl) (Sub.cons (LMs (LMs (LMs (LMs (LMs (LMs (LMs (LMs LM0)))))))) (by omega) (by omega) (by decide) (Or.inr ⟨by decide, by decide⟩) (Sub.cons (LMs (LMs (LMs (LMs (LMs (LMs (LMs (LMs (LMs LM0))))))))) (by omega) (by omega) (by decide) (Or.inl rfl) (Sub.cons (LMs (LMs (LMs (LMs (LMs (LMs (LMs (LMs (LMs (LMs LM0)))))))))) (by omega) (by omega) (by decide) (Or.inl rfl) Sub.nil))))))))))
            refine aw_aload_n dX7_pass_68 rfl ?_
            refine aw_dup dX7_pass_69 rfl ?_
            obtain ⟨pe_20, dd_20, ni_20, xx_20, e_20⟩ := JW.get j_15 (ctc_0 hc)
            refine aw_get dX7_pass_70 fl_X7_25 e_20 (by omega) rfl ?_
            refine aw_iconst (v := 1) dX7_pass_73 (by decide) ?_
            refine aw_iadd dX7_pass_74 ?_
            refine aw_put dX7_pass_75 fp_X7_25 e_20 (by omega) rfl rfl (Nat.le_of_ble_eq_true rfl) rfl ?_
            refine aw_up j_15 (ctc_0 hc) ⟨_, _, _, _, rfl⟩ (WO (s := 7) (x := .int (ni_20 + 1)) e_20 rfl (LMs (LMs (LMs (LMs (LMs (LMs (LMs (LMs (LMs (LMs (LMs LM0))))))))))) (by omega) (by omega) (by decide) (Or.inl (by decide))) (fun V_21 j_21 k_21 e_21 => ?_)
            refine aw_iinc (v := (nI (j13 + 1))) (ls' := [some (.ref (b + 73)), some (.ref (b + c)), some (.ref (b + x)), some (.int n0), some (.int (nI (j13 + 1))), some (.int (nI 12))]) dX7_pass_78 rfl (fx_up_1 _) (Nat.le_of_ble_eq_true rfl) rfl ?_
            refine aw_goto (tgt := 13) dX7_pass_81 (by decide) ?_
            refine aw_le ?_ (ih_13_5 (j13 + 1)  V_21 (by omega) (j_21))
            exact ⟨rfl, ⟨rfl, ⟨rfl, ⟨rfl, ⟨rfl, trivial⟩⟩⟩⟩⟩
          | succ g_32 ih_32_11 =>
            intro j32  V32 hj32 i32_0
            have hlj32 : j32 < 12 := by omega
            refine aw_iload dX7_pass_32 rfl ?_
            refine aw_bipush (v := 12) dX7_pass_34 (by decide) ?_
            refine aw_icmp_ge (tgt := 62) dX7_pass_36 (by decide) (fun c_22 => ?_) (fun c_22 => ?_)
            · exact absurd c_22 (nI_ge (a := j32) (b := 12) (by omega) (by omega))
            refine aw_aload_n dX7_pass_39 rfl ?_
            refine aw_iload dX7_pass_40 rfl ?_
            obtain ⟨pe_26, dd_26, ni_26, xx_26, e_26⟩ := JW.get i32_0 (ctc_0 hc)
            refine aw_callVi (J' := jX0_isPerson) (As := [.int (nI j32)]) (st := []) dX7_pass_42 tb_630 ok_X0_isPerson ⟨_, e_26⟩ (by omega) rfl rfl (g_X0_isPerson l D b N V32 hN i32_0.1 c hc (nI j32)) rfl (Nat.le_of_ble_eq_true rfl) ⟨Nat.le_of_ble_eq_true rfl, Nat.le_of_ble_eq_true rfl, Nat.le_of_ble_eq_true rfl, Nat.le_of_ble_eq_true rfl⟩ (fun r_27 N_28 V_29 q_30 => ?_)
            obtain ⟨⟨z_25, h_24⟩, rfl, rfl⟩ := q_30
            refine aw_if_eq (tgt := 56) dX7_pass_45 (by decide) (fun c_31 => ?_) (fun c_31 => ?_)
            · skip
              refine aw_iinc (v := (nI (j32 + 1))) (ls' := [some (.ref (b + 73)), some (.ref (b + c)), some (.ref (b + x)), some (.int n0), some (.int (nI j13)), some (.int (nI (j32 + 1)))]) dX7_pass_56 rfl (fx_up_1 _) (Nat.le_of_ble_eq_true rfl) rfl ?_
              refine aw_goto (tgt := 32) dX7_pass_59 (by decide) ?_
              refine aw_le ?_ (ih_32_11 (j32 + 1)  V32 (by omega) (i32_0))
              exact ⟨rfl, ⟨rfl, ⟨rfl, ⟨rfl, ⟨rfl, ⟨rfl, trivial⟩⟩⟩⟩⟩⟩
            · skip
              refine aw_aload_n dX7_pass_48 rfl ?_
              refine aw_aload_n dX7_pass_49 rfl ?_
              refine aw_aload_n dX7_pass_50 rfl ?_
              refine aw_iload dX7_pass_51 rfl ?_
              obtain ⟨no_35, nf_35, e_35⟩ := JW.get i32_0 ct_73
              refine aw_callVv (J' := jX7_goOut) (As := [.ref (b + c), .ref (b + x), .int (nI j32)]) (st := []) dX7_pass_53 tb_631 ok_X7_goOut ⟨_, e_35⟩ (by omega) rfl rfl (g_X7_goOut l D b N V32 hN i32_0.1 c hc x hx (nI j32)) rfl (Nat.le_of_ble_eq_true rfl) ⟨Nat.le_of_ble_eq_true rfl, Nat.le_of_ble_eq_true rfl, Nat.le_of_ble_eq_true rfl, Nat.le_of_ble_eq_true rfl⟩ (fun  N_36 V_34 q_37 => ?_)
              obtain ⟨rfl, q_32⟩ := q_37
              have j_33 := JW.trans i32_0 (JW.weak q_32 (Sub.cons (LMs (LMs (LMs (LMs (LMs (LMs (LMs LM0))))))) (by omega) (by omega) (by decide) (Or.inl rfl) (Sub.cons (LMs (LMs (LMs (LMs (LMs (LMs (LMs (LMs (LMs (LMs (LMs (LMs LM0)))))))))))) (by omega) (by omega) (by decide) (Or.inr ⟨by decide, by decide⟩) (Sub.cons (LMs (LMs (LMs (LMs (LMs (LMs (LMs (LMs LM0)))))))) (by omega) (by omega) (by decide) (Or.inr ⟨by decide, by decide⟩) (Sub.cons (LMs (LMs (LMs (LMs (LMs (LMs (LMs (LMs (LMs LM0))))))))) (by omega) (by omega) (by decide) (Or.inl rfl) (Sub.cons (LMs (LMs LM0)) (by decide) (by decide) (by decide) (Or.inr ⟨by decide, by decide⟩) (Sub.cons (LMs (LMs (LMs (LMs (LMs (LMs (LMs (LMs (LMs (LMs LM0)))))))))) (by omega) (by omega) (by decide) (Or.inl rfl) (Sub.cons (LMs LM0) (by decide) (by decide) (by decide) (Or.inr ⟨by decide, by decide⟩) (Sub.cons (LMs (LMs (LMs (LMs (LMs (LMs (LMs (LMs (LMs (LMs (LMs (LMs (LMs LM0))))))))))))) (by omega) (by omega) (by decide) (Or.inl rfl) Sub.nil)))))))))
              refine aw_iinc (v := (nI (j32 + 1))) (ls' := [some (.ref (b + 73)), some (.ref (b + c)), some (.ref (b + x)), some (.int n0), some (.int (nI j13)), some (.int (nI (j32 + 1)))]) dX7_pass_56 rfl (fx_up_1 _) (Nat.le_of_ble_eq_true rfl) rfl ?_
              refine aw_goto (tgt := 32) dX7_pass_59 (by decide) ?_
              refine aw_le ?_ (ih_32_11 (j32 + 1)  V_34 (by omega) (j_33))
              exact ⟨rfl, ⟨rfl, ⟨rfl, ⟨rfl, ⟨rfl, ⟨rfl, trivial⟩⟩⟩⟩⟩⟩
        refine aw_le ?_ (loop_32_10 12 0  V13 (by omega) (i13_0))
        exact ⟨rfl, ⟨rfl, ⟨rfl, ⟨rfl, ⟨rfl, ⟨rfl, trivial⟩⟩⟩⟩⟩⟩
  refine aw_le ?_ (loop_13_4 (Int32.toNatClampNeg n0) 0  V_3 (by omega) (j_3))
  exact ⟨rfl, ⟨rfl, ⟨rfl, ⟨rfl, ⟨rfl, trivial⟩⟩⟩⟩⟩
