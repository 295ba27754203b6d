set_option maxHeartbeats 4000000 in
set_option maxRecDepth 100000 in
theorem g_X3_openedBy (l : Launch) (D : va_G) (b : Nat) (N : Nat) (V : Wd) (hN : 100 ≤ N) (hW : CW D b V) (n0 : Int32)  : MI l D b 1 jX3_openedBy [.ref (b + 92), .int n0] N V 0 0 (fun r N9 V9 => N = N9 ∧ V = V9) := by
  have hJ0 : JW D b N [] V V := JW.rf hW
  refine mw_of (by decide) (by simp [Value.category]) (Nat.le_of_ble_eq_true rfl) ?_
  show AW l D b jX3_openedBy (fx_rm 1 0 0) none (fx_MQ D b 0 0 (fx_qi (fun r N9 V9 => N = N9 ∧ V = V9))) 0 [some (.ref (b + 92)), some (.int n0), none, none] [] N V 0 0
  refine aw_iconst (v := 0) dX3_openedBy_0 (by decide) ?_
  refine aw_istore_n (ls' := [some (.ref (b + 92)), some (.int n0), some (.int 0), none]) dX3_openedBy_1 (Nat.le_of_ble_eq_true rfl) rfl ?_
  refine aw_iconst (v := 0) dX3_openedBy_2 (by decide) ?_
  refine aw_istore_n (ls' := [some (.ref (b + 92)), some (.int n0), some (.int 0), some (.int 0)]) dX3_openedBy_3 (Nat.le_of_ble_eq_true rfl) rfl ?_
  have e_1 := JW.get hJ0 ct_92
  obtain ⟨g_2, e_2⟩ := JW.get hJ0 ct_93
  have loop_4_2 : ∀ (g_4 : Nat), ∀ (j4 : Nat) (v4_2 : Int32), j4 + g_4 = 12 → AW l D b jX3_openedBy (fx_rm 1 0 0) none (fx_MQ D b 0 0 (fx_qi (fun r N9 V9 => N = N9 ∧ V = V9))) 4 [some (.ref (b + 92)), some (.int n0), some (.int v4_2), some (.int (nI j4))] [] N V 0 0 := by
    intro g_4
    induction g_4 with
    | zero =>
      intro j4 v4_2 hj4
      obtain rfl : j4 = 12 := by omega
      refine aw_iload_n dX3_openedBy_4 rfl ?_
      refine aw_aload_n dX3_openedBy_5 rfl ?_
      refine aw_get dX3_openedBy_6 fl_X3_9 e_1 (by omega) rfl ?_
      refine aw_alen (t0 := 0) (v := 12) dX3_openedBy_9 e_2 (by omega) rfl rfl ?_
      refine aw_icmp_ge (tgt := 36) dX3_openedBy_10 (by decide) (fun c_5 => ?_) (fun c_5 => ?_)
      rotate_left
      · exact absurd (nI_le (a := 12) (b := 12) (Nat.le_refl _) (by omega)) c_5
      refine aw_iload_n dX3_openedBy_36 rfl ?_
      refine aw_ireti dX3_openedBy_37 rfl (Nat.le_of_ble_eq_true rfl) (Nat.le_of_ble_eq_true rfl) ?_
      exact ⟨rfl, rfl⟩
    | succ g_4 ih_4_3 =>
      intro j4 v4_2 hj4
      have hlj4 : j4 < 12 := by omega
      refine aw_iload_n dX3_openedBy_4 rfl ?_
      refine aw_aload_n dX3_openedBy_5 rfl ?_
      refine aw_get dX3_openedBy_6 fl_X3_9 e_1 (by omega) rfl ?_
      refine aw_alen (t0 := 0) (v := 12) dX3_openedBy_9 e_2 (by omega) rfl rfl ?_
      refine aw_icmp_ge (tgt := 36) dX3_openedBy_10 (by decide) (fun c_6 => ?_) (fun c_6 => ?_)
      · exact absurd c_6 (nI_ge (a := j4) (b := 12) (by omega) (by omega))
      refine aw_iload_n dX3_openedBy_13 rfl ?_
      refine aw_iload_n dX3_openedBy_14 rfl ?_
      refine aw_callSNi (J' := jX11_has) (As := [.int n0, .int (nI j4)]) (st := []) dX3_openedBy_15 tb_804 ok_X11_has rfl (g_X11_has l D b N V hN hJ0.1 n0 (nI j4)) rfl (Nat.le_of_ble_eq_true rfl) ⟨Nat.le_of_ble_eq_true rfl, Nat.le_of_ble_eq_true rfl, Nat.le_of_ble_eq_true rfl, Nat.le_of_ble_eq_true rfl⟩ (fun r_9 N_10 V_11 q_12 => ?_)
      obtain ⟨h_8, rfl, rfl⟩ := q_12
      refine aw_if_eq (tgt := 30) dX3_openedBy_18 (by decide) (fun c_13 => ?_) (fun c_13 => ?_)
      · skip
        refine aw_iinc (v := (nI (j4 + 1))) (ls' := [some (.ref (b + 92)), some (.int n0), some (.int v4_2), some (.int (nI (j4 + 1)))]) dX3_openedBy_30 rfl (fx_up_1 _) (Nat.le_of_ble_eq_true rfl) rfl ?_
        refine aw_goto (tgt := 4) dX3_openedBy_33 (by decide) ?_
        refine aw_le ?_ (ih_4_3 (j4 + 1) v4_2  (by omega))
        exact ⟨rfl, ⟨rfl, ⟨rfl, ⟨rfl, trivial⟩⟩⟩⟩
      · skip
        refine aw_iload_n dX3_openedBy_21 rfl ?_
        refine aw_aload_n dX3_openedBy_22 rfl ?_
        refine aw_get dX3_openedBy_23 fl_X3_9 e_1 (by omega) rfl ?_
        refine aw_iload_n dX3_openedBy_26 rfl ?_
        refine aw_iald (v := (g_2 j4)) dX3_openedBy_27 e_2 (by omega) (vp_in_nI (n := j4) (by omega) (by omega)) (congrArg g_2 (nI_clamp (n := j4) (by omega))) ?_
        refine aw_ior dX3_openedBy_28 ?_
        refine aw_istore_n (ls' := [some (.ref (b + 92)), some (.int n0), some (.int (v4_2 ||| (g_2 j4))), some (.int (nI j4))]) dX3_openedBy_29 (Nat.le_of_ble_eq_true rfl) rfl ?_
        refine aw_iinc (v := (nI (j4 + 1))) (ls' := [some (.ref (b + 92)), some (.int n0), some (.int (v4_2 ||| (g_2 j4))), some (.int (nI (j4 + 1)))]) dX3_openedBy_30 rfl (fx_up_1 _) (Nat.le_of_ble_eq_true rfl) rfl ?_
        refine aw_goto (tgt := 4) dX3_openedBy_33 (by decide) ?_
        refine aw_le ?_ (ih_4_3 (j4 + 1) (v4_2 ||| (g_2 j4))  (by omega))
        exact ⟨rfl, ⟨rfl, ⟨rfl, ⟨rfl, trivial⟩⟩⟩⟩
  refine aw_le ?_ (loop_4_2 12 0 0  (by omega))
  exact ⟨rfl, ⟨rfl, ⟨rfl, ⟨rfl, trivial⟩⟩⟩⟩

set_option maxHeartbeats 4000000 in
set_option maxRecDepth 100000 in
theorem g_X3_leftAtWorst (l : Launch) (D : va_G) (b : Nat) (N : Nat) (V : Wd) (hN : 100 ≤ N) (hW : CW D b V) (c : Nat) (hc : c = 3 ∨ c = 21 ∨ c = 39 ∨ c = 74) (n0 : Int32) (n1 : Int32)  : MI l D b 3 jX3_leftAtWorst [.ref (b + c), .int n0, .int n1] N V 0 0 (fun r N9 V9 => N = N9 ∧ V = V9) := by
  have hJ0 : JW D b N [] V V := JW.rf hW
  refine mw_of (by decide) (by simp [Value.category]) (Nat.le_of_ble_eq_true rfl) ?_
  show AW l D b jX3_leftAtWorst (fx_rm 3 0 0) none (fx_MQ D b 0 0 (fx_qi (fun r N9 V9 => N = N9 ∧ V = V9))) 0 [some (.ref (b + c)), some (.int n0), some (.int n1), none] [] N V 0 0
  refine aw_iload_n dX3_leftAtWorst_0 rfl ?_
  refine aw_callSi (J' := jJ6_bitCount_0f7a4) (As := [.int n0]) (st := []) dX3_leftAtWorst_1 tb_799 ok_J6_bitCount_0f7a4 rfl (c_bitCount l D b N V n0) rfl (Nat.le_of_ble_eq_true rfl) ⟨Nat.le_of_ble_eq_true rfl, Nat.le_of_ble_eq_true rfl, Nat.le_of_ble_eq_true rfl, Nat.le_of_ble_eq_true rfl⟩ (fun r_1 N_2 V_3 q_4 => ?_)
  obtain ⟨rfl, rfl⟩ := q_4
  refine aw_istore_n (ls' := [some (.ref (b + c)), some (.int n0), some (.int n1), some (.int r_1)]) dX3_leftAtWorst_4 (Nat.le_of_ble_eq_true rfl) rfl ?_
  refine aw_iload_n dX3_leftAtWorst_5 rfl ?_
  refine aw_aload_n dX3_leftAtWorst_6 rfl ?_
  refine aw_iload_n dX3_leftAtWorst_7 rfl ?_
  obtain ⟨pe_6, dd_6, ni_6, xx_6, e_6⟩ := JW.get hJ0 (ctc_0 hc)
  refine aw_callVi (J' := jX0_fearOf) (As := [.int n1]) (st := [.int n0]) dX3_leftAtWorst_8 tb_936 ok_X0_fearOf ⟨_, e_6⟩ (by omega) rfl rfl (g_X0_fearOf l D b N V hN hJ0.1 c hc n1) rfl (Nat.le_of_ble_eq_true rfl) ⟨Nat.le_of_ble_eq_true rfl, Nat.le_of_ble_eq_true rfl, Nat.le_of_ble_eq_true rfl, Nat.le_of_ble_eq_true rfl⟩ (fun r_7 N_8 V_9 q_10 => ?_)
  obtain ⟨rfl, rfl⟩ := q_10
  refine aw_callSNi (J' := jX11_has) (As := [.int n0, .int r_7]) (st := []) dX3_leftAtWorst_11 tb_804 ok_X11_has rfl (g_X11_has l D b N V hN hJ0.1 n0 r_7) rfl (Nat.le_of_ble_eq_true rfl) ⟨Nat.le_of_ble_eq_true rfl, Nat.le_of_ble_eq_true rfl, Nat.le_of_ble_eq_true rfl, Nat.le_of_ble_eq_true rfl⟩ (fun r_13 N_14 V_15 q_16 => ?_)
  obtain ⟨h_12, rfl, rfl⟩ := q_16
  refine aw_if_eq (tgt := 27) dX3_leftAtWorst_14 (by decide) (fun c_17 => ?_) (fun c_17 => ?_)
  · skip
    refine aw_iload_n dX3_leftAtWorst_27 rfl ?_
    refine aw_ireti dX3_leftAtWorst_28 rfl (Nat.le_of_ble_eq_true rfl) (Nat.le_of_ble_eq_true rfl) ?_
    exact ⟨rfl, rfl⟩
  · skip
    refine aw_iconst (v := 1) dX3_leftAtWorst_17 (by decide) ?_
    refine aw_iload_n dX3_leftAtWorst_18 rfl ?_
    refine aw_iconst (v := 1) dX3_leftAtWorst_19 (by decide) ?_
    refine aw_isub dX3_leftAtWorst_20 ?_
    refine aw_mmax dX3_leftAtWorst_21 tb_784 tb_385 tb_13 tb_386 ⟨Nat.le_of_ble_eq_true rfl, Nat.le_of_ble_eq_true rfl, Nat.le_of_ble_eq_true rfl, Nat.le_of_ble_eq_true rfl⟩ ?_
    refine aw_goto (tgt := 28) dX3_leftAtWorst_24 (by decide) ?_
    refine aw_ireti dX3_leftAtWorst_28 rfl (Nat.le_of_ble_eq_true rfl) (Nat.le_of_ble_eq_true rfl) ?_
    exact ⟨rfl, rfl⟩

set_option maxHeartbeats 4000000 in
set_option maxRecDepth 100000 in
theorem g_X3_bestToSend (l : Launch) (D : va_G) (b : Nat) (N : Nat) (V : Wd) (hN : 100 ≤ N) (hW : CW D b V) (c : Nat) (hc : c = 3 ∨ c = 21 ∨ c = 39 ∨ c = 74) (n0 : Int32)  : MI l D b 4 jX3_bestToSend [.ref (b + c), .int n0] N V 0 0 (fun r N9 V9 => N = N9 ∧ V = V9) := by
  have hJ0 : JW D b N [] V V := JW.rf hW
  refine mw_of (by decide) (by simp [Value.category]) (Nat.le_of_ble_eq_true rfl) ?_
  show AW l D b jX3_bestToSend (fx_rm 4 0 0) none (fx_MQ D b 0 0 (fx_qi (fun r N9 V9 => N = N9 ∧ V = V9))) 0 [some (.ref (b + c)), some (.int n0), none, none, none] [] N V 0 0
  refine aw_bipush (v := (-2)) dX3_bestToSend_0 (by decide) ?_
  refine aw_istore_n (ls' := [some (.ref (b + c)), some (.int n0), some (.int (-2)), none, none]) dX3_bestToSend_2 (Nat.le_of_ble_eq_true rfl) rfl ?_
  refine aw_bipush (v := 17) dX3_bestToSend_3 (by decide) ?_
  refine aw_istore_n (ls' := [some (.ref (b + c)), some (.int n0), some (.int (-2)), some (.int 17), none]) dX3_bestToSend_5 (Nat.le_of_ble_eq_true rfl) rfl ?_
  refine aw_iconst (v := 0) dX3_bestToSend_6 (by decide) ?_
  refine aw_istore (ls' := [some (.ref (b + c)), some (.int n0), some (.int (-2)), some (.int 17), some (.int 0)]) dX3_bestToSend_7 (Nat.le_of_ble_eq_true rfl) rfl ?_
  have loop_9_0 : ∀ (g_9 : Nat), ∀ (j9 : Nat) (v9_2 : Int32) (v9_3 : Int32), j9 + g_9 = 12 → AW l D b jX3_bestToSend (fx_rm 4 0 0) none (fx_MQ D b 0 0 (fx_qi (fun r N9 V9 => N = N9 ∧ V = V9))) 9 [some (.ref (b + c)), some (.int n0), some (.int v9_2), some (.int v9_3), some (.int (nI j9))] [] N V 0 0 := by
    intro g_9
    induction g_9 with
    | zero =>
      intro j9 v9_2 v9_3 hj9
      obtain rfl : j9 = 12 := by omega
      refine aw_iload dX3_bestToSend_9 rfl ?_
      refine aw_bipush (v := 12) dX3_bestToSend_11 (by decide) ?_
      refine aw_icmp_ge (tgt := 53) dX3_bestToSend_13 (by decide) (fun c_3 => ?_) (fun c_3 => ?_)
      rotate_left
      · exact absurd (nI_le (a := 12) (b := 12) (Nat.le_refl _) (by omega)) c_3
      refine aw_iload_n dX3_bestToSend_53 rfl ?_
      refine aw_ireti dX3_bestToSend_54 rfl (Nat.le_of_ble_eq_true rfl) (Nat.le_of_ble_eq_true rfl) ?_
      exact ⟨rfl, rfl⟩
    | succ g_9 ih_9_1 =>
      intro j9 v9_2 v9_3 hj9
      have hlj9 : j9 < 12 := by omega
      refine aw_iload dX3_bestToSend_9 rfl ?_
      refine aw_bipush (v := 12) dX3_bestToSend_11 (by decide) ?_
      refine aw_icmp_ge (tgt := 53) dX3_bestToSend_13 (by decide) (fun c_4 => ?_) (fun c_4 => ?_)
      · exact absurd c_4 (nI_ge (a := j9) (b := 12) (by omega) (by omega))
      refine aw_aload_n dX3_bestToSend_16 rfl ?_
      refine aw_iload dX3_bestToSend_17 rfl ?_
      obtain ⟨pe_8, dd_8, ni_8, xx_8, e_8⟩ := JW.get hJ0 (ctc_0 hc)
      refine aw_callVi (J' := jX0_isPerson) (As := [.int (nI j9)]) (st := []) dX3_bestToSend_19 tb_929 ok_X0_isPerson ⟨_, e_8⟩ (by omega) rfl rfl (g_X0_isPerson l D b N V hN hJ0.1 c hc (nI j9)) rfl (Nat.le_of_ble_eq_true rfl) ⟨Nat.le_of_ble_eq_true rfl, Nat.le_of_ble_eq_true rfl, Nat.le_of_ble_eq_true rfl, Nat.le_of_ble_eq_true rfl⟩ (fun r_9 N_10 V_11 q_12 => ?_)
      obtain ⟨⟨z_7, h_6⟩, rfl, rfl⟩ := q_12
      refine aw_if_eq (tgt := 47) dX3_bestToSend_22 (by decide) (fun c_13 => ?_) (fun c_13 => ?_)
      · skip
        refine aw_iinc (v := (nI (j9 + 1))) (ls' := [some (.ref (b + c)), some (.int n0), some (.int v9_2), some (.int v9_3), some (.int (nI (j9 + 1)))]) dX3_bestToSend_47 rfl (fx_up_1 _) (Nat.le_of_ble_eq_true rfl) rfl ?_
        refine aw_goto (tgt := 9) dX3_bestToSend_50 (by decide) ?_
        refine aw_le ?_ (ih_9_1 (j9 + 1) v9_2 v9_3  (by omega))
        exact ⟨rfl, ⟨rfl, ⟨rfl, ⟨rfl, ⟨rfl, trivial⟩⟩⟩⟩⟩
      · skip
        refine aw_aload_n dX3_bestToSend_25 rfl ?_
        refine aw_iload_n dX3_bestToSend_26 rfl ?_
        refine aw_iload dX3_bestToSend_27 rfl ?_
        refine aw_callSi (J' := jX3_leftAtWorst) (As := [.ref (b + c), .int n0, .int (nI j9)]) (st := []) dX3_bestToSend_29 tb_950 ok_X3_leftAtWorst rfl (g_X3_leftAtWorst l D b N V hN hJ0.1 c hc n0 (nI j9)) rfl (Nat.le_of_ble_eq_true rfl) ⟨Nat.le_of_ble_eq_true rfl, Nat.le_of_ble_eq_true rfl, Nat.le_of_ble_eq_true rfl, Nat.le_of_ble_eq_true rfl⟩ (fun r_15 N_16 V_17 q_18 => ?_)
        obtain ⟨rfl, rfl⟩ := q_18
        refine aw_iload_n dX3_bestToSend_32 rfl ?_
        refine aw_icmp_ge (tgt := 47) dX3_bestToSend_33 (by decide) (fun c_19 => ?_) (fun c_19 => ?_)
        · skip
          refine aw_iinc (v := (nI (j9 + 1))) (ls' := [some (.ref (b + c)), some (.int n0), some (.int v9_2), some (.int v9_3), some (.int (nI (j9 + 1)))]) dX3_bestToSend_47 rfl (fx_up_1 _) (Nat.le_of_ble_eq_true rfl) rfl ?_
          refine aw_goto (tgt := 9) dX3_bestToSend_50 (by decide) ?_
          refine aw_le ?_ (ih_9_1 (j9 + 1) v9_2 v9_3  (by omega))
          exact ⟨rfl, ⟨rfl, ⟨rfl, ⟨rfl, ⟨rfl, trivial⟩⟩⟩⟩⟩
        · skip
          refine aw_iload dX3_bestToSend_36 rfl ?_
          refine aw_istore_n (ls' := [some (.ref (b + c)), some (.int n0), some (.int (nI j9)), some (.int v9_3), some (.int (nI j9))]) dX3_bestToSend_38 (Nat.le_of_ble_eq_true rfl) rfl ?_
          refine aw_aload_n dX3_bestToSend_39 rfl ?_
          refine aw_iload_n dX3_bestToSend_40 rfl ?_
          refine aw_iload dX3_bestToSend_41 rfl ?_
          refine aw_callSi (J' := jX3_leftAtWorst) (As := [.ref (b + c), .int n0, .int (nI j9)]) (st := []) dX3_bestToSend_43 tb_950 ok_X3_leftAtWorst rfl (g_X3_leftAtWorst l D b N V hN hJ0.1 c hc n0 (nI j9)) rfl (Nat.le_of_ble_eq_true rfl) ⟨Nat.le_of_ble_eq_true rfl, Nat.le_of_ble_eq_true rfl, Nat.le_of_ble_eq_true rfl, Nat.le_of_ble_eq_true rfl⟩ (fun r_21 N_22 V_23 q_24 => ?_)
          obtain ⟨rfl, rfl⟩ := q_24
          refine aw_istore_n (ls' := [some (.ref (b + c)), some (.int n0), some (.int (nI j9)), some (.int r_21), some (.int (nI j9))]) dX3_bestToSend_46 (Nat.le_of_ble_eq_true rfl) rfl ?_
          refine aw_iinc (v := (nI (j9 + 1))) (ls' := [some (.ref (b + c)), some (.int n0), some (.int (nI j9)), some (.int r_21), some (.int (nI (j9 + 1)))]) dX3_bestToSend_47 rfl (fx_up_1 _) (Nat.le_of_ble_eq_true rfl) rfl ?_
          refine aw_goto (tgt := 9) dX3_bestToSend_50 (by decide) ?_
          refine aw_le ?_ (ih_9_1 (j9 + 1) (nI j9) r_21  (by omega))
          exact ⟨rfl, ⟨rfl, ⟨rfl, ⟨rfl, ⟨rfl, trivial⟩⟩⟩⟩⟩
  refine aw_le ?_ (loop_9_0 12 0 (-2) 17  (by omega))
  exact ⟨rfl, ⟨rfl, ⟨rfl, ⟨rfl, ⟨rfl, trivial⟩⟩⟩⟩⟩

set_option maxHeartbeats 4000000 in
set_option maxRecDepth 100000 in
theorem g_X3_triesFit (l : Launch) (D : va_G) (b : Nat) (N : Nat) (V : Wd) (hN : 100 ≤ N) (hW : CW D b V) (c : Nat) (hc : c = 3 ∨ c = 21 ∨ c = 39 ∨ c = 74) (n0 : Int32)  : MI l D b 2 jX3_triesFit [.ref (b + 1), .ref (b + c), .int n0] N V 0 0 (fun r N9 V9 => (r = 0 ∨ r = 1) ∧ N = N9 ∧ V = V9) := by
  have hJ0 : JW D b N [] V V := JW.rf hW
  refine mw_of (by decide) (by simp [Value.category]) (Nat.le_of_ble_eq_true rfl) ?_
  show AW l D b jX3_triesFit (fx_rm 2 0 0) none (fx_MQ D b 0 0 (fx_qi (fun r N9 V9 => (r = 0 ∨ r = 1) ∧ N = N9 ∧ V = V9))) 0 [some (.ref (b + 1)), some (.ref (b + c)), some (.int n0), none] [] N V 0 0
  refine aw_iconst (v := 0) dX3_triesFit_0 (by decide) ?_
  refine aw_istore_n (ls' := [some (.ref (b + 1)), some (.ref (b + c)), some (.int n0), some (.int 0)]) dX3_triesFit_1 (Nat.le_of_ble_eq_true rfl) rfl ?_
  have hb_1 := fx_clt n0
  have loop_2_1 : ∀ (g_2 : Nat), ∀ (j2 : Nat), j2 + g_2 = (Int32.toNatClampNeg n0) → AW l D b jX3_triesFit (fx_rm 2 0 0) none (fx_MQ D b 0 0 (fx_qi (fun r N9 V9 => (r = 0 ∨ r = 1) ∧ N = N9 ∧ V = V9))) 2 [some (.ref (b + 1)), some (.ref (b + c)), some (.int n0), some (.int (nI j2))] [] N V 0 0 := by
    intro g_2
    induction g_2 with
    | zero =>
      intro j2  hj2
      obtain rfl : j2 = (Int32.toNatClampNeg n0) := by omega
      refine aw_iload_n dX3_triesFit_2 rfl ?_
      refine aw_iload_n dX3_triesFit_3 rfl ?_
      refine aw_icmp_ge (tgt := 42) dX3_triesFit_4 (by decide) (fun c_4 => ?_) (fun c_4 => ?_)
      rotate_left
      · exact absurd (fx_gec n0) c_4
      refine aw_iconst (v := 1) dX3_triesFit_42 (by decide) ?_
      refine aw_zreti dX3_triesFit_43 rfl (by first | exact Or.inl rfl | exact Or.inr rfl | assumption) (Nat.le_of_ble_eq_true rfl) (Nat.le_of_ble_eq_true rfl) ?_
      exact ⟨(by first | exact Or.inl rfl | exact Or.inr rfl | assumption), rfl, rfl⟩
    | succ g_2 ih_2_2 =>
      intro j2  hj2
      have hlj2 : j2 < (Int32.toNatClampNeg n0) := by omega
      refine aw_iload_n dX3_triesFit_2 rfl ?_
      refine aw_iload_n dX3_triesFit_3 rfl ?_
      refine aw_icmp_ge (tgt := 42) dX3_triesFit_4 (by decide) (fun c_5 => ?_) (fun c_5 => ?_)
      · exact absurd c_5 (fx_gej (by omega))
      refine aw_aload_n dX3_triesFit_7 rfl ?_
      refine aw_aload_n dX3_triesFit_8 rfl ?_
      refine aw_iconst (v := 2) dX3_triesFit_9 (by decide) ?_
      refine aw_iload_n dX3_triesFit_10 rfl ?_
      refine aw_imul dX3_triesFit_11 ?_
      refine aw_eqi (y := nI (2 * j2)) (pk_mul _ _) ?_
      obtain ⟨ts_7, tn_7, tf_7, ta_7, e_7, hta_7⟩ := JW.get hJ0 ct_1
      refine aw_callVi (J' := jX10_byteAt) (As := [.int (nI (2 * j2))]) (st := [.ref (b + c)]) dX3_triesFit_12 tb_925 ok_X10_byteAt ⟨_, e_7⟩ (by omega) rfl rfl (g_X10_byteAt l D b N V hN hJ0.1 (nI (2 * j2))) rfl (Nat.le_of_ble_eq_true rfl) ⟨Nat.le_of_ble_eq_true rfl, Nat.le_of_ble_eq_true rfl, Nat.le_of_ble_eq_true rfl, Nat.le_of_ble_eq_true rfl⟩ (fun r_8 N_9 V_10 q_11 => ?_)
      obtain ⟨rfl, rfl⟩ := q_11
      obtain ⟨pe_15, dd_15, ni_15, xx_15, e_15⟩ := JW.get hJ0 (ctc_0 hc)
      refine aw_callVi (J' := jX0_isPerson) (As := [.int r_8]) (st := []) dX3_triesFit_15 tb_929 ok_X0_isPerson ⟨_, e_15⟩ (by omega) rfl rfl (g_X0_isPerson l D b N V hN hJ0.1 c hc r_8) rfl (Nat.le_of_ble_eq_true rfl) ⟨Nat.le_of_ble_eq_true rfl, Nat.le_of_ble_eq_true rfl, Nat.le_of_ble_eq_true rfl, Nat.le_of_ble_eq_true rfl⟩ (fun r_16 N_17 V_18 q_19 => ?_)
      obtain ⟨⟨z_14, h_13⟩, rfl, rfl⟩ := q_19
      refine aw_if_eq (tgt := 34) dX3_triesFit_18 (by decide) (fun c_20 => ?_) (fun c_20 => ?_)
      · skip
        refine aw_iconst (v := 0) dX3_triesFit_34 (by decide) ?_
        refine aw_zreti dX3_triesFit_35 rfl (by first | exact Or.inl rfl | exact Or.inr rfl | assumption) (Nat.le_of_ble_eq_true rfl) (Nat.le_of_ble_eq_true rfl) ?_
        exact ⟨(by first | exact Or.inl rfl | exact Or.inr rfl | assumption), rfl, rfl⟩
      · skip
        refine aw_aload_n dX3_triesFit_21 rfl ?_
        refine aw_iconst (v := 2) dX3_triesFit_22 (by decide) ?_
        refine aw_iload_n dX3_triesFit_23 rfl ?_
        refine aw_imul dX3_triesFit_24 ?_
        refine aw_eqi (y := nI (2 * j2)) (pk_mul _ _) ?_
        refine aw_iconst (v := 1) dX3_triesFit_25 (by decide) ?_
        refine aw_iadd dX3_triesFit_26 ?_
        refine aw_eqi (y := nI ((2 * j2) + 1)) (nI_add _ _) ?_
        refine aw_callVi (J' := jX10_byteAt) (As := [.int (nI ((2 * j2) + 1))]) (st := []) dX3_triesFit_27 tb_925 ok_X10_byteAt ⟨_, e_7⟩ (by omega) rfl rfl (g_X10_byteAt l D b N V hN hJ0.1 (nI ((2 * j2) + 1))) rfl (Nat.le_of_ble_eq_true rfl) ⟨Nat.le_of_ble_eq_true rfl, Nat.le_of_ble_eq_true rfl, Nat.le_of_ble_eq_true rfl, Nat.le_of_ble_eq_true rfl⟩ (fun r_22 N_23 V_24 q_25 => ?_)
        obtain ⟨rfl, rfl⟩ := q_25
        refine aw_iconst (v := 1) dX3_triesFit_30 (by decide) ?_
        refine aw_icmp_le (tgt := 36) dX3_triesFit_31 (by decide) (fun c_26 => ?_) (fun c_26 => ?_)
        · skip
          refine aw_iinc (v := (nI (j2 + 1))) (ls' := [some (.ref (b + 1)), some (.ref (b + c)), some (.int n0), some (.int (nI (j2 + 1)))]) dX3_triesFit_36 rfl (fx_up_1 _) (Nat.le_of_ble_eq_true rfl) rfl ?_
          refine aw_goto (tgt := 2) dX3_triesFit_39 (by decide) ?_
          refine aw_le ?_ (ih_2_2 (j2 + 1)   (by omega))
          exact ⟨rfl, ⟨rfl, ⟨rfl, ⟨rfl, trivial⟩⟩⟩⟩
        · skip
          refine aw_iconst (v := 0) dX3_triesFit_34 (by decide) ?_
          refine aw_zreti dX3_triesFit_35 rfl (by first | exact Or.inl rfl | exact Or.inr rfl | assumption) (Nat.le_of_ble_eq_true rfl) (Nat.le_of_ble_eq_true rfl) ?_
          exact ⟨(by first | exact Or.inl rfl | exact Or.inr rfl | assumption), rfl, rfl⟩
  refine aw_le ?_ (loop_2_1 (Int32.toNatClampNeg n0) 0   (by omega))
  exact ⟨rfl, ⟨rfl, ⟨rfl, ⟨rfl, trivial⟩⟩⟩⟩

set_option maxHeartbeats 4000000 in
set_option maxRecDepth 100000 in
theorem g_X3_leastStrength (l : Launch) (D : va_G) (b : Nat) (N : Nat) (V : Wd) (hN : 100 ≤ N) (hW : CW D b V) (c : Nat) (hc : c = 3 ∨ c = 21 ∨ c = 39 ∨ c = 74) (n0 : Int32) (n1 : Int32)  : MI l D b 3 jX3_leastStrength [.ref (b + 1), .ref (b + c), .int n0, .int n1] N V 0 0 (fun r N9 V9 => N = N9 ∧ V = V9) := by
  have hJ0 : JW D b N [] V V := JW.rf hW
  refine mw_of (by decide) (by simp [Value.category]) (Nat.le_of_ble_eq_true rfl) ?_
  show AW l D b jX3_leastStrength (fx_rm 3 0 0) none (fx_MQ D b 0 0 (fx_qi (fun r N9 V9 => N = N9 ∧ V = V9))) 0 [some (.ref (b + 1)), some (.ref (b + c)), some (.int n0), some (.int n1), none, none, none] [] N V 0 0
  refine aw_iconst (v := 0) dX3_leastStrength_0 (by decide) ?_
  refine aw_istore (ls' := [some (.ref (b + 1)), some (.ref (b + c)), some (.int n0), some (.int n1), some (.int 0), none, none]) dX3_leastStrength_1 (Nat.le_of_ble_eq_true rfl) rfl ?_
  refine aw_iconst (v := 0) dX3_leastStrength_3 (by decide) ?_
  refine aw_istore (ls' := [some (.ref (b + 1)), some (.ref (b + c)), some (.int n0), some (.int n1), some (.int 0), some (.int 0), none]) dX3_leastStrength_4 (Nat.le_of_ble_eq_true rfl) rfl ?_
  have hb_1 := fx_clt n0
  have loop_6_1 : ∀ (g_6 : Nat), ∀ (j6 : Nat) (v6_4 : Int32), j6 + g_6 = (Int32.toNatClampNeg n0) → AW l D b jX3_leastStrength (fx_rm 3 0 0) none (fx_MQ D b 0 0 (fx_qi (fun r N9 V9 => N = N9 ∧ V = V9))) 6 [some (.ref (b + 1)), some (.ref (b + c)), some (.int n0), some (.int n1), some (.int v6_4), some (.int (nI j6)), none] [] N V 0 0 := by
    intro g_6
    induction g_6 with
    | zero =>
      intro j6 v6_4 hj6
      obtain rfl : j6 = (Int32.toNatClampNeg n0) := by omega
      refine aw_iload dX3_leastStrength_6 rfl ?_
      refine aw_iload_n dX3_leastStrength_8 rfl ?_
      refine aw_icmp_ge (tgt := 67) dX3_leastStrength_9 (by decide) (fun c_4 => ?_) (fun c_4 => ?_)
      rotate_left
      · exact absurd (fx_gec n0) c_4
      refine aw_iload dX3_leastStrength_67 rfl ?_
      refine aw_ireti dX3_leastStrength_69 rfl (Nat.le_of_ble_eq_true rfl) (Nat.le_of_ble_eq_true rfl) ?_
      exact ⟨rfl, rfl⟩
    | succ g_6 ih_6_2 =>
      intro j6 v6_4 hj6
      have hlj6 : j6 < (Int32.toNatClampNeg n0) := by omega
      refine aw_iload dX3_leastStrength_6 rfl ?_
      refine aw_iload_n dX3_leastStrength_8 rfl ?_
      refine aw_icmp_ge (tgt := 67) dX3_leastStrength_9 (by decide) (fun c_5 => ?_) (fun c_5 => ?_)
      · exact absurd c_5 (fx_gej (by omega))
      refine aw_aload_n dX3_leastStrength_12 rfl ?_
      refine aw_iconst (v := 2) dX3_leastStrength_13 (by decide) ?_
      refine aw_iload dX3_leastStrength_14 rfl ?_
      refine aw_imul dX3_leastStrength_16 ?_
      refine aw_eqi (y := nI (2 * j6)) (pk_mul _ _) ?_
      obtain ⟨ts_7, tn_7, tf_7, ta_7, e_7, hta_7⟩ := JW.get hJ0 ct_1
      refine aw_callVi (J' := jX10_byteAt) (As := [.int (nI (2 * j6))]) (st := []) dX3_leastStrength_17 tb_925 ok_X10_byteAt ⟨_, e_7⟩ (by omega) rfl rfl (g_X10_byteAt l D b N V hN hJ0.1 (nI (2 * j6))) rfl (Nat.le_of_ble_eq_true rfl) ⟨Nat.le_of_ble_eq_true rfl, Nat.le_of_ble_eq_true rfl, Nat.le_of_ble_eq_true rfl, Nat.le_of_ble_eq_true rfl⟩ (fun r_8 N_9 V_10 q_11 => ?_)
      obtain ⟨rfl, rfl⟩ := q_11
      refine aw_istore (ls' := [some (.ref (b + 1)), some (.ref (b + c)), some (.int n0), some (.int n1), some (.int v6_4), some (.int (nI j6)), some (.int r_8)]) dX3_leastStrength_20 (Nat.le_of_ble_eq_true rfl) rfl ?_
      refine aw_aload_n dX3_leastStrength_22 rfl ?_
      refine aw_iconst (v := 2) dX3_leastStrength_23 (by decide) ?_
      refine aw_iload dX3_leastStrength_24 rfl ?_
      refine aw_imul dX3_leastStrength_26 ?_
      refine aw_eqi (y := nI (2 * j6)) (pk_mul _ _) ?_
      refine aw_iconst (v := 1) dX3_leastStrength_27 (by decide) ?_
      refine aw_iadd dX3_leastStrength_28 ?_
      refine aw_eqi (y := nI ((2 * j6) + 1)) (nI_add _ _) ?_
      refine aw_callVi (J' := jX10_byteAt) (As := [.int (nI ((2 * j6) + 1))]) (st := []) dX3_leastStrength_29 tb_925 ok_X10_byteAt ⟨_, e_7⟩ (by omega) rfl rfl (g_X10_byteAt l D b N V hN hJ0.1 (nI ((2 * j6) + 1))) rfl (Nat.le_of_ble_eq_true rfl) ⟨Nat.le_of_ble_eq_true rfl, Nat.le_of_ble_eq_true rfl, Nat.le_of_ble_eq_true rfl, Nat.le_of_ble_eq_true rfl⟩ (fun r_13 N_14 V_15 q_16 => ?_)
      obtain ⟨rfl, rfl⟩ := q_16
      refine aw_if_ne (tgt := 61) dX3_leastStrength_32 (by decide) (fun c_17 => ?_) (fun c_17 => ?_)
      · skip
        refine aw_iinc (v := (nI (j6 + 1))) (ls' := [some (.ref (b + 1)), some (.ref (b + c)), some (.int n0), some (.int n1), some (.int v6_4), some (.int (nI (j6 + 1))), some (.int r_8)]) dX3_leastStrength_61 rfl (fx_up_1 _) (Nat.le_of_ble_eq_true rfl) rfl ?_
        refine aw_goto (tgt := 6) dX3_leastStrength_64 (by decide) ?_
        refine aw_le ?_ (ih_6_2 (j6 + 1) v6_4  (by omega))
        exact ⟨rfl, ⟨rfl, ⟨rfl, ⟨rfl, ⟨rfl, ⟨rfl, trivial⟩⟩⟩⟩⟩⟩
      · skip
        refine aw_aload_n dX3_leastStrength_35 rfl ?_
        refine aw_iload dX3_leastStrength_36 rfl ?_
        obtain ⟨pe_19, dd_19, ni_19, xx_19, e_19⟩ := JW.get hJ0 (ctc_0 hc)
        refine aw_callVi (J' := jX0_fearOf) (As := [.int r_8]) (st := []) dX3_leastStrength_38 tb_936 ok_X0_fearOf ⟨_, e_19⟩ (by omega) rfl rfl (g_X0_fearOf l D b N V hN hJ0.1 c hc r_8) rfl (Nat.le_of_ble_eq_true rfl) ⟨Nat.le_of_ble_eq_true rfl, Nat.le_of_ble_eq_true rfl, Nat.le_of_ble_eq_true rfl, Nat.le_of_ble_eq_true rfl⟩ (fun r_20 N_21 V_22 q_23 => ?_)
        obtain ⟨rfl, rfl⟩ := q_23
        refine aw_iload_n dX3_leastStrength_41 rfl ?_
        refine aw_icmp_ne (tgt := 61) dX3_leastStrength_42 (by decide) (fun c_24 => ?_) (fun c_24 => ?_)
        · skip
          refine aw_iinc (v := (nI (j6 + 1))) (ls' := [some (.ref (b + 1)), some (.ref (b + c)), some (.int n0), some (.int n1), some (.int v6_4), some (.int (nI (j6 + 1))), some (.int r_8)]) dX3_leastStrength_61 rfl (fx_up_1 _) (Nat.le_of_ble_eq_true rfl) rfl ?_
          refine aw_goto (tgt := 6) dX3_leastStrength_64 (by decide) ?_
          refine aw_le ?_ (ih_6_2 (j6 + 1) v6_4  (by omega))
          exact ⟨rfl, ⟨rfl, ⟨rfl, ⟨rfl, ⟨rfl, ⟨rfl, trivial⟩⟩⟩⟩⟩⟩
        · skip
          refine aw_iload dX3_leastStrength_45 rfl ?_
          refine aw_aload_n dX3_leastStrength_47 rfl ?_
          refine aw_iload dX3_leastStrength_48 rfl ?_
          refine aw_iload_n dX3_leastStrength_50 rfl ?_
          refine aw_callVi (J' := jX0_dreadOf) (As := [.int r_8, .int n1]) (st := [.int v6_4]) dX3_leastStrength_51 tb_785 ok_X0_dreadOf ⟨_, e_19⟩ (by omega) rfl rfl (g_X0_dreadOf l D b N V hN hJ0.1 c hc r_8 n1) rfl (Nat.le_of_ble_eq_true rfl) ⟨Nat.le_of_ble_eq_true rfl, Nat.le_of_ble_eq_true rfl, Nat.le_of_ble_eq_true rfl, Nat.le_of_ble_eq_true rfl⟩ (fun r_26 N_27 V_28 q_29 => ?_)
          obtain ⟨rfl, rfl⟩ := q_29
          refine aw_iconst (v := 1) dX3_leastStrength_54 (by decide) ?_
          refine aw_iadd dX3_leastStrength_55 ?_
          refine aw_mmax dX3_leastStrength_56 tb_784 tb_385 tb_13 tb_386 ⟨Nat.le_of_ble_eq_true rfl, Nat.le_of_ble_eq_true rfl, Nat.le_of_ble_eq_true rfl, Nat.le_of_ble_eq_true rfl⟩ ?_
          refine aw_istore (ls' := [some (.ref (b + 1)), some (.ref (b + c)), some (.int n0), some (.int n1), some (.int (if v6_4 < (r_26 + 1) then (r_26 + 1) else v6_4)), some (.int (nI j6)), some (.int r_8)]) dX3_leastStrength_59 (Nat.le_of_ble_eq_true rfl) rfl ?_
          refine aw_iinc (v := (nI (j6 + 1))) (ls' := [some (.ref (b + 1)), some (.ref (b + c)), some (.int n0), some (.int n1), some (.int (if v6_4 < (r_26 + 1) then (r_26 + 1) else v6_4)), some (.int (nI (j6 + 1))), some (.int r_8)]) dX3_leastStrength_61 rfl (fx_up_1 _) (Nat.le_of_ble_eq_true rfl) rfl ?_
          refine aw_goto (tgt := 6) dX3_leastStrength_64 (by decide) ?_
          refine aw_le ?_ (ih_6_2 (j6 + 1) (if v6_4 < (r_26 + 1) then (r_26 + 1) else v6_4)  (by omega))
          exact ⟨rfl, ⟨rfl, ⟨rfl, ⟨rfl, ⟨rfl, ⟨rfl, trivial⟩⟩⟩⟩⟩⟩
  refine aw_le ?_ (loop_6_1 (Int32.toNatClampNeg n0) 0 0  (by omega))
  exact ⟨rfl, ⟨rfl, ⟨rfl, ⟨rfl, ⟨rfl, ⟨rfl, trivial⟩⟩⟩⟩⟩⟩

set_option maxHeartbeats 4000000 in
set_option maxRecDepth 100000 in
theorem g_X3_greatestStrength (l : Launch) (D : va_G) (b : Nat) (N : Nat) (V : Wd) (hN : 100 ≤ N) (hW : CW D b V) (c : Nat) (hc : c = 3 ∨ c = 21 ∨ c = 39 ∨ c = 74) (n0 : Int32) (n1 : Int32)  : MI l D b 3 jX3_greatestStrength [.ref (b + 1), .ref (b + c), .int n0, .int n1] N V 0 0 (fun r N9 V9 => N = N9 ∧ V = V9) := by
  have hJ0 : JW D b N [] V V := JW.rf hW
  refine mw_of (by decide) (by simp [Value.category]) (Nat.le_of_ble_eq_true rfl) ?_
  show AW l D b jX3_greatestStrength (fx_rm 3 0 0) none (fx_MQ D b 0 0 (fx_qi (fun r N9 V9 => N = N9 ∧ V = V9))) 0 [some (.ref (b + 1)), some (.ref (b + c)), some (.int n0), some (.int n1), none, none, none, none] [] N V 0 0
  refine aw_bipush (v := 99) dX3_greatestStrength_0 (by decide) ?_
  refine aw_istore (ls' := [some (.ref (b + 1)), some (.ref (b + c)), some (.int n0), some (.int n1), some (.int 99), none, none, none]) dX3_greatestStrength_2 (Nat.le_of_ble_eq_true rfl) rfl ?_
  refine aw_iconst (v := 0) dX3_greatestStrength_4 (by decide) ?_
  refine aw_istore (ls' := [some (.ref (b + 1)), some (.ref (b + c)), some (.int n0), some (.int n1), some (.int 99), some (.int 0), none, none]) dX3_greatestStrength_5 (Nat.le_of_ble_eq_true rfl) rfl ?_
  have hb_1 := fx_clt n0
  have loop_7_1 : ∀ (g_7 : Nat), ∀ (j7 : Nat) (v7_4 : Int32), j7 + g_7 = (Int32.toNatClampNeg n0) → AW l D b jX3_greatestStrength (fx_rm 3 0 0) none (fx_MQ D b 0 0 (fx_qi (fun r N9 V9 => N = N9 ∧ V = V9))) 7 [some (.ref (b + 1)), some (.ref (b + c)), some (.int n0), some (.int n1), some (.int v7_4), some (.int (nI j7)), none, none] [] N V 0 0 := by
    intro g_7
    induction g_7 with
    | zero =>
      intro j7 v7_4 hj7
      obtain rfl : j7 = (Int32.toNatClampNeg n0) := by omega
      refine aw_iload dX3_greatestStrength_7 rfl ?_
      refine aw_iload_n dX3_greatestStrength_9 rfl ?_
      refine aw_icmp_ge (tgt := 75) dX3_greatestStrength_10 (by decide) (fun c_4 => ?_) (fun c_4 => ?_)
      rotate_left
      · exact absurd (fx_gec n0) c_4
      refine aw_iload dX3_greatestStrength_75 rfl ?_
      refine aw_ireti dX3_greatestStrength_77 rfl (Nat.le_of_ble_eq_true rfl) (Nat.le_of_ble_eq_true rfl) ?_
      exact ⟨rfl, rfl⟩
    | succ g_7 ih_7_2 =>
      intro j7 v7_4 hj7
      have hlj7 : j7 < (Int32.toNatClampNeg n0) := by omega
      refine aw_iload dX3_greatestStrength_7 rfl ?_
      refine aw_iload_n dX3_greatestStrength_9 rfl ?_
      refine aw_icmp_ge (tgt := 75) dX3_greatestStrength_10 (by decide) (fun c_5 => ?_) (fun c_5 => ?_)
      · exact absurd c_5 (fx_gej (by omega))
      refine aw_aload_n dX3_greatestStrength_13 rfl ?_
      refine aw_iconst (v := 2) dX3_greatestStrength_14 (by decide) ?_
      refine aw_iload dX3_greatestStrength_15 rfl ?_
      refine aw_imul dX3_greatestStrength_17 ?_
      refine aw_eqi (y := nI (2 * j7)) (pk_mul _ _) ?_
      obtain ⟨ts_7, tn_7, tf_7, ta_7, e_7, hta_7⟩ := JW.get hJ0 ct_1
      refine aw_callVi (J' := jX10_byteAt) (As := [.int (nI (2 * j7))]) (st := []) dX3_greatestStrength_18 tb_925 ok_X10_byteAt ⟨_, e_7⟩ (by omega) rfl rfl (g_X10_byteAt l D b N V hN hJ0.1 (nI (2 * j7))) rfl (Nat.le_of_ble_eq_true rfl) ⟨Nat.le_of_ble_eq_true rfl, Nat.le_of_ble_eq_true rfl, Nat.le_of_ble_eq_true rfl, Nat.le_of_ble_eq_true rfl⟩ (fun r_8 N_9 V_10 q_11 => ?_)
      obtain ⟨rfl, rfl⟩ := q_11
      refine aw_istore (ls' := [some (.ref (b + 1)), some (.ref (b + c)), some (.int n0), some (.int n1), some (.int v7_4), some (.int (nI j7)), some (.int r_8), none]) dX3_greatestStrength_21 (Nat.le_of_ble_eq_true rfl) rfl ?_
      refine aw_aload_n dX3_greatestStrength_23 rfl ?_
      refine aw_iconst (v := 2) dX3_greatestStrength_24 (by decide) ?_
      refine aw_iload dX3_greatestStrength_25 rfl ?_
      refine aw_imul dX3_greatestStrength_27 ?_
      refine aw_eqi (y := nI (2 * j7)) (pk_mul _ _) ?_
      refine aw_iconst (v := 1) dX3_greatestStrength_28 (by decide) ?_
      refine aw_iadd dX3_greatestStrength_29 ?_
      refine aw_eqi (y := nI ((2 * j7) + 1)) (nI_add _ _) ?_
      refine aw_callVi (J' := jX10_byteAt) (As := [.int (nI ((2 * j7) + 1))]) (st := []) dX3_greatestStrength_30 tb_925 ok_X10_byteAt ⟨_, e_7⟩ (by omega) rfl rfl (g_X10_byteAt l D b N V hN hJ0.1 (nI ((2 * j7) + 1))) rfl (Nat.le_of_ble_eq_true rfl) ⟨Nat.le_of_ble_eq_true rfl, Nat.le_of_ble_eq_true rfl, Nat.le_of_ble_eq_true rfl, Nat.le_of_ble_eq_true rfl⟩ (fun r_13 N_14 V_15 q_16 => ?_)
      obtain ⟨rfl, rfl⟩ := q_16
      refine aw_iconst (v := 1) dX3_greatestStrength_33 (by decide) ?_
      refine aw_icmp_ne (tgt := 69) dX3_greatestStrength_34 (by decide) (fun c_17 => ?_) (fun c_17 => ?_)
      · skip
        refine aw_iinc (v := (nI (j7 + 1))) (ls' := [some (.ref (b + 1)), some (.ref (b + c)), some (.int n0), some (.int n1), some (.int v7_4), some (.int (nI (j7 + 1))), some (.int r_8), none]) dX3_greatestStrength_69 rfl (fx_up_1 _) (Nat.le_of_ble_eq_true rfl) rfl ?_
        refine aw_goto (tgt := 7) dX3_greatestStrength_72 (by decide) ?_
        refine aw_le ?_ (ih_7_2 (j7 + 1) v7_4  (by omega))
        exact ⟨rfl, ⟨rfl, ⟨rfl, ⟨rfl, ⟨rfl, ⟨rfl, trivial⟩⟩⟩⟩⟩⟩
      · skip
        refine aw_aload_n dX3_greatestStrength_37 rfl ?_
        refine aw_iload dX3_greatestStrength_38 rfl ?_
        obtain ⟨pe_19, dd_19, ni_19, xx_19, e_19⟩ := JW.get hJ0 (ctc_0 hc)
        refine aw_callVi (J' := jX0_fearOf) (As := [.int r_8]) (st := []) dX3_greatestStrength_40 tb_936 ok_X0_fearOf ⟨_, e_19⟩ (by omega) rfl rfl (g_X0_fearOf l D b N V hN hJ0.1 c hc r_8) rfl (Nat.le_of_ble_eq_true rfl) ⟨Nat.le_of_ble_eq_true rfl, Nat.le_of_ble_eq_true rfl, Nat.le_of_ble_eq_true rfl, Nat.le_of_ble_eq_true rfl⟩ (fun r_20 N_21 V_22 q_23 => ?_)
        obtain ⟨rfl, rfl⟩ := q_23
        refine aw_iload_n dX3_greatestStrength_43 rfl ?_
        refine aw_icmp_ne (tgt := 57) dX3_greatestStrength_44 (by decide) (fun c_24 => ?_) (fun c_24 => ?_)
        · skip
          refine aw_iconst (v := (-1)) dX3_greatestStrength_57 (by decide) ?_
          refine aw_istore (ls' := [some (.ref (b + 1)), some (.ref (b + c)), some (.int n0), some (.int n1), some (.int v7_4), some (.int (nI j7)), some (.int r_8), some (.int (-1))]) dX3_greatestStrength_58 (Nat.le_of_ble_eq_true rfl) rfl ?_
          refine aw_iload dX3_greatestStrength_60 rfl ?_
          refine aw_iload dX3_greatestStrength_62 rfl ?_
          refine aw_mmin dX3_greatestStrength_64 tb_789 tb_382 tb_13 tb_383 ⟨Nat.le_of_ble_eq_true rfl, Nat.le_of_ble_eq_true rfl, Nat.le_of_ble_eq_true rfl, Nat.le_of_ble_eq_true rfl⟩ ?_
          refine aw_istore (ls' := [some (.ref (b + 1)), some (.ref (b + c)), some (.int n0), some (.int n1), some (.int (if (-1) < v7_4 then (-1) else v7_4)), some (.int (nI j7)), some (.int r_8), some (.int (-1))]) dX3_greatestStrength_67 (Nat.le_of_ble_eq_true rfl) rfl ?_
          refine aw_iinc (v := (nI (j7 + 1))) (ls' := [some (.ref (b + 1)), some (.ref (b + c)), some (.int n0), some (.int n1), some (.int (if (-1) < v7_4 then (-1) else v7_4)), some (.int (nI (j7 + 1))), some (.int r_8), some (.int (-1))]) dX3_greatestStrength_69 rfl (fx_up_1 _) (Nat.le_of_ble_eq_true rfl) rfl ?_
          refine aw_goto (tgt := 7) dX3_greatestStrength_72 (by decide) ?_
          refine aw_le ?_ (ih_7_2 (j7 + 1) (if (-1) < v7_4 then (-1) else v7_4)  (by omega))
          exact ⟨rfl, ⟨rfl, ⟨rfl, ⟨rfl, ⟨rfl, ⟨rfl, trivial⟩⟩⟩⟩⟩⟩
        · skip
          refine aw_aload_n dX3_greatestStrength_47 rfl ?_
          refine aw_iload dX3_greatestStrength_48 rfl ?_
          refine aw_iload_n dX3_greatestStrength_50 rfl ?_
          refine aw_callVi (J' := jX0_dreadOf) (As := [.int r_8, .int n1]) (st := []) dX3_greatestStrength_51 tb_785 ok_X0_dreadOf ⟨_, e_19⟩ (by omega) rfl rfl (g_X0_dreadOf l D b N V hN hJ0.1 c hc r_8 n1) rfl (Nat.le_of_ble_eq_true rfl) ⟨Nat.le_of_ble_eq_true rfl, Nat.le_of_ble_eq_true rfl, Nat.le_of_ble_eq_true rfl, Nat.le_of_ble_eq_true rfl⟩ (fun r_26 N_27 V_28 q_29 => ?_)
          obtain ⟨rfl, rfl⟩ := q_29
          refine aw_goto (tgt := 58) dX3_greatestStrength_54 (by decide) ?_
          refine aw_istore (ls' := [some (.ref (b + 1)), some (.ref (b + c)), some (.int n0), some (.int n1), some (.int v7_4), some (.int (nI j7)), some (.int r_8), some (.int r_26)]) dX3_greatestStrength_58 (Nat.le_of_ble_eq_true rfl) rfl ?_
          refine aw_iload dX3_greatestStrength_60 rfl ?_
          refine aw_iload dX3_greatestStrength_62 rfl ?_
          refine aw_mmin dX3_greatestStrength_64 tb_789 tb_382 tb_13 tb_383 ⟨Nat.le_of_ble_eq_true rfl, Nat.le_of_ble_eq_true rfl, Nat.le_of_ble_eq_true rfl, Nat.le_of_ble_eq_true rfl⟩ ?_
          refine aw_istore (ls' := [some (.ref (b + 1)), some (.ref (b + c)), some (.int n0), some (.int n1), some (.int (if r_26 < v7_4 then r_26 else v7_4)), some (.int (nI j7)), some (.int r_8), some (.int r_26)]) dX3_greatestStrength_67 (Nat.le_of_ble_eq_true rfl) rfl ?_
          refine aw_iinc (v := (nI (j7 + 1))) (ls' := [some (.ref (b + 1)), some (.ref (b + c)), some (.int n0), some (.int n1), some (.int (if r_26 < v7_4 then r_26 else v7_4)), some (.int (nI (j7 + 1))), some (.int r_8), some (.int r_26)]) dX3_greatestStrength_69 rfl (fx_up_1 _) (Nat.le_of_ble_eq_true rfl) rfl ?_
          refine aw_goto (tgt := 7) dX3_greatestStrength_72 (by decide) ?_
          refine aw_le ?_ (ih_7_2 (j7 + 1) (if r_26 < v7_4 then r_26 else v7_4)  (by omega))
          exact ⟨rfl, ⟨rfl, ⟨rfl, ⟨rfl, ⟨rfl, ⟨rfl, trivial⟩⟩⟩⟩⟩⟩
  refine aw_le ?_ (loop_7_1 (Int32.toNatClampNeg n0) 0 99  (by omega))
  exact ⟨rfl, ⟨rfl, ⟨rfl, ⟨rfl, ⟨rfl, ⟨rfl, trivial⟩⟩⟩⟩⟩⟩

set_option maxHeartbeats 4000000 in
set_option maxRecDepth 100000 in
theorem g_X3_possibleFears (l : Launch) (D : va_G) (b : Nat) (N : Nat) (V : Wd) (hN : 100 ≤ N) (hW : CW D b V) (c : Nat) (hc : c = 3 ∨ c = 21 ∨ c = 39 ∨ c = 74) (n0 : Int32)  : MI l D b 4 jX3_possibleFears [.ref (b + 1), .ref (b + c), .int n0] N V 0 0 (fun r N9 V9 => N = N9 ∧ V = V9) := by
  have hJ0 : JW D b N [] V V := JW.rf hW
  refine mw_of (by decide) (by simp [Value.category]) (Nat.le_of_ble_eq_true rfl) ?_
  show AW l D b jX3_possibleFears (fx_rm 4 0 0) none (fx_MQ D b 0 0 (fx_qi (fun r N9 V9 => N = N9 ∧ V = V9))) 0 [some (.ref (b + 1)), some (.ref (b + c)), some (.int n0), none, none] [] N V 0 0
  refine aw_iconst (v := 0) dX3_possibleFears_0 (by decide) ?_
  refine aw_istore_n (ls' := [some (.ref (b + 1)), some (.ref (b + c)), some (.int n0), some (.int 0), none]) dX3_possibleFears_1 (Nat.le_of_ble_eq_true rfl) rfl ?_
  refine aw_iconst (v := 0) dX3_possibleFears_2 (by decide) ?_
  refine aw_istore (ls' := [some (.ref (b + 1)), some (.ref (b + c)), some (.int n0), some (.int 0), some (.int 0)]) dX3_possibleFears_3 (Nat.le_of_ble_eq_true rfl) rfl ?_
  have loop_5_0 : ∀ (g_5 : Nat), ∀ (j5 : Nat) (v5_3 : Int32), j5 + g_5 = 16 → AW l D b jX3_possibleFears (fx_rm 4 0 0) none (fx_MQ D b 0 0 (fx_qi (fun r N9 V9 => N = N9 ∧ V = V9))) 5 [some (.ref (b + 1)), some (.ref (b + c)), some (.int n0), some (.int v5_3), some (.int (nI j5))] [] N V 0 0 := by
    intro g_5
    induction g_5 with
    | zero =>
      intro j5 v5_3 hj5
      obtain rfl : j5 = 16 := by omega
      refine aw_iload dX3_possibleFears_5 rfl ?_
      refine aw_bipush (v := 16) dX3_possibleFears_7 (by decide) ?_
      refine aw_icmp_ge (tgt := 44) dX3_possibleFears_9 (by decide) (fun c_3 => ?_) (fun c_3 => ?_)
      rotate_left
      · exact absurd (nI_le (a := 16) (b := 16) (Nat.le_refl _) (by omega)) c_3
      refine aw_iload_n dX3_possibleFears_44 rfl ?_
      refine aw_ireti dX3_possibleFears_45 rfl (Nat.le_of_ble_eq_true rfl) (Nat.le_of_ble_eq_true rfl) ?_
      exact ⟨rfl, rfl⟩
    | succ g_5 ih_5_1 =>
      intro j5 v5_3 hj5
      have hlj5 : j5 < 16 := by omega
      refine aw_iload dX3_possibleFears_5 rfl ?_
      refine aw_bipush (v := 16) dX3_possibleFears_7 (by decide) ?_
      refine aw_icmp_ge (tgt := 44) dX3_possibleFears_9 (by decide) (fun c_4 => ?_) (fun c_4 => ?_)
      · exact absurd c_4 (nI_ge (a := j5) (b := 16) (by omega) (by omega))
      refine aw_aload_n dX3_possibleFears_12 rfl ?_
      refine aw_aload_n dX3_possibleFears_13 rfl ?_
      refine aw_iload_n dX3_possibleFears_14 rfl ?_
      refine aw_iload dX3_possibleFears_15 rfl ?_
      refine aw_callSi (J' := jX3_leastStrength) (As := [.ref (b + 1), .ref (b + c), .int n0, .int (nI j5)]) (st := []) dX3_possibleFears_17 tb_933 ok_X3_leastStrength rfl (g_X3_leastStrength l D b N V hN hJ0.1 c hc n0 (nI j5)) rfl (Nat.le_of_ble_eq_true rfl) ⟨Nat.le_of_ble_eq_true rfl, Nat.le_of_ble_eq_true rfl, Nat.le_of_ble_eq_true rfl, Nat.le_of_ble_eq_true rfl⟩ (fun r_6 N_7 V_8 q_9 => ?_)
      obtain ⟨rfl, rfl⟩ := q_9
      refine aw_aload_n dX3_possibleFears_20 rfl ?_
      refine aw_aload_n dX3_possibleFears_21 rfl ?_
      refine aw_iload_n dX3_possibleFears_22 rfl ?_
      refine aw_iload dX3_possibleFears_23 rfl ?_
      refine aw_callSi (J' := jX3_greatestStrength) (As := [.ref (b + 1), .ref (b + c), .int n0, .int (nI j5)]) (st := [.int r_6]) dX3_possibleFears_25 tb_937 ok_X3_greatestStrength rfl (g_X3_greatestStrength l D b N V hN hJ0.1 c hc n0 (nI j5)) rfl (Nat.le_of_ble_eq_true rfl) ⟨Nat.le_of_ble_eq_true rfl, Nat.le_of_ble_eq_true rfl, Nat.le_of_ble_eq_true rfl, Nat.le_of_ble_eq_true rfl⟩ (fun r_11 N_12 V_13 q_14 => ?_)
      obtain ⟨rfl, rfl⟩ := q_14
      refine aw_icmp_gt (tgt := 38) dX3_possibleFears_28 (by decide) (fun c_15 => ?_) (fun c_15 => ?_)
      · skip
        refine aw_iinc (v := (nI (j5 + 1))) (ls' := [some (.ref (b + 1)), some (.ref (b + c)), some (.int n0), some (.int v5_3), some (.int (nI (j5 + 1)))]) dX3_possibleFears_38 rfl (fx_up_1 _) (Nat.le_of_ble_eq_true rfl) rfl ?_
        refine aw_goto (tgt := 5) dX3_possibleFears_41 (by decide) ?_
        refine aw_le ?_ (ih_5_1 (j5 + 1) v5_3  (by omega))
        exact ⟨rfl, ⟨rfl, ⟨rfl, ⟨rfl, ⟨rfl, trivial⟩⟩⟩⟩⟩
      · skip
        refine aw_iload_n dX3_possibleFears_31 rfl ?_
        refine aw_iconst (v := 1) dX3_possibleFears_32 (by decide) ?_
        refine aw_iload dX3_possibleFears_33 rfl ?_
        refine aw_ishl dX3_possibleFears_35 ?_
        refine aw_ior dX3_possibleFears_36 ?_
        refine aw_istore_n (ls' := [some (.ref (b + 1)), some (.ref (b + c)), some (.int n0), some (.int (v5_3 ||| ((1 : Int32) <<< ((nI j5) &&& 31)))), some (.int (nI j5))]) dX3_possibleFears_37 (Nat.le_of_ble_eq_true rfl) rfl ?_
        refine aw_iinc (v := (nI (j5 + 1))) (ls' := [some (.ref (b + 1)), some (.ref (b + c)), some (.int n0), some (.int (v5_3 ||| ((1 : Int32) <<< ((nI j5) &&& 31)))), some (.int (nI (j5 + 1)))]) dX3_possibleFears_38 rfl (fx_up_1 _) (Nat.le_of_ble_eq_true rfl) rfl ?_
        refine aw_goto (tgt := 5) dX3_possibleFears_41 (by decide) ?_
        refine aw_le ?_ (ih_5_1 (j5 + 1) (v5_3 ||| ((1 : Int32) <<< ((nI j5) &&& 31)))  (by omega))
        exact ⟨rfl, ⟨rfl, ⟨rfl, ⟨rfl, ⟨rfl, trivial⟩⟩⟩⟩⟩
  refine aw_le ?_ (loop_5_0 16 0 0  (by omega))
  exact ⟨rfl, ⟨rfl, ⟨rfl, ⟨rfl, ⟨rfl, trivial⟩⟩⟩⟩⟩

set_option maxHeartbeats 4000000 in
set_option maxRecDepth 100000 in
theorem g_X3_fewestForAllDoors (l : Launch) (D : va_G) (b : Nat) (N : Nat) (V : Wd) (hN : 100 ≤ N) (hW : CW D b V) (c : Nat) (hc : c = 3 ∨ c = 21 ∨ c = 39 ∨ c = 74)  : MI l D b 5 jX3_fewestForAllDoors [.ref (b + 92), .ref (b + c)] N V 0 0 (fun r N9 V9 => N = N9 ∧ JW D b N [(93, 93, 0, 1000000)] V V9) := by
  have hJ0 : JW D b N [(93, 93, 0, 1000000)] V V := JW.rf hW
  refine mw_of (by decide) (by simp [Value.category]) (Nat.le_of_ble_eq_true rfl) ?_
  show AW l D b jX3_fewestForAllDoors (fx_rm 5 0 0) none (fx_MQ D b 0 0 (fx_qi (fun r N9 V9 => N = N9 ∧ JW D b N [(93, 93, 0, 1000000)] V V9))) 0 [some (.ref (b + 92)), some (.ref (b + c)), none, none, none, none] [] N V 0 0
  refine aw_sipush (v := 4095) dX3_fewestForAllDoors_0 (by decide) ?_
  refine aw_istore_n (ls' := [some (.ref (b + 92)), some (.ref (b + c)), some (.int 4095), none, none, none]) dX3_fewestForAllDoors_3 (Nat.le_of_ble_eq_true rfl) rfl ?_
  refine aw_bipush (v := (-2)) dX3_fewestForAllDoors_4 (by decide) ?_
  refine aw_istore_n (ls' := [some (.ref (b + 92)), some (.ref (b + c)), some (.int 4095), some (.int (-2)), none, none]) dX3_fewestForAllDoors_6 (Nat.le_of_ble_eq_true rfl) rfl ?_
  refine aw_bipush (v := 13) dX3_fewestForAllDoors_7 (by decide) ?_
  refine aw_istore (ls' := [some (.ref (b + 92)), some (.ref (b + c)), some (.int 4095), some (.int (-2)), some (.int 13), none]) dX3_fewestForAllDoors_9 (Nat.le_of_ble_eq_true rfl) rfl ?_
  refine aw_iconst (v := 0) dX3_fewestForAllDoors_11 (by decide) ?_
  refine aw_istore (ls' := [some (.ref (b + 92)), some (.ref (b + c)), some (.int 4095), some (.int (-2)), some (.int 13), some (.int 0)]) dX3_fewestForAllDoors_12 (Nat.le_of_ble_eq_true rfl) rfl ?_
  have loop_14_0 : ∀ (g_14 : Nat), ∀ (j14 : Nat)  (V14 : Wd), j14 + g_14 = 12 → (JW D b N [(93, 93, 0, 1000000)] V V14) → AW l D b jX3_fewestForAllDoors (fx_rm 5 0 0) none (fx_MQ D b 0 0 (fx_qi (fun r N9 V9 => N = N9 ∧ JW D b N [(93, 93, 0, 1000000)] V V9))) 14 [some (.ref (b + 92)), some (.ref (b + c)), some (.int 4095), some (.int (-2)), some (.int 13), some (.int (nI j14))] [] N V14 0 0 := by
    intro g_14
    induction g_14 with
    | zero =>
      intro j14  V14 hj14 i14_0
      obtain rfl : j14 = 12 := by omega
      refine aw_iload dX3_fewestForAllDoors_14 rfl ?_
      refine aw_bipush (v := 12) dX3_fewestForAllDoors_16 (by decide) ?_
      refine aw_icmp_ge (tgt := 40) dX3_fewestForAllDoors_18 (by decide) (fun c_3 => ?_) (fun c_3 => ?_)
      rotate_left
      · exact absurd (nI_le (a := 12) (b := 12) (Nat.le_refl _) (by omega)) c_3
      refine aw_iconst (v := 0) dX3_fewestForAllDoors_40 (by decide) ?_
      refine aw_istore (ls' := [some (.ref (b + 92)), some (.ref (b + c)), some (.int 4095), some (.int (-2)), some (.int 13), some (.int 0)]) dX3_fewestForAllDoors_41 (Nat.le_of_ble_eq_true rfl) rfl ?_
      have loop_43_3 : ∀ (g_43 : Nat), ∀ (j43 : Nat) (v43_3 : Int32) (v43_4 : Int32), j43 + g_43 = 4096 → AW l D b jX3_fewestForAllDoors (fx_rm 5 0 0) none (fx_MQ D b 0 0 (fx_qi (fun r N9 V9 => N = N9 ∧ JW D b N [(93, 93, 0, 1000000)] V V9))) 43 [some (.ref (b + 92)), some (.ref (b + c)), some (.int 4095), some (.int v43_3), some (.int v43_4), some (.int (nI j43))] [] N V14 0 0 := by
        intro g_43
        induction g_43 with
        | zero =>
          intro j43 v43_3 v43_4 hj43
          obtain rfl : j43 = 4096 := by omega
          refine aw_iload dX3_fewestForAllDoors_43 rfl ?_
          refine aw_iload_n dX3_fewestForAllDoors_45 rfl ?_
          refine aw_icmp_gt (tgt := 88) dX3_fewestForAllDoors_46 (by decide) (fun c_6 => ?_) (fun c_6 => ?_)
          rotate_left
          · exact absurd (nI_lt (a := 4095) (b := 4096) (by omega) (by omega)) c_6
          refine aw_iload_n dX3_fewestForAllDoors_88 rfl ?_
          refine aw_ireti dX3_fewestForAllDoors_89 rfl (Nat.le_of_ble_eq_true rfl) (Nat.le_of_ble_eq_true rfl) ?_
          exact ⟨rfl, i14_0⟩
        | succ g_43 ih_43_4 =>
          intro j43 v43_3 v43_4 hj43
          have hlj43 : j43 < 4096 := by omega
          refine aw_iload dX3_fewestForAllDoors_43 rfl ?_
          refine aw_iload_n dX3_fewestForAllDoors_45 rfl ?_
          refine aw_icmp_gt (tgt := 88) dX3_fewestForAllDoors_46 (by decide) (fun c_7 => ?_) (fun c_7 => ?_)
          · exact absurd ((nI_ltI (a := 4095) (b := j43) (by omega) (by omega)).mp c_7) (by omega)
          refine aw_iload dX3_fewestForAllDoors_49 rfl ?_
          refine aw_callSi (J' := jJ6_bitCount_0f7a4) (As := [.int (nI j43)]) (st := []) dX3_fewestForAllDoors_51 tb_799 ok_J6_bitCount_0f7a4 rfl (c_bitCount l D b N V14 (nI j43)) rfl (Nat.le_of_ble_eq_true rfl) ⟨Nat.le_of_ble_eq_true rfl, Nat.le_of_ble_eq_true rfl, Nat.le_of_ble_eq_true rfl, Nat.le_of_ble_eq_true rfl⟩ (fun r_8 N_9 V_10 q_11 => ?_)
          obtain ⟨rfl, rfl⟩ := q_11
          refine aw_iload dX3_fewestForAllDoors_54 rfl ?_
          refine aw_icmp_ge (tgt := 82) dX3_fewestForAllDoors_56 (by decide) (fun c_12 => ?_) (fun c_12 => ?_)
          · skip
            refine aw_iinc (v := (nI (j43 + 1))) (ls' := [some (.ref (b + 92)), some (.ref (b + c)), some (.int 4095), some (.int v43_3), some (.int v43_4), some (.int (nI (j43 + 1)))]) dX3_fewestForAllDoors_82 rfl (fx_up_1 _) (Nat.le_of_ble_eq_true rfl) rfl ?_
            refine aw_goto (tgt := 43) dX3_fewestForAllDoors_85 (by decide) ?_
            refine aw_le ?_ (ih_43_4 (j43 + 1) v43_3 v43_4  (by omega))
            exact ⟨rfl, ⟨rfl, ⟨rfl, ⟨rfl, ⟨rfl, ⟨rfl, trivial⟩⟩⟩⟩⟩⟩
          · skip
            refine aw_aload_n dX3_fewestForAllDoors_59 rfl ?_
            refine aw_iload dX3_fewestForAllDoors_60 rfl ?_
            have e_14 := JW.get i14_0 ct_92
            refine aw_callVi (J' := jX3_openedBy) (As := [.int (nI j43)]) (st := []) dX3_fewestForAllDoors_62 tb_800 ok_X3_openedBy ⟨_, e_14⟩ (by omega) rfl rfl (g_X3_openedBy l D b N V14 hN i14_0.1 (nI j43)) rfl (Nat.le_of_ble_eq_true rfl) ⟨Nat.le_of_ble_eq_true rfl, Nat.le_of_ble_eq_true rfl, Nat.le_of_ble_eq_true rfl, Nat.le_of_ble_eq_true rfl⟩ (fun r_15 N_16 V_17 q_18 => ?_)
            obtain ⟨rfl, rfl⟩ := q_18
            refine aw_aload_n dX3_fewestForAllDoors_65 rfl ?_
            obtain ⟨pe_19, dd_19, ni_19, xx_19, e_19⟩ := JW.get i14_0 (ctc_0 hc)
            refine aw_get dX3_fewestForAllDoors_66 fl_X3_54 e_19 (by omega) rfl ?_
            refine aw_icmp_ne (tgt := 82) dX3_fewestForAllDoors_69 (by decide) (fun c_20 => ?_) (fun c_20 => ?_)
            · skip
              refine aw_iinc (v := (nI (j43 + 1))) (ls' := [some (.ref (b + 92)), some (.ref (b + c)), some (.int 4095), some (.int v43_3), some (.int v43_4), some (.int (nI (j43 + 1)))]) dX3_fewestForAllDoors_82 rfl (fx_up_1 _) (Nat.le_of_ble_eq_true rfl) rfl ?_
              refine aw_goto (tgt := 43) dX3_fewestForAllDoors_85 (by decide) ?_
              refine aw_le ?_ (ih_43_4 (j43 + 1) v43_3 v43_4  (by omega))
              exact ⟨rfl, ⟨rfl, ⟨rfl, ⟨rfl, ⟨rfl, ⟨rfl, trivial⟩⟩⟩⟩⟩⟩
            · skip
              refine aw_iload dX3_fewestForAllDoors_72 rfl ?_
              refine aw_istore_n (ls' := [some (.ref (b + 92)), some (.ref (b + c)), some (.int 4095), some (.int (nI j43)), some (.int v43_4), some (.int (nI j43))]) dX3_fewestForAllDoors_74 (Nat.le_of_ble_eq_true rfl) rfl ?_
              refine aw_iload dX3_fewestForAllDoors_75 rfl ?_
              refine aw_callSi (J' := jJ6_bitCount_0f7a4) (As := [.int (nI j43)]) (st := []) dX3_fewestForAllDoors_77 tb_799 ok_J6_bitCount_0f7a4 rfl (c_bitCount l D b N V14 (nI j43)) rfl (Nat.le_of_ble_eq_true rfl) ⟨Nat.le_of_ble_eq_true rfl, Nat.le_of_ble_eq_true rfl, Nat.le_of_ble_eq_true rfl, Nat.le_of_ble_eq_true rfl⟩ (fun r_21 N_22 V_23 q_24 => ?_)
              obtain ⟨rfl, rfl⟩ := q_24
              refine aw_istore (ls' := [some (.ref (b + 92)), some (.ref (b + c)), some (.int 4095), some (.int (nI j43)), some (.int r_21), some (.int (nI j43))]) dX3_fewestForAllDoors_80 (Nat.le_of_ble_eq_true rfl) rfl ?_
              refine aw_iinc (v := (nI (j43 + 1))) (ls' := [some (.ref (b + 92)), some (.ref (b + c)), some (.int 4095), some (.int (nI j43)), some (.int r_21), some (.int (nI (j43 + 1)))]) dX3_fewestForAllDoors_82 rfl (fx_up_1 _) (Nat.le_of_ble_eq_true rfl) rfl ?_
              refine aw_goto (tgt := 43) dX3_fewestForAllDoors_85 (by decide) ?_
              refine aw_le ?_ (ih_43_4 (j43 + 1) (nI j43) r_21  (by omega))
              exact ⟨rfl, ⟨rfl, ⟨rfl, ⟨rfl, ⟨rfl, ⟨rfl, trivial⟩⟩⟩⟩⟩⟩
      refine aw_le ?_ (loop_43_3 4096 0 (-2) 13  (by omega))
      exact ⟨rfl, ⟨rfl, ⟨rfl, ⟨rfl, ⟨rfl, ⟨rfl, trivial⟩⟩⟩⟩⟩⟩
    | succ g_14 ih_14_1 =>
      intro j14  V14 hj14 i14_0
      have hlj14 : j14 < 12 := by omega
      refine aw_iload dX3_fewestForAllDoors_14 rfl ?_
      refine aw_bipush (v := 12) dX3_fewestForAllDoors_16 (by decide) ?_
      refine aw_icmp_ge (tgt := 40) dX3_fewestForAllDoors_18 (by decide) (fun c_25 => ?_) (fun c_25 => ?_)
      · exact absurd c_25 (nI_ge (a := j14) (b := 12) (by omega) (by omega))
      refine aw_aload_n dX3_fewestForAllDoors_21 rfl ?_
      have e_26 := JW.get i14_0 ct_92
      refine aw_get dX3_fewestForAllDoors_22 fl_X3_9 e_26 (by omega) rfl ?_
      refine aw_iload dX3_fewestForAllDoors_25 rfl ?_
      refine aw_aload_n dX3_fewestForAllDoors_27 rfl ?_
      refine aw_iload dX3_fewestForAllDoors_28 rfl ?_
      obtain ⟨pe_28, dd_28, ni_28, xx_28, e_28⟩ := JW.get i14_0 (ctc_0 hc)
      refine aw_callVi (J' := jX0_doorsOpenTo) (As := [.int (nI j14)]) (st := [.int (nI j14), .ref (b + 93)]) dX3_fewestForAllDoors_30 tb_798 ok_X0_doorsOpenTo ⟨_, e_28⟩ (by omega) rfl rfl (g_X0_doorsOpenTo l D b N V14 hN i14_0.1 c hc (nI j14)) rfl (Nat.le_of_ble_eq_true rfl) ⟨Nat.le_of_ble_eq_true rfl, Nat.le_of_ble_eq_true rfl, Nat.le_of_ble_eq_true rfl, Nat.le_of_ble_eq_true rfl⟩ (fun r_29 N_30 V_31 q_32 => ?_)
      obtain ⟨rfl, rfl⟩ := q_32
      obtain ⟨g_33, e_33⟩ := JW.get i14_0 ct_93
      refine aw_iast dX3_fewestForAllDoors_33 e_33 (by omega) (vp_in_nI (n := j14) (by omega) (by omega)) ?_
      refine aw_up i14_0 ct_93 ⟨_, rfl⟩ (WA LM0 (by decide) (by decide)) (fun V_34 j_34 k_34 e_34 => ?_)
      refine aw_iinc (v := (nI (j14 + 1))) (ls' := [some (.ref (b + 92)), some (.ref (b + c)), some (.int 4095), some (.int (-2)), some (.int 13), some (.int (nI (j14 + 1)))]) dX3_fewestForAllDoors_34 rfl (fx_up_1 _) (Nat.le_of_ble_eq_true rfl) rfl ?_
      refine aw_goto (tgt := 14) dX3_fewestForAllDoors_37 (by decide) ?_
      refine aw_le ?_ (ih_14_1 (j14 + 1)  V_34 (by omega) (j_34))
      exact ⟨rfl, ⟨rfl, ⟨rfl, ⟨rfl, ⟨rfl, ⟨rfl, trivial⟩⟩⟩⟩⟩⟩
  refine aw_le ?_ (loop_14_0 12 0  V (by omega) (hJ0))
  exact ⟨rfl, ⟨rfl, ⟨rfl, ⟨rfl, ⟨rfl, ⟨rfl, trivial⟩⟩⟩⟩⟩⟩

set_option maxHeartbeats 4000000 in
set_option maxRecDepth 100000 in
theorem g_X3_lessons (l : Launch) (D : va_G) (b : Nat) (N : Nat) (V : Wd) (hN : 100 ≤ N) (hW : CW D b V) (c : Nat) (hc : c = 3 ∨ c = 21 ∨ c = 39 ∨ c = 74) (n0 : Int32) (n1 : Int32)  : MI l D b 2 jX3_lessons [.ref (b + c), .int n0, .int n1] N V 0 0 (fun r N9 V9 => N = N9 ∧ V = V9) := by
  have hJ0 : JW D b N [] V V := JW.rf hW
  refine mw_of (by decide) (by simp [Value.category]) (Nat.le_of_ble_eq_true rfl) ?_
  show AW l D b jX3_lessons (fx_rm 2 0 0) none (fx_MQ D b 0 0 (fx_qi (fun r N9 V9 => N = N9 ∧ V = V9))) 0 [some (.ref (b + c)), some (.int n0), some (.int n1), none, none, none, none, none] [] N V 0 0
  refine aw_aload_n dX3_lessons_0 rfl ?_
  refine aw_iload_n dX3_lessons_1 rfl ?_
  obtain ⟨pe_4, dd_4, ni_4, xx_4, e_4⟩ := JW.get hJ0 (ctc_0 hc)
  refine aw_callVi (J' := jX0_isDoor) (As := [.int n1]) (st := []) dX3_lessons_2 tb_783 ok_X0_isDoor ⟨_, e_4⟩ (by omega) rfl rfl (g_X0_isDoor l D b N V hN hJ0.1 c hc n1) rfl (Nat.le_of_ble_eq_true rfl) ⟨Nat.le_of_ble_eq_true rfl, Nat.le_of_ble_eq_true rfl, Nat.le_of_ble_eq_true rfl, Nat.le_of_ble_eq_true rfl⟩ (fun r_5 N_6 V_7 q_8 => ?_)
  obtain ⟨⟨z_3, h_2⟩, rfl, rfl⟩ := q_8
  refine aw_if_ne (tgt := 10) dX3_lessons_5 (by decide) (fun c_9 => ?_) (fun c_9 => ?_)
  · skip
    refine aw_aload_n dX3_lessons_10 rfl ?_
    refine aw_get dX3_lessons_11 fl_X3_21 e_4 (by omega) rfl ?_
    refine aw_iload_n dX3_lessons_14 rfl ?_
    obtain ⟨g_10, e_10⟩ := JW.get hJ0 (ctc_15 hc)
    refine aw_iald (v := (g_10 (Int32.toNatClampNeg n1))) dX3_lessons_15 e_10 (by omega) (vi_res h_2 c_9 (by decide)) rfl ?_
    refine aw_istore_n (ls' := [some (.ref (b + c)), some (.int n0), some (.int n1), some (.int (g_10 (Int32.toNatClampNeg n1))), none, none, none, none]) dX3_lessons_16 (Nat.le_of_ble_eq_true rfl) rfl ?_
    refine aw_sipush (v := 1584) dX3_lessons_17 (by decide) ?_
    refine aw_istore (ls' := [some (.ref (b + c)), some (.int n0), some (.int n1), some (.int (g_10 (Int32.toNatClampNeg n1))), some (.int 1584), none, none, none]) dX3_lessons_20 (Nat.le_of_ble_eq_true rfl) rfl ?_
    refine aw_iconst (v := 1) dX3_lessons_22 (by decide) ?_
    refine aw_aload_n dX3_lessons_23 rfl ?_
    refine aw_get dX3_lessons_24 fl_X3_24 e_4 (by omega) rfl ?_
    refine aw_iload_n dX3_lessons_27 rfl ?_
    obtain ⟨g_11, e_11⟩ := JW.get hJ0 (ctc_16 hc)
    refine aw_iald (v := (g_11 (Int32.toNatClampNeg n1))) dX3_lessons_28 e_11 (by omega) (vi_res h_2 c_9 (by decide)) rfl ?_
    refine aw_mmax dX3_lessons_29 tb_784 tb_385 tb_13 tb_386 ⟨Nat.le_of_ble_eq_true rfl, Nat.le_of_ble_eq_true rfl, Nat.le_of_ble_eq_true rfl, Nat.le_of_ble_eq_true rfl⟩ ?_
    refine aw_istore (ls' := [some (.ref (b + c)), some (.int n0), some (.int n1), some (.int (g_10 (Int32.toNatClampNeg n1))), some (.int 1584), some (.int (if 1 < (g_11 (Int32.toNatClampNeg n1)) then (g_11 (Int32.toNatClampNeg n1)) else 1)), none, none]) dX3_lessons_32 (Nat.le_of_ble_eq_true rfl) rfl ?_
    have ml_34_12 : ∀ (m : Nat) (v34_4 : Int32) (v34_5 : Int32), m = ((99 : Int32).toInt + 1 - v34_5.toInt).toNat → AW l D b jX3_lessons (fx_rm 2 0 0) none (fx_MQ D b 0 0 (fx_qi (fun r N9 V9 => N = N9 ∧ V = V9))) 34 [some (.ref (b + c)), some (.int n0), some (.int n1), some (.int (g_10 (Int32.toNatClampNeg n1))), some (.int v34_4), some (.int v34_5), none, none] [] N V 0 0 := by
      intro m; refine Nat.strongRecOn m ?_
      intro m mih_34_12 v34_4 v34_5 hm34 
      refine aw_iload dX3_lessons_34 rfl ?_
      refine aw_bipush (v := 99) dX3_lessons_36 (by decide) ?_
      refine aw_icmp_gt (tgt := 113) dX3_lessons_38 (by decide) (fun c_13 => ?_) (fun c_13 => ?_)
      · skip
        refine aw_iload dX3_lessons_113 rfl ?_
        refine aw_ireti dX3_lessons_115 rfl (Nat.le_of_ble_eq_true rfl) (Nat.le_of_ble_eq_true rfl) ?_
        exact ⟨rfl, rfl⟩
      · skip
        refine aw_iload dX3_lessons_41 rfl ?_
        refine aw_aload_n dX3_lessons_43 rfl ?_
        refine aw_iload_n dX3_lessons_44 rfl ?_
        refine aw_iload_n dX3_lessons_45 rfl ?_
        refine aw_callVi (J' := jX0_dreadOf) (As := [.int n0, .int (g_10 (Int32.toNatClampNeg n1))]) (st := [.int v34_5]) dX3_lessons_46 tb_785 ok_X0_dreadOf ⟨_, e_4⟩ (by omega) rfl rfl (g_X0_dreadOf l D b N V hN hJ0.1 c hc n0 (g_10 (Int32.toNatClampNeg n1))) rfl (Nat.le_of_ble_eq_true rfl) ⟨Nat.le_of_ble_eq_true rfl, Nat.le_of_ble_eq_true rfl, Nat.le_of_ble_eq_true rfl, Nat.le_of_ble_eq_true rfl⟩ (fun r_15 N_16 V_17 q_18 => ?_)
        obtain ⟨rfl, rfl⟩ := q_18
        refine aw_isub dX3_lessons_49 ?_
        refine aw_mabs dX3_lessons_50 tb_786 tb_787 tb_13 tb_788 ⟨Nat.le_of_ble_eq_true rfl, Nat.le_of_ble_eq_true rfl, Nat.le_of_ble_eq_true rfl, Nat.le_of_ble_eq_true rfl⟩ ?_
        refine aw_istore (ls' := [some (.ref (b + c)), some (.int n0), some (.int n1), some (.int (g_10 (Int32.toNatClampNeg n1))), some (.int v34_4), some (.int v34_5), some (.int (if 0 ≤ (v34_5 - r_15) then (v34_5 - r_15) else 0 - (v34_5 - r_15))), none]) dX3_lessons_53 (Nat.le_of_ble_eq_true rfl) rfl ?_
        refine aw_iconst (v := 0) dX3_lessons_55 (by decide) ?_
        refine aw_istore (ls' := [some (.ref (b + c)), some (.int n0), some (.int n1), some (.int (g_10 (Int32.toNatClampNeg n1))), some (.int v34_4), some (.int v34_5), some (.int (if 0 ≤ (v34_5 - r_15) then (v34_5 - r_15) else 0 - (v34_5 - r_15))), some (.int 0)]) dX3_lessons_56 (Nat.le_of_ble_eq_true rfl) rfl ?_
        have loop_58_18 : ∀ (g_58 : Nat), ∀ (j58 : Nat) (v58_6 : Int32), j58 + g_58 = 16 → AW l D b jX3_lessons (fx_rm 2 0 0) none (fx_MQ D b 0 0 (fx_qi (fun r N9 V9 => N = N9 ∧ V = V9))) 58 [some (.ref (b + c)), some (.int n0), some (.int n1), some (.int (g_10 (Int32.toNatClampNeg n1))), some (.int v34_4), some (.int v34_5), some (.int v58_6), some (.int (nI j58))] [] N V 0 0 := by
          intro g_58
          induction g_58 with
          | zero =>
            intro j58 v58_6 hj58
            obtain rfl : j58 = 16 := by omega
            refine aw_iload dX3_lessons_58 rfl ?_
            refine aw_bipush (v := 16) dX3_lessons_60 (by decide) ?_
            refine aw_icmp_ge (tgt := 98) dX3_lessons_62 (by decide) (fun c_21 => ?_) (fun c_21 => ?_)
            rotate_left
            · exact absurd (nI_le (a := 16) (b := 16) (Nat.le_refl _) (by omega)) c_21
            refine aw_iload dX3_lessons_98 rfl ?_
            refine aw_iload dX3_lessons_100 rfl ?_
            refine aw_mmin dX3_lessons_102 tb_789 tb_382 tb_13 tb_383 ⟨Nat.le_of_ble_eq_true rfl, Nat.le_of_ble_eq_true rfl, Nat.le_of_ble_eq_true rfl, Nat.le_of_ble_eq_true rfl⟩ ?_
            refine aw_istore (ls' := [some (.ref (b + c)), some (.int n0), some (.int n1), some (.int (g_10 (Int32.toNatClampNeg n1))), some (.int (if v58_6 < v34_4 then v58_6 else v34_4)), some (.int v34_5), some (.int v58_6), some (.int (nI 16))]) dX3_lessons_105 (Nat.le_of_ble_eq_true rfl) rfl ?_
            refine aw_iinc (v := (v34_5 + 1)) (ls' := [some (.ref (b + c)), some (.int n0), some (.int n1), some (.int (g_10 (Int32.toNatClampNeg n1))), some (.int (if v58_6 < v34_4 then v58_6 else v34_4)), some (.int (v34_5 + 1)), some (.int v58_6), some (.int (nI 16))]) dX3_lessons_107 rfl rfl (Nat.le_of_ble_eq_true rfl) rfl ?_
            refine aw_goto (tgt := 34) dX3_lessons_110 (by decide) ?_
            refine aw_le ?_ (mih_34_12 _ (by rw [hm34]; exact fx_dec c_13 (by decide)) (if v58_6 < v34_4 then v58_6 else v34_4) (v34_5 + 1) rfl )
            exact ⟨rfl, ⟨rfl, ⟨rfl, ⟨rfl, ⟨rfl, ⟨rfl, trivial⟩⟩⟩⟩⟩⟩
          | succ g_58 ih_58_19 =>
            intro j58 v58_6 hj58
            have hlj58 : j58 < 16 := by omega
            refine aw_iload dX3_lessons_58 rfl ?_
            refine aw_bipush (v := 16) dX3_lessons_60 (by decide) ?_
            refine aw_icmp_ge (tgt := 98) dX3_lessons_62 (by decide) (fun c_22 => ?_) (fun c_22 => ?_)
            · exact absurd c_22 (nI_ge (a := j58) (b := 16) (by omega) (by omega))
            refine aw_iload dX3_lessons_65 rfl ?_
            refine aw_iload_n dX3_lessons_67 rfl ?_
            refine aw_icmp_eq (tgt := 92) dX3_lessons_68 (by decide) (fun c_23 => ?_) (fun c_23 => ?_)
            · skip
              refine aw_iinc (v := (nI (j58 + 1))) (ls' := [some (.ref (b + c)), some (.int n0), some (.int n1), some (.int (g_10 (Int32.toNatClampNeg n1))), some (.int v34_4), some (.int v34_5), some (.int v58_6), some (.int (nI (j58 + 1)))]) dX3_lessons_92 rfl (fx_up_1 _) (Nat.le_of_ble_eq_true rfl) rfl ?_
              refine aw_goto (tgt := 58) dX3_lessons_95 (by decide) ?_
              refine aw_le ?_ (ih_58_19 (j58 + 1) v58_6  (by omega))
              exact ⟨rfl, ⟨rfl, ⟨rfl, ⟨rfl, ⟨rfl, ⟨rfl, ⟨rfl, ⟨rfl, trivial⟩⟩⟩⟩⟩⟩⟩⟩
            · skip
              refine aw_iload dX3_lessons_71 rfl ?_
              refine aw_iconst (v := 0) dX3_lessons_73 (by decide) ?_
              refine aw_aload_n dX3_lessons_74 rfl ?_
              refine aw_iload_n dX3_lessons_75 rfl ?_
              refine aw_iload dX3_lessons_76 rfl ?_
              refine aw_callVi (J' := jX0_dreadOf) (As := [.int n0, .int (nI j58)]) (st := [.int 0, .int v58_6]) dX3_lessons_78 tb_785 ok_X0_dreadOf ⟨_, e_4⟩ (by omega) rfl rfl (g_X0_dreadOf l D b N V hN hJ0.1 c hc n0 (nI j58)) rfl (Nat.le_of_ble_eq_true rfl) ⟨Nat.le_of_ble_eq_true rfl, Nat.le_of_ble_eq_true rfl, Nat.le_of_ble_eq_true rfl, Nat.le_of_ble_eq_true rfl⟩ (fun r_25 N_26 V_27 q_28 => ?_)
              obtain ⟨rfl, rfl⟩ := q_28
              refine aw_iload dX3_lessons_81 rfl ?_
              refine aw_iconst (v := 1) dX3_lessons_83 (by decide) ?_
              refine aw_isub dX3_lessons_84 ?_
              refine aw_isub dX3_lessons_85 ?_
              refine aw_mmax dX3_lessons_86 tb_784 tb_385 tb_13 tb_386 ⟨Nat.le_of_ble_eq_true rfl, Nat.le_of_ble_eq_true rfl, Nat.le_of_ble_eq_true rfl, Nat.le_of_ble_eq_true rfl⟩ ?_
              refine aw_iadd dX3_lessons_89 ?_
              refine aw_istore (ls' := [some (.ref (b + c)), some (.int n0), some (.int n1), some (.int (g_10 (Int32.toNatClampNeg n1))), some (.int v34_4), some (.int v34_5), some (.int (v58_6 + (if 0 < (r_25 - (v34_5 - 1)) then (r_25 - (v34_5 - 1)) else 0))), some (.int (nI j58))]) dX3_lessons_90 (Nat.le_of_ble_eq_true rfl) rfl ?_
              refine aw_iinc (v := (nI (j58 + 1))) (ls' := [some (.ref (b + c)), some (.int n0), some (.int n1), some (.int (g_10 (Int32.toNatClampNeg n1))), some (.int v34_4), some (.int v34_5), some (.int (v58_6 + (if 0 < (r_25 - (v34_5 - 1)) then (r_25 - (v34_5 - 1)) else 0))), some (.int (nI (j58 + 1)))]) dX3_lessons_92 rfl (fx_up_1 _) (Nat.le_of_ble_eq_true rfl) rfl ?_
              refine aw_goto (tgt := 58) dX3_lessons_95 (by decide) ?_
              refine aw_le ?_ (ih_58_19 (j58 + 1) (v58_6 + (if 0 < (r_25 - (v34_5 - 1)) then (r_25 - (v34_5 - 1)) else 0))  (by omega))
              exact ⟨rfl, ⟨rfl, ⟨rfl, ⟨rfl, ⟨rfl, ⟨rfl, ⟨rfl, ⟨rfl, trivial⟩⟩⟩⟩⟩⟩⟩⟩
        refine aw_le ?_ (loop_58_18 16 0 (if 0 ≤ (v34_5 - r_15) then (v34_5 - r_15) else 0 - (v34_5 - r_15))  (by omega))
        exact ⟨rfl, ⟨rfl, ⟨rfl, ⟨rfl, ⟨rfl, ⟨rfl, ⟨rfl, ⟨rfl, trivial⟩⟩⟩⟩⟩⟩⟩⟩
    refine aw_le ?_ (ml_34_12 _ 1584 (if 1 < (g_11 (Int32.toNatClampNeg n1)) then (g_11 (Int32.toNatClampNeg n1)) else 1) rfl )
    exact ⟨rfl, ⟨rfl, ⟨rfl, ⟨rfl, ⟨rfl, ⟨rfl, trivial⟩⟩⟩⟩⟩⟩
  · skip
    refine aw_iconst (v := (-1)) dX3_lessons_8 (by decide) ?_
    refine aw_ireti dX3_lessons_9 rfl (Nat.le_of_ble_eq_true rfl) (Nat.le_of_ble_eq_true rfl) ?_
    exact ⟨rfl, rfl⟩

set_option maxHeartbeats 4000000 in
set_option maxRecDepth 100000 in
theorem g_X3_mostLet (l : Launch) (D : va_G) (b : Nat) (N : Nat) (V : Wd) (hN : 100 ≤ N) (hW : CW D b V) (c : Nat) (hc : c = 3 ∨ c = 21 ∨ c = 39 ∨ c = 74)  : MI l D b 5 jX3_mostLet [.ref (b + c)] N V 0 0 (fun r N9 V9 => N = N9 ∧ V = V9) := by
  have hJ0 : JW D b N [] V V := JW.rf hW
  refine mw_of (by decide) (by simp [Value.category]) (Nat.le_of_ble_eq_true rfl) ?_
  show AW l D b jX3_mostLet (fx_rm 5 0 0) none (fx_MQ D b 0 0 (fx_qi (fun r N9 V9 => N = N9 ∧ V = V9))) 0 [some (.ref (b + c)), none, none, none, none] [] N V 0 0
  refine aw_iconst (v := 0) dX3_mostLet_0 (by decide) ?_
  refine aw_istore_n (ls' := [some (.ref (b + c)), some (.int 0), none, none, none]) dX3_mostLet_1 (Nat.le_of_ble_eq_true rfl) rfl ?_
  refine aw_bipush (v := 99) dX3_mostLet_2 (by decide) ?_
  refine aw_istore_n (ls' := [some (.ref (b + c)), some (.int 0), some (.int 99), none, none]) dX3_mostLet_4 (Nat.le_of_ble_eq_true rfl) rfl ?_
  have loop_5_0 : ∀ (j5 : Nat), ∀ (v5_1 : Int32), j5 ≤ 100 → AW l D b jX3_mostLet (fx_rm 5 0 0) none (fx_MQ D b 0 0 (fx_qi (fun r N9 V9 => N = N9 ∧ V = V9))) 5 [some (.ref (b + c)), some (.int v5_1), some (.int (fx_dn j5)), none, none] [] N V 0 0 := by
    intro j5
    induction j5 with
    | zero =>
      intro v5_1 hj5
      show AW l D b jX3_mostLet (fx_rm 5 0 0) none (fx_MQ D b 0 0 (fx_qi (fun r N9 V9 => N = N9 ∧ V = V9))) 5 [some (.ref (b + c)), some (.int v5_1), some (.int (-1)), none, none] [] N V 0 0
      refine aw_iload_n dX3_mostLet_5 rfl ?_
      refine aw_if_lt (tgt := 67) dX3_mostLet_6 (by decide) (fun c_3 => ?_) (fun c_3 => ?_)
      rotate_left
      · exact absurd (by decide) c_3
      refine aw_iload_n dX3_mostLet_67 rfl ?_
      refine aw_callSi (J' := jJ6_bitCount_0f7a4) (As := [.int v5_1]) (st := []) dX3_mostLet_68 tb_799 ok_J6_bitCount_0f7a4 rfl (c_bitCount l D b N V v5_1) rfl (Nat.le_of_ble_eq_true rfl) ⟨Nat.le_of_ble_eq_true rfl, Nat.le_of_ble_eq_true rfl, Nat.le_of_ble_eq_true rfl, Nat.le_of_ble_eq_true rfl⟩ (fun r_4 N_5 V_6 q_7 => ?_)
      obtain ⟨rfl, rfl⟩ := q_7
      refine aw_ireti dX3_mostLet_71 rfl (Nat.le_of_ble_eq_true rfl) (Nat.le_of_ble_eq_true rfl) ?_
      exact ⟨rfl, rfl⟩
    | succ j5 ih_5_1 =>
      intro v5_1 hj5
      show AW l D b jX3_mostLet (fx_rm 5 0 0) none (fx_MQ D b 0 0 (fx_qi (fun r N9 V9 => N = N9 ∧ V = V9))) 5 [some (.ref (b + c)), some (.int v5_1), some (.int (nI j5)), none, none] [] N V 0 0
      refine aw_iload_n dX3_mostLet_5 rfl ?_
      refine aw_if_lt (tgt := 67) dX3_mostLet_6 (by decide) (fun c_8 => ?_) (fun c_8 => ?_)
      · exact absurd c_8 (nI_pos (by omega))
      refine aw_iconst (v := 0) dX3_mostLet_9 (by decide) ?_
      refine aw_istore_n (ls' := [some (.ref (b + c)), some (.int v5_1), some (.int (nI j5)), some (.int 0), none]) dX3_mostLet_10 (Nat.le_of_ble_eq_true rfl) rfl ?_
      have loop_11_8 : ∀ (g_11 : Nat), ∀ (j11 : Nat) (v11_1 : Int32), j11 + g_11 = 16 → AW l D b jX3_mostLet (fx_rm 5 0 0) none (fx_MQ D b 0 0 (fx_qi (fun r N9 V9 => N = N9 ∧ V = V9))) 11 [some (.ref (b + c)), some (.int v11_1), some (.int (nI j5)), some (.int (nI j11)), none] [] N V 0 0 := by
        intro g_11
        induction g_11 with
        | zero =>
          intro j11 v11_1 hj11
          obtain rfl : j11 = 16 := by omega
          refine aw_iload_n dX3_mostLet_11 rfl ?_
          refine aw_bipush (v := 16) dX3_mostLet_12 (by decide) ?_
          refine aw_icmp_ge (tgt := 61) dX3_mostLet_14 (by decide) (fun c_11 => ?_) (fun c_11 => ?_)
          rotate_left
          · exact absurd (nI_le (a := 16) (b := 16) (Nat.le_refl _) (by omega)) c_11
          refine aw_iinc (v := (fx_dn j5)) (ls' := [some (.ref (b + c)), some (.int v11_1), some (.int (fx_dn j5)), some (.int (nI 16)), none]) dX3_mostLet_61 rfl (fx_dn_1 _) (Nat.le_of_ble_eq_true rfl) rfl ?_
          refine aw_goto (tgt := 5) dX3_mostLet_64 (by decide) ?_
          refine aw_le ?_ (ih_5_1 v11_1  (by omega))
          exact ⟨rfl, ⟨rfl, ⟨rfl, trivial⟩⟩⟩
        | succ g_11 ih_11_9 =>
          intro j11 v11_1 hj11
          have hlj11 : j11 < 16 := by omega
          refine aw_iload_n dX3_mostLet_11 rfl ?_
          refine aw_bipush (v := 16) dX3_mostLet_12 (by decide) ?_
          refine aw_icmp_ge (tgt := 61) dX3_mostLet_14 (by decide) (fun c_12 => ?_) (fun c_12 => ?_)
          · exact absurd c_12 (nI_ge (a := j11) (b := 16) (by omega) (by omega))
          refine aw_aload_n dX3_mostLet_17 rfl ?_
          refine aw_iload_n dX3_mostLet_18 rfl ?_
          obtain ⟨pe_16, dd_16, ni_16, xx_16, e_16⟩ := JW.get hJ0 (ctc_0 hc)
          refine aw_callVi (J' := jX0_isDoor) (As := [.int (nI j11)]) (st := []) dX3_mostLet_19 tb_783 ok_X0_isDoor ⟨_, e_16⟩ (by omega) rfl rfl (g_X0_isDoor l D b N V hN hJ0.1 c hc (nI j11)) rfl (Nat.le_of_ble_eq_true rfl) ⟨Nat.le_of_ble_eq_true rfl, Nat.le_of_ble_eq_true rfl, Nat.le_of_ble_eq_true rfl, Nat.le_of_ble_eq_true rfl⟩ (fun r_17 N_18 V_19 q_20 => ?_)
          obtain ⟨⟨z_15, h_14⟩, rfl, rfl⟩ := q_20
          refine aw_if_eq (tgt := 55) dX3_mostLet_22 (by decide) (fun c_21 => ?_) (fun c_21 => ?_)
          · skip
            refine aw_iinc (v := (nI (j11 + 1))) (ls' := [some (.ref (b + c)), some (.int v11_1), some (.int (nI j5)), some (.int (nI (j11 + 1))), none]) dX3_mostLet_55 rfl (fx_up_1 _) (Nat.le_of_ble_eq_true rfl) rfl ?_
            refine aw_goto (tgt := 11) dX3_mostLet_58 (by decide) ?_
            refine aw_le ?_ (ih_11_9 (j11 + 1) v11_1  (by omega))
            exact ⟨rfl, ⟨rfl, ⟨rfl, ⟨rfl, trivial⟩⟩⟩⟩
          · skip
            refine aw_aload_n dX3_mostLet_25 rfl ?_
            refine aw_get dX3_mostLet_26 fl_X3_24 e_16 (by omega) rfl ?_
            refine aw_iload_n dX3_mostLet_29 rfl ?_
            obtain ⟨g_22, e_22⟩ := JW.get hJ0 (ctc_16 hc)
            refine aw_iald (v := (g_22 j11)) dX3_mostLet_30 e_22 (by omega) (vp_in_nI (n := j11) (by omega) (by omega)) (congrArg g_22 (nI_clamp (n := j11) (by omega))) ?_
            refine aw_iload_n dX3_mostLet_31 rfl ?_
            refine aw_icmp_ne (tgt := 55) dX3_mostLet_32 (by decide) (fun c_23 => ?_) (fun c_23 => ?_)
            · skip
              refine aw_iinc (v := (nI (j11 + 1))) (ls' := [some (.ref (b + c)), some (.int v11_1), some (.int (nI j5)), some (.int (nI (j11 + 1))), none]) dX3_mostLet_55 rfl (fx_up_1 _) (Nat.le_of_ble_eq_true rfl) rfl ?_
              refine aw_goto (tgt := 11) dX3_mostLet_58 (by decide) ?_
              refine aw_le ?_ (ih_11_9 (j11 + 1) v11_1  (by omega))
              exact ⟨rfl, ⟨rfl, ⟨rfl, ⟨rfl, trivial⟩⟩⟩⟩
            · skip
              refine aw_aload_n dX3_mostLet_35 rfl ?_
              refine aw_iload_n dX3_mostLet_36 rfl ?_
              refine aw_callVi (J' := jX0_openersOf) (As := [.int (nI j11)]) (st := []) dX3_mostLet_37 tb_813 ok_X0_openersOf ⟨_, e_16⟩ (by omega) rfl rfl (g_X0_openersOf l D b N V hN hJ0.1 c hc (nI j11)) rfl (Nat.le_of_ble_eq_true rfl) ⟨Nat.le_of_ble_eq_true rfl, Nat.le_of_ble_eq_true rfl, Nat.le_of_ble_eq_true rfl, Nat.le_of_ble_eq_true rfl⟩ (fun r_25 N_26 V_27 q_28 => ?_)
              obtain ⟨rfl, rfl⟩ := q_28
              refine aw_iload_n dX3_mostLet_40 rfl ?_
              refine aw_iconst (v := (-1)) dX3_mostLet_41 (by decide) ?_
              refine aw_ixor dX3_mostLet_42 ?_
              refine aw_iand dX3_mostLet_43 ?_
              refine aw_istore (ls' := [some (.ref (b + c)), some (.int v11_1), some (.int (nI j5)), some (.int (nI j11)), some (.int (r_25 &&& (v11_1 ^^^ (-1))))]) dX3_mostLet_44 (Nat.le_of_ble_eq_true rfl) rfl ?_
              refine aw_iload_n dX3_mostLet_46 rfl ?_
              refine aw_iload dX3_mostLet_47 rfl ?_
              refine aw_iload dX3_mostLet_49 rfl ?_
              refine aw_ineg dX3_mostLet_51 ?_
              refine aw_iand dX3_mostLet_52 ?_
              refine aw_ior dX3_mostLet_53 ?_
              refine aw_istore_n (ls' := [some (.ref (b + c)), some (.int (v11_1 ||| ((r_25 &&& (v11_1 ^^^ (-1))) &&& (-(r_25 &&& (v11_1 ^^^ (-1))))))), some (.int (nI j5)), some (.int (nI j11)), some (.int (r_25 &&& (v11_1 ^^^ (-1))))]) dX3_mostLet_54 (Nat.le_of_ble_eq_true rfl) rfl ?_
              refine aw_iinc (v := (nI (j11 + 1))) (ls' := [some (.ref (b + c)), some (.int (v11_1 ||| ((r_25 &&& (v11_1 ^^^ (-1))) &&& (-(r_25 &&& (v11_1 ^^^ (-1))))))), some (.int (nI j5)), some (.int (nI (j11 + 1))), some (.int (r_25 &&& (v11_1 ^^^ (-1))))]) dX3_mostLet_55 rfl (fx_up_1 _) (Nat.le_of_ble_eq_true rfl) rfl ?_
              refine aw_goto (tgt := 11) dX3_mostLet_58 (by decide) ?_
              refine aw_le ?_ (ih_11_9 (j11 + 1) (v11_1 ||| ((r_25 &&& (v11_1 ^^^ (-1))) &&& (-(r_25 &&& (v11_1 ^^^ (-1))))))  (by omega))
              exact ⟨rfl, ⟨rfl, ⟨rfl, ⟨rfl, trivial⟩⟩⟩⟩
      refine aw_le ?_ (loop_11_8 16 0 v5_1  (by omega))
      exact ⟨rfl, ⟨rfl, ⟨rfl, ⟨rfl, trivial⟩⟩⟩⟩
  refine aw_le ?_ (loop_5_0 100 0  (by omega))
  exact ⟨rfl, ⟨rfl, ⟨rfl, trivial⟩⟩⟩
