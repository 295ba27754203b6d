set_option maxHeartbeats 4000000 in
set_option maxRecDepth 100000 in
theorem g_X1_beside (l : Launch) (D : va_G) (b : Nat) (N : Nat) (V : Wd) (hN : 100 ≤ N) (hW : CW D b V) (a : Nat) (ha : (ctL D b)[a]? = some (isI D 12)) (n0 : Int32)  : MI l D b 1 jX1_beside [.ref (b + a), .int n0] N V 0 0 (fun r N9 V9 => N = N9 ∧ V = V9) := by
  have hJ0 : JW D b N [] V V := JW.rf hW
  have hlt_a := ct_lt ha
  refine mw_of (by decide) (by simp [Value.category]) (Nat.le_of_ble_eq_true rfl) ?_
  show AW l D b jX1_beside (fx_rm 1 0 0) none (fx_MQ D b 0 0 (fx_qi (fun r N9 V9 => N = N9 ∧ V = V9))) 0 [some (.ref (b + a)), some (.int n0), none, none] [] N V 0 0
  refine aw_iconst (v := 0) dX1_beside_0 (by decide) ?_
  refine aw_istore_n (ls' := [some (.ref (b + a)), some (.int n0), some (.int 0), none]) dX1_beside_1 (Nat.le_of_ble_eq_true rfl) rfl ?_
  refine aw_iconst (v := 0) dX1_beside_2 (by decide) ?_
  refine aw_istore_n (ls' := [some (.ref (b + a)), some (.int n0), some (.int 0), some (.int 0)]) dX1_beside_3 (Nat.le_of_ble_eq_true rfl) rfl ?_
  obtain ⟨g_1, e_1⟩ := JW.get hJ0 ha
  have loop_4_1 : ∀ (g_4 : Nat), ∀ (j4 : Nat) (v4_2 : Int32), j4 + g_4 = 12 → AW l D b jX1_beside (fx_rm 1 0 0) none (fx_MQ D b 0 0 (fx_qi (fun r N9 V9 => N = N9 ∧ V = V9))) 4 [some (.ref (b + a)), some (.int n0), some (.int v4_2), some (.int (nI j4))] [] N V 0 0 := by
    intro g_4
    induction g_4 with
    | zero =>
      intro j4 v4_2 hj4
      obtain rfl : j4 = 12 := by omega
      refine aw_iload_n dX1_beside_4 rfl ?_
      refine aw_aload_n dX1_beside_5 rfl ?_
      refine aw_alen (t0 := 0) (v := 12) dX1_beside_6 e_1 (by omega) rfl rfl ?_
      refine aw_icmp_ge (tgt := 30) dX1_beside_7 (by decide) (fun c_4 => ?_) (fun c_4 => ?_)
      rotate_left
      · exact absurd (nI_le (a := 12) (b := 12) (Nat.le_refl _) (by omega)) c_4
      refine aw_iload_n dX1_beside_30 rfl ?_
      refine aw_ireti dX1_beside_31 rfl (Nat.le_of_ble_eq_true rfl) (Nat.le_of_ble_eq_true rfl) ?_
      exact ⟨rfl, rfl⟩
    | succ g_4 ih_4_2 =>
      intro j4 v4_2 hj4
      have hlj4 : j4 < 12 := by omega
      refine aw_iload_n dX1_beside_4 rfl ?_
      refine aw_aload_n dX1_beside_5 rfl ?_
      refine aw_alen (t0 := 0) (v := 12) dX1_beside_6 e_1 (by omega) rfl rfl ?_
      refine aw_icmp_ge (tgt := 30) dX1_beside_7 (by decide) (fun c_5 => ?_) (fun c_5 => ?_)
      · exact absurd c_5 (nI_ge (a := j4) (b := 12) (by omega) (by omega))
      refine aw_iload_n dX1_beside_10 rfl ?_
      refine aw_iload_n dX1_beside_11 rfl ?_
      refine aw_callSNi (J' := jX11_has) (As := [.int n0, .int (nI j4)]) (st := []) dX1_beside_12 tb_834 ok_X11_has rfl (g_X11_has l D b N V hN hJ0.1 n0 (nI j4)) rfl (Nat.le_of_ble_eq_true rfl) ⟨Nat.le_of_ble_eq_true rfl, Nat.le_of_ble_eq_true rfl, Nat.le_of_ble_eq_true rfl, Nat.le_of_ble_eq_true rfl⟩ (fun r_8 N_9 V_10 q_11 => ?_)
      obtain ⟨h_7, rfl, rfl⟩ := q_11
      refine aw_if_eq (tgt := 24) dX1_beside_15 (by decide) (fun c_12 => ?_) (fun c_12 => ?_)
      · skip
        refine aw_iinc (v := (nI (j4 + 1))) (ls' := [some (.ref (b + a)), some (.int n0), some (.int v4_2), some (.int (nI (j4 + 1)))]) dX1_beside_24 rfl (fx_up_1 _) (Nat.le_of_ble_eq_true rfl) rfl ?_
        refine aw_goto (tgt := 4) dX1_beside_27 (by decide) ?_
        refine aw_le ?_ (ih_4_2 (j4 + 1) v4_2  (by omega))
        exact ⟨rfl, ⟨rfl, ⟨rfl, ⟨rfl, trivial⟩⟩⟩⟩
      · skip
        refine aw_iload_n dX1_beside_18 rfl ?_
        refine aw_aload_n dX1_beside_19 rfl ?_
        refine aw_iload_n dX1_beside_20 rfl ?_
        refine aw_iald (v := (g_1 j4)) dX1_beside_21 e_1 (by omega) (vp_in_nI (n := j4) (by omega) (by omega)) (congrArg g_1 (nI_clamp (n := j4) (by omega))) ?_
        refine aw_ior dX1_beside_22 ?_
        refine aw_istore_n (ls' := [some (.ref (b + a)), some (.int n0), some (.int (v4_2 ||| (g_1 j4))), some (.int (nI j4))]) dX1_beside_23 (Nat.le_of_ble_eq_true rfl) rfl ?_
        refine aw_iinc (v := (nI (j4 + 1))) (ls' := [some (.ref (b + a)), some (.int n0), some (.int (v4_2 ||| (g_1 j4))), some (.int (nI (j4 + 1)))]) dX1_beside_24 rfl (fx_up_1 _) (Nat.le_of_ble_eq_true rfl) rfl ?_
        refine aw_goto (tgt := 4) dX1_beside_27 (by decide) ?_
        refine aw_le ?_ (ih_4_2 (j4 + 1) (v4_2 ||| (g_1 j4))  (by omega))
        exact ⟨rfl, ⟨rfl, ⟨rfl, ⟨rfl, trivial⟩⟩⟩⟩
  refine aw_le ?_ (loop_4_1 12 0 0  (by omega))
  exact ⟨rfl, ⟨rfl, ⟨rfl, ⟨rfl, trivial⟩⟩⟩⟩

set_option maxHeartbeats 4000000 in
set_option maxRecDepth 100000 in
theorem g_X1_reached (l : Launch) (D : va_G) (b : Nat) (N : Nat) (V : Wd) (hN : 100 ≤ N) (hW : CW D b V) (a : Nat) (ha : (ctL D b)[a]? = some (isI D 12)) (n0 : Int32) (n1 : Int32)  : MI l D b 2 jX1_reached [.ref (b + a), .int n0, .int n1] N V 0 0 (fun r N9 V9 => N = N9 ∧ V = V9) := by
  have hJ0 : JW D b N [] V V := JW.rf hW
  have hlt_a := ct_lt ha
  refine mw_of (by decide) (by simp [Value.category]) (Nat.le_of_ble_eq_true rfl) ?_
  show AW l D b jX1_reached (fx_rm 2 0 0) none (fx_MQ D b 0 0 (fx_qi (fun r N9 V9 => N = N9 ∧ V = V9))) 0 [some (.ref (b + a)), some (.int n0), some (.int n1), none, none] [] N V 0 0
  refine aw_iload_n dX1_reached_0 rfl ?_
  refine aw_iload_n dX1_reached_1 rfl ?_
  refine aw_iand dX1_reached_2 ?_
  refine aw_istore_n (ls' := [some (.ref (b + a)), some (.int n0), some (.int n1), some (.int (n0 &&& n1)), none]) dX1_reached_3 (Nat.le_of_ble_eq_true rfl) rfl ?_
  refine aw_iconst (v := 0) dX1_reached_4 (by decide) ?_
  refine aw_istore (ls' := [some (.ref (b + a)), some (.int n0), some (.int n1), some (.int (n0 &&& n1)), some (.int 0)]) dX1_reached_5 (Nat.le_of_ble_eq_true rfl) rfl ?_
  have loop_7_0 : ∀ (g_7 : Nat), ∀ (j7 : Nat) (v7_3 : Int32), j7 + g_7 = 12 → AW l D b jX1_reached (fx_rm 2 0 0) none (fx_MQ D b 0 0 (fx_qi (fun r N9 V9 => N = N9 ∧ V = V9))) 7 [some (.ref (b + a)), some (.int n0), some (.int n1), some (.int v7_3), some (.int (nI j7))] [] N V 0 0 := by
    intro g_7
    induction g_7 with
    | zero =>
      intro j7 v7_3 hj7
      obtain rfl : j7 = 12 := by omega
      refine aw_iload dX1_reached_7 rfl ?_
      refine aw_bipush (v := 12) dX1_reached_9 (by decide) ?_
      refine aw_icmp_ge (tgt := 30) dX1_reached_11 (by decide) (fun c_3 => ?_) (fun c_3 => ?_)
      rotate_left
      · exact absurd (nI_le (a := 12) (b := 12) (Nat.le_refl _) (by omega)) c_3
      refine aw_iload_n dX1_reached_30 rfl ?_
      refine aw_ireti dX1_reached_31 rfl (Nat.le_of_ble_eq_true rfl) (Nat.le_of_ble_eq_true rfl) ?_
      exact ⟨rfl, rfl⟩
    | succ g_7 ih_7_1 =>
      intro j7 v7_3 hj7
      have hlj7 : j7 < 12 := by omega
      refine aw_iload dX1_reached_7 rfl ?_
      refine aw_bipush (v := 12) dX1_reached_9 (by decide) ?_
      refine aw_icmp_ge (tgt := 30) dX1_reached_11 (by decide) (fun c_4 => ?_) (fun c_4 => ?_)
      · exact absurd c_4 (nI_ge (a := j7) (b := 12) (by omega) (by omega))
      refine aw_iload_n dX1_reached_14 rfl ?_
      refine aw_aload_n dX1_reached_15 rfl ?_
      refine aw_iload_n dX1_reached_16 rfl ?_
      refine aw_callSi (J' := jX1_beside) (As := [.ref (b + a), .int v7_3]) (st := [.int v7_3]) dX1_reached_17 tb_900 ok_X1_beside rfl (g_X1_beside l D b N V hN hJ0.1 a ha v7_3) rfl (Nat.le_of_ble_eq_true rfl) ⟨Nat.le_of_ble_eq_true rfl, Nat.le_of_ble_eq_true rfl, Nat.le_of_ble_eq_true rfl, Nat.le_of_ble_eq_true rfl⟩ (fun r_6 N_7 V_8 q_9 => ?_)
      obtain ⟨rfl, rfl⟩ := q_9
      refine aw_iload_n dX1_reached_20 rfl ?_
      refine aw_iand dX1_reached_21 ?_
      refine aw_ior dX1_reached_22 ?_
      refine aw_istore_n (ls' := [some (.ref (b + a)), some (.int n0), some (.int n1), some (.int (v7_3 ||| (r_6 &&& n1))), some (.int (nI j7))]) dX1_reached_23 (Nat.le_of_ble_eq_true rfl) rfl ?_
      refine aw_iinc (v := (nI (j7 + 1))) (ls' := [some (.ref (b + a)), some (.int n0), some (.int n1), some (.int (v7_3 ||| (r_6 &&& n1))), some (.int (nI (j7 + 1)))]) dX1_reached_24 rfl (fx_up_1 _) (Nat.le_of_ble_eq_true rfl) rfl ?_
      refine aw_goto (tgt := 7) dX1_reached_27 (by decide) ?_
      refine aw_le ?_ (ih_7_1 (j7 + 1) (v7_3 ||| (r_6 &&& n1))  (by omega))
      exact ⟨rfl, ⟨rfl, ⟨rfl, ⟨rfl, ⟨rfl, trivial⟩⟩⟩⟩⟩
  refine aw_le ?_ (loop_7_0 12 0 (n0 &&& n1)  (by omega))
  exact ⟨rfl, ⟨rfl, ⟨rfl, ⟨rfl, ⟨rfl, trivial⟩⟩⟩⟩⟩

set_option maxHeartbeats 4000000 in
set_option maxRecDepth 100000 in
theorem g_X1_holdersTogether (l : Launch) (D : va_G) (b : Nat) (N : Nat) (V : Wd) (hN : 100 ≤ N) (hW : CW D b V) (c : Nat) (hc : c = 3 ∨ c = 21 ∨ c = 39 ∨ c = 74)  : MI l D b 3 jX1_holdersTogether [.ref (b + c)] N V 0 0 (fun r N9 V9 => N = N9 ∧ V = V9) := by
  have hJ0 : JW D b N [] V V := JW.rf hW
  refine mw_of (by decide) (by simp [Value.category]) (Nat.le_of_ble_eq_true rfl) ?_
  show AW l D b jX1_holdersTogether (fx_rm 3 0 0) none (fx_MQ D b 0 0 (fx_qi (fun r N9 V9 => N = N9 ∧ V = V9))) 0 [some (.ref (b + c)), none, none, none, none, none] [] N V 0 0
  refine aw_iconst (v := 0) dX1_holdersTogether_0 (by decide) ?_
  refine aw_istore_n (ls' := [some (.ref (b + c)), some (.int 0), none, none, none, none]) dX1_holdersTogether_1 (Nat.le_of_ble_eq_true rfl) rfl ?_
  refine aw_iconst (v := 0) dX1_holdersTogether_2 (by decide) ?_
  refine aw_istore_n (ls' := [some (.ref (b + c)), some (.int 0), some (.int 0), none, none, none]) dX1_holdersTogether_3 (Nat.le_of_ble_eq_true rfl) rfl ?_
  have loop_4_0 : ∀ (g_4 : Nat), ∀ (j4 : Nat) (v4_1 : Int32), j4 + g_4 = 12 → AW l D b jX1_holdersTogether (fx_rm 3 0 0) none (fx_MQ D b 0 0 (fx_qi (fun r N9 V9 => N = N9 ∧ V = V9))) 4 [some (.ref (b + c)), some (.int v4_1), some (.int (nI j4)), none, none, none] [] N V 0 0 := by
    intro g_4
    induction g_4 with
    | zero =>
      intro j4 v4_1 hj4
      obtain rfl : j4 = 12 := by omega
      refine aw_iload_n dX1_holdersTogether_4 rfl ?_
      refine aw_bipush (v := 12) dX1_holdersTogether_5 (by decide) ?_
      refine aw_icmp_ge (tgt := 68) dX1_holdersTogether_7 (by decide) (fun c_3 => ?_) (fun c_3 => ?_)
      rotate_left
      · exact absurd (nI_le (a := 12) (b := 12) (Nat.le_refl _) (by omega)) c_3
      refine aw_iload_n dX1_holdersTogether_68 rfl ?_
      refine aw_ireti dX1_holdersTogether_69 rfl (Nat.le_of_ble_eq_true rfl) (Nat.le_of_ble_eq_true rfl) ?_
      exact ⟨rfl, rfl⟩
    | succ g_4 ih_4_1 =>
      intro j4 v4_1 hj4
      have hlj4 : j4 < 12 := by omega
      refine aw_iload_n dX1_holdersTogether_4 rfl ?_
      refine aw_bipush (v := 12) dX1_holdersTogether_5 (by decide) ?_
      refine aw_icmp_ge (tgt := 68) dX1_holdersTogether_7 (by decide) (fun c_4 => ?_) (fun c_4 => ?_)
      · exact absurd c_4 (nI_ge (a := j4) (b := 12) (by omega) (by omega))
      refine aw_aload_n dX1_holdersTogether_10 rfl ?_
      obtain ⟨pe_5, dd_5, ni_5, xx_5, e_5⟩ := JW.get hJ0 (ctc_0 hc)
      refine aw_get dX1_holdersTogether_11 fl_X1_26 e_5 (by omega) rfl ?_
      refine aw_iconst (v := 1) dX1_holdersTogether_14 (by decide) ?_
      refine aw_iload_n dX1_holdersTogether_15 rfl ?_
      refine aw_ishl dX1_holdersTogether_16 ?_
      refine aw_iconst (v := (-1)) dX1_holdersTogether_17 (by decide) ?_
      refine aw_ixor dX1_holdersTogether_18 ?_
      refine aw_iand dX1_holdersTogether_19 ?_
      refine aw_istore_n (ls' := [some (.ref (b + c)), some (.int v4_1), some (.int (nI j4)), some (.int (pe_5 &&& (((1 : Int32) <<< ((nI j4) &&& 31)) ^^^ (-1)))), none, none]) dX1_holdersTogether_20 (Nat.le_of_ble_eq_true rfl) rfl ?_
      refine aw_aload_n dX1_holdersTogether_21 rfl ?_
      refine aw_iload_n dX1_holdersTogether_22 rfl ?_
      refine aw_callVi (J' := jX0_knownTo) (As := [.int (nI j4)]) (st := []) dX1_holdersTogether_23 tb_847 ok_X0_knownTo ⟨_, e_5⟩ (by omega) rfl rfl (g_X0_knownTo l D b N V hN hJ0.1 c hc (nI j4)) rfl (Nat.le_of_ble_eq_true rfl) ⟨Nat.le_of_ble_eq_true rfl, Nat.le_of_ble_eq_true rfl, Nat.le_of_ble_eq_true rfl, Nat.le_of_ble_eq_true rfl⟩ (fun r_7 N_8 V_9 q_10 => ?_)
      obtain ⟨rfl, rfl⟩ := q_10
      refine aw_iload_n dX1_holdersTogether_26 rfl ?_
      refine aw_iand dX1_holdersTogether_27 ?_
      refine aw_istore (ls' := [some (.ref (b + c)), some (.int v4_1), some (.int (nI j4)), some (.int (pe_5 &&& (((1 : Int32) <<< ((nI j4) &&& 31)) ^^^ (-1)))), some (.int (r_7 &&& (pe_5 &&& (((1 : Int32) <<< ((nI j4) &&& 31)) ^^^ (-1))))), none]) dX1_holdersTogether_28 (Nat.le_of_ble_eq_true rfl) rfl ?_
      refine aw_iload dX1_holdersTogether_30 rfl ?_
      refine aw_iload dX1_holdersTogether_32 rfl ?_
      refine aw_ineg dX1_holdersTogether_34 ?_
      refine aw_iand dX1_holdersTogether_35 ?_
      refine aw_istore (ls' := [some (.ref (b + c)), some (.int v4_1), some (.int (nI j4)), some (.int (pe_5 &&& (((1 : Int32) <<< ((nI j4) &&& 31)) ^^^ (-1)))), some (.int (r_7 &&& (pe_5 &&& (((1 : Int32) <<< ((nI j4) &&& 31)) ^^^ (-1))))), some (.int ((r_7 &&& (pe_5 &&& (((1 : Int32) <<< ((nI j4) &&& 31)) ^^^ (-1)))) &&& (-(r_7 &&& (pe_5 &&& (((1 : Int32) <<< ((nI j4) &&& 31)) ^^^ (-1)))))))]) dX1_holdersTogether_36 (Nat.le_of_ble_eq_true rfl) rfl ?_
      refine aw_iload dX1_holdersTogether_38 rfl ?_
      refine aw_aload_n dX1_holdersTogether_40 rfl ?_
      refine aw_get dX1_holdersTogether_41 fl_X1_36 e_5 (by omega) rfl ?_
      refine aw_iload dX1_holdersTogether_44 rfl ?_
      refine aw_iload_n dX1_holdersTogether_46 rfl ?_
      refine aw_callSi (J' := jX1_reached) (As := [.ref (b + (c + 14)), .int ((r_7 &&& (pe_5 &&& (((1 : Int32) <<< ((nI j4) &&& 31)) ^^^ (-1)))) &&& (-(r_7 &&& (pe_5 &&& (((1 : Int32) <<< ((nI j4) &&& 31)) ^^^ (-1)))))), .int (pe_5 &&& (((1 : Int32) <<< ((nI j4) &&& 31)) ^^^ (-1)))]) (st := [.int (r_7 &&& (pe_5 &&& (((1 : Int32) <<< ((nI j4) &&& 31)) ^^^ (-1))))]) dX1_holdersTogether_47 tb_897 ok_X1_reached rfl (g_X1_reached l D b N V hN hJ0.1 (c + 14) (ctc_14 hc) ((r_7 &&& (pe_5 &&& (((1 : Int32) <<< ((nI j4) &&& 31)) ^^^ (-1)))) &&& (-(r_7 &&& (pe_5 &&& (((1 : Int32) <<< ((nI j4) &&& 31)) ^^^ (-1)))))) (pe_5 &&& (((1 : Int32) <<< ((nI j4) &&& 31)) ^^^ (-1)))) rfl (Nat.le_of_ble_eq_true rfl) ⟨Nat.le_of_ble_eq_true rfl, Nat.le_of_ble_eq_true rfl, Nat.le_of_ble_eq_true rfl, Nat.le_of_ble_eq_true rfl⟩ (fun r_12 N_13 V_14 q_15 => ?_)
      obtain ⟨rfl, rfl⟩ := q_15
      refine aw_iconst (v := (-1)) dX1_holdersTogether_50 (by decide) ?_
      refine aw_ixor dX1_holdersTogether_51 ?_
      refine aw_iand dX1_holdersTogether_52 ?_
      refine aw_if_eq (tgt := 62) dX1_holdersTogether_53 (by decide) (fun c_16 => ?_) (fun c_16 => ?_)
      · skip
        refine aw_iinc (v := (nI (j4 + 1))) (ls' := [some (.ref (b + c)), some (.int v4_1), some (.int (nI (j4 + 1))), some (.int (pe_5 &&& (((1 : Int32) <<< ((nI j4) &&& 31)) ^^^ (-1)))), some (.int (r_7 &&& (pe_5 &&& (((1 : Int32) <<< ((nI j4) &&& 31)) ^^^ (-1))))), some (.int ((r_7 &&& (pe_5 &&& (((1 : Int32) <<< ((nI j4) &&& 31)) ^^^ (-1)))) &&& (-(r_7 &&& (pe_5 &&& (((1 : Int32) <<< ((nI j4) &&& 31)) ^^^ (-1)))))))]) dX1_holdersTogether_62 rfl (fx_up_1 _) (Nat.le_of_ble_eq_true rfl) rfl ?_
        refine aw_goto (tgt := 4) dX1_holdersTogether_65 (by decide) ?_
        refine aw_le ?_ (ih_4_1 (j4 + 1) v4_1  (by omega))
        exact ⟨rfl, ⟨rfl, ⟨rfl, trivial⟩⟩⟩
      · skip
        refine aw_iload_n dX1_holdersTogether_56 rfl ?_
        refine aw_iconst (v := 1) dX1_holdersTogether_57 (by decide) ?_
        refine aw_iload_n dX1_holdersTogether_58 rfl ?_
        refine aw_ishl dX1_holdersTogether_59 ?_
        refine aw_ior dX1_holdersTogether_60 ?_
        refine aw_istore_n (ls' := [some (.ref (b + c)), some (.int (v4_1 ||| ((1 : Int32) <<< ((nI j4) &&& 31)))), some (.int (nI j4)), some (.int (pe_5 &&& (((1 : Int32) <<< ((nI j4) &&& 31)) ^^^ (-1)))), some (.int (r_7 &&& (pe_5 &&& (((1 : Int32) <<< ((nI j4) &&& 31)) ^^^ (-1))))), some (.int ((r_7 &&& (pe_5 &&& (((1 : Int32) <<< ((nI j4) &&& 31)) ^^^ (-1)))) &&& (-(r_7 &&& (pe_5 &&& (((1 : Int32) <<< ((nI j4) &&& 31)) ^^^ (-1)))))))]) dX1_holdersTogether_61 (Nat.le_of_ble_eq_true rfl) rfl ?_
        refine aw_iinc (v := (nI (j4 + 1))) (ls' := [some (.ref (b + c)), some (.int (v4_1 ||| ((1 : Int32) <<< ((nI j4) &&& 31)))), some (.int (nI (j4 + 1))), some (.int (pe_5 &&& (((1 : Int32) <<< ((nI j4) &&& 31)) ^^^ (-1)))), some (.int (r_7 &&& (pe_5 &&& (((1 : Int32) <<< ((nI j4) &&& 31)) ^^^ (-1))))), some (.int ((r_7 &&& (pe_5 &&& (((1 : Int32) <<< ((nI j4) &&& 31)) ^^^ (-1)))) &&& (-(r_7 &&& (pe_5 &&& (((1 : Int32) <<< ((nI j4) &&& 31)) ^^^ (-1)))))))]) dX1_holdersTogether_62 rfl (fx_up_1 _) (Nat.le_of_ble_eq_true rfl) rfl ?_
        refine aw_goto (tgt := 4) dX1_holdersTogether_65 (by decide) ?_
        refine aw_le ?_ (ih_4_1 (j4 + 1) (v4_1 ||| ((1 : Int32) <<< ((nI j4) &&& 31)))  (by omega))
        exact ⟨rfl, ⟨rfl, ⟨rfl, trivial⟩⟩⟩
  refine aw_le ?_ (loop_4_0 12 0 0  (by omega))
  exact ⟨rfl, ⟨rfl, ⟨rfl, trivial⟩⟩⟩

set_option maxHeartbeats 4000000 in
set_option maxRecDepth 100000 in
theorem g_X1_stepsBetween (l : Launch) (D : va_G) (b : Nat) (N : Nat) (V : Wd) (hN : 100 ≤ N) (hW : CW D b V) (c : Nat) (hc : c = 3 ∨ c = 21 ∨ c = 39 ∨ c = 74) (n0 : Int32) (n1 : Int32)  : MI l D b 2 jX1_stepsBetween [.ref (b + c), .int n0, .int n1] N V 0 0 (fun r N9 V9 => N = N9 ∧ V = V9) := by
  have hJ0 : JW D b N [] V V := JW.rf hW
  refine mw_of (by decide) (by simp [Value.category]) (Nat.le_of_ble_eq_true rfl) ?_
  show AW l D b jX1_stepsBetween (fx_rm 2 0 0) none (fx_MQ D b 0 0 (fx_qi (fun r N9 V9 => N = N9 ∧ V = V9))) 0 [some (.ref (b + c)), some (.int n0), some (.int n1), none, none] [] N V 0 0
  refine aw_iconst (v := 1) dX1_stepsBetween_0 (by decide) ?_
  refine aw_iload_n dX1_stepsBetween_1 rfl ?_
  refine aw_ishl dX1_stepsBetween_2 ?_
  refine aw_istore_n (ls' := [some (.ref (b + c)), some (.int n0), some (.int n1), some (.int ((1 : Int32) <<< (n0 &&& 31))), none]) dX1_stepsBetween_3 (Nat.le_of_ble_eq_true rfl) rfl ?_
  refine aw_iconst (v := 0) dX1_stepsBetween_4 (by decide) ?_
  refine aw_istore (ls' := [some (.ref (b + c)), some (.int n0), some (.int n1), some (.int ((1 : Int32) <<< (n0 &&& 31))), some (.int 0)]) dX1_stepsBetween_5 (Nat.le_of_ble_eq_true rfl) rfl ?_
  have loop_7_0 : ∀ (g_7 : Nat), ∀ (j7 : Nat) (v7_3 : Int32), j7 + g_7 = 12 → AW l D b jX1_stepsBetween (fx_rm 2 0 0) none (fx_MQ D b 0 0 (fx_qi (fun r N9 V9 => N = N9 ∧ V = V9))) 7 [some (.ref (b + c)), some (.int n0), some (.int n1), some (.int v7_3), some (.int (nI j7))] [] N V 0 0 := by
    intro g_7
    induction g_7 with
    | zero =>
      intro j7 v7_3 hj7
      obtain rfl : j7 = 12 := by omega
      refine aw_iload dX1_stepsBetween_7 rfl ?_
      refine aw_bipush (v := 12) dX1_stepsBetween_9 (by decide) ?_
      refine aw_icmp_ge (tgt := 42) dX1_stepsBetween_11 (by decide) (fun c_3 => ?_) (fun c_3 => ?_)
      rotate_left
      · exact absurd (nI_le (a := 12) (b := 12) (Nat.le_refl _) (by omega)) c_3
      refine aw_bipush (v := (-2)) dX1_stepsBetween_42 (by decide) ?_
      refine aw_ireti dX1_stepsBetween_44 rfl (Nat.le_of_ble_eq_true rfl) (Nat.le_of_ble_eq_true rfl) ?_
      exact ⟨rfl, rfl⟩
    | succ g_7 ih_7_1 =>
      intro j7 v7_3 hj7
      have hlj7 : j7 < 12 := by omega
      refine aw_iload dX1_stepsBetween_7 rfl ?_
      refine aw_bipush (v := 12) dX1_stepsBetween_9 (by decide) ?_
      refine aw_icmp_ge (tgt := 42) dX1_stepsBetween_11 (by decide) (fun c_4 => ?_) (fun c_4 => ?_)
      · exact absurd c_4 (nI_ge (a := j7) (b := 12) (by omega) (by omega))
      refine aw_iload_n dX1_stepsBetween_14 rfl ?_
      refine aw_iload_n dX1_stepsBetween_15 rfl ?_
      refine aw_callSNi (J' := jX11_has) (As := [.int v7_3, .int n1]) (st := []) dX1_stepsBetween_16 tb_834 ok_X11_has rfl (g_X11_has l D b N V hN hJ0.1 v7_3 n1) rfl (Nat.le_of_ble_eq_true rfl) ⟨Nat.le_of_ble_eq_true rfl, Nat.le_of_ble_eq_true rfl, Nat.le_of_ble_eq_true rfl, Nat.le_of_ble_eq_true rfl⟩ (fun r_7 N_8 V_9 q_10 => ?_)
      obtain ⟨h_6, rfl, rfl⟩ := q_10
      refine aw_if_eq (tgt := 25) dX1_stepsBetween_19 (by decide) (fun c_11 => ?_) (fun c_11 => ?_)
      · skip
        refine aw_iload_n dX1_stepsBetween_25 rfl ?_
        refine aw_aload_n dX1_stepsBetween_26 rfl ?_
        obtain ⟨pe_12, dd_12, ni_12, xx_12, e_12⟩ := JW.get hJ0 (ctc_0 hc)
        refine aw_get dX1_stepsBetween_27 fl_X1_36 e_12 (by omega) rfl ?_
        refine aw_iload_n dX1_stepsBetween_30 rfl ?_
        refine aw_callSi (J' := jX1_beside) (As := [.ref (b + (c + 14)), .int v7_3]) (st := [.int v7_3]) dX1_stepsBetween_31 tb_900 ok_X1_beside rfl (g_X1_beside l D b N V hN hJ0.1 (c + 14) (ctc_14 hc) v7_3) rfl (Nat.le_of_ble_eq_true rfl) ⟨Nat.le_of_ble_eq_true rfl, Nat.le_of_ble_eq_true rfl, Nat.le_of_ble_eq_true rfl, Nat.le_of_ble_eq_true rfl⟩ (fun r_14 N_15 V_16 q_17 => ?_)
        obtain ⟨rfl, rfl⟩ := q_17
        refine aw_ior dX1_stepsBetween_34 ?_
        refine aw_istore_n (ls' := [some (.ref (b + c)), some (.int n0), some (.int n1), some (.int (v7_3 ||| r_14)), some (.int (nI j7))]) dX1_stepsBetween_35 (Nat.le_of_ble_eq_true rfl) rfl ?_
        refine aw_iinc (v := (nI (j7 + 1))) (ls' := [some (.ref (b + c)), some (.int n0), some (.int n1), some (.int (v7_3 ||| r_14)), some (.int (nI (j7 + 1)))]) dX1_stepsBetween_36 rfl (fx_up_1 _) (Nat.le_of_ble_eq_true rfl) rfl ?_
        refine aw_goto (tgt := 7) dX1_stepsBetween_39 (by decide) ?_
        refine aw_le ?_ (ih_7_1 (j7 + 1) (v7_3 ||| r_14)  (by omega))
        exact ⟨rfl, ⟨rfl, ⟨rfl, ⟨rfl, ⟨rfl, trivial⟩⟩⟩⟩⟩
      · skip
        refine aw_iload dX1_stepsBetween_22 rfl ?_
        refine aw_ireti dX1_stepsBetween_24 rfl (Nat.le_of_ble_eq_true rfl) (Nat.le_of_ble_eq_true rfl) ?_
        exact ⟨rfl, rfl⟩
  refine aw_le ?_ (loop_7_0 12 0 ((1 : Int32) <<< (n0 &&& 31))  (by omega))
  exact ⟨rfl, ⟨rfl, ⟨rfl, ⟨rfl, ⟨rfl, trivial⟩⟩⟩⟩⟩

set_option maxHeartbeats 4000000 in
set_option maxRecDepth 100000 in
theorem g_X1_grownFashion (l : Launch) (D : va_G) (b : Nat) (N : Nat) (V : Wd) (hN : 100 ≤ N) (hW : CW D b V) (c : Nat) (hc : c = 3 ∨ c = 21 ∨ c = 39 ∨ c = 74) (n0 : Int32) (n1 : Int32)  : MI l D b 1 jX1_grownFashion [.ref (b + c), .int n0, .int n1] N V 0 0 (fun r N9 V9 => N = N9 ∧ V = V9) := by
  have hJ0 : JW D b N [] V V := JW.rf hW
  refine mw_of (by decide) (by simp [Value.category]) (Nat.le_of_ble_eq_true rfl) ?_
  show AW l D b jX1_grownFashion (fx_rm 1 0 0) none (fx_MQ D b 0 0 (fx_qi (fun r N9 V9 => N = N9 ∧ V = V9))) 0 [some (.ref (b + c)), some (.int n0), some (.int n1), none, none] [] N V 0 0
  refine aw_iload_n dX1_grownFashion_0 rfl ?_
  refine aw_istore_n (ls' := [some (.ref (b + c)), some (.int n0), some (.int n1), some (.int n0), none]) dX1_grownFashion_1 (Nat.le_of_ble_eq_true rfl) rfl ?_
  refine aw_iconst (v := 0) dX1_grownFashion_2 (by decide) ?_
  refine aw_istore (ls' := [some (.ref (b + c)), some (.int n0), some (.int n1), some (.int n0), some (.int 0)]) dX1_grownFashion_3 (Nat.le_of_ble_eq_true rfl) rfl ?_
  have loop_5_0 : ∀ (g_5 : Nat), ∀ (j5 : Nat) (v5_3 : Int32), j5 + g_5 = 12 → AW l D b jX1_grownFashion (fx_rm 1 0 0) none (fx_MQ D b 0 0 (fx_qi (fun r N9 V9 => N = N9 ∧ V = V9))) 5 [some (.ref (b + c)), some (.int n0), some (.int n1), some (.int v5_3), some (.int (nI j5))] [] N V 0 0 := by
    intro g_5
    induction g_5 with
    | zero =>
      intro j5 v5_3 hj5
      obtain rfl : j5 = 12 := by omega
      refine aw_iload dX1_grownFashion_5 rfl ?_
      refine aw_bipush (v := 12) dX1_grownFashion_7 (by decide) ?_
      refine aw_icmp_ge (tgt := 40) dX1_grownFashion_9 (by decide) (fun c_3 => ?_) (fun c_3 => ?_)
      rotate_left
      · exact absurd (nI_le (a := 12) (b := 12) (Nat.le_refl _) (by omega)) c_3
      refine aw_iload_n dX1_grownFashion_40 rfl ?_
      refine aw_ireti dX1_grownFashion_41 rfl (Nat.le_of_ble_eq_true rfl) (Nat.le_of_ble_eq_true rfl) ?_
      exact ⟨rfl, rfl⟩
    | succ g_5 ih_5_1 =>
      intro j5 v5_3 hj5
      have hlj5 : j5 < 12 := by omega
      refine aw_iload dX1_grownFashion_5 rfl ?_
      refine aw_bipush (v := 12) dX1_grownFashion_7 (by decide) ?_
      refine aw_icmp_ge (tgt := 40) dX1_grownFashion_9 (by decide) (fun c_4 => ?_) (fun c_4 => ?_)
      · exact absurd c_4 (nI_ge (a := j5) (b := 12) (by omega) (by omega))
      refine aw_aload_n dX1_grownFashion_12 rfl ?_
      refine aw_iload dX1_grownFashion_13 rfl ?_
      obtain ⟨pe_6, dd_6, ni_6, xx_6, e_6⟩ := JW.get hJ0 (ctc_0 hc)
      refine aw_callVi (J' := jX0_knownTo) (As := [.int (nI j5)]) (st := []) dX1_grownFashion_15 tb_847 ok_X0_knownTo ⟨_, e_6⟩ (by omega) rfl rfl (g_X0_knownTo l D b N V hN hJ0.1 c hc (nI j5)) rfl (Nat.le_of_ble_eq_true rfl) ⟨Nat.le_of_ble_eq_true rfl, Nat.le_of_ble_eq_true rfl, Nat.le_of_ble_eq_true rfl, Nat.le_of_ble_eq_true rfl⟩ (fun r_7 N_8 V_9 q_10 => ?_)
      obtain ⟨rfl, rfl⟩ := q_10
      refine aw_iload_n dX1_grownFashion_18 rfl ?_
      refine aw_iand dX1_grownFashion_19 ?_
      refine aw_callSi (J' := jJ6_bitCount_0f7a4) (As := [.int (r_7 &&& n0)]) (st := []) dX1_grownFashion_20 tb_848 ok_J6_bitCount_0f7a4 rfl (c_bitCount l D b N V (r_7 &&& n0)) rfl (Nat.le_of_ble_eq_true rfl) ⟨Nat.le_of_ble_eq_true rfl, Nat.le_of_ble_eq_true rfl, Nat.le_of_ble_eq_true rfl, Nat.le_of_ble_eq_true rfl⟩ (fun r_11 N_12 V_13 q_14 => ?_)
      obtain ⟨rfl, rfl⟩ := q_14
      refine aw_iload_n dX1_grownFashion_23 rfl ?_
      refine aw_icmp_lt (tgt := 34) dX1_grownFashion_24 (by decide) (fun c_15 => ?_) (fun c_15 => ?_)
      · skip
        refine aw_iinc (v := (nI (j5 + 1))) (ls' := [some (.ref (b + c)), some (.int n0), some (.int n1), some (.int v5_3), some (.int (nI (j5 + 1)))]) dX1_grownFashion_34 rfl (fx_up_1 _) (Nat.le_of_ble_eq_true rfl) rfl ?_
        refine aw_goto (tgt := 5) dX1_grownFashion_37 (by decide) ?_
        refine aw_le ?_ (ih_5_1 (j5 + 1) v5_3  (by omega))
        exact ⟨rfl, ⟨rfl, ⟨rfl, ⟨rfl, ⟨rfl, trivial⟩⟩⟩⟩⟩
      · skip
        refine aw_iload_n dX1_grownFashion_27 rfl ?_
        refine aw_iconst (v := 1) dX1_grownFashion_28 (by decide) ?_
        refine aw_iload dX1_grownFashion_29 rfl ?_
        refine aw_ishl dX1_grownFashion_31 ?_
        refine aw_ior dX1_grownFashion_32 ?_
        refine aw_istore_n (ls' := [some (.ref (b + c)), some (.int n0), some (.int n1), some (.int (v5_3 ||| ((1 : Int32) <<< ((nI j5) &&& 31)))), some (.int (nI j5))]) dX1_grownFashion_33 (Nat.le_of_ble_eq_true rfl) rfl ?_
        refine aw_iinc (v := (nI (j5 + 1))) (ls' := [some (.ref (b + c)), some (.int n0), some (.int n1), some (.int (v5_3 ||| ((1 : Int32) <<< ((nI j5) &&& 31)))), some (.int (nI (j5 + 1)))]) dX1_grownFashion_34 rfl (fx_up_1 _) (Nat.le_of_ble_eq_true rfl) rfl ?_
        refine aw_goto (tgt := 5) dX1_grownFashion_37 (by decide) ?_
        refine aw_le ?_ (ih_5_1 (j5 + 1) (v5_3 ||| ((1 : Int32) <<< ((nI j5) &&& 31)))  (by omega))
        exact ⟨rfl, ⟨rfl, ⟨rfl, ⟨rfl, ⟨rfl, trivial⟩⟩⟩⟩⟩
  refine aw_le ?_ (loop_5_0 12 0 n0  (by omega))
  exact ⟨rfl, ⟨rfl, ⟨rfl, ⟨rfl, ⟨rfl, trivial⟩⟩⟩⟩⟩

set_option maxHeartbeats 4000000 in
set_option maxRecDepth 100000 in
theorem g_X1_difference (l : Launch) (D : va_G) (b : Nat) (N : Nat) (V : Wd) (hN : 100 ≤ N) (hW : CW D b V) (c : Nat) (hc : c = 3 ∨ c = 21 ∨ c = 39 ∨ c = 74) (n0 : Int32) (n1 : Int32)  : MI l D b 1 jX1_difference [.ref (b + c), .int n0, .int n1] N V 0 0 (fun r N9 V9 => N = N9 ∧ V = V9) := by
  have hJ0 : JW D b N [] V V := JW.rf hW
  refine mw_of (by decide) (by simp [Value.category]) (Nat.le_of_ble_eq_true rfl) ?_
  show AW l D b jX1_difference (fx_rm 1 0 0) none (fx_MQ D b 0 0 (fx_qi (fun r N9 V9 => N = N9 ∧ V = V9))) 0 [some (.ref (b + c)), some (.int n0), some (.int n1), none, none] [] N V 0 0
  refine aw_iconst (v := 0) dX1_difference_0 (by decide) ?_
  refine aw_istore_n (ls' := [some (.ref (b + c)), some (.int n0), some (.int n1), some (.int 0), none]) dX1_difference_1 (Nat.le_of_ble_eq_true rfl) rfl ?_
  refine aw_iconst (v := 0) dX1_difference_2 (by decide) ?_
  refine aw_istore (ls' := [some (.ref (b + c)), some (.int n0), some (.int n1), some (.int 0), some (.int 0)]) dX1_difference_3 (Nat.le_of_ble_eq_true rfl) rfl ?_
  have loop_5_0 : ∀ (g_5 : Nat), ∀ (j5 : Nat) (v5_3 : Int32), j5 + g_5 = 16 → AW l D b jX1_difference (fx_rm 1 0 0) none (fx_MQ D b 0 0 (fx_qi (fun r N9 V9 => N = N9 ∧ V = V9))) 5 [some (.ref (b + c)), some (.int n0), some (.int n1), some (.int v5_3), some (.int (nI j5))] [] N V 0 0 := by
    intro g_5
    induction g_5 with
    | zero =>
      intro j5 v5_3 hj5
      obtain rfl : j5 = 16 := by omega
      refine aw_iload dX1_difference_5 rfl ?_
      refine aw_bipush (v := 16) dX1_difference_7 (by decide) ?_
      refine aw_icmp_ge (tgt := 39) dX1_difference_9 (by decide) (fun c_3 => ?_) (fun c_3 => ?_)
      rotate_left
      · exact absurd (nI_le (a := 16) (b := 16) (Nat.le_refl _) (by omega)) c_3
      refine aw_iload_n dX1_difference_39 rfl ?_
      refine aw_ireti dX1_difference_40 rfl (Nat.le_of_ble_eq_true rfl) (Nat.le_of_ble_eq_true rfl) ?_
      exact ⟨rfl, rfl⟩
    | succ g_5 ih_5_1 =>
      intro j5 v5_3 hj5
      have hlj5 : j5 < 16 := by omega
      refine aw_iload dX1_difference_5 rfl ?_
      refine aw_bipush (v := 16) dX1_difference_7 (by decide) ?_
      refine aw_icmp_ge (tgt := 39) dX1_difference_9 (by decide) (fun c_4 => ?_) (fun c_4 => ?_)
      · exact absurd c_4 (nI_ge (a := j5) (b := 16) (by omega) (by omega))
      refine aw_iload_n dX1_difference_12 rfl ?_
      refine aw_aload_n dX1_difference_13 rfl ?_
      refine aw_iload_n dX1_difference_14 rfl ?_
      refine aw_iload dX1_difference_15 rfl ?_
      obtain ⟨pe_6, dd_6, ni_6, xx_6, e_6⟩ := JW.get hJ0 (ctc_0 hc)
      refine aw_callVi (J' := jX0_dreadOf) (As := [.int n0, .int (nI j5)]) (st := [.int v5_3]) dX1_difference_17 tb_870 ok_X0_dreadOf ⟨_, e_6⟩ (by omega) rfl rfl (g_X0_dreadOf l D b N V hN hJ0.1 c hc n0 (nI j5)) rfl (Nat.le_of_ble_eq_true rfl) ⟨Nat.le_of_ble_eq_true rfl, Nat.le_of_ble_eq_true rfl, Nat.le_of_ble_eq_true rfl, Nat.le_of_ble_eq_true rfl⟩ (fun r_7 N_8 V_9 q_10 => ?_)
      obtain ⟨rfl, rfl⟩ := q_10
      refine aw_aload_n dX1_difference_20 rfl ?_
      refine aw_iload_n dX1_difference_21 rfl ?_
      refine aw_iload dX1_difference_22 rfl ?_
      refine aw_callVi (J' := jX0_dreadOf) (As := [.int n1, .int (nI j5)]) (st := [.int r_7, .int v5_3]) dX1_difference_24 tb_870 ok_X0_dreadOf ⟨_, e_6⟩ (by omega) rfl rfl (g_X0_dreadOf l D b N V hN hJ0.1 c hc n1 (nI j5)) rfl (Nat.le_of_ble_eq_true rfl) ⟨Nat.le_of_ble_eq_true rfl, Nat.le_of_ble_eq_true rfl, Nat.le_of_ble_eq_true rfl, Nat.le_of_ble_eq_true rfl⟩ (fun r_12 N_13 V_14 q_15 => ?_)
      obtain ⟨rfl, rfl⟩ := q_15
      refine aw_isub dX1_difference_27 ?_
      refine aw_mabs dX1_difference_28 tb_871 tb_787 tb_13 tb_788 ⟨Nat.le_of_ble_eq_true rfl, Nat.le_of_ble_eq_true rfl, Nat.le_of_ble_eq_true rfl, Nat.le_of_ble_eq_true rfl⟩ ?_
      refine aw_iadd dX1_difference_31 ?_
      refine aw_istore_n (ls' := [some (.ref (b + c)), some (.int n0), some (.int n1), some (.int (v5_3 + (if 0 ≤ (r_7 - r_12) then (r_7 - r_12) else 0 - (r_7 - r_12)))), some (.int (nI j5))]) dX1_difference_32 (Nat.le_of_ble_eq_true rfl) rfl ?_
      refine aw_iinc (v := (nI (j5 + 1))) (ls' := [some (.ref (b + c)), some (.int n0), some (.int n1), some (.int (v5_3 + (if 0 ≤ (r_7 - r_12) then (r_7 - r_12) else 0 - (r_7 - r_12)))), some (.int (nI (j5 + 1)))]) dX1_difference_33 rfl (fx_up_1 _) (Nat.le_of_ble_eq_true rfl) rfl ?_
      refine aw_goto (tgt := 5) dX1_difference_36 (by decide) ?_
      refine aw_le ?_ (ih_5_1 (j5 + 1) (v5_3 + (if 0 ≤ (r_7 - r_12) then (r_7 - r_12) else 0 - (r_7 - r_12)))  (by omega))
      exact ⟨rfl, ⟨rfl, ⟨rfl, ⟨rfl, ⟨rfl, trivial⟩⟩⟩⟩⟩
  refine aw_le ?_ (loop_5_0 16 0 0  (by omega))
  exact ⟨rfl, ⟨rfl, ⟨rfl, ⟨rfl, ⟨rfl, trivial⟩⟩⟩⟩⟩

set_option maxHeartbeats 4000000 in
set_option maxRecDepth 100000 in
theorem g_X1_nearestTo (l : Launch) (D : va_G) (b : Nat) (N : Nat) (V : Wd) (hN : 100 ≤ N) (hW : CW D b V) (c : Nat) (hc : c = 3 ∨ c = 21 ∨ c = 39 ∨ c = 74) (n0 : Int32)  : MI l D b 2 jX1_nearestTo [.ref (b + c), .int n0] N V 0 0 (fun r N9 V9 => N = N9 ∧ V = V9) := by
  have hJ0 : JW D b N [] V V := JW.rf hW
  refine mw_of (by decide) (by simp [Value.category]) (Nat.le_of_ble_eq_true rfl) ?_
  show AW l D b jX1_nearestTo (fx_rm 2 0 0) none (fx_MQ D b 0 0 (fx_qi (fun r N9 V9 => N = N9 ∧ V = V9))) 0 [some (.ref (b + c)), some (.int n0), none, none, none] [] N V 0 0
  refine aw_bipush (v := (-2)) dX1_nearestTo_0 (by decide) ?_
  refine aw_istore_n (ls' := [some (.ref (b + c)), some (.int n0), some (.int (-2)), none, none]) dX1_nearestTo_2 (Nat.le_of_ble_eq_true rfl) rfl ?_
  refine aw_sipush (v := 1585) dX1_nearestTo_3 (by decide) ?_
  refine aw_istore_n (ls' := [some (.ref (b + c)), some (.int n0), some (.int (-2)), some (.int 1585), none]) dX1_nearestTo_6 (Nat.le_of_ble_eq_true rfl) rfl ?_
  refine aw_iconst (v := 0) dX1_nearestTo_7 (by decide) ?_
  refine aw_istore (ls' := [some (.ref (b + c)), some (.int n0), some (.int (-2)), some (.int 1585), some (.int 0)]) dX1_nearestTo_8 (Nat.le_of_ble_eq_true rfl) rfl ?_
  have loop_10_0 : ∀ (g_10 : Nat), ∀ (j10 : Nat) (v10_2 : Int32) (v10_3 : Int32), j10 + g_10 = 12 → AW l D b jX1_nearestTo (fx_rm 2 0 0) none (fx_MQ D b 0 0 (fx_qi (fun r N9 V9 => N = N9 ∧ V = V9))) 10 [some (.ref (b + c)), some (.int n0), some (.int v10_2), some (.int v10_3), some (.int (nI j10))] [] N V 0 0 := by
    intro g_10
    induction g_10 with
    | zero =>
      intro j10 v10_2 v10_3 hj10
      obtain rfl : j10 = 12 := by omega
      refine aw_iload dX1_nearestTo_10 rfl ?_
      refine aw_bipush (v := 12) dX1_nearestTo_12 (by decide) ?_
      refine aw_icmp_ge (tgt := 60) dX1_nearestTo_14 (by decide) (fun c_3 => ?_) (fun c_3 => ?_)
      rotate_left
      · exact absurd (nI_le (a := 12) (b := 12) (Nat.le_refl _) (by omega)) c_3
      refine aw_iload_n dX1_nearestTo_60 rfl ?_
      refine aw_ireti dX1_nearestTo_61 rfl (Nat.le_of_ble_eq_true rfl) (Nat.le_of_ble_eq_true rfl) ?_
      exact ⟨rfl, rfl⟩
    | succ g_10 ih_10_1 =>
      intro j10 v10_2 v10_3 hj10
      have hlj10 : j10 < 12 := by omega
      refine aw_iload dX1_nearestTo_10 rfl ?_
      refine aw_bipush (v := 12) dX1_nearestTo_12 (by decide) ?_
      refine aw_icmp_ge (tgt := 60) dX1_nearestTo_14 (by decide) (fun c_4 => ?_) (fun c_4 => ?_)
      · exact absurd c_4 (nI_ge (a := j10) (b := 12) (by omega) (by omega))
      refine aw_iload dX1_nearestTo_17 rfl ?_
      refine aw_iload_n dX1_nearestTo_19 rfl ?_
      refine aw_icmp_eq (tgt := 54) dX1_nearestTo_20 (by decide) (fun c_5 => ?_) (fun c_5 => ?_)
      · skip
        refine aw_iinc (v := (nI (j10 + 1))) (ls' := [some (.ref (b + c)), some (.int n0), some (.int v10_2), some (.int v10_3), some (.int (nI (j10 + 1)))]) dX1_nearestTo_54 rfl (fx_up_1 _) (Nat.le_of_ble_eq_true rfl) rfl ?_
        refine aw_goto (tgt := 10) dX1_nearestTo_57 (by decide) ?_
        refine aw_le ?_ (ih_10_1 (j10 + 1) v10_2 v10_3  (by omega))
        exact ⟨rfl, ⟨rfl, ⟨rfl, ⟨rfl, ⟨rfl, trivial⟩⟩⟩⟩⟩
      · skip
        refine aw_aload_n dX1_nearestTo_23 rfl ?_
        refine aw_iload dX1_nearestTo_24 rfl ?_
        obtain ⟨pe_9, dd_9, ni_9, xx_9, e_9⟩ := JW.get hJ0 (ctc_0 hc)
        refine aw_callVi (J' := jX0_isPerson) (As := [.int (nI j10)]) (st := []) dX1_nearestTo_26 tb_879 ok_X0_isPerson ⟨_, e_9⟩ (by omega) rfl rfl (g_X0_isPerson l D b N V hN hJ0.1 c hc (nI j10)) rfl (Nat.le_of_ble_eq_true rfl) ⟨Nat.le_of_ble_eq_true rfl, Nat.le_of_ble_eq_true rfl, Nat.le_of_ble_eq_true rfl, Nat.le_of_ble_eq_true rfl⟩ (fun r_10 N_11 V_12 q_13 => ?_)
        obtain ⟨⟨z_8, h_7⟩, rfl, rfl⟩ := q_13
        refine aw_if_eq (tgt := 54) dX1_nearestTo_29 (by decide) (fun c_14 => ?_) (fun c_14 => ?_)
        · skip
          refine aw_iinc (v := (nI (j10 + 1))) (ls' := [some (.ref (b + c)), some (.int n0), some (.int v10_2), some (.int v10_3), some (.int (nI (j10 + 1)))]) dX1_nearestTo_54 rfl (fx_up_1 _) (Nat.le_of_ble_eq_true rfl) rfl ?_
          refine aw_goto (tgt := 10) dX1_nearestTo_57 (by decide) ?_
          refine aw_le ?_ (ih_10_1 (j10 + 1) v10_2 v10_3  (by omega))
          exact ⟨rfl, ⟨rfl, ⟨rfl, ⟨rfl, ⟨rfl, trivial⟩⟩⟩⟩⟩
        · skip
          refine aw_aload_n dX1_nearestTo_32 rfl ?_
          refine aw_iload_n dX1_nearestTo_33 rfl ?_
          refine aw_iload dX1_nearestTo_34 rfl ?_
          refine aw_callSi (J' := jX1_difference) (As := [.ref (b + c), .int n0, .int (nI j10)]) (st := []) dX1_nearestTo_36 tb_880 ok_X1_difference rfl (g_X1_difference l D b N V hN hJ0.1 c hc n0 (nI j10)) rfl (Nat.le_of_ble_eq_true rfl) ⟨Nat.le_of_ble_eq_true rfl, Nat.le_of_ble_eq_true rfl, Nat.le_of_ble_eq_true rfl, Nat.le_of_ble_eq_true rfl⟩ (fun r_16 N_17 V_18 q_19 => ?_)
          obtain ⟨rfl, rfl⟩ := q_19
          refine aw_iload_n dX1_nearestTo_39 rfl ?_
          refine aw_icmp_ge (tgt := 54) dX1_nearestTo_40 (by decide) (fun c_20 => ?_) (fun c_20 => ?_)
          · skip
            refine aw_iinc (v := (nI (j10 + 1))) (ls' := [some (.ref (b + c)), some (.int n0), some (.int v10_2), some (.int v10_3), some (.int (nI (j10 + 1)))]) dX1_nearestTo_54 rfl (fx_up_1 _) (Nat.le_of_ble_eq_true rfl) rfl ?_
            refine aw_goto (tgt := 10) dX1_nearestTo_57 (by decide) ?_
            refine aw_le ?_ (ih_10_1 (j10 + 1) v10_2 v10_3  (by omega))
            exact ⟨rfl, ⟨rfl, ⟨rfl, ⟨rfl, ⟨rfl, trivial⟩⟩⟩⟩⟩
          · skip
            refine aw_iload dX1_nearestTo_43 rfl ?_
            refine aw_istore_n (ls' := [some (.ref (b + c)), some (.int n0), some (.int (nI j10)), some (.int v10_3), some (.int (nI j10))]) dX1_nearestTo_45 (Nat.le_of_ble_eq_true rfl) rfl ?_
            refine aw_aload_n dX1_nearestTo_46 rfl ?_
            refine aw_iload_n dX1_nearestTo_47 rfl ?_
            refine aw_iload dX1_nearestTo_48 rfl ?_
            refine aw_callSi (J' := jX1_difference) (As := [.ref (b + c), .int n0, .int (nI j10)]) (st := []) dX1_nearestTo_50 tb_880 ok_X1_difference rfl (g_X1_difference l D b N V hN hJ0.1 c hc n0 (nI j10)) rfl (Nat.le_of_ble_eq_true rfl) ⟨Nat.le_of_ble_eq_true rfl, Nat.le_of_ble_eq_true rfl, Nat.le_of_ble_eq_true rfl, Nat.le_of_ble_eq_true rfl⟩ (fun r_22 N_23 V_24 q_25 => ?_)
            obtain ⟨rfl, rfl⟩ := q_25
            refine aw_istore_n (ls' := [some (.ref (b + c)), some (.int n0), some (.int (nI j10)), some (.int r_22), some (.int (nI j10))]) dX1_nearestTo_53 (Nat.le_of_ble_eq_true rfl) rfl ?_
            refine aw_iinc (v := (nI (j10 + 1))) (ls' := [some (.ref (b + c)), some (.int n0), some (.int (nI j10)), some (.int r_22), some (.int (nI (j10 + 1)))]) dX1_nearestTo_54 rfl (fx_up_1 _) (Nat.le_of_ble_eq_true rfl) rfl ?_
            refine aw_goto (tgt := 10) dX1_nearestTo_57 (by decide) ?_
            refine aw_le ?_ (ih_10_1 (j10 + 1) (nI j10) r_22  (by omega))
            exact ⟨rfl, ⟨rfl, ⟨rfl, ⟨rfl, ⟨rfl, trivial⟩⟩⟩⟩⟩
  refine aw_le ?_ (loop_10_0 12 0 (-2) 1585  (by omega))
  exact ⟨rfl, ⟨rfl, ⟨rfl, ⟨rfl, ⟨rfl, trivial⟩⟩⟩⟩⟩

set_option maxHeartbeats 4000000 in
set_option maxRecDepth 100000 in
theorem g_X1_linkAlike (l : Launch) (D : va_G) (b : Nat) (N : Nat) (V : Wd) (hN : 100 ≤ N) (hW : CW D b V) (c : Nat) (hc : c = 3 ∨ c = 21 ∨ c = 39 ∨ c = 74) (n0 : Int32)  : MV l D b 2 jX1_linkAlike [.ref (b + 94), .ref (b + c), .int n0] N V 0 0 (fun N9 V9 => N = N9 ∧ JW D b N [(95, 95, 0, 1000000)] V V9) := by
  have hJ0 : JW D b N [(95, 95, 0, 1000000)] V V := JW.rf hW
  refine mw_of (by decide) (by simp [Value.category]) (Nat.le_of_ble_eq_true rfl) ?_
  show AW l D b jX1_linkAlike (fx_rm 2 0 0) none (fx_MQ D b 0 0 (fx_qv (fun N9 V9 => N = N9 ∧ JW D b N [(95, 95, 0, 1000000)] V V9))) 0 [some (.ref (b + 94)), some (.ref (b + c)), some (.int n0), none, none] [] N V 0 0
  refine aw_iconst (v := 0) dX1_linkAlike_0 (by decide) ?_
  refine aw_istore_n (ls' := [some (.ref (b + 94)), some (.ref (b + c)), some (.int n0), some (.int 0), none]) dX1_linkAlike_1 (Nat.le_of_ble_eq_true rfl) rfl ?_
  have loop_2_0 : ∀ (g_2 : Nat), ∀ (j2 : Nat)  (V2 : Wd), j2 + g_2 = 12 → (JW D b N [(95, 95, 0, 1000000)] V V2) → AW l D b jX1_linkAlike (fx_rm 2 0 0) none (fx_MQ D b 0 0 (fx_qv (fun N9 V9 => N = N9 ∧ JW D b N [(95, 95, 0, 1000000)] V V9))) 2 [some (.ref (b + 94)), some (.ref (b + c)), some (.int n0), some (.int (nI j2)), none] [] N V2 0 0 := by
    intro g_2
    induction g_2 with
    | zero =>
      intro j2  V2 hj2 i2_0
      obtain rfl : j2 = 12 := by omega
      refine aw_iload_n dX1_linkAlike_2 rfl ?_
      refine aw_bipush (v := 12) dX1_linkAlike_3 (by decide) ?_
      refine aw_icmp_ge (tgt := 78) dX1_linkAlike_5 (by decide) (fun c_3 => ?_) (fun c_3 => ?_)
      rotate_left
      · exact absurd (nI_le (a := 12) (b := 12) (Nat.le_refl _) (by omega)) c_3
      refine aw_vreti dX1_linkAlike_78 rfl (Nat.le_of_ble_eq_true rfl) (Nat.le_of_ble_eq_true rfl) ?_
      exact ⟨rfl, i2_0⟩
    | succ g_2 ih_2_1 =>
      intro j2  V2 hj2 i2_0
      have hlj2 : j2 < 12 := by omega
      refine aw_iload_n dX1_linkAlike_2 rfl ?_
      refine aw_bipush (v := 12) dX1_linkAlike_3 (by decide) ?_
      refine aw_icmp_ge (tgt := 78) dX1_linkAlike_5 (by decide) (fun c_4 => ?_) (fun c_4 => ?_)
      · exact absurd c_4 (nI_ge (a := j2) (b := 12) (by omega) (by omega))
      refine aw_aload_n dX1_linkAlike_8 rfl ?_
      have e_5 := JW.get i2_0 ct_94
      refine aw_get dX1_linkAlike_9 fl_X1_9 e_5 (by omega) rfl ?_
      refine aw_iload_n dX1_linkAlike_12 rfl ?_
      refine aw_iconst (v := 0) dX1_linkAlike_13 (by decide) ?_
      obtain ⟨g_6, e_6⟩ := JW.get i2_0 ct_95
      refine aw_iast dX1_linkAlike_14 e_6 (by omega) (vp_in_nI (n := j2) (by omega) (by omega)) ?_
      refine aw_up i2_0 ct_95 ⟨_, rfl⟩ (WA LM0 (by decide) (by decide)) (fun V_7 j_7 k_7 e_7 => ?_)
      refine aw_iconst (v := 0) dX1_linkAlike_15 (by decide) ?_
      refine aw_istore (ls' := [some (.ref (b + 94)), some (.ref (b + c)), some (.int n0), some (.int (nI j2)), some (.int 0)]) dX1_linkAlike_16 (Nat.le_of_ble_eq_true rfl) rfl ?_
      have loop_18_7 : ∀ (g_18 : Nat), ∀ (j18 : Nat)  (V18 : Wd), j18 + g_18 = 12 → (JW D b N [(95, 95, 0, 1000000)] V V18) → AW l D b jX1_linkAlike (fx_rm 2 0 0) none (fx_MQ D b 0 0 (fx_qv (fun N9 V9 => N = N9 ∧ JW D b N [(95, 95, 0, 1000000)] V V9))) 18 [some (.ref (b + 94)), some (.ref (b + c)), some (.int n0), some (.int (nI j2)), some (.int (nI j18))] [] N V18 0 0 := by
        intro g_18
        induction g_18 with
        | zero =>
          intro j18  V18 hj18 i18_0
          obtain rfl : j18 = 12 := by omega
          refine aw_iload dX1_linkAlike_18 rfl ?_
          refine aw_bipush (v := 12) dX1_linkAlike_20 (by decide) ?_
          refine aw_icmp_ge (tgt := 72) dX1_linkAlike_22 (by decide) (fun c_10 => ?_) (fun c_10 => ?_)
          rotate_left
          · exact absurd (nI_le (a := 12) (b := 12) (Nat.le_refl _) (by omega)) c_10
          refine aw_iinc (v := (nI (j2 + 1))) (ls' := [some (.ref (b + 94)), some (.ref (b + c)), some (.int n0), some (.int (nI (j2 + 1))), some (.int (nI 12))]) dX1_linkAlike_72 rfl (fx_up_1 _) (Nat.le_of_ble_eq_true rfl) rfl ?_
          refine aw_goto (tgt := 2) dX1_linkAlike_75 (by decide) ?_
          refine aw_le ?_ (ih_2_1 (j2 + 1)  V18 (by omega) (i18_0))
          exact ⟨rfl, ⟨rfl, ⟨rfl, ⟨rfl, trivial⟩⟩⟩⟩
        | succ g_18 ih_18_8 =>
          intro j18  V18 hj18 i18_0
          have hlj18 : j18 < 12 := by omega
          refine aw_iload dX1_linkAlike_18 rfl ?_
          refine aw_bipush (v := 12) dX1_linkAlike_20 (by decide) ?_
          refine aw_icmp_ge (tgt := 72) dX1_linkAlike_22 (by decide) (fun c_11 => ?_) (fun c_11 => ?_)
          · exact absurd c_11 (nI_ge (a := j18) (b := 12) (by omega) (by omega))
          refine aw_aload_n dX1_linkAlike_25 rfl ?_
          refine aw_iload_n dX1_linkAlike_26 rfl ?_
          obtain ⟨pe_15, dd_15, ni_15, xx_15, e_15⟩ := JW.get i18_0 (ctc_0 hc)
          refine aw_callVi (J' := jX0_isPerson) (As := [.int (nI j2)]) (st := []) dX1_linkAlike_27 tb_879 ok_X0_isPerson ⟨_, e_15⟩ (by omega) rfl rfl (g_X0_isPerson l D b N V18 hN i18_0.1 c hc (nI j2)) rfl (Nat.le_of_ble_eq_true rfl) ⟨Nat.le_of_ble_eq_true rfl, Nat.le_of_ble_eq_true rfl, Nat.le_of_ble_eq_true rfl, Nat.le_of_ble_eq_true rfl⟩ (fun r_16 N_17 V_18 q_19 => ?_)
          obtain ⟨⟨z_14, h_13⟩, rfl, rfl⟩ := q_19
          refine aw_if_eq (tgt := 66) dX1_linkAlike_30 (by decide) (fun c_20 => ?_) (fun c_20 => ?_)
          · skip
            refine aw_iinc (v := (nI (j18 + 1))) (ls' := [some (.ref (b + 94)), some (.ref (b + c)), some (.int n0), some (.int (nI j2)), some (.int (nI (j18 + 1)))]) dX1_linkAlike_66 rfl (fx_up_1 _) (Nat.le_of_ble_eq_true rfl) rfl ?_
            refine aw_goto (tgt := 18) dX1_linkAlike_69 (by decide) ?_
            refine aw_le ?_ (ih_18_8 (j18 + 1)  V18 (by omega) (i18_0))
            exact ⟨rfl, ⟨rfl, ⟨rfl, ⟨rfl, ⟨rfl, trivial⟩⟩⟩⟩⟩
          · skip
            refine aw_aload_n dX1_linkAlike_33 rfl ?_
            refine aw_iload dX1_linkAlike_34 rfl ?_
            refine aw_callVi (J' := jX0_isPerson) (As := [.int (nI j18)]) (st := []) dX1_linkAlike_36 tb_879 ok_X0_isPerson ⟨_, e_15⟩ (by omega) rfl rfl (g_X0_isPerson l D b N V18 hN i18_0.1 c hc (nI j18)) rfl (Nat.le_of_ble_eq_true rfl) ⟨Nat.le_of_ble_eq_true rfl, Nat.le_of_ble_eq_true rfl, Nat.le_of_ble_eq_true rfl, Nat.le_of_ble_eq_true rfl⟩ (fun r_24 N_25 V_26 q_27 => ?_)
            obtain ⟨⟨z_23, h_22⟩, rfl, rfl⟩ := q_27
            refine aw_if_eq (tgt := 66) dX1_linkAlike_39 (by decide) (fun c_28 => ?_) (fun c_28 => ?_)
            · skip
              refine aw_iinc (v := (nI (j18 + 1))) (ls' := [some (.ref (b + 94)), some (.ref (b + c)), some (.int n0), some (.int (nI j2)), some (.int (nI (j18 + 1)))]) dX1_linkAlike_66 rfl (fx_up_1 _) (Nat.le_of_ble_eq_true rfl) rfl ?_
              refine aw_goto (tgt := 18) dX1_linkAlike_69 (by decide) ?_
              refine aw_le ?_ (ih_18_8 (j18 + 1)  V18 (by omega) (i18_0))
              exact ⟨rfl, ⟨rfl, ⟨rfl, ⟨rfl, ⟨rfl, trivial⟩⟩⟩⟩⟩
            · skip
              refine aw_aload_n dX1_linkAlike_42 rfl ?_
              refine aw_iload_n dX1_linkAlike_43 rfl ?_
              refine aw_iload dX1_linkAlike_44 rfl ?_
              refine aw_callSi (J' := jX1_difference) (As := [.ref (b + c), .int (nI j2), .int (nI j18)]) (st := []) dX1_linkAlike_46 tb_880 ok_X1_difference rfl (g_X1_difference l D b N V18 hN i18_0.1 c hc (nI j2) (nI j18)) rfl (Nat.le_of_ble_eq_true rfl) ⟨Nat.le_of_ble_eq_true rfl, Nat.le_of_ble_eq_true rfl, Nat.le_of_ble_eq_true rfl, Nat.le_of_ble_eq_true rfl⟩ (fun r_30 N_31 V_32 q_33 => ?_)
              obtain ⟨rfl, rfl⟩ := q_33
              refine aw_iload_n dX1_linkAlike_49 rfl ?_
              refine aw_icmp_gt (tgt := 66) dX1_linkAlike_50 (by decide) (fun c_34 => ?_) (fun c_34 => ?_)
              · skip
                refine aw_iinc (v := (nI (j18 + 1))) (ls' := [some (.ref (b + 94)), some (.ref (b + c)), some (.int n0), some (.int (nI j2)), some (.int (nI (j18 + 1)))]) dX1_linkAlike_66 rfl (fx_up_1 _) (Nat.le_of_ble_eq_true rfl) rfl ?_
                refine aw_goto (tgt := 18) dX1_linkAlike_69 (by decide) ?_
                refine aw_le ?_ (ih_18_8 (j18 + 1)  V18 (by omega) (i18_0))
                exact ⟨rfl, ⟨rfl, ⟨rfl, ⟨rfl, ⟨rfl, trivial⟩⟩⟩⟩⟩
              · skip
                refine aw_aload_n dX1_linkAlike_53 rfl ?_
                have e_35 := JW.get i18_0 ct_94
                refine aw_get dX1_linkAlike_54 fl_X1_9 e_35 (by omega) rfl ?_
                refine aw_iload_n dX1_linkAlike_57 rfl ?_
                refine aw_dup2 dX1_linkAlike_58 rfl rfl ?_
                obtain ⟨g_36, e_36⟩ := JW.get i18_0 ct_95
                refine aw_iald (v := (g_36 j2)) dX1_linkAlike_59 e_36 (by omega) (vp_in_nI (n := j2) (by omega) (by omega)) (congrArg g_36 (nI_clamp (n := j2) (by omega))) ?_
                refine aw_iconst (v := 1) dX1_linkAlike_60 (by decide) ?_
                refine aw_iload dX1_linkAlike_61 rfl ?_
                refine aw_ishl dX1_linkAlike_63 ?_
                refine aw_ior dX1_linkAlike_64 ?_
                refine aw_iast dX1_linkAlike_65 e_36 (by omega) (vp_in_nI (n := j2) (by omega) (by omega)) ?_
                refine aw_up i18_0 ct_95 ⟨_, rfl⟩ (WA LM0 (by decide) (by decide)) (fun V_37 j_37 k_37 e_37 => ?_)
                refine aw_iinc (v := (nI (j18 + 1))) (ls' := [some (.ref (b + 94)), some (.ref (b + c)), some (.int n0), some (.int (nI j2)), some (.int (nI (j18 + 1)))]) dX1_linkAlike_66 rfl (fx_up_1 _) (Nat.le_of_ble_eq_true rfl) rfl ?_
                refine aw_goto (tgt := 18) dX1_linkAlike_69 (by decide) ?_
                refine aw_le ?_ (ih_18_8 (j18 + 1)  V_37 (by omega) (j_37))
                exact ⟨rfl, ⟨rfl, ⟨rfl, ⟨rfl, ⟨rfl, trivial⟩⟩⟩⟩⟩
      refine aw_le ?_ (loop_18_7 12 0  V_7 (by omega) (j_7))
      exact ⟨rfl, ⟨rfl, ⟨rfl, ⟨rfl, ⟨rfl, trivial⟩⟩⟩⟩⟩
  refine aw_le ?_ (loop_2_0 12 0  V (by omega) (hJ0))
  exact ⟨rfl, ⟨rfl, ⟨rfl, ⟨rfl, trivial⟩⟩⟩⟩

set_option maxHeartbeats 4000000 in
set_option maxRecDepth 100000 in
theorem g_X1_circleOf (l : Launch) (D : va_G) (b : Nat) (N : Nat) (V : Wd) (hN : 100 ≤ N) (hW : CW D b V) (n0 : Int32) (n1 : Int32)  : MI l D b 3 jX1_circleOf [.ref (b + 94), .int n0, .int n1] N V 0 0 (fun r N9 V9 => N = N9 ∧ V = V9) := by
  have hJ0 : JW D b N [] V V := JW.rf hW
  refine mw_of (by decide) (by simp [Value.category]) (Nat.le_of_ble_eq_true rfl) ?_
  show AW l D b jX1_circleOf (fx_rm 3 0 0) none (fx_MQ D b 0 0 (fx_qi (fun r N9 V9 => N = N9 ∧ V = V9))) 0 [some (.ref (b + 94)), some (.int n0), some (.int n1)] [] N V 0 0
  refine aw_aload_n dX1_circleOf_0 rfl ?_
  have e_1 := JW.get hJ0 ct_94
  refine aw_get dX1_circleOf_1 fl_X1_9 e_1 (by omega) rfl ?_
  refine aw_iconst (v := 1) dX1_circleOf_4 (by decide) ?_
  refine aw_iload_n dX1_circleOf_5 rfl ?_
  refine aw_ishl dX1_circleOf_6 ?_
  refine aw_iload_n dX1_circleOf_7 rfl ?_
  refine aw_callSi (J' := jX1_reached) (As := [.ref (b + 95), .int ((1 : Int32) <<< (n0 &&& 31)), .int n1]) (st := []) dX1_circleOf_8 tb_897 ok_X1_reached rfl (g_X1_reached l D b N V hN hJ0.1 95 ct_95 ((1 : Int32) <<< (n0 &&& 31)) n1) rfl (Nat.le_of_ble_eq_true rfl) ⟨Nat.le_of_ble_eq_true rfl, Nat.le_of_ble_eq_true rfl, Nat.le_of_ble_eq_true rfl, Nat.le_of_ble_eq_true rfl⟩ (fun r_3 N_4 V_5 q_6 => ?_)
  obtain ⟨rfl, rfl⟩ := q_6
  refine aw_ireti dX1_circleOf_11 rfl (Nat.le_of_ble_eq_true rfl) (Nat.le_of_ble_eq_true rfl) ?_
  exact ⟨rfl, rfl⟩

set_option maxHeartbeats 4000000 in
set_option maxRecDepth 100000 in
theorem g_X1_circlesOf (l : Launch) (D : va_G) (b : Nat) (N : Nat) (V : Wd) (hN : 100 ≤ N) (hW : CW D b V) (n0 : Int32)  : MI l D b 4 jX1_circlesOf [.ref (b + 94), .int n0] N V 0 0 (fun r N9 V9 => N = N9 ∧ V = V9) := by
  have hJ0 : JW D b N [] V V := JW.rf hW
  refine mw_of (by decide) (by simp [Value.category]) (Nat.le_of_ble_eq_true rfl) ?_
  show AW l D b jX1_circlesOf (fx_rm 4 0 0) none (fx_MQ D b 0 0 (fx_qi (fun r N9 V9 => N = N9 ∧ V = V9))) 0 [some (.ref (b + 94)), some (.int n0), none, none, none] [] N V 0 0
  refine aw_iconst (v := 0) dX1_circlesOf_0 (by decide) ?_
  refine aw_istore_n (ls' := [some (.ref (b + 94)), some (.int n0), some (.int 0), none, none]) dX1_circlesOf_1 (Nat.le_of_ble_eq_true rfl) rfl ?_
  refine aw_iload_n dX1_circlesOf_2 rfl ?_
  refine aw_istore_n (ls' := [some (.ref (b + 94)), some (.int n0), some (.int 0), some (.int n0), none]) dX1_circlesOf_3 (Nat.le_of_ble_eq_true rfl) rfl ?_
  refine aw_iconst (v := 0) dX1_circlesOf_4 (by decide) ?_
  refine aw_istore (ls' := [some (.ref (b + 94)), some (.int n0), some (.int 0), some (.int n0), some (.int 0)]) dX1_circlesOf_5 (Nat.le_of_ble_eq_true rfl) rfl ?_
  have loop_7_0 : ∀ (g_7 : Nat), ∀ (j7 : Nat) (v7_2 : Int32) (v7_3 : Int32), j7 + g_7 = 12 → AW l D b jX1_circlesOf (fx_rm 4 0 0) none (fx_MQ D b 0 0 (fx_qi (fun r N9 V9 => N = N9 ∧ V = V9))) 7 [some (.ref (b + 94)), some (.int n0), some (.int v7_2), some (.int v7_3), some (.int (nI j7))] [] N V 0 0 := by
    intro g_7
    induction g_7 with
    | zero =>
      intro j7 v7_2 v7_3 hj7
      obtain rfl : j7 = 12 := by omega
      refine aw_iload dX1_circlesOf_7 rfl ?_
      refine aw_bipush (v := 12) dX1_circlesOf_9 (by decide) ?_
      refine aw_icmp_ge (tgt := 44) dX1_circlesOf_11 (by decide) (fun c_3 => ?_) (fun c_3 => ?_)
      rotate_left
      · exact absurd (nI_le (a := 12) (b := 12) (Nat.le_refl _) (by omega)) c_3
      refine aw_iload_n dX1_circlesOf_44 rfl ?_
      refine aw_ireti dX1_circlesOf_45 rfl (Nat.le_of_ble_eq_true rfl) (Nat.le_of_ble_eq_true rfl) ?_
      exact ⟨rfl, rfl⟩
    | succ g_7 ih_7_1 =>
      intro j7 v7_2 v7_3 hj7
      have hlj7 : j7 < 12 := by omega
      refine aw_iload dX1_circlesOf_7 rfl ?_
      refine aw_bipush (v := 12) dX1_circlesOf_9 (by decide) ?_
      refine aw_icmp_ge (tgt := 44) dX1_circlesOf_11 (by decide) (fun c_4 => ?_) (fun c_4 => ?_)
      · exact absurd c_4 (nI_ge (a := j7) (b := 12) (by omega) (by omega))
      refine aw_iload_n dX1_circlesOf_14 rfl ?_
      refine aw_iload dX1_circlesOf_15 rfl ?_
      refine aw_callSNi (J' := jX11_has) (As := [.int v7_3, .int (nI j7)]) (st := []) dX1_circlesOf_17 tb_834 ok_X11_has rfl (g_X11_has l D b N V hN hJ0.1 v7_3 (nI j7)) rfl (Nat.le_of_ble_eq_true rfl) ⟨Nat.le_of_ble_eq_true rfl, Nat.le_of_ble_eq_true rfl, Nat.le_of_ble_eq_true rfl, Nat.le_of_ble_eq_true rfl⟩ (fun r_7 N_8 V_9 q_10 => ?_)
      obtain ⟨h_6, rfl, rfl⟩ := q_10
      refine aw_if_eq (tgt := 38) dX1_circlesOf_20 (by decide) (fun c_11 => ?_) (fun c_11 => ?_)
      · skip
        refine aw_iinc (v := (nI (j7 + 1))) (ls' := [some (.ref (b + 94)), some (.int n0), some (.int v7_2), some (.int v7_3), some (.int (nI (j7 + 1)))]) dX1_circlesOf_38 rfl (fx_up_1 _) (Nat.le_of_ble_eq_true rfl) rfl ?_
        refine aw_goto (tgt := 7) dX1_circlesOf_41 (by decide) ?_
        refine aw_le ?_ (ih_7_1 (j7 + 1) v7_2 v7_3  (by omega))
        exact ⟨rfl, ⟨rfl, ⟨rfl, ⟨rfl, ⟨rfl, trivial⟩⟩⟩⟩⟩
      · skip
        refine aw_iinc (v := (v7_2 + 1)) (ls' := [some (.ref (b + 94)), some (.int n0), some (.int (v7_2 + 1)), some (.int v7_3), some (.int (nI j7))]) dX1_circlesOf_23 rfl rfl (Nat.le_of_ble_eq_true rfl) rfl ?_
        refine aw_iload_n dX1_circlesOf_26 rfl ?_
        refine aw_aload_n dX1_circlesOf_27 rfl ?_
        refine aw_iload dX1_circlesOf_28 rfl ?_
        refine aw_iload_n dX1_circlesOf_30 rfl ?_
        have e_13 := JW.get hJ0 ct_94
        refine aw_callVi (J' := jX1_circleOf) (As := [.int (nI j7), .int n0]) (st := [.int v7_3]) dX1_circlesOf_31 tb_893 ok_X1_circleOf ⟨_, e_13⟩ (by omega) rfl rfl (g_X1_circleOf l D b N V hN hJ0.1 (nI j7) n0) rfl (Nat.le_of_ble_eq_true rfl) ⟨Nat.le_of_ble_eq_true rfl, Nat.le_of_ble_eq_true rfl, Nat.le_of_ble_eq_true rfl, Nat.le_of_ble_eq_true rfl⟩ (fun r_14 N_15 V_16 q_17 => ?_)
        obtain ⟨rfl, rfl⟩ := q_17
        refine aw_iconst (v := (-1)) dX1_circlesOf_34 (by decide) ?_
        refine aw_ixor dX1_circlesOf_35 ?_
        refine aw_iand dX1_circlesOf_36 ?_
        refine aw_istore_n (ls' := [some (.ref (b + 94)), some (.int n0), some (.int (v7_2 + 1)), some (.int (v7_3 &&& (r_14 ^^^ (-1)))), some (.int (nI j7))]) dX1_circlesOf_37 (Nat.le_of_ble_eq_true rfl) rfl ?_
        refine aw_iinc (v := (nI (j7 + 1))) (ls' := [some (.ref (b + 94)), some (.int n0), some (.int (v7_2 + 1)), some (.int (v7_3 &&& (r_14 ^^^ (-1)))), some (.int (nI (j7 + 1)))]) dX1_circlesOf_38 rfl (fx_up_1 _) (Nat.le_of_ble_eq_true rfl) rfl ?_
        refine aw_goto (tgt := 7) dX1_circlesOf_41 (by decide) ?_
        refine aw_le ?_ (ih_7_1 (j7 + 1) (v7_2 + 1) (v7_3 &&& (r_14 ^^^ (-1)))  (by omega))
        exact ⟨rfl, ⟨rfl, ⟨rfl, ⟨rfl, ⟨rfl, trivial⟩⟩⟩⟩⟩
  refine aw_le ?_ (loop_7_0 12 0 0 n0  (by omega))
  exact ⟨rfl, ⟨rfl, ⟨rfl, ⟨rfl, ⟨rfl, trivial⟩⟩⟩⟩⟩

set_option maxHeartbeats 4000000 in
set_option maxRecDepth 100000 in
theorem g_X1_linkFellows (l : Launch) (D : va_G) (b : Nat) (N : Nat) (V : Wd) (hN : 100 ≤ N) (hW : CW D b V) (c : Nat) (hc : c = 3 ∨ c = 21 ∨ c = 39 ∨ c = 74) (n0 : Int32)  : MV l D b 2 jX1_linkFellows [.ref (b + 94), .ref (b + c), .int n0] N V 0 0 (fun N9 V9 => N = N9 ∧ JW D b N [(95, 95, 0, 1000000)] V V9) := by
  have hJ0 : JW D b N [(95, 95, 0, 1000000)] V V := JW.rf hW
  refine mw_of (by decide) (by simp [Value.category]) (Nat.le_of_ble_eq_true rfl) ?_
  show AW l D b jX1_linkFellows (fx_rm 2 0 0) none (fx_MQ D b 0 0 (fx_qv (fun N9 V9 => N = N9 ∧ JW D b N [(95, 95, 0, 1000000)] V V9))) 0 [some (.ref (b + 94)), some (.ref (b + c)), some (.int n0), none, none] [] N V 0 0
  refine aw_iconst (v := 0) dX1_linkFellows_0 (by decide) ?_
  refine aw_istore_n (ls' := [some (.ref (b + 94)), some (.ref (b + c)), some (.int n0), some (.int 0), none]) dX1_linkFellows_1 (Nat.le_of_ble_eq_true rfl) rfl ?_
  have loop_2_0 : ∀ (g_2 : Nat), ∀ (j2 : Nat)  (V2 : Wd), j2 + g_2 = 12 → (JW D b N [(95, 95, 0, 1000000)] V V2) → AW l D b jX1_linkFellows (fx_rm 2 0 0) none (fx_MQ D b 0 0 (fx_qv (fun N9 V9 => N = N9 ∧ JW D b N [(95, 95, 0, 1000000)] V V9))) 2 [some (.ref (b + 94)), some (.ref (b + c)), some (.int n0), some (.int (nI j2)), none] [] N V2 0 0 := by
    intro g_2
    induction g_2 with
    | zero =>
      intro j2  V2 hj2 i2_0
      obtain rfl : j2 = 12 := by omega
      refine aw_iload_n dX1_linkFellows_2 rfl ?_
      refine aw_bipush (v := 12) dX1_linkFellows_3 (by decide) ?_
      refine aw_icmp_ge (tgt := 66) dX1_linkFellows_5 (by decide) (fun c_3 => ?_) (fun c_3 => ?_)
      rotate_left
      · exact absurd (nI_le (a := 12) (b := 12) (Nat.le_refl _) (by omega)) c_3
      refine aw_vreti dX1_linkFellows_66 rfl (Nat.le_of_ble_eq_true rfl) (Nat.le_of_ble_eq_true rfl) ?_
      exact ⟨rfl, i2_0⟩
    | succ g_2 ih_2_1 =>
      intro j2  V2 hj2 i2_0
      have hlj2 : j2 < 12 := by omega
      refine aw_iload_n dX1_linkFellows_2 rfl ?_
      refine aw_bipush (v := 12) dX1_linkFellows_3 (by decide) ?_
      refine aw_icmp_ge (tgt := 66) dX1_linkFellows_5 (by decide) (fun c_4 => ?_) (fun c_4 => ?_)
      · exact absurd c_4 (nI_ge (a := j2) (b := 12) (by omega) (by omega))
      refine aw_aload_n dX1_linkFellows_8 rfl ?_
      have e_5 := JW.get i2_0 ct_94
      refine aw_get dX1_linkFellows_9 fl_X1_9 e_5 (by omega) rfl ?_
      refine aw_iload_n dX1_linkFellows_12 rfl ?_
      refine aw_iconst (v := 0) dX1_linkFellows_13 (by decide) ?_
      obtain ⟨g_6, e_6⟩ := JW.get i2_0 ct_95
      refine aw_iast dX1_linkFellows_14 e_6 (by omega) (vp_in_nI (n := j2) (by omega) (by omega)) ?_
      refine aw_up i2_0 ct_95 ⟨_, rfl⟩ (WA LM0 (by decide) (by decide)) (fun V_7 j_7 k_7 e_7 => ?_)
      refine aw_iconst (v := 0) dX1_linkFellows_15 (by decide) ?_
      refine aw_istore (ls' := [some (.ref (b + 94)), some (.ref (b + c)), some (.int n0), some (.int (nI j2)), some (.int 0)]) dX1_linkFellows_16 (Nat.le_of_ble_eq_true rfl) rfl ?_
      have loop_18_7 : ∀ (g_18 : Nat), ∀ (j18 : Nat)  (V18 : Wd), j18 + g_18 = j2 → (JW D b N [(95, 95, 0, 1000000)] V V18) → AW l D b jX1_linkFellows (fx_rm 2 0 0) none (fx_MQ D b 0 0 (fx_qv (fun N9 V9 => N = N9 ∧ JW D b N [(95, 95, 0, 1000000)] V V9))) 18 [some (.ref (b + 94)), some (.ref (b + c)), some (.int n0), some (.int (nI j2)), some (.int (nI j18))] [] N V18 0 0 := by
        intro g_18
        induction g_18 with
        | zero =>
          intro j18  V18 hj18 i18_0
          obtain rfl : j2 = j18 := by omega
          refine aw_iload dX1_linkFellows_18 rfl ?_
          refine aw_iload_n dX1_linkFellows_20 rfl ?_
          refine aw_icmp_ge (tgt := 60) dX1_linkFellows_21 (by decide) (fun c_10 => ?_) (fun c_10 => ?_)
          rotate_left
          · exact absurd (nI_le (a := j2) (b := j2) (Nat.le_refl _) (by omega)) c_10
          refine aw_iinc (v := (nI (j2 + 1))) (ls' := [some (.ref (b + 94)), some (.ref (b + c)), some (.int n0), some (.int (nI (j2 + 1))), some (.int (nI j2))]) dX1_linkFellows_60 rfl (fx_up_1 _) (Nat.le_of_ble_eq_true rfl) rfl ?_
          refine aw_goto (tgt := 2) dX1_linkFellows_63 (by decide) ?_
          refine aw_le ?_ (ih_2_1 (j2 + 1)  V18 (by omega) (i18_0))
          exact ⟨rfl, ⟨rfl, ⟨rfl, ⟨rfl, trivial⟩⟩⟩⟩
        | succ g_18 ih_18_8 =>
          intro j18  V18 hj18 i18_0
          have hlj18 : j18 < j2 := by omega
          refine aw_iload dX1_linkFellows_18 rfl ?_
          refine aw_iload_n dX1_linkFellows_20 rfl ?_
          refine aw_icmp_ge (tgt := 60) dX1_linkFellows_21 (by decide) (fun c_11 => ?_) (fun c_11 => ?_)
          · exact absurd c_11 (nI_ge (a := j18) (b := j2) (by omega) (by omega))
          refine aw_aload_n dX1_linkFellows_24 rfl ?_
          refine aw_iload_n dX1_linkFellows_25 rfl ?_
          refine aw_iload_n dX1_linkFellows_26 rfl ?_
          obtain ⟨pe_13, dd_13, ni_13, xx_13, e_13⟩ := JW.get i18_0 (ctc_0 hc)
          refine aw_callVi (J' := jX0_fearsFrom) (As := [.int (nI j2), .int n0]) (st := []) dX1_linkFellows_27 tb_826 ok_X0_fearsFrom ⟨_, e_13⟩ (by omega) rfl rfl (g_X0_fearsFrom l D b N V18 hN i18_0.1 c hc (nI j2) n0) rfl (Nat.le_of_ble_eq_true rfl) ⟨Nat.le_of_ble_eq_true rfl, Nat.le_of_ble_eq_true rfl, Nat.le_of_ble_eq_true rfl, Nat.le_of_ble_eq_true rfl⟩ (fun r_14 N_15 V_16 q_17 => ?_)
          obtain ⟨rfl, rfl⟩ := q_17
          refine aw_aload_n dX1_linkFellows_30 rfl ?_
          refine aw_iload dX1_linkFellows_31 rfl ?_
          refine aw_iload_n dX1_linkFellows_33 rfl ?_
          refine aw_callVi (J' := jX0_fearsFrom) (As := [.int (nI j18), .int n0]) (st := [.int r_14]) dX1_linkFellows_34 tb_826 ok_X0_fearsFrom ⟨_, e_13⟩ (by omega) rfl rfl (g_X0_fearsFrom l D b N V18 hN i18_0.1 c hc (nI j18) n0) rfl (Nat.le_of_ble_eq_true rfl) ⟨Nat.le_of_ble_eq_true rfl, Nat.le_of_ble_eq_true rfl, Nat.le_of_ble_eq_true rfl, Nat.le_of_ble_eq_true rfl⟩ (fun r_19 N_20 V_21 q_22 => ?_)
          obtain ⟨rfl, rfl⟩ := q_22
          refine aw_iand dX1_linkFellows_37 ?_
          refine aw_if_eq (tgt := 54) dX1_linkFellows_38 (by decide) (fun c_23 => ?_) (fun c_23 => ?_)
          · skip
            refine aw_iinc (v := (nI (j18 + 1))) (ls' := [some (.ref (b + 94)), some (.ref (b + c)), some (.int n0), some (.int (nI j2)), some (.int (nI (j18 + 1)))]) dX1_linkFellows_54 rfl (fx_up_1 _) (Nat.le_of_ble_eq_true rfl) rfl ?_
            refine aw_goto (tgt := 18) dX1_linkFellows_57 (by decide) ?_
            refine aw_le ?_ (ih_18_8 (j18 + 1)  V18 (by omega) (i18_0))
            exact ⟨rfl, ⟨rfl, ⟨rfl, ⟨rfl, ⟨rfl, trivial⟩⟩⟩⟩⟩
          · skip
            refine aw_aload_n dX1_linkFellows_41 rfl ?_
            have e_24 := JW.get i18_0 ct_94
            refine aw_get dX1_linkFellows_42 fl_X1_9 e_24 (by omega) rfl ?_
            refine aw_iload_n dX1_linkFellows_45 rfl ?_
            refine aw_dup2 dX1_linkFellows_46 rfl rfl ?_
            obtain ⟨g_25, e_25⟩ := JW.get i18_0 ct_95
            refine aw_iald (v := (g_25 j2)) dX1_linkFellows_47 e_25 (by omega) (vp_in_nI (n := j2) (by omega) (by omega)) (congrArg g_25 (nI_clamp (n := j2) (by omega))) ?_
            refine aw_iconst (v := 1) dX1_linkFellows_48 (by decide) ?_
            refine aw_iload dX1_linkFellows_49 rfl ?_
            refine aw_ishl dX1_linkFellows_51 ?_
            refine aw_ior dX1_linkFellows_52 ?_
            refine aw_iast dX1_linkFellows_53 e_25 (by omega) (vp_in_nI (n := j2) (by omega) (by omega)) ?_
            refine aw_up i18_0 ct_95 ⟨_, rfl⟩ (WA LM0 (by decide) (by decide)) (fun V_26 j_26 k_26 e_26 => ?_)
            refine aw_iinc (v := (nI (j18 + 1))) (ls' := [some (.ref (b + 94)), some (.ref (b + c)), some (.int n0), some (.int (nI j2)), some (.int (nI (j18 + 1)))]) dX1_linkFellows_54 rfl (fx_up_1 _) (Nat.le_of_ble_eq_true rfl) rfl ?_
            refine aw_goto (tgt := 18) dX1_linkFellows_57 (by decide) ?_
            refine aw_le ?_ (ih_18_8 (j18 + 1)  V_26 (by omega) (j_26))
            exact ⟨rfl, ⟨rfl, ⟨rfl, ⟨rfl, ⟨rfl, trivial⟩⟩⟩⟩⟩
      refine aw_le ?_ (loop_18_7 j2 0  V_7 (by omega) (j_7))
      exact ⟨rfl, ⟨rfl, ⟨rfl, ⟨rfl, ⟨rfl, trivial⟩⟩⟩⟩⟩
  refine aw_le ?_ (loop_2_0 12 0  V (by omega) (hJ0))
  exact ⟨rfl, ⟨rfl, ⟨rfl, ⟨rfl, trivial⟩⟩⟩⟩

set_option maxHeartbeats 4000000 in
set_option maxRecDepth 100000 in
theorem g_X1_mostWith (l : Launch) (D : va_G) (b : Nat) (N : Nat) (V : Wd) (hN : 100 ≤ N) (hW : CW D b V) (n0 : Int32) (n1 : Int32)  : MI l D b 1 jX1_mostWith [.ref (b + 94), .int n0, .int n1] N V 0 0 (fun r N9 V9 => N = N9 ∧ V = V9) := by
  have hJ0 : JW D b N [] V V := JW.rf hW
  refine mw_of (by decide) (by simp [Value.category]) (Nat.le_of_ble_eq_true rfl) ?_
  show AW l D b jX1_mostWith (fx_rm 1 0 0) none (fx_MQ D b 0 0 (fx_qi (fun r N9 V9 => N = N9 ∧ V = V9))) 0 [some (.ref (b + 94)), some (.int n0), some (.int n1), none, none] [] N V 0 0
  refine aw_iload_n dX1_mostWith_0 rfl ?_
  refine aw_if_lt (tgt := 23) dX1_mostWith_1 (by decide) (fun c_1 => ?_) (fun c_1 => ?_)
  · skip
    refine aw_iconst (v := 0) dX1_mostWith_23 (by decide) ?_
    refine aw_ireti dX1_mostWith_24 rfl (Nat.le_of_ble_eq_true rfl) (Nat.le_of_ble_eq_true rfl) ?_
    exact ⟨rfl, rfl⟩
  · skip
    refine aw_iload_n dX1_mostWith_4 rfl ?_
    refine aw_bipush (v := 12) dX1_mostWith_5 (by decide) ?_
    refine aw_icmp_ge (tgt := 23) dX1_mostWith_7 (by decide) (fun c_2 => ?_) (fun c_2 => ?_)
    · skip
      refine aw_iconst (v := 0) dX1_mostWith_23 (by decide) ?_
      refine aw_ireti dX1_mostWith_24 rfl (Nat.le_of_ble_eq_true rfl) (Nat.le_of_ble_eq_true rfl) ?_
      exact ⟨rfl, rfl⟩
    · skip
      refine aw_iload_n dX1_mostWith_10 rfl ?_
      refine aw_if_lt (tgt := 23) dX1_mostWith_11 (by decide) (fun c_3 => ?_) (fun c_3 => ?_)
      · skip
        refine aw_iconst (v := 0) dX1_mostWith_23 (by decide) ?_
        refine aw_ireti dX1_mostWith_24 rfl (Nat.le_of_ble_eq_true rfl) (Nat.le_of_ble_eq_true rfl) ?_
        exact ⟨rfl, rfl⟩
      · skip
        refine aw_iload_n dX1_mostWith_14 rfl ?_
        refine aw_aload_n dX1_mostWith_15 rfl ?_
        have e_4 := JW.get hJ0 ct_94
        refine aw_get dX1_mostWith_16 fl_X1_15 e_4 (by omega) rfl ?_
        obtain ⟨g_5, e_5⟩ := JW.get hJ0 ct_96
        refine aw_alen (t0 := 0) (v := 4096) dX1_mostWith_19 e_5 (by omega) rfl rfl ?_
        refine aw_icmp_lt (tgt := 25) dX1_mostWith_20 (by decide) (fun c_6 => ?_) (fun c_6 => ?_)
        · skip
          refine aw_aload_n dX1_mostWith_25 rfl ?_
          refine aw_get dX1_mostWith_26 fl_X1_15 e_4 (by omega) rfl ?_
          refine aw_iload_n dX1_mostWith_29 rfl ?_
          refine aw_iald (v := (g_5 (Int32.toNatClampNeg n1))) dX1_mostWith_30 e_5 (by omega) (vi_in (Int32.not_lt.mp c_3) (vi_lt (n := 4096) c_6 (by decide)) (by decide)) rfl ?_
          refine aw_istore_n (ls' := [some (.ref (b + 94)), some (.int n0), some (.int n1), some (.int (g_5 (Int32.toNatClampNeg n1))), none]) dX1_mostWith_31 (Nat.le_of_ble_eq_true rfl) rfl ?_
          refine aw_iconst (v := 0) dX1_mostWith_32 (by decide) ?_
          refine aw_istore (ls' := [some (.ref (b + 94)), some (.int n0), some (.int n1), some (.int (g_5 (Int32.toNatClampNeg n1))), some (.int 0)]) dX1_mostWith_33 (Nat.le_of_ble_eq_true rfl) rfl ?_
          have hb_7 := fx_clt n0
          have loop_35_7 : ∀ (g_35 : Nat), ∀ (j35 : Nat) (v35_3 : Int32), j35 + g_35 = (Int32.toNatClampNeg n0) → AW l D b jX1_mostWith (fx_rm 1 0 0) none (fx_MQ D b 0 0 (fx_qi (fun r N9 V9 => N = N9 ∧ V = V9))) 35 [some (.ref (b + 94)), some (.int n0), some (.int n1), some (.int v35_3), some (.int (nI j35))] [] N V 0 0 := by
            intro g_35
            induction g_35 with
            | zero =>
              intro j35 v35_3 hj35
              obtain rfl : j35 = (Int32.toNatClampNeg n0) := by omega
              refine aw_iload dX1_mostWith_35 rfl ?_
              refine aw_iload_n dX1_mostWith_37 rfl ?_
              refine aw_icmp_ge (tgt := 83) dX1_mostWith_38 (by decide) (fun c_10 => ?_) (fun c_10 => ?_)
              rotate_left
              · exact absurd (fx_gec n0) c_10
              refine aw_iload_n dX1_mostWith_83 rfl ?_
              refine aw_ireti dX1_mostWith_84 rfl (Nat.le_of_ble_eq_true rfl) (Nat.le_of_ble_eq_true rfl) ?_
              exact ⟨rfl, rfl⟩
            | succ g_35 ih_35_8 =>
              intro j35 v35_3 hj35
              have hlj35 : j35 < (Int32.toNatClampNeg n0) := by omega
              refine aw_iload dX1_mostWith_35 rfl ?_
              refine aw_iload_n dX1_mostWith_37 rfl ?_
              refine aw_icmp_ge (tgt := 83) dX1_mostWith_38 (by decide) (fun c_11 => ?_) (fun c_11 => ?_)
              · exact absurd c_11 (fx_gej (by omega))
              refine aw_aload_n dX1_mostWith_41 rfl ?_
              refine aw_get dX1_mostWith_42 fl_X1_9 e_4 (by omega) rfl ?_
              refine aw_iload_n dX1_mostWith_45 rfl ?_
              obtain ⟨g_12, e_12⟩ := JW.get hJ0 ct_95
              refine aw_iald (v := (g_12 (Int32.toNatClampNeg n0))) dX1_mostWith_46 e_12 (by omega) (vi_in (Int32.not_lt.mp c_1) (vi_lt (n := 12) (Int32.not_le.mp c_2) (by decide)) (by decide)) rfl ?_
              refine aw_iload_n dX1_mostWith_47 rfl ?_
              refine aw_iand dX1_mostWith_48 ?_
              refine aw_iload dX1_mostWith_49 rfl ?_
              refine aw_callSNi (J' := jX11_has) (As := [.int ((g_12 (Int32.toNatClampNeg n0)) &&& n1), .int (nI j35)]) (st := []) dX1_mostWith_51 tb_834 ok_X11_has rfl (g_X11_has l D b N V hN hJ0.1 ((g_12 (Int32.toNatClampNeg n0)) &&& n1) (nI j35)) rfl (Nat.le_of_ble_eq_true rfl) ⟨Nat.le_of_ble_eq_true rfl, Nat.le_of_ble_eq_true rfl, Nat.le_of_ble_eq_true rfl, Nat.le_of_ble_eq_true rfl⟩ (fun r_15 N_16 V_17 q_18 => ?_)
              obtain ⟨h_14, rfl, rfl⟩ := q_18
              refine aw_if_eq (tgt := 77) dX1_mostWith_54 (by decide) (fun c_19 => ?_) (fun c_19 => ?_)
              · skip
                refine aw_iinc (v := (nI (j35 + 1))) (ls' := [some (.ref (b + 94)), some (.int n0), some (.int n1), some (.int v35_3), some (.int (nI (j35 + 1)))]) dX1_mostWith_77 rfl (fx_up_1 _) (Nat.le_of_ble_eq_true rfl) rfl ?_
                refine aw_goto (tgt := 35) dX1_mostWith_80 (by decide) ?_
                refine aw_le ?_ (ih_35_8 (j35 + 1) v35_3  (by omega))
                exact ⟨rfl, ⟨rfl, ⟨rfl, ⟨rfl, ⟨rfl, trivial⟩⟩⟩⟩⟩
              · skip
                refine aw_iload_n dX1_mostWith_57 rfl ?_
                refine aw_iconst (v := 1) dX1_mostWith_58 (by decide) ?_
                refine aw_aload_n dX1_mostWith_59 rfl ?_
                refine aw_get dX1_mostWith_60 fl_X1_15 e_4 (by omega) rfl ?_
                refine aw_iload_n dX1_mostWith_63 rfl ?_
                refine aw_iconst (v := 1) dX1_mostWith_64 (by decide) ?_
                refine aw_iload dX1_mostWith_65 rfl ?_
                refine aw_ishl dX1_mostWith_67 ?_
                refine aw_iconst (v := (-1)) dX1_mostWith_68 (by decide) ?_
                refine aw_ixor dX1_mostWith_69 ?_
                refine aw_iand dX1_mostWith_70 ?_
                refine aw_iald (v := (g_5 (Int32.toNatClampNeg (n1 &&& (((1 : Int32) <<< ((nI j35) &&& 31)) ^^^ (-1)))))) dX1_mostWith_71 e_5 (by omega) (vi_and (vi_in (Int32.not_lt.mp c_3) (vi_lt (n := 4096) c_6 (by decide)) (by decide)) (by decide)) rfl ?_
                refine aw_iadd dX1_mostWith_72 ?_
                refine aw_mmax dX1_mostWith_73 tb_835 tb_385 tb_13 tb_386 ⟨Nat.le_of_ble_eq_true rfl, Nat.le_of_ble_eq_true rfl, Nat.le_of_ble_eq_true rfl, Nat.le_of_ble_eq_true rfl⟩ ?_
                refine aw_istore_n (ls' := [some (.ref (b + 94)), some (.int n0), some (.int n1), some (.int (if v35_3 < (1 + (g_5 (Int32.toNatClampNeg (n1 &&& (((1 : Int32) <<< ((nI j35) &&& 31)) ^^^ (-1)))))) then (1 + (g_5 (Int32.toNatClampNeg (n1 &&& (((1 : Int32) <<< ((nI j35) &&& 31)) ^^^ (-1)))))) else v35_3)), some (.int (nI j35))]) dX1_mostWith_76 (Nat.le_of_ble_eq_true rfl) rfl ?_
                refine aw_iinc (v := (nI (j35 + 1))) (ls' := [some (.ref (b + 94)), some (.int n0), some (.int n1), some (.int (if v35_3 < (1 + (g_5 (Int32.toNatClampNeg (n1 &&& (((1 : Int32) <<< ((nI j35) &&& 31)) ^^^ (-1)))))) then (1 + (g_5 (Int32.toNatClampNeg (n1 &&& (((1 : Int32) <<< ((nI j35) &&& 31)) ^^^ (-1)))))) else v35_3)), some (.int (nI (j35 + 1)))]) dX1_mostWith_77 rfl (fx_up_1 _) (Nat.le_of_ble_eq_true rfl) rfl ?_
                refine aw_goto (tgt := 35) dX1_mostWith_80 (by decide) ?_
                refine aw_le ?_ (ih_35_8 (j35 + 1) (if v35_3 < (1 + (g_5 (Int32.toNatClampNeg (n1 &&& (((1 : Int32) <<< ((nI j35) &&& 31)) ^^^ (-1)))))) then (1 + (g_5 (Int32.toNatClampNeg (n1 &&& (((1 : Int32) <<< ((nI j35) &&& 31)) ^^^ (-1)))))) else v35_3)  (by omega))
                exact ⟨rfl, ⟨rfl, ⟨rfl, ⟨rfl, ⟨rfl, trivial⟩⟩⟩⟩⟩
          refine aw_le ?_ (loop_35_7 (Int32.toNatClampNeg n0) 0 (g_5 (Int32.toNatClampNeg n1))  (by omega))
          exact ⟨rfl, ⟨rfl, ⟨rfl, ⟨rfl, ⟨rfl, trivial⟩⟩⟩⟩⟩
        · skip
          refine aw_iconst (v := 0) dX1_mostWith_23 (by decide) ?_
          refine aw_ireti dX1_mostWith_24 rfl (Nat.le_of_ble_eq_true rfl) (Nat.le_of_ble_eq_true rfl) ?_
          exact ⟨rfl, rfl⟩

set_option maxHeartbeats 4000000 in
set_option maxRecDepth 100000 in
theorem g_X1_mostCouples (l : Launch) (D : va_G) (b : Nat) (N : Nat) (V : Wd) (hN : 100 ≤ N) (hW : CW D b V) (c : Nat) (hc : c = 3 ∨ c = 21 ∨ c = 39 ∨ c = 74) (n0 : Int32)  : MI l D b 3 jX1_mostCouples [.ref (b + 94), .ref (b + c), .int n0] N V 0 0 (fun r N9 V9 => N = N9 ∧ JW D b N [(95, 96, 0, 1000000)] V V9) := by
  have hJ0 : JW D b N [(95, 96, 0, 1000000)] V V := JW.rf hW
  refine mw_of (by decide) (by simp [Value.category]) (Nat.le_of_ble_eq_true rfl) ?_
  show AW l D b jX1_mostCouples (fx_rm 3 0 0) none (fx_MQ D b 0 0 (fx_qi (fun r N9 V9 => N = N9 ∧ JW D b N [(95, 96, 0, 1000000)] V V9))) 0 [some (.ref (b + 94)), some (.ref (b + c)), some (.int n0), none, none] [] N V 0 0
  refine aw_aload_n dX1_mostCouples_0 rfl ?_
  refine aw_aload_n dX1_mostCouples_1 rfl ?_
  refine aw_iload_n dX1_mostCouples_2 rfl ?_
  have e_4 := JW.get hJ0 ct_94
  refine aw_callVv (J' := jX1_linkFellows) (As := [.ref (b + c), .int n0]) (st := []) dX1_mostCouples_3 tb_822 ok_X1_linkFellows ⟨_, e_4⟩ (by omega) rfl rfl (g_X1_linkFellows l D b N V hN hJ0.1 c hc n0) rfl (Nat.le_of_ble_eq_true rfl) ⟨Nat.le_of_ble_eq_true rfl, Nat.le_of_ble_eq_true rfl, Nat.le_of_ble_eq_true rfl, Nat.le_of_ble_eq_true rfl⟩ (fun  N_5 V_3 q_6 => ?_)
  obtain ⟨rfl, q_1⟩ := q_6
  have j_2 := JW.trans hJ0 (JW.weak q_1 (Sub.cons LM0 (by decide) (by decide) (by decide) (Or.inl rfl) Sub.nil))
  refine aw_aload_n dX1_mostCouples_6 rfl ?_
  have e_7 := JW.get j_2 ct_94
  refine aw_get dX1_mostCouples_7 fl_X1_15 e_7 (by omega) rfl ?_
  refine aw_iconst (v := 0) dX1_mostCouples_10 (by decide) ?_
  refine aw_iconst (v := 0) dX1_mostCouples_11 (by decide) ?_
  obtain ⟨g_8, e_8⟩ := JW.get j_2 ct_96
  refine aw_iast dX1_mostCouples_12 e_8 (by omega) (vp_in_nI (n := 0) (N := 4096) (by decide) (by decide)) ?_
  refine aw_up j_2 ct_96 ⟨_, rfl⟩ (WA LM0 (by decide) (by decide)) (fun V_9 j_9 k_9 e_9 => ?_)
  refine aw_iconst (v := 0) dX1_mostCouples_13 (by decide) ?_
  refine aw_istore_n (ls' := [some (.ref (b + 94)), some (.ref (b + c)), some (.int n0), some (.int 0), none]) dX1_mostCouples_14 (Nat.le_of_ble_eq_true rfl) rfl ?_
  have loop_15_9 : ∀ (g_15 : Nat), ∀ (j15 : Nat)  (V15 : Wd), j15 + g_15 = 12 → (JW D b N [(95, 96, 0, 1000000)] V V15) → AW l D b jX1_mostCouples (fx_rm 3 0 0) none (fx_MQ D b 0 0 (fx_qi (fun r N9 V9 => N = N9 ∧ JW D b N [(95, 96, 0, 1000000)] V V9))) 15 [some (.ref (b + 94)), some (.ref (b + c)), some (.int n0), some (.int (nI j15)), none] [] N V15 0 0 := by
    intro g_15
    induction g_15 with
    | zero =>
      intro j15  V15 hj15 i15_0
      obtain rfl : j15 = 12 := by omega
      refine aw_iload_n dX1_mostCouples_15 rfl ?_
      refine aw_bipush (v := 12) dX1_mostCouples_16 (by decide) ?_
      refine aw_icmp_ge (tgt := 62) dX1_mostCouples_18 (by decide) (fun c_12 => ?_) (fun c_12 => ?_)
      rotate_left
      · exact absurd (nI_le (a := 12) (b := 12) (Nat.le_refl _) (by omega)) c_12
      refine aw_aload_n dX1_mostCouples_62 rfl ?_
      have e_13 := JW.get i15_0 ct_94
      refine aw_get dX1_mostCouples_63 fl_X1_15 e_13 (by omega) rfl ?_
      refine aw_aload_n dX1_mostCouples_66 rfl ?_
      refine aw_get dX1_mostCouples_67 fl_X1_15 e_13 (by omega) rfl ?_
      obtain ⟨g_14, e_14⟩ := JW.get i15_0 ct_96
      refine aw_alen (t0 := 0) (v := 4096) dX1_mostCouples_70 e_14 (by omega) rfl rfl ?_
      refine aw_iconst (v := 1) dX1_mostCouples_71 (by decide) ?_
      refine aw_isub dX1_mostCouples_72 ?_
      refine aw_eqi (y := 4095) (by decide) ?_
      refine aw_iald (v := (g_14 4095)) dX1_mostCouples_73 e_14 (by omega) (vp_in_nI (n := 4095) (N := 4096) (by decide) (by decide)) (congrArg g_14 (nI_clamp (n := 4095) (by omega))) ?_
      refine aw_ireti dX1_mostCouples_74 rfl (Nat.le_of_ble_eq_true rfl) (Nat.le_of_ble_eq_true rfl) ?_
      exact ⟨rfl, i15_0⟩
    | succ g_15 ih_15_10 =>
      intro j15  V15 hj15 i15_0
      have hlj15 : j15 < 12 := by omega
      have hp15 := fx_pow12 hlj15
      refine aw_iload_n dX1_mostCouples_15 rfl ?_
      refine aw_bipush (v := 12) dX1_mostCouples_16 (by decide) ?_
      refine aw_icmp_ge (tgt := 62) dX1_mostCouples_18 (by decide) (fun c_15 => ?_) (fun c_15 => ?_)
      · exact absurd c_15 (nI_ge (a := j15) (b := 12) (by omega) (by omega))
      refine aw_iconst (v := 0) dX1_mostCouples_21 (by decide) ?_
      refine aw_istore (ls' := [some (.ref (b + 94)), some (.ref (b + c)), some (.int n0), some (.int (nI j15)), some (.int 0)]) dX1_mostCouples_22 (Nat.le_of_ble_eq_true rfl) rfl ?_
      have loop_24_15 : ∀ (g_24 : Nat), ∀ (j24 : Nat)  (V24 : Wd), j24 + g_24 = (2 ^ j15) → (JW D b N [(95, 96, 0, 1000000)] V V24) → AW l D b jX1_mostCouples (fx_rm 3 0 0) none (fx_MQ D b 0 0 (fx_qi (fun r N9 V9 => N = N9 ∧ JW D b N [(95, 96, 0, 1000000)] V V9))) 24 [some (.ref (b + 94)), some (.ref (b + c)), some (.int n0), some (.int (nI j15)), some (.int (nI j24))] [] N V24 0 0 := by
        intro g_24
        induction g_24 with
        | zero =>
          intro j24  V24 hj24 i24_0
          obtain rfl : j24 = (2 ^ j15) := by omega
          refine aw_iload dX1_mostCouples_24 rfl ?_
          refine aw_iconst (v := 1) dX1_mostCouples_26 (by decide) ?_
          refine aw_iload_n dX1_mostCouples_27 rfl ?_
          refine aw_ishl dX1_mostCouples_28 ?_
          refine aw_eqi (y := (nI (2 ^ j15))) (fx_shl12 j15 hlj15) ?_
          refine aw_icmp_ge (tgt := 56) dX1_mostCouples_29 (by decide) (fun c_18 => ?_) (fun c_18 => ?_)
          rotate_left
          · exact absurd (nI_le (a := (2 ^ j15)) (b := (2 ^ j15)) (Nat.le_refl _) (by omega)) c_18
          refine aw_iinc (v := (nI (j15 + 1))) (ls' := [some (.ref (b + 94)), some (.ref (b + c)), some (.int n0), some (.int (nI (j15 + 1))), some (.int (nI (2 ^ j15)))]) dX1_mostCouples_56 rfl (fx_up_1 _) (Nat.le_of_ble_eq_true rfl) rfl ?_
          refine aw_goto (tgt := 15) dX1_mostCouples_59 (by decide) ?_
          refine aw_le ?_ (ih_15_10 (j15 + 1)  V24 (by omega) (i24_0))
          exact ⟨rfl, ⟨rfl, ⟨rfl, ⟨rfl, trivial⟩⟩⟩⟩
        | succ g_24 ih_24_16 =>
          intro j24  V24 hj24 i24_0
          have hlj24 : j24 < (2 ^ j15) := by omega
          refine aw_iload dX1_mostCouples_24 rfl ?_
          refine aw_iconst (v := 1) dX1_mostCouples_26 (by decide) ?_
          refine aw_iload_n dX1_mostCouples_27 rfl ?_
          refine aw_ishl dX1_mostCouples_28 ?_
          refine aw_eqi (y := (nI (2 ^ j15))) (fx_shl12 j15 hlj15) ?_
          refine aw_icmp_ge (tgt := 56) dX1_mostCouples_29 (by decide) (fun c_19 => ?_) (fun c_19 => ?_)
          · exact absurd c_19 (nI_ge (a := j24) (b := (2 ^ j15)) (by omega) (by omega))
          refine aw_aload_n dX1_mostCouples_32 rfl ?_
          have e_20 := JW.get i24_0 ct_94
          refine aw_get dX1_mostCouples_33 fl_X1_15 e_20 (by omega) rfl ?_
          refine aw_iload dX1_mostCouples_36 rfl ?_
          refine aw_iconst (v := 1) dX1_mostCouples_38 (by decide) ?_
          refine aw_iload_n dX1_mostCouples_39 rfl ?_
          refine aw_ishl dX1_mostCouples_40 ?_
          refine aw_eqi (y := (nI (2 ^ j15))) (fx_shl12 j15 hlj15) ?_
          refine aw_ior dX1_mostCouples_41 ?_
          refine aw_eqi (y := (nI (j24 ||| 2 ^ j15))) (fx_orI _ _) ?_
          refine aw_aload_n dX1_mostCouples_42 rfl ?_
          refine aw_iload_n dX1_mostCouples_43 rfl ?_
          refine aw_iload dX1_mostCouples_44 rfl ?_
          refine aw_callVi (J' := jX1_mostWith) (As := [.int (nI j15), .int (nI j24)]) (st := [.int (nI (j24 ||| 2 ^ j15)), .ref (b + 96)]) dX1_mostCouples_46 tb_830 ok_X1_mostWith ⟨_, e_20⟩ (by omega) rfl rfl (g_X1_mostWith l D b N V24 hN i24_0.1 (nI j15) (nI j24)) rfl (Nat.le_of_ble_eq_true rfl) ⟨Nat.le_of_ble_eq_true rfl, Nat.le_of_ble_eq_true rfl, Nat.le_of_ble_eq_true rfl, Nat.le_of_ble_eq_true rfl⟩ (fun r_22 N_23 V_24 q_25 => ?_)
          obtain ⟨rfl, rfl⟩ := q_25
          obtain ⟨g_26, e_26⟩ := JW.get i24_0 ct_96
          refine aw_iast dX1_mostCouples_49 e_26 (by omega) (vp_in_nI (n := j24 ||| 2 ^ j15) (Nat.or_lt_two_pow (n := 12) (by omega) (by omega)) (by decide)) ?_
          refine aw_up i24_0 ct_96 ⟨_, rfl⟩ (WA LM0 (by decide) (by decide)) (fun V_27 j_27 k_27 e_27 => ?_)
          refine aw_iinc (v := (nI (j24 + 1))) (ls' := [some (.ref (b + 94)), some (.ref (b + c)), some (.int n0), some (.int (nI j15)), some (.int (nI (j24 + 1)))]) dX1_mostCouples_50 rfl (fx_up_1 _) (Nat.le_of_ble_eq_true rfl) rfl ?_
          refine aw_goto (tgt := 24) dX1_mostCouples_53 (by decide) ?_
          refine aw_le ?_ (ih_24_16 (j24 + 1)  V_27 (by omega) (j_27))
          exact ⟨rfl, ⟨rfl, ⟨rfl, ⟨rfl, ⟨rfl, trivial⟩⟩⟩⟩⟩
      refine aw_le ?_ (loop_24_15 (2 ^ j15) 0  V15 (by omega) (i15_0))
      exact ⟨rfl, ⟨rfl, ⟨rfl, ⟨rfl, ⟨rfl, trivial⟩⟩⟩⟩⟩
  refine aw_le ?_ (loop_15_9 12 0  V_9 (by omega) (j_9))
  exact ⟨rfl, ⟨rfl, ⟨rfl, ⟨rfl, trivial⟩⟩⟩⟩
