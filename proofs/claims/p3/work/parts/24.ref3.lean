set_option maxHeartbeats 4000000 in
set_option maxRecDepth 100000 in
theorem r_taught (l : Launch) (D : va_G) (b : Nat) (N : Nat) (V : Wd) (hN : 133 ≤ N) (cl : Nat) (hW : CR D b cl V) (n0 : Int32) (n1 : Int32)  : MI l D b 2 jX12_taught [.ref (b + 100), .int n0, .int n1] N V 0 0 (fun r N9 V9 => N = N9 ∧ V = V9) := by
  have hJ0 : JR D b N cl [] V V := JR.rf hW
  refine mw_of (by decide) (by simp [Value.category]) (Nat.le_of_ble_eq_true rfl) ?_
  show AW l D b jX12_taught (fx_rm 2 0 0) none (fx_MQ D b 0 0 (fx_qi (fun r N9 V9 => N = N9 ∧ V = V9))) 0 [some (.ref (b + 100)), some (.int n0), some (.int n1), none, none, none, none] [] N V 0 0
  refine aw_aload_n dX12_taught_0 rfl ?_
  refine aw_iload_n dX12_taught_1 rfl ?_
  obtain ⟨ftoldPeople_4, ftoldDoors_4, fwasDoors_4, ffault_4, fopen_4, flines_4, fmeantSet_4, fopenedNow_4, fvainNow_4, flowNow_4, fhighNow_4, fisKept_4, tad_4, pl0_4, le0_4, nu0_4, coy_4, wag_4, say_4, e_4, hntad_4, hnpl0_4, hnle0_4, hnnu0_4, hncoy_4, hnwag_4, hnsay_4⟩ := JR.get hJ0 cm_100
  refine aw_callVi (J' := jX12_isTold) (As := [.int n0]) (st := []) dX12_taught_2 tb_1351 ok_X12_isTold ⟨_, e_4⟩ (by omega) rfl rfl (r_isTold l D b N V hN cl hJ0.1 n0) rfl (Nat.le_of_ble_eq_true rfl) ⟨Nat.le_of_ble_eq_true rfl, Nat.le_of_ble_eq_true rfl, Nat.le_of_ble_eq_true rfl, Nat.le_of_ble_eq_true rfl⟩ (fun r_5 N_6 V_7 q_8 => ?_)
  obtain ⟨⟨z_3, h_2⟩, rfl, rfl⟩ := q_8
  refine aw_if_eq (tgt := 16) dX12_taught_5 (by decide) (fun c_9 => ?_) (fun c_9 => ?_)
  · skip
    refine aw_iconst (v := (-1)) dX12_taught_16 (by decide) ?_
    refine aw_ireti dX12_taught_17 rfl (Nat.le_of_ble_eq_true rfl) (Nat.le_of_ble_eq_true rfl) ?_
    exact ⟨rfl, rfl⟩
  · skip
    obtain ⟨zn0, hzn0, rfl⟩ := h_2.resolve_left c_9
    refine aw_aload_n dX12_taught_8 rfl ?_
    refine aw_iload_n dX12_taught_9 rfl ?_
    refine aw_callVi (J' := jX12_isDoor) (As := [.int n1]) (st := []) dX12_taught_10 tb_1359 ok_X12_isDoor ⟨_, e_4⟩ (by omega) rfl rfl (r_isDoor l D b N V hN cl hJ0.1 n1) rfl (Nat.le_of_ble_eq_true rfl) ⟨Nat.le_of_ble_eq_true rfl, Nat.le_of_ble_eq_true rfl, Nat.le_of_ble_eq_true rfl, Nat.le_of_ble_eq_true rfl⟩ (fun r_13 N_14 V_15 q_16 => ?_)
    obtain ⟨⟨z_12, h_11⟩, rfl, rfl⟩ := q_16
    refine aw_if_ne (tgt := 18) dX12_taught_13 (by decide) (fun c_17 => ?_) (fun c_17 => ?_)
    · skip
      obtain ⟨zn1, hzn1, rfl⟩ := h_11.resolve_left c_17
      refine aw_ldcw (v := 1000000) dX12_taught_18 tb_1473 ?_
      refine aw_istore_n (ls' := [some (.ref (b + 100)), some (.int (nI zn0)), some (.int (nI zn1)), some (.int 1000000), none, none, none]) dX12_taught_21 (Nat.le_of_ble_eq_true rfl) rfl ?_
      refine aw_iconst (v := 1) dX12_taught_22 (by decide) ?_
      refine aw_aload_n dX12_taught_23 rfl ?_
      refine aw_get dX12_taught_24 fl_X12_28 e_4 (by omega) rfl ?_
      refine aw_iload_n dX12_taught_27 rfl ?_
      obtain ⟨g_18, e_18⟩ := JR.get hJ0 cm_107
      refine aw_iald (v := (g_18 zn1)) dX12_taught_28 e_18 (by omega) (vp_in_nI (n := zn1) (by omega) (by omega)) (congrArg g_18 (nI_clamp (n := zn1) (by omega))) ?_
      refine aw_callSi (J' := jX12_max) (As := [.int 1, .int (g_18 zn1)]) (st := []) dX12_taught_29 tb_1328 ok_X12_max rfl (r_max l D b N V hN cl hJ0.1 1 (g_18 zn1)) rfl (Nat.le_of_ble_eq_true rfl) ⟨Nat.le_of_ble_eq_true rfl, Nat.le_of_ble_eq_true rfl, Nat.le_of_ble_eq_true rfl, Nat.le_of_ble_eq_true rfl⟩ (fun r_20 N_21 V_22 q_23 => ?_)
      obtain ⟨rfl, rfl⟩ := q_23
      refine aw_istore (ls' := [some (.ref (b + 100)), some (.int (nI zn0)), some (.int (nI zn1)), some (.int 1000000), some (.int r_20), none, none]) dX12_taught_32 (Nat.le_of_ble_eq_true rfl) rfl ?_
      have ml_34_24 : ∀ (m : Nat) (v34_3 : Int32) (v34_4 : Int32), m = ((99 : Int32).toInt + 1 - v34_4.toInt).toNat → AW l D b jX12_taught (fx_rm 2 0 0) none (fx_MQ D b 0 0 (fx_qi (fun r N9 V9 => N = N9 ∧ V = V9))) 34 [some (.ref (b + 100)), some (.int (nI zn0)), some (.int (nI zn1)), some (.int v34_3), some (.int v34_4), none, none] [] N V 0 0 := by
        intro m; refine Nat.strongRecOn m ?_
        intro m mih_34_24 v34_3 v34_4 hm34 
        refine aw_iload dX12_taught_34 rfl ?_
        refine aw_bipush (v := 99) dX12_taught_36 (by decide) ?_
        refine aw_icmp_gt (tgt := 121) dX12_taught_38 (by decide) (fun c_25 => ?_) (fun c_25 => ?_)
        · skip
          refine aw_iload_n dX12_taught_121 rfl ?_
          refine aw_ireti dX12_taught_122 rfl (Nat.le_of_ble_eq_true rfl) (Nat.le_of_ble_eq_true rfl) ?_
          exact ⟨rfl, rfl⟩
        · skip
          refine aw_iload dX12_taught_41 rfl ?_
          refine aw_aload_n dX12_taught_43 rfl ?_
          refine aw_iload_n dX12_taught_44 rfl ?_
          refine aw_aload_n dX12_taught_45 rfl ?_
          refine aw_get dX12_taught_46 fl_X12_25 e_4 (by omega) rfl ?_
          refine aw_iload_n dX12_taught_49 rfl ?_
          obtain ⟨g_26, e_26, p_26⟩ := JR.get hJ0 cm_106
          refine aw_iald (v := (g_26 zn1)) dX12_taught_50 e_26 (by omega) (vp_in_nI (n := zn1) (by omega) (by omega)) (congrArg g_26 (nI_clamp (n := zn1) (by omega))) ?_
          refine aw_callVi (J' := jX12_dread) (As := [.int (nI zn0), .int (g_26 zn1)]) (st := [.int v34_4]) dX12_taught_51 tb_1392 ok_X12_dread ⟨_, e_4⟩ (by omega) rfl rfl (r_dread l D b N V hN cl hJ0.1 (nI zn0) ⟨zn0, by omega, rfl⟩ (g_26 zn1) (p_26 _ (by omega))) rfl (Nat.le_of_ble_eq_true rfl) ⟨Nat.le_of_ble_eq_true rfl, Nat.le_of_ble_eq_true rfl, Nat.le_of_ble_eq_true rfl, Nat.le_of_ble_eq_true rfl⟩ (fun r_28 N_29 V_30 q_31 => ?_)
          obtain ⟨rfl, rfl⟩ := q_31
          refine aw_isub dX12_taught_54 ?_
          refine aw_callSi (J' := jX12_size) (As := [.int (v34_4 - r_28)]) (st := []) dX12_taught_55 tb_1474 ok_X12_size rfl (r_size l D b N V hN cl hJ0.1 (v34_4 - r_28)) rfl (Nat.le_of_ble_eq_true rfl) ⟨Nat.le_of_ble_eq_true rfl, Nat.le_of_ble_eq_true rfl, Nat.le_of_ble_eq_true rfl, Nat.le_of_ble_eq_true rfl⟩ (fun r_33 N_34 V_35 q_36 => ?_)
          obtain ⟨rfl, rfl⟩ := q_36
          refine aw_istore (ls' := [some (.ref (b + 100)), some (.int (nI zn0)), some (.int (nI zn1)), some (.int v34_3), some (.int v34_4), some (.int r_33), none]) dX12_taught_58 (Nat.le_of_ble_eq_true rfl) rfl ?_
          refine aw_iconst (v := 0) dX12_taught_60 (by decide) ?_
          refine aw_istore (ls' := [some (.ref (b + 100)), some (.int (nI zn0)), some (.int (nI zn1)), some (.int v34_3), some (.int v34_4), some (.int r_33), some (.int 0)]) dX12_taught_61 (Nat.le_of_ble_eq_true rfl) rfl ?_
          have loop_63_36 : ∀ (g_63 : Nat), ∀ (j63 : Nat) (v63_5 : Int32), j63 + g_63 = 16 → AW l D b jX12_taught (fx_rm 2 0 0) none (fx_MQ D b 0 0 (fx_qi (fun r N9 V9 => N = N9 ∧ V = V9))) 63 [some (.ref (b + 100)), some (.int (nI zn0)), some (.int (nI zn1)), some (.int v34_3), some (.int v34_4), some (.int v63_5), some (.int (nI j63))] [] N V 0 0 := by
            intro g_63
            induction g_63 with
            | zero =>
              intro j63 v63_5 hj63
              obtain rfl : j63 = 16 := by omega
              refine aw_iload dX12_taught_63 rfl ?_
              refine aw_bipush (v := 16) dX12_taught_65 (by decide) ?_
              refine aw_icmp_ge (tgt := 108) dX12_taught_67 (by decide) (fun c_39 => ?_) (fun c_39 => ?_)
              rotate_left
              · exact absurd (nI_le (a := 16) (b := 16) (Nat.le_refl _) (by omega)) c_39
              refine aw_iload_n dX12_taught_108 rfl ?_
              refine aw_iload dX12_taught_109 rfl ?_
              refine aw_callSi (J' := jX12_min) (As := [.int v34_3, .int v63_5]) (st := []) dX12_taught_111 tb_1325 ok_X12_min rfl (r_min l D b N V hN cl hJ0.1 v34_3 v63_5) rfl (Nat.le_of_ble_eq_true rfl) ⟨Nat.le_of_ble_eq_true rfl, Nat.le_of_ble_eq_true rfl, Nat.le_of_ble_eq_true rfl, Nat.le_of_ble_eq_true rfl⟩ (fun r_41 N_42 V_43 q_44 => ?_)
              obtain ⟨rfl, rfl⟩ := q_44
              refine aw_istore_n (ls' := [some (.ref (b + 100)), some (.int (nI zn0)), some (.int (nI zn1)), some (.int r_41), some (.int v34_4), some (.int v63_5), some (.int (nI 16))]) dX12_taught_114 (Nat.le_of_ble_eq_true rfl) rfl ?_
              refine aw_iinc (v := (v34_4 + 1)) (ls' := [some (.ref (b + 100)), some (.int (nI zn0)), some (.int (nI zn1)), some (.int r_41), some (.int (v34_4 + 1)), some (.int v63_5), some (.int (nI 16))]) dX12_taught_115 rfl rfl (Nat.le_of_ble_eq_true rfl) rfl ?_
              refine aw_goto (tgt := 34) dX12_taught_118 (by decide) ?_
              refine aw_le ?_ (mih_34_24 _ (by rw [hm34]; exact fx_dec c_25 (by decide)) r_41 (v34_4 + 1) rfl )
              exact ⟨rfl, ⟨rfl, ⟨rfl, ⟨rfl, ⟨rfl, trivial⟩⟩⟩⟩⟩
            | succ g_63 ih_63_37 =>
              intro j63 v63_5 hj63
              have hlj63 : j63 < 16 := by omega
              refine aw_iload dX12_taught_63 rfl ?_
              refine aw_bipush (v := 16) dX12_taught_65 (by decide) ?_
              refine aw_icmp_ge (tgt := 108) dX12_taught_67 (by decide) (fun c_45 => ?_) (fun c_45 => ?_)
              · exact absurd c_45 (nI_ge (a := j63) (b := 16) (by omega) (by omega))
              refine aw_iload dX12_taught_70 rfl ?_
              refine aw_aload_n dX12_taught_72 rfl ?_
              refine aw_get dX12_taught_73 fl_X12_25 e_4 (by omega) rfl ?_
              refine aw_iload_n dX12_taught_76 rfl ?_
              refine aw_iald (v := (g_26 zn1)) dX12_taught_77 e_26 (by omega) (vp_in_nI (n := zn1) (by omega) (by omega)) (congrArg g_26 (nI_clamp (n := zn1) (by omega))) ?_
              refine aw_icmp_eq (tgt := 102) dX12_taught_78 (by decide) (fun c_46 => ?_) (fun c_46 => ?_)
              · skip
                refine aw_iinc (v := (nI (j63 + 1))) (ls' := [some (.ref (b + 100)), some (.int (nI zn0)), some (.int (nI zn1)), some (.int v34_3), some (.int v34_4), some (.int v63_5), some (.int (nI (j63 + 1)))]) dX12_taught_102 rfl (fx_up_1 _) (Nat.le_of_ble_eq_true rfl) rfl ?_
                refine aw_goto (tgt := 63) dX12_taught_105 (by decide) ?_
                refine aw_le ?_ (ih_63_37 (j63 + 1) v63_5  (by omega))
                exact ⟨rfl, ⟨rfl, ⟨rfl, ⟨rfl, ⟨rfl, ⟨rfl, ⟨rfl, trivial⟩⟩⟩⟩⟩⟩⟩
              · skip
                refine aw_iload dX12_taught_81 rfl ?_
                refine aw_iconst (v := 0) dX12_taught_83 (by decide) ?_
                refine aw_aload_n dX12_taught_84 rfl ?_
                refine aw_iload_n dX12_taught_85 rfl ?_
                refine aw_iload dX12_taught_86 rfl ?_
                refine aw_callVi (J' := jX12_dread) (As := [.int (nI zn0), .int (nI j63)]) (st := [.int 0, .int v63_5]) dX12_taught_88 tb_1392 ok_X12_dread ⟨_, e_4⟩ (by omega) rfl rfl (r_dread l D b N V hN cl hJ0.1 (nI zn0) ⟨zn0, by omega, rfl⟩ (nI j63) ⟨j63, by omega, rfl⟩) rfl (Nat.le_of_ble_eq_true rfl) ⟨Nat.le_of_ble_eq_true rfl, Nat.le_of_ble_eq_true rfl, Nat.le_of_ble_eq_true rfl, Nat.le_of_ble_eq_true rfl⟩ (fun r_48 N_49 V_50 q_51 => ?_)
                obtain ⟨rfl, rfl⟩ := q_51
                refine aw_iload dX12_taught_91 rfl ?_
                refine aw_isub dX12_taught_93 ?_
                refine aw_iconst (v := 1) dX12_taught_94 (by decide) ?_
                refine aw_iadd dX12_taught_95 ?_
                refine aw_callSi (J' := jX12_max) (As := [.int 0, .int ((r_48 - v34_4) + 1)]) (st := [.int v63_5]) dX12_taught_96 tb_1328 ok_X12_max rfl (r_max l D b N V hN cl hJ0.1 0 ((r_48 - v34_4) + 1)) rfl (Nat.le_of_ble_eq_true rfl) ⟨Nat.le_of_ble_eq_true rfl, Nat.le_of_ble_eq_true rfl, Nat.le_of_ble_eq_true rfl, Nat.le_of_ble_eq_true rfl⟩ (fun r_53 N_54 V_55 q_56 => ?_)
                obtain ⟨rfl, rfl⟩ := q_56
                refine aw_iadd dX12_taught_99 ?_
                refine aw_istore (ls' := [some (.ref (b + 100)), some (.int (nI zn0)), some (.int (nI zn1)), some (.int v34_3), some (.int v34_4), some (.int (v63_5 + r_53)), some (.int (nI j63))]) dX12_taught_100 (Nat.le_of_ble_eq_true rfl) rfl ?_
                refine aw_iinc (v := (nI (j63 + 1))) (ls' := [some (.ref (b + 100)), some (.int (nI zn0)), some (.int (nI zn1)), some (.int v34_3), some (.int v34_4), some (.int (v63_5 + r_53)), some (.int (nI (j63 + 1)))]) dX12_taught_102 rfl (fx_up_1 _) (Nat.le_of_ble_eq_true rfl) rfl ?_
                refine aw_goto (tgt := 63) dX12_taught_105 (by decide) ?_
                refine aw_le ?_ (ih_63_37 (j63 + 1) (v63_5 + r_53)  (by omega))
                exact ⟨rfl, ⟨rfl, ⟨rfl, ⟨rfl, ⟨rfl, ⟨rfl, ⟨rfl, trivial⟩⟩⟩⟩⟩⟩⟩
          refine aw_le ?_ (loop_63_36 16 0 r_33  (by omega))
          exact ⟨rfl, ⟨rfl, ⟨rfl, ⟨rfl, ⟨rfl, ⟨rfl, ⟨rfl, trivial⟩⟩⟩⟩⟩⟩⟩
      refine aw_le ?_ (ml_34_24 _ 1000000 r_20 rfl )
      exact ⟨rfl, ⟨rfl, ⟨rfl, ⟨rfl, ⟨rfl, trivial⟩⟩⟩⟩⟩
    · skip
      refine aw_iconst (v := (-1)) dX12_taught_16 (by decide) ?_
      refine aw_ireti dX12_taught_17 rfl (Nat.le_of_ble_eq_true rfl) (Nat.le_of_ble_eq_true rfl) ?_
      exact ⟨rfl, rfl⟩

set_option maxHeartbeats 4000000 in
set_option maxRecDepth 100000 in
theorem r_keep (l : Launch) (D : va_G) (b : Nat) (N : Nat) (V : Wd) (hN : 133 ≤ N) (cl : Nat) (hW : CR D b cl V)   : MI l D b 1 jX12_keep [.ref (b + 100)] N V 0 0 (fun r N9 V9 => N = N9 ∧ JR D b N cl [(103, 103, 0, 1000000), (100, 100, 51, 51)] V V9) := by
  have hJ0 : JR D b N cl [(103, 103, 0, 1000000), (100, 100, 51, 51)] V V := JR.rf hW
  refine mw_of (by decide) (by simp [Value.category]) (Nat.le_of_ble_eq_true rfl) ?_
  show AW l D b jX12_keep (fx_rm 1 0 0) none (fx_MQ D b 0 0 (fx_qi (fun r N9 V9 => N = N9 ∧ JR D b N cl [(103, 103, 0, 1000000), (100, 100, 51, 51)] V V9))) 0 [some (.ref (b + 100))] [] N V 0 0
  refine aw_aload_n dX12_keep_0 rfl ?_
  refine aw_iconst (v := 1) dX12_keep_1 (by decide) ?_
  obtain ⟨ftoldPeople_1, ftoldDoors_1, fwasDoors_1, ffault_1, fopen_1, flines_1, fmeantSet_1, fopenedNow_1, fvainNow_1, flowNow_1, fhighNow_1, fisKept_1, tad_1, pl0_1, le0_1, nu0_1, coy_1, wag_1, say_1, e_1, hntad_1, hnpl0_1, hnle0_1, hnnu0_1, hncoy_1, hnwag_1, hnsay_1⟩ := JR.get hJ0 cm_100
  refine aw_put dX12_keep_2 fp_X12_424 e_1 (by omega) (by decide) rfl (Nat.le_of_ble_eq_true rfl) rfl ?_
  refine aw_upR hJ0 cm_100 ⟨_, _, _, _, _, _, _, _, _, _, _, _, tad_1, pl0_1, le0_1, nu0_1, coy_1, wag_1, say_1, rfl, by omega, by omega, by omega, by omega, by omega, by omega, by omega⟩ (by decide) (WO (s := 51) (x := .int 1) e_1 rfl (LMs LM0) (by decide) (by decide) (by decide) (Or.inl (by decide))) (fun V_2 j_2 k_2 e_2 => ?_)
  refine aw_aload_n dX12_keep_5 rfl ?_
  refine aw_get dX12_keep_6 fl_X12_7 e_2 (by omega) rfl ?_
  refine aw_aload_n dX12_keep_9 rfl ?_
  refine aw_get dX12_keep_10 fl_X12_16 e_2 (by omega) rfl ?_
  refine aw_callSv (J' := jX12_copies) (As := [.ref (b + 101), .ref (b + 103)]) (st := []) dX12_keep_13 tb_1299 ok_X12_copies rfl (r_copies l D b N V_2 hN cl j_2.1 101 1 cm_101 103 3 cm_103 (by decide)) rfl (Nat.le_of_ble_eq_true rfl) ⟨Nat.le_of_ble_eq_true rfl, Nat.le_of_ble_eq_true rfl, Nat.le_of_ble_eq_true rfl, Nat.le_of_ble_eq_true rfl⟩ (fun  N_6 V_5 q_7 => ?_)
  obtain ⟨rfl, q_3⟩ := q_7
  have j_4 := JR.trans j_2 (JR.weak q_3 (Sub.cons LM0 (by decide) (by decide) (by decide) (Or.inl rfl) Sub.nil))
  refine aw_aload_n dX12_keep_16 rfl ?_
  obtain ⟨ftoldPeople_8, ftoldDoors_8, fwasDoors_8, ffault_8, fopen_8, flines_8, fmeantSet_8, fopenedNow_8, fvainNow_8, flowNow_8, fhighNow_8, fisKept_8, tad_8, pl0_8, le0_8, nu0_8, coy_8, wag_8, say_8, e_8, hntad_8, hnpl0_8, hnle0_8, hnnu0_8, hncoy_8, hnwag_8, hnsay_8⟩ := JR.get j_4 cm_100
  refine aw_get dX12_keep_17 fl_X12_7 e_8 (by omega) rfl ?_
  refine aw_sipush (v := 208) dX12_keep_20 (by decide) ?_
  obtain ⟨g_9, e_9⟩ := JR.get j_4 cm_101
  refine aw_iald (v := (g_9 208)) dX12_keep_23 e_9 (by omega) (vp_in_nI (n := 208) (N := 210) (by decide) (by decide)) (congrArg g_9 (nI_clamp (n := 208) (by omega))) ?_
  refine aw_ireti dX12_keep_24 rfl (Nat.le_of_ble_eq_true rfl) (Nat.le_of_ble_eq_true rfl) ?_
  exact ⟨rfl, j_4⟩

set_option maxHeartbeats 4000000 in
set_option maxRecDepth 100000 in
theorem r_undo (l : Launch) (D : va_G) (b : Nat) (N : Nat) (V : Wd) (hN : 133 ≤ N) (cl : Nat) (hW : CR D b cl V)   : MI l D b 1 jX12_undo [.ref (b + 100)] N V 0 0 (fun r N9 V9 => (r = 0 ∨ r = 1) ∧ N = N9 ∧ JR D b N cl [(101, 101, 0, 1000000)] V V9) := by
  have hJ0 : JR D b N cl [(101, 101, 0, 1000000)] V V := JR.rf hW
  refine mw_of (by decide) (by simp [Value.category]) (Nat.le_of_ble_eq_true rfl) ?_
  show AW l D b jX12_undo (fx_rm 1 0 0) none (fx_MQ D b 0 0 (fx_qi (fun r N9 V9 => (r = 0 ∨ r = 1) ∧ N = N9 ∧ JR D b N cl [(101, 101, 0, 1000000)] V V9))) 0 [some (.ref (b + 100))] [] N V 0 0
  refine aw_aload_n dX12_undo_0 rfl ?_
  obtain ⟨ftoldPeople_1, ftoldDoors_1, fwasDoors_1, ffault_1, fopen_1, flines_1, fmeantSet_1, fopenedNow_1, fvainNow_1, flowNow_1, fhighNow_1, fisKept_1, tad_1, pl0_1, le0_1, nu0_1, coy_1, wag_1, say_1, e_1, hntad_1, hnpl0_1, hnle0_1, hnnu0_1, hncoy_1, hnwag_1, hnsay_1⟩ := JR.get hJ0 cm_100
  refine aw_get dX12_undo_1 fl_X12_424 e_1 (by omega) rfl ?_
  refine aw_if_ne (tgt := 9) dX12_undo_4 (by decide) (fun c_2 => ?_) (fun c_2 => ?_)
  · skip
    refine aw_aload_n dX12_undo_9 rfl ?_
    refine aw_get dX12_undo_10 fl_X12_16 e_1 (by omega) rfl ?_
    refine aw_aload_n dX12_undo_13 rfl ?_
    refine aw_get dX12_undo_14 fl_X12_7 e_1 (by omega) rfl ?_
    refine aw_callSv (J' := jX12_copies) (As := [.ref (b + 103), .ref (b + 101)]) (st := []) dX12_undo_17 tb_1299 ok_X12_copies rfl (r_copies l D b N V hN cl hJ0.1 103 3 cm_103 101 1 cm_101 (by decide)) rfl (Nat.le_of_ble_eq_true rfl) ⟨Nat.le_of_ble_eq_true rfl, Nat.le_of_ble_eq_true rfl, Nat.le_of_ble_eq_true rfl, Nat.le_of_ble_eq_true rfl⟩ (fun  N_6 V_5 q_7 => ?_)
    obtain ⟨rfl, q_3⟩ := q_7
    have j_4 := JR.trans hJ0 (JR.weak q_3 (Sub.cons LM0 (by decide) (by decide) (by decide) (Or.inl rfl) Sub.nil))
    refine aw_iconst (v := 1) dX12_undo_20 (by decide) ?_
    refine aw_zreti dX12_undo_21 rfl (by first | exact Or.inl rfl | exact Or.inr rfl | assumption) (Nat.le_of_ble_eq_true rfl) (Nat.le_of_ble_eq_true rfl) ?_
    exact ⟨(by first | exact Or.inl rfl | exact Or.inr rfl | assumption), rfl, j_4⟩
  · skip
    refine aw_iconst (v := 0) dX12_undo_7 (by decide) ?_
    refine aw_zreti dX12_undo_8 rfl (by first | exact Or.inl rfl | exact Or.inr rfl | assumption) (Nat.le_of_ble_eq_true rfl) (Nat.le_of_ble_eq_true rfl) ?_
    exact ⟨(by first | exact Or.inl rfl | exact Or.inr rfl | assumption), rfl, hJ0⟩

set_option maxHeartbeats 4000000 in
set_option maxRecDepth 100000 in
theorem r_seed (l : Launch) (D : va_G) (b : Nat) (N : Nat) (V : Wd) (hN : 133 ≤ N) (cl : Nat) (hW : CR D b cl V) (n0 : Int32)  : MI l D b 1 jX12_seed [.ref (b + 100), .int n0] N V 0 0 (fun r N9 V9 => (r = 0 ∨ r = 1) ∧ N = N9 ∧ JR D b N cl [(101, 101, 209, 209)] V V9) := by
  have hJ0 : JR D b N cl [(101, 101, 209, 209)] V V := JR.rf hW
  refine mw_of (by decide) (by simp [Value.category]) (Nat.le_of_ble_eq_true rfl) ?_
  show AW l D b jX12_seed (fx_rm 1 0 0) none (fx_MQ D b 0 0 (fx_qi (fun r N9 V9 => (r = 0 ∨ r = 1) ∧ N = N9 ∧ JR D b N cl [(101, 101, 209, 209)] V V9))) 0 [some (.ref (b + 100)), some (.int n0)] [] N V 0 0
  refine aw_iload_n dX12_seed_0 rfl ?_
  refine aw_iconst (v := 0) dX12_seed_1 (by decide) ?_
  refine aw_ldcw (v := 65535) dX12_seed_2 tb_1314 ?_
  refine aw_callSi (J' := jX12_in) (As := [.int n0, .int 0, .int 65535]) (st := []) dX12_seed_5 tb_1209 ok_X12_in rfl (r_in l D b N V hN cl hJ0.1 n0 0 65535) rfl (Nat.le_of_ble_eq_true rfl) ⟨Nat.le_of_ble_eq_true rfl, Nat.le_of_ble_eq_true rfl, Nat.le_of_ble_eq_true rfl, Nat.le_of_ble_eq_true rfl⟩ (fun r_4 N_5 V_6 q_7 => ?_)
  obtain ⟨⟨z_3, h_2⟩, rfl, rfl⟩ := q_7
  refine aw_if_ne (tgt := 13) dX12_seed_8 (by decide) (fun c_8 => ?_) (fun c_8 => ?_)
  · skip
    obtain ⟨zn0, h0zn0, hzn0, rfl⟩ := in_nat (a := 0) (b := 65535) (by decide) (h_2.resolve_left c_8)
    refine aw_aload_n dX12_seed_13 rfl ?_
    obtain ⟨ftoldPeople_9, ftoldDoors_9, fwasDoors_9, ffault_9, fopen_9, flines_9, fmeantSet_9, fopenedNow_9, fvainNow_9, flowNow_9, fhighNow_9, fisKept_9, tad_9, pl0_9, le0_9, nu0_9, coy_9, wag_9, say_9, e_9, hntad_9, hnpl0_9, hnle0_9, hnnu0_9, hncoy_9, hnwag_9, hnsay_9⟩ := JR.get hJ0 cm_100
    refine aw_get dX12_seed_14 fl_X12_7 e_9 (by omega) rfl ?_
    refine aw_sipush (v := 209) dX12_seed_17 (by decide) ?_
    refine aw_iload_n dX12_seed_20 rfl ?_
    obtain ⟨g_10, e_10⟩ := JR.get hJ0 cm_101
    refine aw_iast dX12_seed_21 e_10 (by omega) (vp_in_nI (n := 209) (N := 210) (by decide) (by decide)) ?_
    refine aw_upR hJ0 cm_101 ⟨_, rfl⟩ (by decide) (WE e_10 LM0 (by decide) (by decide) (by decide) (by decide)) (fun V_11 j_11 k_11 e_11 => ?_)
    refine aw_iconst (v := 1) dX12_seed_22 (by decide) ?_
    refine aw_zreti dX12_seed_23 rfl (by first | exact Or.inl rfl | exact Or.inr rfl | assumption) (Nat.le_of_ble_eq_true rfl) (Nat.le_of_ble_eq_true rfl) ?_
    exact ⟨(by first | exact Or.inl rfl | exact Or.inr rfl | assumption), rfl, j_11⟩
  · skip
    refine aw_iconst (v := 0) dX12_seed_11 (by decide) ?_
    refine aw_zreti dX12_seed_12 rfl (by first | exact Or.inl rfl | exact Or.inr rfl | assumption) (Nat.le_of_ble_eq_true rfl) (Nat.le_of_ble_eq_true rfl) ?_
    exact ⟨(by first | exact Or.inl rfl | exact Or.inr rfl | assumption), rfl, hJ0⟩

set_option maxHeartbeats 4000000 in
set_option maxRecDepth 100000 in
theorem r_check (l : Launch) (D : va_G) (b : Nat) (N : Nat) (V : Wd) (hN : 133 ≤ N) (cl : Nat) (hW : CR D b cl V) (n0 : Int32)  : MI l D b 2 jX12_check [.ref (b + 100), .int n0] N V 0 0 (fun r N9 V9 => N = N9 ∧ JR D b N cl [(100, 100, 13, 13)] V V9) := by
  have hJ0 : JR D b N cl [(100, 100, 13, 13)] V V := JR.rf hW
  refine mw_of (by decide) (by simp [Value.category]) (Nat.le_of_ble_eq_true rfl) ?_
  show AW l D b jX12_check (fx_rm 2 0 0) none (fx_MQ D b 0 0 (fx_qi (fun r N9 V9 => N = N9 ∧ JR D b N cl [(100, 100, 13, 13)] V V9))) 0 [some (.ref (b + 100)), some (.int n0), none] [] N V 0 0
  refine aw_iload_n dX12_check_0 rfl ?_
  refine aw_iconst (v := 0) dX12_check_1 (by decide) ?_
  refine aw_bipush (v := 12) dX12_check_2 (by decide) ?_
  refine aw_callSi (J' := jX12_in) (As := [.int n0, .int 0, .int 12]) (st := []) dX12_check_4 tb_1209 ok_X12_in rfl (r_in l D b N V hN cl hJ0.1 n0 0 12) rfl (Nat.le_of_ble_eq_true rfl) ⟨Nat.le_of_ble_eq_true rfl, Nat.le_of_ble_eq_true rfl, Nat.le_of_ble_eq_true rfl, Nat.le_of_ble_eq_true rfl⟩ (fun r_4 N_5 V_6 q_7 => ?_)
  obtain ⟨⟨z_3, h_2⟩, rfl, rfl⟩ := q_7
  refine aw_if_eq (tgt := 18) dX12_check_7 (by decide) (fun c_8 => ?_) (fun c_8 => ?_)
  · skip
    refine aw_bipush (v := (-2)) dX12_check_18 (by decide) ?_
    refine aw_ireti dX12_check_20 rfl (Nat.le_of_ble_eq_true rfl) (Nat.le_of_ble_eq_true rfl) ?_
    exact ⟨rfl, hJ0⟩
  · skip
    obtain ⟨zn0, h0zn0, hzn0, rfl⟩ := in_nat (a := 0) (b := 12) (by decide) (h_2.resolve_left c_8)
    refine aw_iload_n dX12_check_10 rfl ?_
    refine aw_aload_n dX12_check_11 rfl ?_
    obtain ⟨ftoldPeople_9, ftoldDoors_9, fwasDoors_9, ffault_9, fopen_9, flines_9, fmeantSet_9, fopenedNow_9, fvainNow_9, flowNow_9, fhighNow_9, fisKept_9, tad_9, pl0_9, le0_9, nu0_9, coy_9, wag_9, say_9, e_9, hntad_9, hnpl0_9, hnle0_9, hnnu0_9, hncoy_9, hnwag_9, hnsay_9⟩ := JR.get hJ0 cm_100
    refine aw_get dX12_check_12 fl_X12_152 e_9 (by omega) rfl ?_
    refine aw_icmp_le (tgt := 21) dX12_check_15 (by decide) (fun c_10 => ?_) (fun c_10 => ?_)
    · skip
      have nc_10 : zn0 ≤ tad_9 := (nI_leI (a := zn0) (b := tad_9) (by omega) (by omega)).mp c_10
      refine aw_aload_n dX12_check_21 rfl ?_
      refine aw_iconst (v := 0) dX12_check_22 (by decide) ?_
      refine aw_put dX12_check_23 fp_X12_152 e_9 (by omega) rfl rfl (Nat.le_of_ble_eq_true rfl) rfl ?_
      refine aw_upR hJ0 cm_100 ⟨_, _, _, _, _, _, _, _, _, _, _, _, 0, pl0_9, le0_9, nu0_9, coy_9, wag_9, say_9, rfl, by omega, by omega, by omega, by omega, by omega, by omega, by omega⟩ (by decide) (WO (s := 13) (x := .int 0) e_9 rfl LM0 (by decide) (by decide) (by decide) (Or.inl (by decide))) (fun V_11 j_11 k_11 e_11 => ?_)
      refine aw_iconst (v := 0) dX12_check_26 (by decide) ?_
      refine aw_istore_n (ls' := [some (.ref (b + 100)), some (.int (nI zn0)), some (.int 0)]) dX12_check_27 (Nat.le_of_ble_eq_true rfl) rfl ?_
      have loop_28_11 : ∀ (g_28 : Nat), ∀ (j28 : Nat), j28 + g_28 = zn0 → AW l D b jX12_check (fx_rm 2 0 0) none (fx_MQ D b 0 0 (fx_qi (fun r N9 V9 => N = N9 ∧ JR D b N cl [(100, 100, 13, 13)] V V9))) 28 [some (.ref (b + 100)), some (.int (nI zn0)), some (.int (nI j28))] [] N V_11 0 0 := by
        intro g_28
        induction g_28 with
        | zero =>
          intro j28  hj28
          obtain rfl : zn0 = j28 := by omega
          refine aw_iload_n dX12_check_28 rfl ?_
          refine aw_iload_n dX12_check_29 rfl ?_
          refine aw_icmp_ge (tgt := 68) dX12_check_30 (by decide) (fun c_14 => ?_) (fun c_14 => ?_)
          rotate_left
          · exact absurd (nI_le (a := zn0) (b := zn0) (Nat.le_refl _) (by omega)) c_14
          refine aw_iconst (v := (-1)) dX12_check_68 (by decide) ?_
          refine aw_ireti dX12_check_69 rfl (Nat.le_of_ble_eq_true rfl) (Nat.le_of_ble_eq_true rfl) ?_
          exact ⟨rfl, j_11⟩
        | succ g_28 ih_28_12 =>
          intro j28  hj28
          have hlj28 : j28 < zn0 := by omega
          refine aw_iload_n dX12_check_28 rfl ?_
          refine aw_iload_n dX12_check_29 rfl ?_
          refine aw_icmp_ge (tgt := 68) dX12_check_30 (by decide) (fun c_15 => ?_) (fun c_15 => ?_)
          · exact absurd c_15 (nI_ge (a := j28) (b := zn0) (by omega) (by omega))
          refine aw_aload_n dX12_check_33 rfl ?_
          refine aw_iload_n dX12_check_34 rfl ?_
          refine aw_callVi (J' := jX12_octet) (As := [.int (nI j28)]) (st := []) dX12_check_35 tb_1556 ok_X12_octet ⟨_, e_11⟩ (by omega) rfl rfl (r_octet l D b N V_11 hN cl j_11.1 (nI j28) ⟨j28, by omega, rfl⟩) rfl (Nat.le_of_ble_eq_true rfl) ⟨Nat.le_of_ble_eq_true rfl, Nat.le_of_ble_eq_true rfl, Nat.le_of_ble_eq_true rfl, Nat.le_of_ble_eq_true rfl⟩ (fun r_17 N_18 V_19 q_20 => ?_)
          obtain ⟨rfl, rfl⟩ := q_20
          refine aw_aload_n dX12_check_38 rfl ?_
          refine aw_iload_n dX12_check_39 rfl ?_
          refine aw_callVi (J' := jX12_isTold) (As := [.int (nI j28)]) (st := [.int r_17]) dX12_check_40 tb_1351 ok_X12_isTold ⟨_, e_11⟩ (by omega) rfl rfl (r_isTold l D b N V_11 hN cl j_11.1 (nI j28)) rfl (Nat.le_of_ble_eq_true rfl) ⟨Nat.le_of_ble_eq_true rfl, Nat.le_of_ble_eq_true rfl, Nat.le_of_ble_eq_true rfl, Nat.le_of_ble_eq_true rfl⟩ (fun r_24 N_25 V_26 q_27 => ?_)
          obtain ⟨⟨z_23, h_22⟩, rfl, rfl⟩ := q_27
          refine aw_if_eq (tgt := 54) dX12_check_43 (by decide) (fun c_28 => ?_) (fun c_28 => ?_)
          · skip
            refine aw_sipush (v := 255) dX12_check_54 (by decide) ?_
            refine aw_icmp_eq (tgt := 62) dX12_check_57 (by decide) (fun c_29 => ?_) (fun c_29 => ?_)
            · skip
              refine aw_iinc (v := (nI (j28 + 1))) (ls' := [some (.ref (b + 100)), some (.int (nI zn0)), some (.int (nI (j28 + 1)))]) dX12_check_62 rfl (fx_up_1 _) (Nat.le_of_ble_eq_true rfl) rfl ?_
              refine aw_goto (tgt := 28) dX12_check_65 (by decide) ?_
              refine aw_le ?_ (ih_28_12 (j28 + 1)   (by omega))
              exact ⟨rfl, ⟨rfl, ⟨rfl, trivial⟩⟩⟩
            · skip
              refine aw_iload_n dX12_check_60 rfl ?_
              refine aw_ireti dX12_check_61 rfl (Nat.le_of_ble_eq_true rfl) (Nat.le_of_ble_eq_true rfl) ?_
              exact ⟨rfl, j_11⟩
          · skip
            refine aw_aload_n dX12_check_46 rfl ?_
            refine aw_iload_n dX12_check_47 rfl ?_
            refine aw_callVi (J' := jX12_greatest) (As := [.int (nI j28)]) (st := [.int r_17]) dX12_check_48 tb_1388 ok_X12_greatest ⟨_, e_11⟩ (by omega) rfl rfl (r_greatest l D b N V_11 hN cl j_11.1 (nI j28) ⟨j28, by omega, rfl⟩) rfl (Nat.le_of_ble_eq_true rfl) ⟨Nat.le_of_ble_eq_true rfl, Nat.le_of_ble_eq_true rfl, Nat.le_of_ble_eq_true rfl, Nat.le_of_ble_eq_true rfl⟩ (fun r_31 N_32 V_33 q_34 => ?_)
            obtain ⟨rfl, rfl⟩ := q_34
            refine aw_goto (tgt := 57) dX12_check_51 (by decide) ?_
            refine aw_icmp_eq (tgt := 62) dX12_check_57 (by decide) (fun c_35 => ?_) (fun c_35 => ?_)
            · skip
              refine aw_iinc (v := (nI (j28 + 1))) (ls' := [some (.ref (b + 100)), some (.int (nI zn0)), some (.int (nI (j28 + 1)))]) dX12_check_62 rfl (fx_up_1 _) (Nat.le_of_ble_eq_true rfl) rfl ?_
              refine aw_goto (tgt := 28) dX12_check_65 (by decide) ?_
              refine aw_le ?_ (ih_28_12 (j28 + 1)   (by omega))
              exact ⟨rfl, ⟨rfl, ⟨rfl, trivial⟩⟩⟩
            · skip
              refine aw_iload_n dX12_check_60 rfl ?_
              refine aw_ireti dX12_check_61 rfl (Nat.le_of_ble_eq_true rfl) (Nat.le_of_ble_eq_true rfl) ?_
              exact ⟨rfl, j_11⟩
      refine aw_le ?_ (loop_28_11 zn0 0   (by omega))
      exact ⟨rfl, ⟨rfl, ⟨rfl, trivial⟩⟩⟩
    · skip
      have nc_10 : ¬ (zn0 ≤ tad_9) := fun z => c_10 ((nI_leI (a := zn0) (b := tad_9) (by omega) (by omega)).mpr z)
      refine aw_bipush (v := (-2)) dX12_check_18 (by decide) ?_
      refine aw_ireti dX12_check_20 rfl (Nat.le_of_ble_eq_true rfl) (Nat.le_of_ble_eq_true rfl) ?_
      exact ⟨rfl, hJ0⟩

set_option maxHeartbeats 4000000 in
set_option maxRecDepth 100000 in
theorem r_twos (l : Launch) (D : va_G) (b : Nat) (N : Nat) (V : Wd) (hN : 133 ≤ N) (cl : Nat) (hW : CR D b cl V)   : MI l D b 1 jX12_twos [.ref (b + 100)] N V 0 0 (fun r N9 V9 => N = N9 ∧ V = V9) := by
  have hJ0 : JR D b N cl [] V V := JR.rf hW
  refine mw_of (by decide) (by simp [Value.category]) (Nat.le_of_ble_eq_true rfl) ?_
  show AW l D b jX12_twos (fx_rm 1 0 0) none (fx_MQ D b 0 0 (fx_qi (fun r N9 V9 => N = N9 ∧ V = V9))) 0 [some (.ref (b + 100)), none, none] [] N V 0 0
  refine aw_iconst (v := 0) dX12_twos_0 (by decide) ?_
  refine aw_istore_n (ls' := [some (.ref (b + 100)), some (.int 0), none]) dX12_twos_1 (Nat.le_of_ble_eq_true rfl) rfl ?_
  refine aw_iconst (v := 0) dX12_twos_2 (by decide) ?_
  refine aw_istore_n (ls' := [some (.ref (b + 100)), some (.int 0), some (.int 0)]) dX12_twos_3 (Nat.le_of_ble_eq_true rfl) rfl ?_
  have loop_4_0 : ∀ (g_4 : Nat), ∀ (j4 : Nat) (v4_1 : Int32), j4 + g_4 = 12 → AW l D b jX12_twos (fx_rm 1 0 0) none (fx_MQ D b 0 0 (fx_qi (fun r N9 V9 => N = N9 ∧ V = V9))) 4 [some (.ref (b + 100)), some (.int v4_1), some (.int (nI j4))] [] N V 0 0 := by
    intro g_4
    induction g_4 with
    | zero =>
      intro j4 v4_1 hj4
      obtain rfl : j4 = 12 := by omega
      refine aw_iload_n dX12_twos_4 rfl ?_
      refine aw_bipush (v := 12) dX12_twos_5 (by decide) ?_
      refine aw_icmp_ge (tgt := 28) dX12_twos_7 (by decide) (fun c_3 => ?_) (fun c_3 => ?_)
      rotate_left
      · exact absurd (nI_le (a := 12) (b := 12) (Nat.le_refl _) (by omega)) c_3
      refine aw_iload_n dX12_twos_28 rfl ?_
      refine aw_iconst (v := 2) dX12_twos_29 (by decide) ?_
      refine aw_idiv dX12_twos_30 (by decide) ?_
      refine aw_ireti dX12_twos_31 rfl (Nat.le_of_ble_eq_true rfl) (Nat.le_of_ble_eq_true rfl) ?_
      exact ⟨rfl, rfl⟩
    | succ g_4 ih_4_1 =>
      intro j4 v4_1 hj4
      have hlj4 : j4 < 12 := by omega
      refine aw_iload_n dX12_twos_4 rfl ?_
      refine aw_bipush (v := 12) dX12_twos_5 (by decide) ?_
      refine aw_icmp_ge (tgt := 28) dX12_twos_7 (by decide) (fun c_4 => ?_) (fun c_4 => ?_)
      · exact absurd c_4 (nI_ge (a := j4) (b := 12) (by omega) (by omega))
      refine aw_iload_n dX12_twos_10 rfl ?_
      refine aw_aload_n dX12_twos_11 rfl ?_
      obtain ⟨ftoldPeople_5, ftoldDoors_5, fwasDoors_5, ffault_5, fopen_5, flines_5, fmeantSet_5, fopenedNow_5, fvainNow_5, flowNow_5, fhighNow_5, fisKept_5, tad_5, pl0_5, le0_5, nu0_5, coy_5, wag_5, say_5, e_5, hntad_5, hnpl0_5, hnle0_5, hnnu0_5, hncoy_5, hnwag_5, hnsay_5⟩ := JR.get hJ0 cm_100
      refine aw_get dX12_twos_12 fl_X12_19 e_5 (by omega) rfl ?_
      refine aw_iload_n dX12_twos_15 rfl ?_
      obtain ⟨g_6, e_6, p_6⟩ := JR.get hJ0 cm_104
      refine aw_iald (v := (g_6 j4)) dX12_twos_16 e_6 (by omega) (vp_in_nI (n := j4) (by omega) (by omega)) (congrArg g_6 (nI_clamp (n := j4) (by omega))) ?_
      refine aw_callSi (J' := jX12_bits) (As := [.int (g_6 j4)]) (st := [.int v4_1]) dX12_twos_17 tb_1396 ok_X12_bits rfl (r_bits l D b N V hN cl hJ0.1 (g_6 j4)) rfl (Nat.le_of_ble_eq_true rfl) ⟨Nat.le_of_ble_eq_true rfl, Nat.le_of_ble_eq_true rfl, Nat.le_of_ble_eq_true rfl, Nat.le_of_ble_eq_true rfl⟩ (fun r_8 N_9 V_10 q_11 => ?_)
      obtain ⟨rfl, rfl⟩ := q_11
      refine aw_iadd dX12_twos_20 ?_
      refine aw_istore_n (ls' := [some (.ref (b + 100)), some (.int (v4_1 + r_8)), some (.int (nI j4))]) dX12_twos_21 (Nat.le_of_ble_eq_true rfl) rfl ?_
      refine aw_iinc (v := (nI (j4 + 1))) (ls' := [some (.ref (b + 100)), some (.int (v4_1 + r_8)), some (.int (nI (j4 + 1)))]) dX12_twos_22 rfl (fx_up_1 _) (Nat.le_of_ble_eq_true rfl) rfl ?_
      refine aw_goto (tgt := 4) dX12_twos_25 (by decide) ?_
      refine aw_le ?_ (ih_4_1 (j4 + 1) (v4_1 + r_8)  (by omega))
      exact ⟨rfl, ⟨rfl, ⟨rfl, trivial⟩⟩⟩
  refine aw_le ?_ (loop_4_0 12 0 0  (by omega))
  exact ⟨rfl, ⟨rfl, ⟨rfl, trivial⟩⟩⟩

set_option maxHeartbeats 4000000 in
set_option maxRecDepth 100000 in
theorem r_openedOfAll (l : Launch) (D : va_G) (b : Nat) (N : Nat) (V : Wd) (hN : 133 ≤ N) (cl : Nat) (hW : CR D b cl V)   : MI l D b 2 jX12_openedOfAll [.ref (b + 100)] N V 0 0 (fun r N9 V9 => N = N9 ∧ V = V9) := by
  have hJ0 : JR D b N cl [] V V := JR.rf hW
  refine mw_of (by decide) (by simp [Value.category]) (Nat.le_of_ble_eq_true rfl) ?_
  show AW l D b jX12_openedOfAll (fx_rm 2 0 0) none (fx_MQ D b 0 0 (fx_qi (fun r N9 V9 => N = N9 ∧ V = V9))) 0 [some (.ref (b + 100)), none, none] [] N V 0 0
  refine aw_iconst (v := 0) dX12_openedOfAll_0 (by decide) ?_
  refine aw_istore_n (ls' := [some (.ref (b + 100)), some (.int 0), none]) dX12_openedOfAll_1 (Nat.le_of_ble_eq_true rfl) rfl ?_
  refine aw_iconst (v := 0) dX12_openedOfAll_2 (by decide) ?_
  refine aw_istore_n (ls' := [some (.ref (b + 100)), some (.int 0), some (.int 0)]) dX12_openedOfAll_3 (Nat.le_of_ble_eq_true rfl) rfl ?_
  have loop_4_0 : ∀ (g_4 : Nat), ∀ (j4 : Nat) (v4_1 : Int32), j4 + g_4 = 16 → AW l D b jX12_openedOfAll (fx_rm 2 0 0) none (fx_MQ D b 0 0 (fx_qi (fun r N9 V9 => N = N9 ∧ V = V9))) 4 [some (.ref (b + 100)), some (.int v4_1), some (.int (nI j4))] [] N V 0 0 := by
    intro g_4
    induction g_4 with
    | zero =>
      intro j4 v4_1 hj4
      obtain rfl : j4 = 16 := by omega
      refine aw_iload_n dX12_openedOfAll_4 rfl ?_
      refine aw_bipush (v := 16) dX12_openedOfAll_5 (by decide) ?_
      refine aw_icmp_ge (tgt := 37) dX12_openedOfAll_7 (by decide) (fun c_3 => ?_) (fun c_3 => ?_)
      rotate_left
      · exact absurd (nI_le (a := 16) (b := 16) (Nat.le_refl _) (by omega)) c_3
      refine aw_iload_n dX12_openedOfAll_37 rfl ?_
      refine aw_ireti dX12_openedOfAll_38 rfl (Nat.le_of_ble_eq_true rfl) (Nat.le_of_ble_eq_true rfl) ?_
      exact ⟨rfl, rfl⟩
    | succ g_4 ih_4_1 =>
      intro j4 v4_1 hj4
      have hlj4 : j4 < 16 := by omega
      refine aw_iload_n dX12_openedOfAll_4 rfl ?_
      refine aw_bipush (v := 16) dX12_openedOfAll_5 (by decide) ?_
      refine aw_icmp_ge (tgt := 37) dX12_openedOfAll_7 (by decide) (fun c_4 => ?_) (fun c_4 => ?_)
      · exact absurd c_4 (nI_ge (a := j4) (b := 16) (by omega) (by omega))
      refine aw_aload_n dX12_openedOfAll_10 rfl ?_
      refine aw_iload_n dX12_openedOfAll_11 rfl ?_
      obtain ⟨ftoldPeople_8, ftoldDoors_8, fwasDoors_8, ffault_8, fopen_8, flines_8, fmeantSet_8, fopenedNow_8, fvainNow_8, flowNow_8, fhighNow_8, fisKept_8, tad_8, pl0_8, le0_8, nu0_8, coy_8, wag_8, say_8, e_8, hntad_8, hnpl0_8, hnle0_8, hnnu0_8, hncoy_8, hnwag_8, hnsay_8⟩ := JR.get hJ0 cm_100
      refine aw_callVi (J' := jX12_isDoor) (As := [.int (nI j4)]) (st := []) dX12_openedOfAll_12 tb_1359 ok_X12_isDoor ⟨_, e_8⟩ (by omega) rfl rfl (r_isDoor l D b N V hN cl hJ0.1 (nI j4)) rfl (Nat.le_of_ble_eq_true rfl) ⟨Nat.le_of_ble_eq_true rfl, Nat.le_of_ble_eq_true rfl, Nat.le_of_ble_eq_true rfl, Nat.le_of_ble_eq_true rfl⟩ (fun r_9 N_10 V_11 q_12 => ?_)
      obtain ⟨⟨z_7, h_6⟩, rfl, rfl⟩ := q_12
      refine aw_if_eq (tgt := 31) dX12_openedOfAll_15 (by decide) (fun c_13 => ?_) (fun c_13 => ?_)
      · skip
        refine aw_iinc (v := (nI (j4 + 1))) (ls' := [some (.ref (b + 100)), some (.int v4_1), some (.int (nI (j4 + 1)))]) dX12_openedOfAll_31 rfl (fx_up_1 _) (Nat.le_of_ble_eq_true rfl) rfl ?_
        refine aw_goto (tgt := 4) dX12_openedOfAll_34 (by decide) ?_
        refine aw_le ?_ (ih_4_1 (j4 + 1) v4_1  (by omega))
        exact ⟨rfl, ⟨rfl, ⟨rfl, trivial⟩⟩⟩
      · skip
        refine aw_iload_n dX12_openedOfAll_18 rfl ?_
        refine aw_aload_n dX12_openedOfAll_19 rfl ?_
        refine aw_get dX12_openedOfAll_20 fl_X12_7 e_8 (by omega) rfl ?_
        refine aw_sipush (v := 192) dX12_openedOfAll_23 (by decide) ?_
        refine aw_iload_n dX12_openedOfAll_26 rfl ?_
        refine aw_iadd dX12_openedOfAll_27 ?_
        refine aw_eqi (y := nI (192 + j4)) (nI_add _ _) ?_
        obtain ⟨g_14, e_14⟩ := JR.get hJ0 cm_101
        refine aw_iald (v := (g_14 (192 + j4))) dX12_openedOfAll_28 e_14 (by omega) (vp_in_nI (n := (192 + j4)) (by omega) (by omega)) (congrArg g_14 (nI_clamp (n := (192 + j4)) (by omega))) ?_
        refine aw_iadd dX12_openedOfAll_29 ?_
        refine aw_istore_n (ls' := [some (.ref (b + 100)), some (.int (v4_1 + (g_14 (192 + j4)))), some (.int (nI j4))]) dX12_openedOfAll_30 (Nat.le_of_ble_eq_true rfl) rfl ?_
        refine aw_iinc (v := (nI (j4 + 1))) (ls' := [some (.ref (b + 100)), some (.int (v4_1 + (g_14 (192 + j4)))), some (.int (nI (j4 + 1)))]) dX12_openedOfAll_31 rfl (fx_up_1 _) (Nat.le_of_ble_eq_true rfl) rfl ?_
        refine aw_goto (tgt := 4) dX12_openedOfAll_34 (by decide) ?_
        refine aw_le ?_ (ih_4_1 (j4 + 1) (v4_1 + (g_14 (192 + j4)))  (by omega))
        exact ⟨rfl, ⟨rfl, ⟨rfl, trivial⟩⟩⟩
  refine aw_le ?_ (loop_4_0 16 0 0  (by omega))
  exact ⟨rfl, ⟨rfl, ⟨rfl, trivial⟩⟩⟩

set_option maxHeartbeats 4000000 in
set_option maxRecDepth 100000 in
theorem r_personIs (l : Launch) (D : va_G) (b : Nat) (N : Nat) (V : Wd) (hN : 133 ≤ N) (cl : Nat) (hW : CR D b cl V) (n0 : Int32) (n1 : Int32)  : MI l D b 5 jX12_personIs [.ref (b + 100), .int n0, .int n1] N V 0 0 (fun r N9 V9 => N = N9 ∧ V = V9) := by
  have hJ0 : JR D b N cl [] V V := JR.rf hW
  refine mw_of (by decide) (by simp [Value.category]) (Nat.le_of_ble_eq_true rfl) ?_
  show AW l D b jX12_personIs (fx_rm 5 0 0) none (fx_MQ D b 0 0 (fx_qi (fun r N9 V9 => N = N9 ∧ V = V9))) 0 [some (.ref (b + 100)), some (.int n0), some (.int n1)] [] N V 0 0
  refine aw_aload_n dX12_personIs_0 rfl ?_
  refine aw_iload_n dX12_personIs_1 rfl ?_
  obtain ⟨ftoldPeople_4, ftoldDoors_4, fwasDoors_4, ffault_4, fopen_4, flines_4, fmeantSet_4, fopenedNow_4, fvainNow_4, flowNow_4, fhighNow_4, fisKept_4, tad_4, pl0_4, le0_4, nu0_4, coy_4, wag_4, say_4, e_4, hntad_4, hnpl0_4, hnle0_4, hnnu0_4, hncoy_4, hnwag_4, hnsay_4⟩ := JR.get hJ0 cm_100
  refine aw_callVi (J' := jX12_isTold) (As := [.int n0]) (st := []) dX12_personIs_2 tb_1351 ok_X12_isTold ⟨_, e_4⟩ (by omega) rfl rfl (r_isTold l D b N V hN cl hJ0.1 n0) rfl (Nat.le_of_ble_eq_true rfl) ⟨Nat.le_of_ble_eq_true rfl, Nat.le_of_ble_eq_true rfl, Nat.le_of_ble_eq_true rfl, Nat.le_of_ble_eq_true rfl⟩ (fun r_5 N_6 V_7 q_8 => ?_)
  obtain ⟨⟨z_3, h_2⟩, rfl, rfl⟩ := q_8
  refine aw_if_ne (tgt := 10) dX12_personIs_5 (by decide) (fun c_9 => ?_) (fun c_9 => ?_)
  · skip
    obtain ⟨zn0, hzn0, rfl⟩ := h_2.resolve_left c_9
    refine aw_iload_n dX12_personIs_10 rfl ?_
    refine aw_iconst (v := 0) dX12_personIs_11 (by decide) ?_
    refine aw_bipush (v := 15) dX12_personIs_12 (by decide) ?_
    refine aw_callSi (J' := jX12_in) (As := [.int n1, .int 0, .int 15]) (st := []) dX12_personIs_14 tb_1209 ok_X12_in rfl (r_in l D b N V hN cl hJ0.1 n1 0 15) rfl (Nat.le_of_ble_eq_true rfl) ⟨Nat.le_of_ble_eq_true rfl, Nat.le_of_ble_eq_true rfl, Nat.le_of_ble_eq_true rfl, Nat.le_of_ble_eq_true rfl⟩ (fun r_13 N_14 V_15 q_16 => ?_)
    obtain ⟨⟨z_12, h_11⟩, rfl, rfl⟩ := q_16
    refine aw_if_eq (tgt := 27) dX12_personIs_17 (by decide) (fun c_17 => ?_) (fun c_17 => ?_)
    · skip
      refine aw_iload_n dX12_personIs_27 rfl ?_
      by_cases sw_18 : n1 = 100
      · skip
        refine aw_eqi sw_18 ?_
        refine aw_tableIn (off := 36) (tgt := 64) dX12_personIs_28 (by decide) (by decide) (by decide) (by decide) ?_
        refine aw_aload_n dX12_personIs_64 rfl ?_
        refine aw_iload_n dX12_personIs_65 rfl ?_
        refine aw_callVi (J' := jX12_fearOf) (As := [.int (nI zn0)]) (st := []) dX12_personIs_66 tb_1430 ok_X12_fearOf ⟨_, e_4⟩ (by omega) rfl rfl (r_fearOf l D b N V hN cl hJ0.1 (nI zn0) ⟨zn0, by omega, rfl⟩) rfl (Nat.le_of_ble_eq_true rfl) ⟨Nat.le_of_ble_eq_true rfl, Nat.le_of_ble_eq_true rfl, Nat.le_of_ble_eq_true rfl, Nat.le_of_ble_eq_true rfl⟩ (fun r_21 N_22 V_23 q_24 => ?_)
        obtain ⟨h_20, rfl, rfl⟩ := q_24
        refine aw_callSi (J' := jX12_orNone) (As := [.int r_21]) (st := []) dX12_personIs_69 tb_1446 ok_X12_orNone rfl (r_orNone l D b N V hN cl hJ0.1 r_21) rfl (Nat.le_of_ble_eq_true rfl) ⟨Nat.le_of_ble_eq_true rfl, Nat.le_of_ble_eq_true rfl, Nat.le_of_ble_eq_true rfl, Nat.le_of_ble_eq_true rfl⟩ (fun r_26 N_27 V_28 q_29 => ?_)
        obtain ⟨rfl, rfl⟩ := q_29
        refine aw_ireti dX12_personIs_72 rfl (Nat.le_of_ble_eq_true rfl) (Nat.le_of_ble_eq_true rfl) ?_
        exact ⟨rfl, rfl⟩
      by_cases sw_30 : n1 = 101
      · skip
        refine aw_eqi sw_30 ?_
        refine aw_tableIn (off := 45) (tgt := 73) dX12_personIs_28 (by decide) (by decide) (by decide) (by decide) ?_
        refine aw_aload_n dX12_personIs_73 rfl ?_
        refine aw_iload_n dX12_personIs_74 rfl ?_
        refine aw_callVi (J' := jX12_greatest) (As := [.int (nI zn0)]) (st := []) dX12_personIs_75 tb_1388 ok_X12_greatest ⟨_, e_4⟩ (by omega) rfl rfl (r_greatest l D b N V hN cl hJ0.1 (nI zn0) ⟨zn0, by omega, rfl⟩) rfl (Nat.le_of_ble_eq_true rfl) ⟨Nat.le_of_ble_eq_true rfl, Nat.le_of_ble_eq_true rfl, Nat.le_of_ble_eq_true rfl, Nat.le_of_ble_eq_true rfl⟩ (fun r_32 N_33 V_34 q_35 => ?_)
        obtain ⟨rfl, rfl⟩ := q_35
        refine aw_ireti dX12_personIs_78 rfl (Nat.le_of_ble_eq_true rfl) (Nat.le_of_ble_eq_true rfl) ?_
        exact ⟨rfl, rfl⟩
      by_cases sw_36 : n1 = 102
      · skip
        refine aw_eqi sw_36 ?_
        refine aw_tableIn (off := 51) (tgt := 79) dX12_personIs_28 (by decide) (by decide) (by decide) (by decide) ?_
        refine aw_aload_n dX12_personIs_79 rfl ?_
        refine aw_get dX12_personIs_80 fl_X12_19 e_4 (by omega) rfl ?_
        refine aw_iload_n dX12_personIs_83 rfl ?_
        obtain ⟨g_37, e_37, p_37⟩ := JR.get hJ0 cm_104
        refine aw_iald (v := (g_37 zn0)) dX12_personIs_84 e_37 (by omega) (vp_in_nI (n := zn0) (by omega) (by omega)) (congrArg g_37 (nI_clamp (n := zn0) (by omega))) ?_
        refine aw_ireti dX12_personIs_85 rfl (Nat.le_of_ble_eq_true rfl) (Nat.le_of_ble_eq_true rfl) ?_
        exact ⟨rfl, rfl⟩
      by_cases sw_38 : n1 = 103
      · skip
        refine aw_eqi sw_38 ?_
        refine aw_tableIn (off := 58) (tgt := 86) dX12_personIs_28 (by decide) (by decide) (by decide) (by decide) ?_
        refine aw_aload_n dX12_personIs_86 rfl ?_
        refine aw_iload_n dX12_personIs_87 rfl ?_
        refine aw_callVi (J' := jX12_doorsOf) (As := [.int (nI zn0)]) (st := []) dX12_personIs_88 tb_1453 ok_X12_doorsOf ⟨_, e_4⟩ (by omega) rfl rfl (r_doorsOf l D b N V hN cl hJ0.1 (nI zn0) ⟨zn0, by omega, rfl⟩) rfl (Nat.le_of_ble_eq_true rfl) ⟨Nat.le_of_ble_eq_true rfl, Nat.le_of_ble_eq_true rfl, Nat.le_of_ble_eq_true rfl, Nat.le_of_ble_eq_true rfl⟩ (fun r_40 N_41 V_42 q_43 => ?_)
        obtain ⟨rfl, rfl⟩ := q_43
        refine aw_ireti dX12_personIs_91 rfl (Nat.le_of_ble_eq_true rfl) (Nat.le_of_ble_eq_true rfl) ?_
        exact ⟨rfl, rfl⟩
      by_cases sw_44 : n1 = 104
      · skip
        refine aw_eqi sw_44 ?_
        refine aw_tableIn (off := 64) (tgt := 92) dX12_personIs_28 (by decide) (by decide) (by decide) (by decide) ?_
        refine aw_aload_n dX12_personIs_92 rfl ?_
        refine aw_iload_n dX12_personIs_93 rfl ?_
        refine aw_callVi (J' := jX12_dreadSum) (As := [.int (nI zn0)]) (st := []) dX12_personIs_94 tb_1457 ok_X12_dreadSum ⟨_, e_4⟩ (by omega) rfl rfl (r_dreadSum l D b N V hN cl hJ0.1 (nI zn0) ⟨zn0, by omega, rfl⟩) rfl (Nat.le_of_ble_eq_true rfl) ⟨Nat.le_of_ble_eq_true rfl, Nat.le_of_ble_eq_true rfl, Nat.le_of_ble_eq_true rfl, Nat.le_of_ble_eq_true rfl⟩ (fun r_46 N_47 V_48 q_49 => ?_)
        obtain ⟨rfl, rfl⟩ := q_49
        refine aw_ireti dX12_personIs_97 rfl (Nat.le_of_ble_eq_true rfl) (Nat.le_of_ble_eq_true rfl) ?_
        exact ⟨rfl, rfl⟩
      have tsw_18 : n1.toInt ≠ 100 := fx_tne sw_18
      have tsw_30 : n1.toInt ≠ 101 := fx_tne sw_30
      have tsw_36 : n1.toInt ≠ 102 := fx_tne sw_36
      have tsw_38 : n1.toInt ≠ 103 := fx_tne sw_38
      have tsw_44 : n1.toInt ≠ 104 := fx_tne sw_44
      refine aw_tableOut (tgt := 98) dX12_personIs_28 (by omega) (by decide) ?_
      refine aw_iconst (v := (-1)) dX12_personIs_98 (by decide) ?_
      refine aw_ireti dX12_personIs_99 rfl (Nat.le_of_ble_eq_true rfl) (Nat.le_of_ble_eq_true rfl) ?_
      exact ⟨rfl, rfl⟩
    · skip
      obtain ⟨zn1, h0zn1, hzn1, rfl⟩ := in_nat (a := 0) (b := 15) (by decide) (h_11.resolve_left c_17)
      refine aw_aload_n dX12_personIs_20 rfl ?_
      refine aw_iload_n dX12_personIs_21 rfl ?_
      refine aw_iload_n dX12_personIs_22 rfl ?_
      refine aw_callVi (J' := jX12_dread) (As := [.int (nI zn0), .int (nI zn1)]) (st := []) dX12_personIs_23 tb_1392 ok_X12_dread ⟨_, e_4⟩ (by omega) rfl rfl (r_dread l D b N V hN cl hJ0.1 (nI zn0) ⟨zn0, by omega, rfl⟩ (nI zn1) ⟨zn1, by omega, rfl⟩) rfl (Nat.le_of_ble_eq_true rfl) ⟨Nat.le_of_ble_eq_true rfl, Nat.le_of_ble_eq_true rfl, Nat.le_of_ble_eq_true rfl, Nat.le_of_ble_eq_true rfl⟩ (fun r_51 N_52 V_53 q_54 => ?_)
      obtain ⟨rfl, rfl⟩ := q_54
      refine aw_ireti dX12_personIs_26 rfl (Nat.le_of_ble_eq_true rfl) (Nat.le_of_ble_eq_true rfl) ?_
      exact ⟨rfl, rfl⟩
  · skip
    refine aw_iconst (v := (-1)) dX12_personIs_8 (by decide) ?_
    refine aw_ireti dX12_personIs_9 rfl (Nat.le_of_ble_eq_true rfl) (Nat.le_of_ble_eq_true rfl) ?_
    exact ⟨rfl, rfl⟩

set_option maxHeartbeats 4000000 in
set_option maxRecDepth 100000 in
theorem r_doorIs (l : Launch) (D : va_G) (b : Nat) (N : Nat) (V : Wd) (hN : 133 ≤ N) (cl : Nat) (hW : CR D b cl V) (n0 : Int32) (n1 : Int32)  : MI l D b 5 jX12_doorIs [.ref (b + 100), .int n0, .int n1] N V 0 0 (fun r N9 V9 => N = N9 ∧ V = V9) := by
  have hJ0 : JR D b N cl [] V V := JR.rf hW
  refine mw_of (by decide) (by simp [Value.category]) (Nat.le_of_ble_eq_true rfl) ?_
  show AW l D b jX12_doorIs (fx_rm 5 0 0) none (fx_MQ D b 0 0 (fx_qi (fun r N9 V9 => N = N9 ∧ V = V9))) 0 [some (.ref (b + 100)), some (.int n0), some (.int n1)] [] N V 0 0
  refine aw_aload_n dX12_doorIs_0 rfl ?_
  refine aw_iload_n dX12_doorIs_1 rfl ?_
  obtain ⟨ftoldPeople_4, ftoldDoors_4, fwasDoors_4, ffault_4, fopen_4, flines_4, fmeantSet_4, fopenedNow_4, fvainNow_4, flowNow_4, fhighNow_4, fisKept_4, tad_4, pl0_4, le0_4, nu0_4, coy_4, wag_4, say_4, e_4, hntad_4, hnpl0_4, hnle0_4, hnnu0_4, hncoy_4, hnwag_4, hnsay_4⟩ := JR.get hJ0 cm_100
  refine aw_callVi (J' := jX12_isDoor) (As := [.int n0]) (st := []) dX12_doorIs_2 tb_1359 ok_X12_isDoor ⟨_, e_4⟩ (by omega) rfl rfl (r_isDoor l D b N V hN cl hJ0.1 n0) rfl (Nat.le_of_ble_eq_true rfl) ⟨Nat.le_of_ble_eq_true rfl, Nat.le_of_ble_eq_true rfl, Nat.le_of_ble_eq_true rfl, Nat.le_of_ble_eq_true rfl⟩ (fun r_5 N_6 V_7 q_8 => ?_)
  obtain ⟨⟨z_3, h_2⟩, rfl, rfl⟩ := q_8
  refine aw_if_ne (tgt := 10) dX12_doorIs_5 (by decide) (fun c_9 => ?_) (fun c_9 => ?_)
  · skip
    obtain ⟨zn0, hzn0, rfl⟩ := h_2.resolve_left c_9
    refine aw_iload_n dX12_doorIs_10 rfl ?_
    by_cases sw_10 : n1 = 0
    · skip
      refine aw_eqi sw_10 ?_
      refine aw_tableIn (off := 29) (tgt := 40) dX12_doorIs_11 (by decide) (by decide) (by decide) (by decide) ?_
      refine aw_aload_n dX12_doorIs_40 rfl ?_
      refine aw_get dX12_doorIs_41 fl_X12_25 e_4 (by omega) rfl ?_
      refine aw_iload_n dX12_doorIs_44 rfl ?_
      obtain ⟨g_11, e_11, p_11⟩ := JR.get hJ0 cm_106
      refine aw_iald (v := (g_11 zn0)) dX12_doorIs_45 e_11 (by omega) (vp_in_nI (n := zn0) (by omega) (by omega)) (congrArg g_11 (nI_clamp (n := zn0) (by omega))) ?_
      refine aw_ireti dX12_doorIs_46 rfl (Nat.le_of_ble_eq_true rfl) (Nat.le_of_ble_eq_true rfl) ?_
      exact ⟨rfl, rfl⟩
    by_cases sw_12 : n1 = 1
    · skip
      refine aw_eqi sw_12 ?_
      refine aw_tableIn (off := 36) (tgt := 47) dX12_doorIs_11 (by decide) (by decide) (by decide) (by decide) ?_
      refine aw_aload_n dX12_doorIs_47 rfl ?_
      refine aw_get dX12_doorIs_48 fl_X12_28 e_4 (by omega) rfl ?_
      refine aw_iload_n dX12_doorIs_51 rfl ?_
      obtain ⟨g_13, e_13⟩ := JR.get hJ0 cm_107
      refine aw_iald (v := (g_13 zn0)) dX12_doorIs_52 e_13 (by omega) (vp_in_nI (n := zn0) (by omega) (by omega)) (congrArg g_13 (nI_clamp (n := zn0) (by omega))) ?_
      refine aw_ireti dX12_doorIs_53 rfl (Nat.le_of_ble_eq_true rfl) (Nat.le_of_ble_eq_true rfl) ?_
      exact ⟨rfl, rfl⟩
    by_cases sw_14 : n1 = 2
    · skip
      refine aw_eqi sw_14 ?_
      refine aw_tableIn (off := 43) (tgt := 54) dX12_doorIs_11 (by decide) (by decide) (by decide) (by decide) ?_
      refine aw_aload_n dX12_doorIs_54 rfl ?_
      refine aw_get dX12_doorIs_55 fl_X12_7 e_4 (by omega) rfl ?_
      refine aw_sipush (v := 192) dX12_doorIs_58 (by decide) ?_
      refine aw_iload_n dX12_doorIs_61 rfl ?_
      refine aw_iadd dX12_doorIs_62 ?_
      refine aw_eqi (y := nI (192 + zn0)) (nI_add _ _) ?_
      obtain ⟨g_15, e_15⟩ := JR.get hJ0 cm_101
      refine aw_iald (v := (g_15 (192 + zn0))) dX12_doorIs_63 e_15 (by omega) (vp_in_nI (n := (192 + zn0)) (by omega) (by omega)) (congrArg g_15 (nI_clamp (n := (192 + zn0)) (by omega))) ?_
      refine aw_ireti dX12_doorIs_64 rfl (Nat.le_of_ble_eq_true rfl) (Nat.le_of_ble_eq_true rfl) ?_
      exact ⟨rfl, rfl⟩
    by_cases sw_16 : n1 = 3
    · skip
      refine aw_eqi sw_16 ?_
      refine aw_tableIn (off := 54) (tgt := 65) dX12_doorIs_11 (by decide) (by decide) (by decide) (by decide) ?_
      refine aw_aload_n dX12_doorIs_65 rfl ?_
      refine aw_iload_n dX12_doorIs_66 rfl ?_
      refine aw_callVi (J' := jX12_whoUnlocks) (As := [.int (nI zn0)]) (st := []) dX12_doorIs_67 tb_1465 ok_X12_whoUnlocks ⟨_, e_4⟩ (by omega) rfl rfl (r_whoUnlocks l D b N V hN cl hJ0.1 (nI zn0) ⟨zn0, by omega, rfl⟩) rfl (Nat.le_of_ble_eq_true rfl) ⟨Nat.le_of_ble_eq_true rfl, Nat.le_of_ble_eq_true rfl, Nat.le_of_ble_eq_true rfl, Nat.le_of_ble_eq_true rfl⟩ (fun r_18 N_19 V_20 q_21 => ?_)
      obtain ⟨rfl, rfl⟩ := q_21
      refine aw_ireti dX12_doorIs_70 rfl (Nat.le_of_ble_eq_true rfl) (Nat.le_of_ble_eq_true rfl) ?_
      exact ⟨rfl, rfl⟩
    have tsw_10 : n1.toInt ≠ 0 := fx_tne sw_10
    have tsw_12 : n1.toInt ≠ 1 := fx_tne sw_12
    have tsw_14 : n1.toInt ≠ 2 := fx_tne sw_14
    have tsw_16 : n1.toInt ≠ 3 := fx_tne sw_16
    refine aw_tableOut (tgt := 71) dX12_doorIs_11 (by omega) (by decide) ?_
    refine aw_iconst (v := (-1)) dX12_doorIs_71 (by decide) ?_
    refine aw_ireti dX12_doorIs_72 rfl (Nat.le_of_ble_eq_true rfl) (Nat.le_of_ble_eq_true rfl) ?_
    exact ⟨rfl, rfl⟩
  · skip
    refine aw_iconst (v := (-1)) dX12_doorIs_8 (by decide) ?_
    refine aw_ireti dX12_doorIs_9 rfl (Nat.le_of_ble_eq_true rfl) (Nat.le_of_ble_eq_true rfl) ?_
    exact ⟨rfl, rfl⟩

set_option maxHeartbeats 4000000 in
set_option maxRecDepth 100000 in
theorem r_count (l : Launch) (D : va_G) (b : Nat) (N : Nat) (V : Wd) (hN : 133 ≤ N) (cl : Nat) (hW : CR D b cl V) (n0 : Int32)  : MI l D b 3 jX12_count [.ref (b + 100), .int n0] N V 0 0 (fun r N9 V9 => N = N9 ∧ V = V9) := by
  have hJ0 : JR D b N cl [] V V := JR.rf hW
  refine mw_of (by decide) (by simp [Value.category]) (Nat.le_of_ble_eq_true rfl) ?_
  show AW l D b jX12_count (fx_rm 3 0 0) none (fx_MQ D b 0 0 (fx_qi (fun r N9 V9 => N = N9 ∧ V = V9))) 0 [some (.ref (b + 100)), some (.int n0)] [] N V 0 0
  refine aw_iload_n dX12_count_0 rfl ?_
  by_cases sw_1 : n0 = 0
  · skip
    refine aw_eqi sw_1 ?_
    refine aw_tableIn (off := 47) (tgt := 48) dX12_count_1 (by decide) (by decide) (by decide) (by decide) ?_
    refine aw_aload_n dX12_count_48 rfl ?_
    obtain ⟨ftoldPeople_2, ftoldDoors_2, fwasDoors_2, ffault_2, fopen_2, flines_2, fmeantSet_2, fopenedNow_2, fvainNow_2, flowNow_2, fhighNow_2, fisKept_2, tad_2, pl0_2, le0_2, nu0_2, coy_2, wag_2, say_2, e_2, hntad_2, hnpl0_2, hnle0_2, hnnu0_2, hncoy_2, hnwag_2, hnsay_2⟩ := JR.get hJ0 cm_100
    refine aw_get dX12_count_49 fl_X12_7 e_2 (by omega) rfl ?_
    refine aw_sipush (v := 208) dX12_count_52 (by decide) ?_
    obtain ⟨g_3, e_3⟩ := JR.get hJ0 cm_101
    refine aw_iald (v := (g_3 208)) dX12_count_55 e_3 (by omega) (vp_in_nI (n := 208) (N := 210) (by decide) (by decide)) (congrArg g_3 (nI_clamp (n := 208) (by omega))) ?_
    refine aw_ireti dX12_count_56 rfl (Nat.le_of_ble_eq_true rfl) (Nat.le_of_ble_eq_true rfl) ?_
    exact ⟨rfl, rfl⟩
  by_cases sw_4 : n0 = 1
  · skip
    refine aw_eqi sw_4 ?_
    refine aw_tableIn (off := 56) (tgt := 57) dX12_count_1 (by decide) (by decide) (by decide) (by decide) ?_
    refine aw_aload_n dX12_count_57 rfl ?_
    obtain ⟨ftoldPeople_5, ftoldDoors_5, fwasDoors_5, ffault_5, fopen_5, flines_5, fmeantSet_5, fopenedNow_5, fvainNow_5, flowNow_5, fhighNow_5, fisKept_5, tad_5, pl0_5, le0_5, nu0_5, coy_5, wag_5, say_5, e_5, hntad_5, hnpl0_5, hnle0_5, hnnu0_5, hncoy_5, hnwag_5, hnsay_5⟩ := JR.get hJ0 cm_100
    refine aw_get dX12_count_58 fl_X12_121 e_5 (by omega) rfl ?_
    refine aw_ireti dX12_count_61 rfl (Nat.le_of_ble_eq_true rfl) (Nat.le_of_ble_eq_true rfl) ?_
    exact ⟨rfl, rfl⟩
  by_cases sw_6 : n0 = 2
  · skip
    refine aw_eqi sw_6 ?_
    refine aw_tableIn (off := 61) (tgt := 62) dX12_count_1 (by decide) (by decide) (by decide) (by decide) ?_
    refine aw_aload_n dX12_count_62 rfl ?_
    obtain ⟨ftoldPeople_7, ftoldDoors_7, fwasDoors_7, ffault_7, fopen_7, flines_7, fmeantSet_7, fopenedNow_7, fvainNow_7, flowNow_7, fhighNow_7, fisKept_7, tad_7, pl0_7, le0_7, nu0_7, coy_7, wag_7, say_7, e_7, hntad_7, hnpl0_7, hnle0_7, hnnu0_7, hncoy_7, hnwag_7, hnsay_7⟩ := JR.get hJ0 cm_100
    refine aw_get dX12_count_63 fl_X12_129 e_7 (by omega) rfl ?_
    refine aw_ireti dX12_count_66 rfl (Nat.le_of_ble_eq_true rfl) (Nat.le_of_ble_eq_true rfl) ?_
    exact ⟨rfl, rfl⟩
  by_cases sw_8 : n0 = 3
  · skip
    refine aw_eqi sw_8 ?_
    refine aw_tableIn (off := 66) (tgt := 67) dX12_count_1 (by decide) (by decide) (by decide) (by decide) ?_
    refine aw_aload_n dX12_count_67 rfl ?_
    obtain ⟨ftoldPeople_10, ftoldDoors_10, fwasDoors_10, ffault_10, fopen_10, flines_10, fmeantSet_10, fopenedNow_10, fvainNow_10, flowNow_10, fhighNow_10, fisKept_10, tad_10, pl0_10, le0_10, nu0_10, coy_10, wag_10, say_10, e_10, hntad_10, hnpl0_10, hnle0_10, hnnu0_10, hncoy_10, hnwag_10, hnsay_10⟩ := JR.get hJ0 cm_100
    refine aw_callVi (J' := jX12_twos) (As := []) (st := []) dX12_count_68 tb_1621 ok_X12_twos ⟨_, e_10⟩ (by omega) rfl rfl (r_twos l D b N V hN cl hJ0.1) rfl (Nat.le_of_ble_eq_true rfl) ⟨Nat.le_of_ble_eq_true rfl, Nat.le_of_ble_eq_true rfl, Nat.le_of_ble_eq_true rfl, Nat.le_of_ble_eq_true rfl⟩ (fun r_11 N_12 V_13 q_14 => ?_)
    obtain ⟨rfl, rfl⟩ := q_14
    refine aw_ireti dX12_count_71 rfl (Nat.le_of_ble_eq_true rfl) (Nat.le_of_ble_eq_true rfl) ?_
    exact ⟨rfl, rfl⟩
  by_cases sw_15 : n0 = 4
  · skip
    refine aw_eqi sw_15 ?_
    refine aw_tableIn (off := 71) (tgt := 72) dX12_count_1 (by decide) (by decide) (by decide) (by decide) ?_
    refine aw_aload_n dX12_count_72 rfl ?_
    obtain ⟨ftoldPeople_17, ftoldDoors_17, fwasDoors_17, ffault_17, fopen_17, flines_17, fmeantSet_17, fopenedNow_17, fvainNow_17, flowNow_17, fhighNow_17, fisKept_17, tad_17, pl0_17, le0_17, nu0_17, coy_17, wag_17, say_17, e_17, hntad_17, hnpl0_17, hnle0_17, hnnu0_17, hncoy_17, hnwag_17, hnsay_17⟩ := JR.get hJ0 cm_100
    refine aw_callVi (J' := jX12_openedOfAll) (As := []) (st := []) dX12_count_73 tb_1625 ok_X12_openedOfAll ⟨_, e_17⟩ (by omega) rfl rfl (r_openedOfAll l D b N V hN cl hJ0.1) rfl (Nat.le_of_ble_eq_true rfl) ⟨Nat.le_of_ble_eq_true rfl, Nat.le_of_ble_eq_true rfl, Nat.le_of_ble_eq_true rfl, Nat.le_of_ble_eq_true rfl⟩ (fun r_18 N_19 V_20 q_21 => ?_)
    obtain ⟨rfl, rfl⟩ := q_21
    refine aw_ireti dX12_count_76 rfl (Nat.le_of_ble_eq_true rfl) (Nat.le_of_ble_eq_true rfl) ?_
    exact ⟨rfl, rfl⟩
  by_cases sw_22 : n0 = 5
  · skip
    refine aw_eqi sw_22 ?_
    refine aw_tableIn (off := 76) (tgt := 77) dX12_count_1 (by decide) (by decide) (by decide) (by decide) ?_
    refine aw_aload_n dX12_count_77 rfl ?_
    obtain ⟨ftoldPeople_23, ftoldDoors_23, fwasDoors_23, ffault_23, fopen_23, flines_23, fmeantSet_23, fopenedNow_23, fvainNow_23, flowNow_23, fhighNow_23, fisKept_23, tad_23, pl0_23, le0_23, nu0_23, coy_23, wag_23, say_23, e_23, hntad_23, hnpl0_23, hnle0_23, hnnu0_23, hncoy_23, hnwag_23, hnsay_23⟩ := JR.get hJ0 cm_100
    refine aw_get dX12_count_78 fl_X12_251 e_23 (by omega) rfl ?_
    refine aw_ireti dX12_count_81 rfl (Nat.le_of_ble_eq_true rfl) (Nat.le_of_ble_eq_true rfl) ?_
    exact ⟨rfl, rfl⟩
  by_cases sw_24 : n0 = 6
  · skip
    refine aw_eqi sw_24 ?_
    refine aw_tableIn (off := 81) (tgt := 82) dX12_count_1 (by decide) (by decide) (by decide) (by decide) ?_
    refine aw_aload_n dX12_count_82 rfl ?_
    obtain ⟨ftoldPeople_25, ftoldDoors_25, fwasDoors_25, ffault_25, fopen_25, flines_25, fmeantSet_25, fopenedNow_25, fvainNow_25, flowNow_25, fhighNow_25, fisKept_25, tad_25, pl0_25, le0_25, nu0_25, coy_25, wag_25, say_25, e_25, hntad_25, hnpl0_25, hnle0_25, hnnu0_25, hncoy_25, hnwag_25, hnsay_25⟩ := JR.get hJ0 cm_100
    refine aw_get dX12_count_83 fl_X12_152 e_25 (by omega) rfl ?_
    refine aw_ireti dX12_count_86 rfl (Nat.le_of_ble_eq_true rfl) (Nat.le_of_ble_eq_true rfl) ?_
    exact ⟨rfl, rfl⟩
  by_cases sw_26 : n0 = 7
  · skip
    refine aw_eqi sw_26 ?_
    refine aw_tableIn (off := 86) (tgt := 87) dX12_count_1 (by decide) (by decide) (by decide) (by decide) ?_
    refine aw_aload_n dX12_count_87 rfl ?_
    obtain ⟨ftoldPeople_27, ftoldDoors_27, fwasDoors_27, ffault_27, fopen_27, flines_27, fmeantSet_27, fopenedNow_27, fvainNow_27, flowNow_27, fhighNow_27, fisKept_27, tad_27, pl0_27, le0_27, nu0_27, coy_27, wag_27, say_27, e_27, hntad_27, hnpl0_27, hnle0_27, hnnu0_27, hncoy_27, hnwag_27, hnsay_27⟩ := JR.get hJ0 cm_100
    refine aw_get dX12_count_88 fl_X12_7 e_27 (by omega) rfl ?_
    refine aw_sipush (v := 209) dX12_count_91 (by decide) ?_
    obtain ⟨g_28, e_28⟩ := JR.get hJ0 cm_101
    refine aw_iald (v := (g_28 209)) dX12_count_94 e_28 (by omega) (vp_in_nI (n := 209) (N := 210) (by decide) (by decide)) (congrArg g_28 (nI_clamp (n := 209) (by omega))) ?_
    refine aw_ireti dX12_count_95 rfl (Nat.le_of_ble_eq_true rfl) (Nat.le_of_ble_eq_true rfl) ?_
    exact ⟨rfl, rfl⟩
  have tsw_1 : n0.toInt ≠ 0 := fx_tne sw_1
  have tsw_4 : n0.toInt ≠ 1 := fx_tne sw_4
  have tsw_6 : n0.toInt ≠ 2 := fx_tne sw_6
  have tsw_8 : n0.toInt ≠ 3 := fx_tne sw_8
  have tsw_15 : n0.toInt ≠ 4 := fx_tne sw_15
  have tsw_22 : n0.toInt ≠ 5 := fx_tne sw_22
  have tsw_24 : n0.toInt ≠ 6 := fx_tne sw_24
  have tsw_26 : n0.toInt ≠ 7 := fx_tne sw_26
  refine aw_tableOut (tgt := 96) dX12_count_1 (by omega) (by decide) ?_
  refine aw_iconst (v := (-1)) dX12_count_96 (by decide) ?_
  refine aw_ireti dX12_count_97 rfl (Nat.le_of_ble_eq_true rfl) (Nat.le_of_ble_eq_true rfl) ?_
  exact ⟨rfl, rfl⟩

set_option maxHeartbeats 4000000 in
set_option maxRecDepth 100000 in
theorem r_word (l : Launch) (D : va_G) (b : Nat) (N : Nat) (V : Wd) (hN : 133 ≤ N) (cl : Nat) (hW : CR D b cl V) (n0 : Int32) (n1 : Int32) (n2 : Int32)  : ML l D b 1 jX12_word [.ref (b + 100), .int n0, .int n1, .int n2] N V 0 0 (fun r N9 V9 => N = N9 ∧ JR D b N cl [(130, 131, 0, 1000000)] V V9) := by
  have hJ0 : JR D b N cl [(130, 131, 0, 1000000)] V V := JR.rf hW
  refine mw_of (by decide) (by simp [Value.category]) (Nat.le_of_ble_eq_true rfl) ?_
  show AW l D b jX12_word (fx_rm 1 0 0) none (fx_MQ D b 0 0 (fx_ql (fun r N9 V9 => N = N9 ∧ JR D b N cl [(130, 131, 0, 1000000)] V V9))) 0 [some (.ref (b + 100)), some (.int n0), some (.int n1), some (.int n2), none, none, none] [] N V 0 0
  refine aw_iload_n dX12_word_0 rfl ?_
  refine aw_iconst (v := 1) dX12_word_1 (by decide) ?_
  refine aw_bipush (v := 8) dX12_word_2 (by decide) ?_
  refine aw_callSi (J' := jX12_in) (As := [.int n0, .int 1, .int 8]) (st := []) dX12_word_4 tb_1209 ok_X12_in rfl (r_in l D b N V hN cl hJ0.1 n0 1 8) rfl (Nat.le_of_ble_eq_true rfl) ⟨Nat.le_of_ble_eq_true rfl, Nat.le_of_ble_eq_true rfl, Nat.le_of_ble_eq_true rfl, Nat.le_of_ble_eq_true rfl⟩ (fun r_4 N_5 V_6 q_7 => ?_)
  obtain ⟨⟨z_3, h_2⟩, rfl, rfl⟩ := q_7
  refine aw_if_eq (tgt := 32) dX12_word_7 (by decide) (fun c_8 => ?_) (fun c_8 => ?_)
  · skip
    refine aw_ldc2 (v := (-1)) dX12_word_32 tb_1592 ?_
    refine aw_lreti dX12_word_35 rfl (Nat.le_of_ble_eq_true rfl) (Nat.le_of_ble_eq_true rfl) ?_
    exact ⟨rfl, hJ0⟩
  · skip
    obtain ⟨zn0, h0zn0, hzn0, rfl⟩ := in_nat (a := 1) (b := 8) (by decide) (h_2.resolve_left c_8)
    refine aw_iload_n dX12_word_10 rfl ?_
    refine aw_iconst (v := 0) dX12_word_11 (by decide) ?_
    refine aw_ldcw (v := 65535) dX12_word_12 tb_1314 ?_
    refine aw_callSi (J' := jX12_in) (As := [.int n1, .int 0, .int 65535]) (st := []) dX12_word_15 tb_1209 ok_X12_in rfl (r_in l D b N V hN cl hJ0.1 n1 0 65535) rfl (Nat.le_of_ble_eq_true rfl) ⟨Nat.le_of_ble_eq_true rfl, Nat.le_of_ble_eq_true rfl, Nat.le_of_ble_eq_true rfl, Nat.le_of_ble_eq_true rfl⟩ (fun r_12 N_13 V_14 q_15 => ?_)
    obtain ⟨⟨z_11, h_10⟩, rfl, rfl⟩ := q_15
    refine aw_if_eq (tgt := 32) dX12_word_18 (by decide) (fun c_16 => ?_) (fun c_16 => ?_)
    · skip
      refine aw_ldc2 (v := (-1)) dX12_word_32 tb_1592 ?_
      refine aw_lreti dX12_word_35 rfl (Nat.le_of_ble_eq_true rfl) (Nat.le_of_ble_eq_true rfl) ?_
      exact ⟨rfl, hJ0⟩
    · skip
      obtain ⟨zn1, h0zn1, hzn1, rfl⟩ := in_nat (a := 0) (b := 65535) (by decide) (h_10.resolve_left c_16)
      refine aw_iload_n dX12_word_21 rfl ?_
      refine aw_iconst (v := 0) dX12_word_22 (by decide) ?_
      refine aw_sipush (v := 128) dX12_word_23 (by decide) ?_
      refine aw_callSi (J' := jX12_in) (As := [.int n2, .int 0, .int 128]) (st := []) dX12_word_26 tb_1209 ok_X12_in rfl (r_in l D b N V hN cl hJ0.1 n2 0 128) rfl (Nat.le_of_ble_eq_true rfl) ⟨Nat.le_of_ble_eq_true rfl, Nat.le_of_ble_eq_true rfl, Nat.le_of_ble_eq_true rfl, Nat.le_of_ble_eq_true rfl⟩ (fun r_20 N_21 V_22 q_23 => ?_)
      obtain ⟨⟨z_19, h_18⟩, rfl, rfl⟩ := q_23
      refine aw_if_ne (tgt := 36) dX12_word_29 (by decide) (fun c_24 => ?_) (fun c_24 => ?_)
      · skip
        obtain ⟨zn2, h0zn2, hzn2, rfl⟩ := in_nat (a := 0) (b := 128) (by decide) (h_18.resolve_left c_24)
        refine aw_iconst (v := 0) dX12_word_36 (by decide) ?_
        refine aw_istore (ls' := [some (.ref (b + 100)), some (.int (nI zn0)), some (.int (nI zn1)), some (.int (nI zn2)), some (.int 0), none, none]) dX12_word_37 (Nat.le_of_ble_eq_true rfl) rfl ?_
        have loop_39_24 : ∀ (g_39 : Nat), ∀ (j39 : Nat)  (V39 : Wd), j39 + g_39 = (zn2 + 1) → (JR D b N cl [(130, 131, 0, 1000000)] V V39) → AW l D b jX12_word (fx_rm 1 0 0) none (fx_MQ D b 0 0 (fx_ql (fun r N9 V9 => N = N9 ∧ JR D b N cl [(130, 131, 0, 1000000)] V V9))) 39 [some (.ref (b + 100)), some (.int (nI zn0)), some (.int (nI zn1)), some (.int (nI zn2)), some (.int (nI j39)), none, none] [] N V39 0 0 := by
          intro g_39
          induction g_39 with
          | zero =>
            intro j39  V39 hj39 i39_0
            obtain rfl : j39 = (zn2 + 1) := by omega
            refine aw_iload dX12_word_39 rfl ?_
            refine aw_iload_n dX12_word_41 rfl ?_
            refine aw_icmp_gt (tgt := 68) dX12_word_42 (by decide) (fun c_27 => ?_) (fun c_27 => ?_)
            rotate_left
            · exact absurd (nI_lt (a := zn2) (b := (zn2 + 1)) (by omega) (by omega)) c_27
            refine aw_iconst (v := 0) dX12_word_68 (by decide) ?_
            refine aw_istore (ls' := [some (.ref (b + 100)), some (.int (nI zn0)), some (.int (nI zn1)), some (.int (nI zn2)), some (.int 0), none, none]) dX12_word_69 (Nat.le_of_ble_eq_true rfl) rfl ?_
            have loop_71_27 : ∀ (g_71 : Nat), ∀ (j71 : Nat)  (V71 : Wd), j71 + g_71 = zn0 → (JR D b N cl [(130, 131, 0, 1000000)] V V71) → AW l D b jX12_word (fx_rm 1 0 0) none (fx_MQ D b 0 0 (fx_ql (fun r N9 V9 => N = N9 ∧ JR D b N cl [(130, 131, 0, 1000000)] V V9))) 71 [some (.ref (b + 100)), some (.int (nI zn0)), some (.int (nI zn1)), some (.int (nI zn2)), some (.int (nI j71)), none, none] [] N V71 0 0 := by
              intro g_71
              induction g_71 with
              | zero =>
                intro j71  V71 hj71 i71_0
                obtain rfl : zn0 = j71 := by omega
                refine aw_iload dX12_word_71 rfl ?_
                refine aw_iload_n dX12_word_73 rfl ?_
                refine aw_icmp_ge (tgt := 194) dX12_word_74 (by decide) (fun c_30 => ?_) (fun c_30 => ?_)
                rotate_left
                · exact absurd (nI_le (a := zn0) (b := zn0) (Nat.le_refl _) (by omega)) c_30
                refine aw_aload_n dX12_word_194 rfl ?_
                obtain ⟨ftoldPeople_31, ftoldDoors_31, fwasDoors_31, ffault_31, fopen_31, flines_31, fmeantSet_31, fopenedNow_31, fvainNow_31, flowNow_31, fhighNow_31, fisKept_31, tad_31, pl0_31, le0_31, nu0_31, coy_31, wag_31, say_31, e_31, hntad_31, hnpl0_31, hnle0_31, hnnu0_31, hncoy_31, hnwag_31, hnsay_31⟩ := JR.get i71_0 cm_100
                refine aw_get dX12_word_195 fl_X12_99 e_31 (by omega) rfl ?_
                refine aw_iload_n dX12_word_198 rfl ?_
                obtain ⟨g_32, e_32⟩ := JR.get i71_0 cm_130
                refine aw_lald (v := (g_32 zn2)) dX12_word_199 e_32 (by omega) (vp_in_nI (n := zn2) (by omega) (by omega)) (congrArg g_32 (nI_clamp (n := zn2) (by omega))) ?_
                refine aw_lreti dX12_word_200 rfl (Nat.le_of_ble_eq_true rfl) (Nat.le_of_ble_eq_true rfl) ?_
                exact ⟨rfl, i71_0⟩
              | succ g_71 ih_71_28 =>
                intro j71  V71 hj71 i71_0
                have hlj71 : j71 < zn0 := by omega
                refine aw_iload dX12_word_71 rfl ?_
                refine aw_iload_n dX12_word_73 rfl ?_
                refine aw_icmp_ge (tgt := 194) dX12_word_74 (by decide) (fun c_33 => ?_) (fun c_33 => ?_)
                · exact absurd c_33 (nI_ge (a := j71) (b := zn0) (by omega) (by omega))
                refine aw_iconst (v := 0) dX12_word_77 (by decide) ?_
                refine aw_istore (ls' := [some (.ref (b + 100)), some (.int (nI zn0)), some (.int (nI zn1)), some (.int (nI zn2)), some (.int (nI j71)), some (.int 0), none]) dX12_word_78 (Nat.le_of_ble_eq_true rfl) rfl ?_
                have loop_80_33 : ∀ (g_80 : Nat), ∀ (j80 : Nat)  (V80 : Wd), j80 + g_80 = (zn2 + 1) → (JR D b N cl [(130, 131, 0, 1000000)] V V80) → AW l D b jX12_word (fx_rm 1 0 0) none (fx_MQ D b 0 0 (fx_ql (fun r N9 V9 => N = N9 ∧ JR D b N cl [(130, 131, 0, 1000000)] V V9))) 80 [some (.ref (b + 100)), some (.int (nI zn0)), some (.int (nI zn1)), some (.int (nI zn2)), some (.int (nI j71)), some (.int (nI j80)), none] [] N V80 0 0 := by
                  intro g_80
                  induction g_80 with
                  | zero =>
                    intro j80  V80 hj80 i80_0
                    obtain rfl : j80 = (zn2 + 1) := by omega
                    refine aw_iload dX12_word_80 rfl ?_
                    refine aw_iload_n dX12_word_82 rfl ?_
                    refine aw_icmp_gt (tgt := 159) dX12_word_83 (by decide) (fun c_36 => ?_) (fun c_36 => ?_)
                    rotate_left
                    · exact absurd (nI_lt (a := zn2) (b := (zn2 + 1)) (by omega) (by omega)) c_36
                    refine aw_iconst (v := 0) dX12_word_159 (by decide) ?_
                    refine aw_istore (ls' := [some (.ref (b + 100)), some (.int (nI zn0)), some (.int (nI zn1)), some (.int (nI zn2)), some (.int (nI j71)), some (.int 0), none]) dX12_word_160 (Nat.le_of_ble_eq_true rfl) rfl ?_
                    have loop_162_36 : ∀ (g_162 : Nat), ∀ (j162 : Nat)  (V162 : Wd), j162 + g_162 = (zn2 + 1) → (JR D b N cl [(130, 131, 0, 1000000)] V V162) → AW l D b jX12_word (fx_rm 1 0 0) none (fx_MQ D b 0 0 (fx_ql (fun r N9 V9 => N = N9 ∧ JR D b N cl [(130, 131, 0, 1000000)] V V9))) 162 [some (.ref (b + 100)), some (.int (nI zn0)), some (.int (nI zn1)), some (.int (nI zn2)), some (.int (nI j71)), some (.int (nI j162)), none] [] N V162 0 0 := by
                      intro g_162
                      induction g_162 with
                      | zero =>
                        intro j162  V162 hj162 i162_0
                        obtain rfl : j162 = (zn2 + 1) := by omega
                        refine aw_iload dX12_word_162 rfl ?_
                        refine aw_iload_n dX12_word_164 rfl ?_
                        refine aw_icmp_gt (tgt := 188) dX12_word_165 (by decide) (fun c_39 => ?_) (fun c_39 => ?_)
                        rotate_left
                        · exact absurd (nI_lt (a := zn2) (b := (zn2 + 1)) (by omega) (by omega)) c_39
                        refine aw_iinc (v := (nI (j71 + 1))) (ls' := [some (.ref (b + 100)), some (.int (nI zn0)), some (.int (nI zn1)), some (.int (nI zn2)), some (.int (nI (j71 + 1))), some (.int (nI (zn2 + 1))), none]) dX12_word_188 rfl (fx_up_1 _) (Nat.le_of_ble_eq_true rfl) rfl ?_
                        refine aw_goto (tgt := 71) dX12_word_191 (by decide) ?_
                        refine aw_le ?_ (ih_71_28 (j71 + 1)  V162 (by omega) (i162_0))
                        exact ⟨rfl, ⟨rfl, ⟨rfl, ⟨rfl, ⟨rfl, trivial⟩⟩⟩⟩⟩
                      | succ g_162 ih_162_37 =>
                        intro j162  V162 hj162 i162_0
                        have hlj162 : j162 < (zn2 + 1) := by omega
                        refine aw_iload dX12_word_162 rfl ?_
                        refine aw_iload_n dX12_word_164 rfl ?_
                        refine aw_icmp_gt (tgt := 188) dX12_word_165 (by decide) (fun c_40 => ?_) (fun c_40 => ?_)
                        · exact absurd ((nI_ltI (a := zn2) (b := j162) (by omega) (by omega)).mp c_40) (by omega)
                        refine aw_aload_n dX12_word_168 rfl ?_
                        obtain ⟨ftoldPeople_41, ftoldDoors_41, fwasDoors_41, ffault_41, fopen_41, flines_41, fmeantSet_41, fopenedNow_41, fvainNow_41, flowNow_41, fhighNow_41, fisKept_41, tad_41, pl0_41, le0_41, nu0_41, coy_41, wag_41, say_41, e_41, hntad_41, hnpl0_41, hnle0_41, hnnu0_41, hncoy_41, hnwag_41, hnsay_41⟩ := JR.get i162_0 cm_100
                        refine aw_get dX12_word_169 fl_X12_99 e_41 (by omega) rfl ?_
                        refine aw_iload dX12_word_172 rfl ?_
                        refine aw_aload_n dX12_word_174 rfl ?_
                        refine aw_get dX12_word_175 fl_X12_103 e_41 (by omega) rfl ?_
                        refine aw_iload dX12_word_178 rfl ?_
                        obtain ⟨g_42, e_42⟩ := JR.get i162_0 cm_131
                        refine aw_lald (v := (g_42 j162)) dX12_word_180 e_42 (by omega) (vp_in_nI (n := j162) (by omega) (by omega)) (congrArg g_42 (nI_clamp (n := j162) (by omega))) ?_
                        obtain ⟨g_43, e_43⟩ := JR.get i162_0 cm_130
                        refine aw_last dX12_word_181 e_43 (by omega) (vp_in_nI (n := j162) (by omega) (by omega)) ?_
                        refine aw_upR i162_0 cm_130 ⟨_, rfl⟩ (by decide) (WA LM0 (by decide) (by decide)) (fun V_44 j_44 k_44 e_44 => ?_)
                        refine aw_iinc (v := (nI (j162 + 1))) (ls' := [some (.ref (b + 100)), some (.int (nI zn0)), some (.int (nI zn1)), some (.int (nI zn2)), some (.int (nI j71)), some (.int (nI (j162 + 1))), none]) dX12_word_182 rfl (fx_up_1 _) (Nat.le_of_ble_eq_true rfl) rfl ?_
                        refine aw_goto (tgt := 162) dX12_word_185 (by decide) ?_
                        refine aw_le ?_ (ih_162_37 (j162 + 1)  V_44 (by omega) (j_44))
                        exact ⟨rfl, ⟨rfl, ⟨rfl, ⟨rfl, ⟨rfl, ⟨rfl, trivial⟩⟩⟩⟩⟩⟩
                    refine aw_le ?_ (loop_162_36 (zn2 + 1) 0  V80 (by omega) (i80_0))
                    exact ⟨rfl, ⟨rfl, ⟨rfl, ⟨rfl, ⟨rfl, ⟨rfl, trivial⟩⟩⟩⟩⟩⟩
                  | succ g_80 ih_80_34 =>
                    intro j80  V80 hj80 i80_0
                    have hlj80 : j80 < (zn2 + 1) := by omega
                    refine aw_iload dX12_word_80 rfl ?_
                    refine aw_iload_n dX12_word_82 rfl ?_
                    refine aw_icmp_gt (tgt := 159) dX12_word_83 (by decide) (fun c_45 => ?_) (fun c_45 => ?_)
                    · exact absurd ((nI_ltI (a := zn2) (b := j80) (by omega) (by omega)).mp c_45) (by omega)
                    refine aw_aload_n dX12_word_86 rfl ?_
                    obtain ⟨ftoldPeople_46, ftoldDoors_46, fwasDoors_46, ffault_46, fopen_46, flines_46, fmeantSet_46, fopenedNow_46, fvainNow_46, flowNow_46, fhighNow_46, fisKept_46, tad_46, pl0_46, le0_46, nu0_46, coy_46, wag_46, say_46, e_46, hntad_46, hnpl0_46, hnle0_46, hnnu0_46, hncoy_46, hnwag_46, hnsay_46⟩ := JR.get i80_0 cm_100
                    refine aw_get dX12_word_87 fl_X12_103 e_46 (by omega) rfl ?_
                    refine aw_iload dX12_word_90 rfl ?_
                    refine aw_lconst (v := 0) dX12_word_92 (by decide) ?_
                    obtain ⟨g_47, e_47⟩ := JR.get i80_0 cm_131
                    refine aw_last dX12_word_93 e_47 (by omega) (vp_in_nI (n := j80) (by omega) (by omega)) ?_
                    refine aw_upR i80_0 cm_131 ⟨_, rfl⟩ (by decide) (WA LM0 (by decide) (by decide)) (fun V_48 j_48 k_48 e_48 => ?_)
                    refine aw_iconst (v := 0) dX12_word_94 (by decide) ?_
                    refine aw_istore (ls' := [some (.ref (b + 100)), some (.int (nI zn0)), some (.int (nI zn1)), some (.int (nI zn2)), some (.int (nI j71)), some (.int (nI j80)), some (.int 0)]) dX12_word_95 (Nat.le_of_ble_eq_true rfl) rfl ?_
                    have loop_97_48 : ∀ (g_97 : Nat), ∀ (j97 : Nat)  (V97 : Wd), j97 + g_97 = 16 → (JR D b N cl [(130, 131, 0, 1000000)] V V97) → AW l D b jX12_word (fx_rm 1 0 0) none (fx_MQ D b 0 0 (fx_ql (fun r N9 V9 => N = N9 ∧ JR D b N cl [(130, 131, 0, 1000000)] V V9))) 97 [some (.ref (b + 100)), some (.int (nI zn0)), some (.int (nI zn1)), some (.int (nI zn2)), some (.int (nI j71)), some (.int (nI j80)), some (.int (nI j97))] [] N V97 0 0 := by
                      intro g_97
                      induction g_97 with
                      | zero =>
                        intro j97  V97 hj97 i97_0
                        obtain rfl : j97 = 16 := by omega
                        refine aw_iload dX12_word_97 rfl ?_
                        refine aw_bipush (v := 16) dX12_word_99 (by decide) ?_
                        refine aw_icmp_ge (tgt := 153) dX12_word_101 (by decide) (fun c_51 => ?_) (fun c_51 => ?_)
                        rotate_left
                        · exact absurd (nI_le (a := 16) (b := 16) (Nat.le_refl _) (by omega)) c_51
                        refine aw_iinc (v := (nI (j80 + 1))) (ls' := [some (.ref (b + 100)), some (.int (nI zn0)), some (.int (nI zn1)), some (.int (nI zn2)), some (.int (nI j71)), some (.int (nI (j80 + 1))), some (.int (nI 16))]) dX12_word_153 rfl (fx_up_1 _) (Nat.le_of_ble_eq_true rfl) rfl ?_
                        refine aw_goto (tgt := 80) dX12_word_156 (by decide) ?_
                        refine aw_le ?_ (ih_80_34 (j80 + 1)  V97 (by omega) (i97_0))
                        exact ⟨rfl, ⟨rfl, ⟨rfl, ⟨rfl, ⟨rfl, ⟨rfl, trivial⟩⟩⟩⟩⟩⟩
                      | succ g_97 ih_97_49 =>
                        intro j97  V97 hj97 i97_0
                        have hlj97 : j97 < 16 := by omega
                        refine aw_iload dX12_word_97 rfl ?_
                        refine aw_bipush (v := 16) dX12_word_99 (by decide) ?_
                        refine aw_icmp_ge (tgt := 153) dX12_word_101 (by decide) (fun c_52 => ?_) (fun c_52 => ?_)
                        · exact absurd c_52 (nI_ge (a := j97) (b := 16) (by omega) (by omega))
                        refine aw_iload dX12_word_104 rfl ?_
                        refine aw_iload dX12_word_106 rfl ?_
                        refine aw_icmp_ge (tgt := 153) dX12_word_108 (by decide) (fun c_53 => ?_) (fun c_53 => ?_)
                        · skip
                          have nc_53 : j80 ≤ j97 := (nI_leI (a := j80) (b := j97) (by omega) (by omega)).mp c_53
                          refine aw_iinc (v := (nI (j80 + 1))) (ls' := [some (.ref (b + 100)), some (.int (nI zn0)), some (.int (nI zn1)), some (.int (nI zn2)), some (.int (nI j71)), some (.int (nI (j80 + 1))), some (.int (nI j97))]) dX12_word_153 rfl (fx_up_1 _) (Nat.le_of_ble_eq_true rfl) rfl ?_
                          refine aw_goto (tgt := 80) dX12_word_156 (by decide) ?_
                          refine aw_le ?_ (ih_80_34 (j80 + 1)  V97 (by omega) (i97_0))
                          exact ⟨rfl, ⟨rfl, ⟨rfl, ⟨rfl, ⟨rfl, ⟨rfl, trivial⟩⟩⟩⟩⟩⟩
                        · skip
                          have nc_53 : ¬ (j80 ≤ j97) := fun z => c_53 ((nI_leI (a := j80) (b := j97) (by omega) (by omega)).mpr z)
                          refine aw_iload_n dX12_word_111 rfl ?_
                          refine aw_iload dX12_word_112 rfl ?_
                          refine aw_callSi (J' := jX12_has) (As := [.int (nI zn1), .int (nI j97)]) (st := []) dX12_word_114 tb_1315 ok_X12_has rfl (r_has l D b N V97 hN cl i97_0.1 (nI zn1) (nI j97)) rfl (Nat.le_of_ble_eq_true rfl) ⟨Nat.le_of_ble_eq_true rfl, Nat.le_of_ble_eq_true rfl, Nat.le_of_ble_eq_true rfl, Nat.le_of_ble_eq_true rfl⟩ (fun r_56 N_57 V_58 q_59 => ?_)
                          obtain ⟨h_55, rfl, rfl⟩ := q_59
                          refine aw_if_eq (tgt := 147) dX12_word_117 (by decide) (fun c_60 => ?_) (fun c_60 => ?_)
                          · skip
                            refine aw_iinc (v := (nI (j97 + 1))) (ls' := [some (.ref (b + 100)), some (.int (nI zn0)), some (.int (nI zn1)), some (.int (nI zn2)), some (.int (nI j71)), some (.int (nI j80)), some (.int (nI (j97 + 1)))]) dX12_word_147 rfl (fx_up_1 _) (Nat.le_of_ble_eq_true rfl) rfl ?_
                            refine aw_goto (tgt := 97) dX12_word_150 (by decide) ?_
                            refine aw_le ?_ (ih_97_49 (j97 + 1)  V97 (by omega) (i97_0))
                            exact ⟨rfl, ⟨rfl, ⟨rfl, ⟨rfl, ⟨rfl, ⟨rfl, ⟨rfl, trivial⟩⟩⟩⟩⟩⟩⟩
                          · skip
                            refine aw_aload_n dX12_word_120 rfl ?_
                            obtain ⟨ftoldPeople_61, ftoldDoors_61, fwasDoors_61, ffault_61, fopen_61, flines_61, fmeantSet_61, fopenedNow_61, fvainNow_61, flowNow_61, fhighNow_61, fisKept_61, tad_61, pl0_61, le0_61, nu0_61, coy_61, wag_61, say_61, e_61, hntad_61, hnpl0_61, hnle0_61, hnnu0_61, hncoy_61, hnwag_61, hnsay_61⟩ := JR.get i97_0 cm_100
                            refine aw_get dX12_word_121 fl_X12_103 e_61 (by omega) rfl ?_
                            refine aw_iload dX12_word_124 rfl ?_
                            refine aw_aload_n dX12_word_126 rfl ?_
                            refine aw_get dX12_word_127 fl_X12_103 e_61 (by omega) rfl ?_
                            refine aw_iload dX12_word_130 rfl ?_
                            obtain ⟨g_62, e_62⟩ := JR.get i97_0 cm_131
                            refine aw_lald (v := (g_62 j80)) dX12_word_132 e_62 (by omega) (vp_in_nI (n := j80) (by omega) (by omega)) (congrArg g_62 (nI_clamp (n := j80) (by omega))) ?_
                            refine aw_aload_n dX12_word_133 rfl ?_
                            refine aw_get dX12_word_134 fl_X12_99 e_61 (by omega) rfl ?_
                            refine aw_iload dX12_word_137 rfl ?_
                            refine aw_iload dX12_word_139 rfl ?_
                            refine aw_isub dX12_word_141 ?_
                            refine aw_eqi (y := (nI (j80 - j97))) (pk_sub (a := j80) (b := j97) (by omega)) ?_
                            refine aw_iconst (v := 1) dX12_word_142 (by decide) ?_
                            refine aw_isub dX12_word_143 ?_
                            refine aw_eqi (y := (nI ((j80 - j97) - 1))) (pk_sub (a := (j80 - j97)) (b := 1) (by omega)) ?_
                            obtain ⟨g_63, e_63⟩ := JR.get i97_0 cm_130
                            refine aw_lald (v := (g_63 ((j80 - j97) - 1))) dX12_word_144 e_63 (by omega) (vp_in_nI (n := ((j80 - j97) - 1)) (by omega) (by omega)) (congrArg g_63 (nI_clamp (n := ((j80 - j97) - 1)) (by omega))) ?_
                            refine aw_ladd dX12_word_145 ?_
                            refine aw_last dX12_word_146 e_62 (by omega) (vp_in_nI (n := j80) (by omega) (by omega)) ?_
                            refine aw_upR i97_0 cm_131 ⟨_, rfl⟩ (by decide) (WA LM0 (by decide) (by decide)) (fun V_64 j_64 k_64 e_64 => ?_)
                            refine aw_iinc (v := (nI (j97 + 1))) (ls' := [some (.ref (b + 100)), some (.int (nI zn0)), some (.int (nI zn1)), some (.int (nI zn2)), some (.int (nI j71)), some (.int (nI j80)), some (.int (nI (j97 + 1)))]) dX12_word_147 rfl (fx_up_1 _) (Nat.le_of_ble_eq_true rfl) rfl ?_
                            refine aw_goto (tgt := 97) dX12_word_150 (by decide) ?_
                            refine aw_le ?_ (ih_97_49 (j97 + 1)  V_64 (by omega) (j_64))
                            exact ⟨rfl, ⟨rfl, ⟨rfl, ⟨rfl, ⟨rfl, ⟨rfl, ⟨rfl, trivial⟩⟩⟩⟩⟩⟩⟩
                    refine aw_le ?_ (loop_97_48 16 0  V_48 (by omega) (j_48))
                    exact ⟨rfl, ⟨rfl, ⟨rfl, ⟨rfl, ⟨rfl, ⟨rfl, ⟨rfl, trivial⟩⟩⟩⟩⟩⟩⟩
                refine aw_le ?_ (loop_80_33 (zn2 + 1) 0  V71 (by omega) (i71_0))
                exact ⟨rfl, ⟨rfl, ⟨rfl, ⟨rfl, ⟨rfl, ⟨rfl, trivial⟩⟩⟩⟩⟩⟩
            refine aw_le ?_ (loop_71_27 zn0 0  V39 (by omega) (i39_0))
            exact ⟨rfl, ⟨rfl, ⟨rfl, ⟨rfl, ⟨rfl, trivial⟩⟩⟩⟩⟩
          | succ g_39 ih_39_25 =>
            intro j39  V39 hj39 i39_0
            have hlj39 : j39 < (zn2 + 1) := by omega
            refine aw_iload dX12_word_39 rfl ?_
            refine aw_iload_n dX12_word_41 rfl ?_
            refine aw_icmp_gt (tgt := 68) dX12_word_42 (by decide) (fun c_65 => ?_) (fun c_65 => ?_)
            · exact absurd ((nI_ltI (a := zn2) (b := j39) (by omega) (by omega)).mp c_65) (by omega)
            refine aw_aload_n dX12_word_45 rfl ?_
            obtain ⟨ftoldPeople_66, ftoldDoors_66, fwasDoors_66, ffault_66, fopen_66, flines_66, fmeantSet_66, fopenedNow_66, fvainNow_66, flowNow_66, fhighNow_66, fisKept_66, tad_66, pl0_66, le0_66, nu0_66, coy_66, wag_66, say_66, e_66, hntad_66, hnpl0_66, hnle0_66, hnnu0_66, hncoy_66, hnwag_66, hnsay_66⟩ := JR.get i39_0 cm_100
            refine aw_get dX12_word_46 fl_X12_99 e_66 (by omega) rfl ?_
            refine aw_iload dX12_word_49 rfl ?_
            refine aw_iload dX12_word_51 rfl ?_
            refine aw_if_ne (tgt := 60) dX12_word_53 (by decide) (fun c_67 => ?_) (fun c_67 => ?_)
            · skip
              have nc_67 : ¬ (j39 = 0) := fun z => c_67 ((nI_eq (a := j39) (b := 0) (by omega) (by omega)).mpr z)
              refine aw_lconst (v := 0) dX12_word_60 (by decide) ?_
              obtain ⟨g_68, e_68⟩ := JR.get i39_0 cm_130
              refine aw_last dX12_word_61 e_68 (by omega) (vp_in_nI (n := j39) (by omega) (by omega)) ?_
              refine aw_upR i39_0 cm_130 ⟨_, rfl⟩ (by decide) (WA LM0 (by decide) (by decide)) (fun V_69 j_69 k_69 e_69 => ?_)
              refine aw_iinc (v := (nI (j39 + 1))) (ls' := [some (.ref (b + 100)), some (.int (nI zn0)), some (.int (nI zn1)), some (.int (nI zn2)), some (.int (nI (j39 + 1))), none, none]) dX12_word_62 rfl (fx_up_1 _) (Nat.le_of_ble_eq_true rfl) rfl ?_
              refine aw_goto (tgt := 39) dX12_word_65 (by decide) ?_
              refine aw_le ?_ (ih_39_25 (j39 + 1)  V_69 (by omega) (j_69))
              exact ⟨rfl, ⟨rfl, ⟨rfl, ⟨rfl, ⟨rfl, trivial⟩⟩⟩⟩⟩
            · skip
              have nc_67 : j39 = 0 := (nI_eq (a := j39) (b := 0) (by omega) (by omega)).mp c_67
              refine aw_lconst (v := 1) dX12_word_56 (by decide) ?_
              refine aw_goto (tgt := 61) dX12_word_57 (by decide) ?_
              obtain ⟨g_70, e_70⟩ := JR.get i39_0 cm_130
              refine aw_last dX12_word_61 e_70 (by omega) (vp_in_nI (n := j39) (by omega) (by omega)) ?_
              refine aw_upR i39_0 cm_130 ⟨_, rfl⟩ (by decide) (WA LM0 (by decide) (by decide)) (fun V_71 j_71 k_71 e_71 => ?_)
              refine aw_iinc (v := (nI (j39 + 1))) (ls' := [some (.ref (b + 100)), some (.int (nI zn0)), some (.int (nI zn1)), some (.int (nI zn2)), some (.int (nI (j39 + 1))), none, none]) dX12_word_62 rfl (fx_up_1 _) (Nat.le_of_ble_eq_true rfl) rfl ?_
              refine aw_goto (tgt := 39) dX12_word_65 (by decide) ?_
              refine aw_le ?_ (ih_39_25 (j39 + 1)  V_71 (by omega) (j_71))
              exact ⟨rfl, ⟨rfl, ⟨rfl, ⟨rfl, ⟨rfl, trivial⟩⟩⟩⟩⟩
        refine aw_le ?_ (loop_39_24 (zn2 + 1) 0  V (by omega) (hJ0))
        exact ⟨rfl, ⟨rfl, ⟨rfl, ⟨rfl, ⟨rfl, trivial⟩⟩⟩⟩⟩
      · skip
        refine aw_ldc2 (v := (-1)) dX12_word_32 tb_1592 ?_
        refine aw_lreti dX12_word_35 rfl (Nat.le_of_ble_eq_true rfl) (Nat.le_of_ble_eq_true rfl) ?_
        exact ⟨rfl, hJ0⟩

set_option maxHeartbeats 4000000 in
set_option maxRecDepth 100000 in
theorem r_sleeps (l : Launch) (D : va_G) (b : Nat) (N : Nat) (V : Wd) (hN : 133 ≤ N) (cl : Nat) (hW : CR D b cl V) (n0 : Int32) (hn0 : ∃ j : Nat, j < 13 ∧ n0 = nI j) (n1 : Int32) (hn1 : ∃ j : Nat, j < 4096 ∧ n1 = nI j) (n2 : Int32) (hn2 : ∃ j : Nat, j < 12 ∧ n2 = nI j)  : MI l D b 2 jX12_sleeps [.ref (b + 100), .int n0, .int n1, .int n2] N V 0 0 (fun r N9 V9 => N = N9 ∧ V = V9) := by
  have hJ0 : JR D b N cl [] V V := JR.rf hW
  obtain ⟨i0, hi0, rfl⟩ := hn0
  obtain ⟨i1, hi1, rfl⟩ := hn1
  obtain ⟨i2, hi2, rfl⟩ := hn2
  refine mw_of (by decide) (by simp [Value.category]) (Nat.le_of_ble_eq_true rfl) ?_
  show AW l D b jX12_sleeps (fx_rm 2 0 0) none (fx_MQ D b 0 0 (fx_qi (fun r N9 V9 => N = N9 ∧ V = V9))) 0 [some (.ref (b + 100)), some (.int (nI i0)), some (.int (nI i1)), some (.int (nI i2)), none, none, none] [] N V 0 0
  refine aw_ldcw (v := 1000000) dX12_sleeps_0 tb_1473 ?_
  refine aw_istore (ls' := [some (.ref (b + 100)), some (.int (nI i0)), some (.int (nI i1)), some (.int (nI i2)), some (.int 1000000), none, none]) dX12_sleeps_3 (Nat.le_of_ble_eq_true rfl) rfl ?_
  refine aw_iconst (v := 0) dX12_sleeps_5 (by decide) ?_
  refine aw_istore (ls' := [some (.ref (b + 100)), some (.int (nI i0)), some (.int (nI i1)), some (.int (nI i2)), some (.int 1000000), some (.int 0), none]) dX12_sleeps_6 (Nat.le_of_ble_eq_true rfl) rfl ?_
  have loop_8_0 : ∀ (g_8 : Nat), ∀ (j8 : Nat) (v8_4 : Int32), j8 + g_8 = i0 → AW l D b jX12_sleeps (fx_rm 2 0 0) none (fx_MQ D b 0 0 (fx_qi (fun r N9 V9 => N = N9 ∧ V = V9))) 8 [some (.ref (b + 100)), some (.int (nI i0)), some (.int (nI i1)), some (.int (nI i2)), some (.int v8_4), some (.int (nI j8)), none] [] N V 0 0 := by
    intro g_8
    induction g_8 with
    | zero =>
      intro j8 v8_4 hj8
      obtain rfl : i0 = j8 := by omega
      refine aw_iload dX12_sleeps_8 rfl ?_
      refine aw_iload_n dX12_sleeps_10 rfl ?_
      refine aw_icmp_ge (tgt := 100) dX12_sleeps_11 (by decide) (fun c_3 => ?_) (fun c_3 => ?_)
      rotate_left
      · exact absurd (nI_le (a := i0) (b := i0) (Nat.le_refl _) (by omega)) c_3
      refine aw_iload dX12_sleeps_100 rfl ?_
      refine aw_ireti dX12_sleeps_102 rfl (Nat.le_of_ble_eq_true rfl) (Nat.le_of_ble_eq_true rfl) ?_
      exact ⟨rfl, rfl⟩
    | succ g_8 ih_8_1 =>
      intro j8 v8_4 hj8
      have hlj8 : j8 < i0 := by omega
      refine aw_iload dX12_sleeps_8 rfl ?_
      refine aw_iload_n dX12_sleeps_10 rfl ?_
      refine aw_icmp_ge (tgt := 100) dX12_sleeps_11 (by decide) (fun c_4 => ?_) (fun c_4 => ?_)
      · exact absurd c_4 (nI_ge (a := j8) (b := i0) (by omega) (by omega))
      refine aw_iload_n dX12_sleeps_14 rfl ?_
      refine aw_iload_n dX12_sleeps_15 rfl ?_
      refine aw_callSi (J' := jX12_has) (As := [.int (nI i1), .int (nI i2)]) (st := []) dX12_sleeps_16 tb_1315 ok_X12_has rfl (r_has l D b N V hN cl hJ0.1 (nI i1) (nI i2)) rfl (Nat.le_of_ble_eq_true rfl) ⟨Nat.le_of_ble_eq_true rfl, Nat.le_of_ble_eq_true rfl, Nat.le_of_ble_eq_true rfl, Nat.le_of_ble_eq_true rfl⟩ (fun r_7 N_8 V_9 q_10 => ?_)
      obtain ⟨h_6, rfl, rfl⟩ := q_10
      refine aw_if_eq (tgt := 100) dX12_sleeps_19 (by decide) (fun c_11 => ?_) (fun c_11 => ?_)
      · skip
        refine aw_iload dX12_sleeps_100 rfl ?_
        refine aw_ireti dX12_sleeps_102 rfl (Nat.le_of_ble_eq_true rfl) (Nat.le_of_ble_eq_true rfl) ?_
        exact ⟨rfl, rfl⟩
      · skip
        refine aw_iload dX12_sleeps_22 rfl ?_
        refine aw_iload_n dX12_sleeps_24 rfl ?_
        refine aw_icmp_eq (tgt := 94) dX12_sleeps_25 (by decide) (fun c_12 => ?_) (fun c_12 => ?_)
        · skip
          have nc_12 : j8 = i2 := (nI_eq (a := j8) (b := i2) (by omega) (by omega)).mp c_12
          refine aw_iinc (v := (nI (j8 + 1))) (ls' := [some (.ref (b + 100)), some (.int (nI i0)), some (.int (nI i1)), some (.int (nI i2)), some (.int v8_4), some (.int (nI (j8 + 1))), none]) dX12_sleeps_94 rfl (fx_up_1 _) (Nat.le_of_ble_eq_true rfl) rfl ?_
          refine aw_goto (tgt := 8) dX12_sleeps_97 (by decide) ?_
          refine aw_le ?_ (ih_8_1 (j8 + 1) v8_4  (by omega))
          exact ⟨rfl, ⟨rfl, ⟨rfl, ⟨rfl, ⟨rfl, ⟨rfl, trivial⟩⟩⟩⟩⟩⟩
        · skip
          have nc_12 : ¬ (j8 = i2) := fun z => c_12 ((nI_eq (a := j8) (b := i2) (by omega) (by omega)).mpr z)
          refine aw_iload_n dX12_sleeps_28 rfl ?_
          refine aw_iload dX12_sleeps_29 rfl ?_
          refine aw_callSi (J' := jX12_has) (As := [.int (nI i1), .int (nI j8)]) (st := []) dX12_sleeps_31 tb_1315 ok_X12_has rfl (r_has l D b N V hN cl hJ0.1 (nI i1) (nI j8)) rfl (Nat.le_of_ble_eq_true rfl) ⟨Nat.le_of_ble_eq_true rfl, Nat.le_of_ble_eq_true rfl, Nat.le_of_ble_eq_true rfl, Nat.le_of_ble_eq_true rfl⟩ (fun r_15 N_16 V_17 q_18 => ?_)
          obtain ⟨h_14, rfl, rfl⟩ := q_18
          refine aw_if_ne (tgt := 40) dX12_sleeps_34 (by decide) (fun c_19 => ?_) (fun c_19 => ?_)
          · skip
            refine aw_aload_n dX12_sleeps_40 rfl ?_
            obtain ⟨ftoldPeople_20, ftoldDoors_20, fwasDoors_20, ffault_20, fopen_20, flines_20, fmeantSet_20, fopenedNow_20, fvainNow_20, flowNow_20, fhighNow_20, fisKept_20, tad_20, pl0_20, le0_20, nu0_20, coy_20, wag_20, say_20, e_20, hntad_20, hnpl0_20, hnle0_20, hnnu0_20, hncoy_20, hnwag_20, hnsay_20⟩ := JR.get hJ0 cm_100
            refine aw_get dX12_sleeps_41 fl_X12_107 e_20 (by omega) rfl ?_
            refine aw_bipush (v := 12) dX12_sleeps_44 (by decide) ?_
            refine aw_iload_n dX12_sleeps_46 rfl ?_
            refine aw_iconst (v := 1) dX12_sleeps_47 (by decide) ?_
            refine aw_iload_n dX12_sleeps_48 rfl ?_
            refine aw_ishl dX12_sleeps_49 ?_
            refine aw_eqi (y := (nI (2 ^ i2))) (fx_shl12 i2 (by omega)) ?_
            refine aw_iconst (v := (-1)) dX12_sleeps_50 (by decide) ?_
            refine aw_ixor dX12_sleeps_51 ?_
            refine aw_iand dX12_sleeps_52 ?_
            obtain ⟨z_21, hz_21, ez_21⟩ := fx_andle (s := i1) ((nI (2 ^ i2)) ^^^ (-1))
            refine aw_eqi (y := (nI z_21)) ez_21 ?_
            refine aw_imul dX12_sleeps_53 ?_
            refine aw_eqi (y := nI (12 * z_21)) (pk_mul _ _) ?_
            refine aw_iload dX12_sleeps_54 rfl ?_
            refine aw_iadd dX12_sleeps_56 ?_
            refine aw_eqi (y := nI ((12 * z_21) + j8)) (nI_add _ _) ?_
            obtain ⟨g_22, e_22⟩ := JR.get hJ0 cm_132
            refine aw_iald (v := (g_22 ((12 * z_21) + j8))) dX12_sleeps_57 e_22 (by omega) (vp_in_nI (n := ((12 * z_21) + j8)) (by omega) (by omega)) (congrArg g_22 (nI_clamp (n := ((12 * z_21) + j8)) (by omega))) ?_
            refine aw_istore (ls' := [some (.ref (b + 100)), some (.int (nI i0)), some (.int (nI i1)), some (.int (nI i2)), some (.int v8_4), some (.int (nI j8)), some (.int (g_22 ((12 * z_21) + j8)))]) dX12_sleeps_58 (Nat.le_of_ble_eq_true rfl) rfl ?_
            refine aw_iload dX12_sleeps_60 rfl ?_
            refine aw_iload dX12_sleeps_62 rfl ?_
            refine aw_aload_n dX12_sleeps_64 rfl ?_
            refine aw_iload dX12_sleeps_65 rfl ?_
            refine aw_callVi (J' := jX12_octet) (As := [.int (nI j8)]) (st := [.int (g_22 ((12 * z_21) + j8)), .int v8_4]) dX12_sleeps_67 tb_1556 ok_X12_octet ⟨_, e_20⟩ (by omega) rfl rfl (r_octet l D b N V hN cl hJ0.1 (nI j8) ⟨j8, by omega, rfl⟩) rfl (Nat.le_of_ble_eq_true rfl) ⟨Nat.le_of_ble_eq_true rfl, Nat.le_of_ble_eq_true rfl, Nat.le_of_ble_eq_true rfl, Nat.le_of_ble_eq_true rfl⟩ (fun r_24 N_25 V_26 q_27 => ?_)
            obtain ⟨rfl, rfl⟩ := q_27
            refine aw_aload_n dX12_sleeps_70 rfl ?_
            refine aw_iload_n dX12_sleeps_71 rfl ?_
            refine aw_callVi (J' := jX12_octet) (As := [.int (nI i2)]) (st := [.int r_24, .int (g_22 ((12 * z_21) + j8)), .int v8_4]) dX12_sleeps_72 tb_1556 ok_X12_octet ⟨_, e_20⟩ (by omega) rfl rfl (r_octet l D b N V hN cl hJ0.1 (nI i2) ⟨i2, by omega, rfl⟩) rfl (Nat.le_of_ble_eq_true rfl) ⟨Nat.le_of_ble_eq_true rfl, Nat.le_of_ble_eq_true rfl, Nat.le_of_ble_eq_true rfl, Nat.le_of_ble_eq_true rfl⟩ (fun r_29 N_30 V_31 q_32 => ?_)
            obtain ⟨rfl, rfl⟩ := q_32
            refine aw_icmp_ne (tgt := 83) dX12_sleeps_75 (by decide) (fun c_33 => ?_) (fun c_33 => ?_)
            · skip
              refine aw_bipush (v := (-5)) dX12_sleeps_83 (by decide) ?_
              refine aw_iadd dX12_sleeps_85 ?_
              refine aw_callSi (J' := jX12_limit) (As := [.int ((g_22 ((12 * z_21) + j8)) + (-5))]) (st := [.int v8_4]) dX12_sleeps_86 tb_1322 ok_X12_limit rfl (r_limit l D b N V hN cl hJ0.1 ((g_22 ((12 * z_21) + j8)) + (-5))) rfl (Nat.le_of_ble_eq_true rfl) ⟨Nat.le_of_ble_eq_true rfl, Nat.le_of_ble_eq_true rfl, Nat.le_of_ble_eq_true rfl, Nat.le_of_ble_eq_true rfl⟩ (fun r_35 N_36 V_37 q_38 => ?_)
              obtain ⟨rfl, rfl⟩ := q_38
              refine aw_callSi (J' := jX12_min) (As := [.int v8_4, .int r_35]) (st := []) dX12_sleeps_89 tb_1325 ok_X12_min rfl (r_min l D b N V hN cl hJ0.1 v8_4 r_35) rfl (Nat.le_of_ble_eq_true rfl) ⟨Nat.le_of_ble_eq_true rfl, Nat.le_of_ble_eq_true rfl, Nat.le_of_ble_eq_true rfl, Nat.le_of_ble_eq_true rfl⟩ (fun r_40 N_41 V_42 q_43 => ?_)
              obtain ⟨rfl, rfl⟩ := q_43
              refine aw_istore (ls' := [some (.ref (b + 100)), some (.int (nI i0)), some (.int (nI i1)), some (.int (nI i2)), some (.int r_40), some (.int (nI j8)), some (.int (g_22 ((12 * z_21) + j8)))]) dX12_sleeps_92 (Nat.le_of_ble_eq_true rfl) rfl ?_
              refine aw_iinc (v := (nI (j8 + 1))) (ls' := [some (.ref (b + 100)), some (.int (nI i0)), some (.int (nI i1)), some (.int (nI i2)), some (.int r_40), some (.int (nI (j8 + 1))), some (.int (g_22 ((12 * z_21) + j8)))]) dX12_sleeps_94 rfl (fx_up_1 _) (Nat.le_of_ble_eq_true rfl) rfl ?_
              refine aw_goto (tgt := 8) dX12_sleeps_97 (by decide) ?_
              refine aw_le ?_ (ih_8_1 (j8 + 1) r_40  (by omega))
              exact ⟨rfl, ⟨rfl, ⟨rfl, ⟨rfl, ⟨rfl, ⟨rfl, trivial⟩⟩⟩⟩⟩⟩
            · skip
              refine aw_bipush (v := 7) dX12_sleeps_78 (by decide) ?_
              refine aw_goto (tgt := 85) dX12_sleeps_80 (by decide) ?_
              refine aw_iadd dX12_sleeps_85 ?_
              refine aw_callSi (J' := jX12_limit) (As := [.int ((g_22 ((12 * z_21) + j8)) + 7)]) (st := [.int v8_4]) dX12_sleeps_86 tb_1322 ok_X12_limit rfl (r_limit l D b N V hN cl hJ0.1 ((g_22 ((12 * z_21) + j8)) + 7)) rfl (Nat.le_of_ble_eq_true rfl) ⟨Nat.le_of_ble_eq_true rfl, Nat.le_of_ble_eq_true rfl, Nat.le_of_ble_eq_true rfl, Nat.le_of_ble_eq_true rfl⟩ (fun r_45 N_46 V_47 q_48 => ?_)
              obtain ⟨rfl, rfl⟩ := q_48
              refine aw_callSi (J' := jX12_min) (As := [.int v8_4, .int r_45]) (st := []) dX12_sleeps_89 tb_1325 ok_X12_min rfl (r_min l D b N V hN cl hJ0.1 v8_4 r_45) rfl (Nat.le_of_ble_eq_true rfl) ⟨Nat.le_of_ble_eq_true rfl, Nat.le_of_ble_eq_true rfl, Nat.le_of_ble_eq_true rfl, Nat.le_of_ble_eq_true rfl⟩ (fun r_50 N_51 V_52 q_53 => ?_)
              obtain ⟨rfl, rfl⟩ := q_53
              refine aw_istore (ls' := [some (.ref (b + 100)), some (.int (nI i0)), some (.int (nI i1)), some (.int (nI i2)), some (.int r_50), some (.int (nI j8)), some (.int (g_22 ((12 * z_21) + j8)))]) dX12_sleeps_92 (Nat.le_of_ble_eq_true rfl) rfl ?_
              refine aw_iinc (v := (nI (j8 + 1))) (ls' := [some (.ref (b + 100)), some (.int (nI i0)), some (.int (nI i1)), some (.int (nI i2)), some (.int r_50), some (.int (nI (j8 + 1))), some (.int (g_22 ((12 * z_21) + j8)))]) dX12_sleeps_94 rfl (fx_up_1 _) (Nat.le_of_ble_eq_true rfl) rfl ?_
              refine aw_goto (tgt := 8) dX12_sleeps_97 (by decide) ?_
              refine aw_le ?_ (ih_8_1 (j8 + 1) r_50  (by omega))
              exact ⟨rfl, ⟨rfl, ⟨rfl, ⟨rfl, ⟨rfl, ⟨rfl, trivial⟩⟩⟩⟩⟩⟩
          · skip
            refine aw_goto (tgt := 94) dX12_sleeps_37 (by decide) ?_
            refine aw_iinc (v := (nI (j8 + 1))) (ls' := [some (.ref (b + 100)), some (.int (nI i0)), some (.int (nI i1)), some (.int (nI i2)), some (.int v8_4), some (.int (nI (j8 + 1))), none]) dX12_sleeps_94 rfl (fx_up_1 _) (Nat.le_of_ble_eq_true rfl) rfl ?_
            refine aw_goto (tgt := 8) dX12_sleeps_97 (by decide) ?_
            refine aw_le ?_ (ih_8_1 (j8 + 1) v8_4  (by omega))
            exact ⟨rfl, ⟨rfl, ⟨rfl, ⟨rfl, ⟨rfl, ⟨rfl, trivial⟩⟩⟩⟩⟩⟩
  refine aw_le ?_ (loop_8_0 i0 0 1000000  (by omega))
  exact ⟨rfl, ⟨rfl, ⟨rfl, ⟨rfl, ⟨rfl, ⟨rfl, trivial⟩⟩⟩⟩⟩⟩

set_option maxHeartbeats 4000000 in
set_option maxRecDepth 100000 in
theorem r_rooms (l : Launch) (D : va_G) (b : Nat) (N : Nat) (V : Wd) (hN : 133 ≤ N) (cl : Nat) (hW : CR D b cl V) (n0 : Int32) (n1 : Int32)  : MI l D b 3 jX12_rooms [.ref (b + 100), .int n0, .int n1] N V 0 0 (fun r N9 V9 => N = N9 ∧ JR D b N cl [(132, 132, 0, 1000000), (100, 100, 13, 13)] V V9) := by
  have hJ0 : JR D b N cl [(132, 132, 0, 1000000), (100, 100, 13, 13)] V V := JR.rf hW
  refine mw_of (by decide) (by simp [Value.category]) (Nat.le_of_ble_eq_true rfl) ?_
  show AW l D b jX12_rooms (fx_rm 3 0 0) none (fx_MQ D b 0 0 (fx_qi (fun r N9 V9 => N = N9 ∧ JR D b N cl [(132, 132, 0, 1000000), (100, 100, 13, 13)] V V9))) 0 [some (.ref (b + 100)), some (.int n0), some (.int n1), none, none] [] N V 0 0
  refine aw_iload_n dX12_rooms_0 rfl ?_
  refine aw_iconst (v := 1) dX12_rooms_1 (by decide) ?_
  refine aw_bipush (v := 12) dX12_rooms_2 (by decide) ?_
  refine aw_callSi (J' := jX12_in) (As := [.int n0, .int 1, .int 12]) (st := []) dX12_rooms_4 tb_1209 ok_X12_in rfl (r_in l D b N V hN cl hJ0.1 n0 1 12) rfl (Nat.le_of_ble_eq_true rfl) ⟨Nat.le_of_ble_eq_true rfl, Nat.le_of_ble_eq_true rfl, Nat.le_of_ble_eq_true rfl, Nat.le_of_ble_eq_true rfl⟩ (fun r_4 N_5 V_6 q_7 => ?_)
  obtain ⟨⟨z_3, h_2⟩, rfl, rfl⟩ := q_7
  refine aw_if_eq (tgt := 28) dX12_rooms_7 (by decide) (fun c_8 => ?_) (fun c_8 => ?_)
  · skip
    refine aw_iconst (v := (-1)) dX12_rooms_28 (by decide) ?_
    refine aw_ireti dX12_rooms_29 rfl (Nat.le_of_ble_eq_true rfl) (Nat.le_of_ble_eq_true rfl) ?_
    exact ⟨rfl, hJ0⟩
  · skip
    obtain ⟨zn0, h0zn0, hzn0, rfl⟩ := in_nat (a := 1) (b := 12) (by decide) (h_2.resolve_left c_8)
    refine aw_iload_n dX12_rooms_10 rfl ?_
    refine aw_iconst (v := 0) dX12_rooms_11 (by decide) ?_
    refine aw_bipush (v := 99) dX12_rooms_12 (by decide) ?_
    refine aw_callSi (J' := jX12_in) (As := [.int n1, .int 0, .int 99]) (st := []) dX12_rooms_14 tb_1209 ok_X12_in rfl (r_in l D b N V hN cl hJ0.1 n1 0 99) rfl (Nat.le_of_ble_eq_true rfl) ⟨Nat.le_of_ble_eq_true rfl, Nat.le_of_ble_eq_true rfl, Nat.le_of_ble_eq_true rfl, Nat.le_of_ble_eq_true rfl⟩ (fun r_12 N_13 V_14 q_15 => ?_)
    obtain ⟨⟨z_11, h_10⟩, rfl, rfl⟩ := q_15
    refine aw_if_eq (tgt := 28) dX12_rooms_17 (by decide) (fun c_16 => ?_) (fun c_16 => ?_)
    · skip
      refine aw_iconst (v := (-1)) dX12_rooms_28 (by decide) ?_
      refine aw_ireti dX12_rooms_29 rfl (Nat.le_of_ble_eq_true rfl) (Nat.le_of_ble_eq_true rfl) ?_
      exact ⟨rfl, hJ0⟩
    · skip
      obtain ⟨zn1, h0zn1, hzn1, rfl⟩ := in_nat (a := 0) (b := 99) (by decide) (h_10.resolve_left c_16)
      refine aw_iload_n dX12_rooms_20 rfl ?_
      refine aw_aload_n dX12_rooms_21 rfl ?_
      obtain ⟨ftoldPeople_17, ftoldDoors_17, fwasDoors_17, ffault_17, fopen_17, flines_17, fmeantSet_17, fopenedNow_17, fvainNow_17, flowNow_17, fhighNow_17, fisKept_17, tad_17, pl0_17, le0_17, nu0_17, coy_17, wag_17, say_17, e_17, hntad_17, hnpl0_17, hnle0_17, hnnu0_17, hncoy_17, hnwag_17, hnsay_17⟩ := JR.get hJ0 cm_100
      refine aw_get dX12_rooms_22 fl_X12_152 e_17 (by omega) rfl ?_
      refine aw_icmp_le (tgt := 30) dX12_rooms_25 (by decide) (fun c_18 => ?_) (fun c_18 => ?_)
      · skip
        have nc_18 : zn0 ≤ tad_17 := (nI_leI (a := zn0) (b := tad_17) (by omega) (by omega)).mp c_18
        refine aw_aload_n dX12_rooms_30 rfl ?_
        refine aw_iconst (v := 0) dX12_rooms_31 (by decide) ?_
        refine aw_put dX12_rooms_32 fp_X12_152 e_17 (by omega) rfl rfl (Nat.le_of_ble_eq_true rfl) rfl ?_
        refine aw_upR hJ0 cm_100 ⟨_, _, _, _, _, _, _, _, _, _, _, _, 0, pl0_17, le0_17, nu0_17, coy_17, wag_17, say_17, rfl, by omega, by omega, by omega, by omega, by omega, by omega, by omega⟩ (by decide) (WO (s := 13) (x := .int 0) e_17 rfl (LMs LM0) (by decide) (by decide) (by decide) (Or.inl (by decide))) (fun V_19 j_19 k_19 e_19 => ?_)
        refine aw_iconst (v := 0) dX12_rooms_35 (by decide) ?_
        refine aw_istore_n (ls' := [some (.ref (b + 100)), some (.int (nI zn0)), some (.int (nI zn1)), some (.int 0), none]) dX12_rooms_36 (Nat.le_of_ble_eq_true rfl) rfl ?_
        have loop_37_19 : ∀ (g_37 : Nat), ∀ (j37 : Nat), j37 + g_37 = zn0 → AW l D b jX12_rooms (fx_rm 3 0 0) none (fx_MQ D b 0 0 (fx_qi (fun r N9 V9 => N = N9 ∧ JR D b N cl [(132, 132, 0, 1000000), (100, 100, 13, 13)] V V9))) 37 [some (.ref (b + 100)), some (.int (nI zn0)), some (.int (nI zn1)), some (.int (nI j37)), none] [] N V_19 0 0 := by
          intro g_37
          induction g_37 with
          | zero =>
            intro j37  hj37
            obtain rfl : zn0 = j37 := by omega
            refine aw_iload_n dX12_rooms_37 rfl ?_
            refine aw_iload_n dX12_rooms_38 rfl ?_
            refine aw_icmp_ge (tgt := 61) dX12_rooms_39 (by decide) (fun c_22 => ?_) (fun c_22 => ?_)
            rotate_left
            · exact absurd (nI_le (a := zn0) (b := zn0) (Nat.le_refl _) (by omega)) c_22
            have hp63 := fx_pow13 (k := zn0) (by omega)
            refine aw_iconst (v := 1) dX12_rooms_61 (by decide) ?_
            refine aw_istore_n (ls' := [some (.ref (b + 100)), some (.int (nI zn0)), some (.int (nI zn1)), some (.int 1), none]) dX12_rooms_62 (Nat.le_of_ble_eq_true rfl) rfl ?_
            have loop_63_22 : ∀ (g_63 : Nat), ∀ (j63 : Nat)  (V63 : Wd), j63 + g_63 = (2 ^ zn0) → (JR D b N cl [(132, 132, 0, 1000000), (100, 100, 13, 13)] V V63) → AW l D b jX12_rooms (fx_rm 3 0 0) none (fx_MQ D b 0 0 (fx_qi (fun r N9 V9 => N = N9 ∧ JR D b N cl [(132, 132, 0, 1000000), (100, 100, 13, 13)] V V9))) 63 [some (.ref (b + 100)), some (.int (nI zn0)), some (.int (nI zn1)), some (.int (nI j63)), none] [] N V63 0 0 := by
              intro g_63
              induction g_63 with
              | zero =>
                intro j63  V63 hj63 i63_0
                obtain rfl : j63 = (2 ^ zn0) := by omega
                refine aw_iload_n dX12_rooms_63 rfl ?_
                refine aw_iconst (v := 1) dX12_rooms_64 (by decide) ?_
                refine aw_iload_n dX12_rooms_65 rfl ?_
                refine aw_ishl dX12_rooms_66 ?_
                refine aw_eqi (y := (nI (2 ^ zn0))) (fx_shl13 zn0 (by omega)) ?_
                refine aw_icmp_ge (tgt := 123) dX12_rooms_67 (by decide) (fun c_25 => ?_) (fun c_25 => ?_)
                rotate_left
                · exact absurd (nI_le (a := (2 ^ zn0)) (b := (2 ^ zn0)) (Nat.le_refl _) (by omega)) c_25
                refine aw_bipush (v := 99) dX12_rooms_123 (by decide) ?_
                refine aw_istore_n (ls' := [some (.ref (b + 100)), some (.int (nI zn0)), some (.int (nI zn1)), some (.int 99), none]) dX12_rooms_125 (Nat.le_of_ble_eq_true rfl) rfl ?_
                refine aw_iconst (v := 0) dX12_rooms_126 (by decide) ?_
                refine aw_istore (ls' := [some (.ref (b + 100)), some (.int (nI zn0)), some (.int (nI zn1)), some (.int 99), some (.int 0)]) dX12_rooms_127 (Nat.le_of_ble_eq_true rfl) rfl ?_
                have loop_129_25 : ∀ (g_129 : Nat), ∀ (j129 : Nat) (v129_3 : Int32), j129 + g_129 = zn0 → AW l D b jX12_rooms (fx_rm 3 0 0) none (fx_MQ D b 0 0 (fx_qi (fun r N9 V9 => N = N9 ∧ JR D b N cl [(132, 132, 0, 1000000), (100, 100, 13, 13)] V V9))) 129 [some (.ref (b + 100)), some (.int (nI zn0)), some (.int (nI zn1)), some (.int v129_3), some (.int (nI j129))] [] N V63 0 0 := by
                  intro g_129
                  induction g_129 with
                  | zero =>
                    intro j129 v129_3 hj129
                    obtain rfl : zn0 = j129 := by omega
                    refine aw_iload dX12_rooms_129 rfl ?_
                    refine aw_iload_n dX12_rooms_131 rfl ?_
                    refine aw_icmp_ge (tgt := 162) dX12_rooms_132 (by decide) (fun c_28 => ?_) (fun c_28 => ?_)
                    rotate_left
                    · exact absurd (nI_le (a := zn0) (b := zn0) (Nat.le_refl _) (by omega)) c_28
                    refine aw_iload_n dX12_rooms_162 rfl ?_
                    refine aw_ireti dX12_rooms_163 rfl (Nat.le_of_ble_eq_true rfl) (Nat.le_of_ble_eq_true rfl) ?_
                    exact ⟨rfl, i63_0⟩
                  | succ g_129 ih_129_26 =>
                    intro j129 v129_3 hj129
                    have hlj129 : j129 < zn0 := by omega
                    refine aw_iload dX12_rooms_129 rfl ?_
                    refine aw_iload_n dX12_rooms_131 rfl ?_
                    refine aw_icmp_ge (tgt := 162) dX12_rooms_132 (by decide) (fun c_29 => ?_) (fun c_29 => ?_)
                    · exact absurd c_29 (nI_ge (a := j129) (b := zn0) (by omega) (by omega))
                    refine aw_iload_n dX12_rooms_135 rfl ?_
                    refine aw_aload_n dX12_rooms_136 rfl ?_
                    obtain ⟨ftoldPeople_30, ftoldDoors_30, fwasDoors_30, ffault_30, fopen_30, flines_30, fmeantSet_30, fopenedNow_30, fvainNow_30, flowNow_30, fhighNow_30, fisKept_30, tad_30, pl0_30, le0_30, nu0_30, coy_30, wag_30, say_30, e_30, hntad_30, hnpl0_30, hnle0_30, hnnu0_30, hncoy_30, hnwag_30, hnsay_30⟩ := JR.get i63_0 cm_100
                    refine aw_get dX12_rooms_137 fl_X12_107 e_30 (by omega) rfl ?_
                    refine aw_bipush (v := 12) dX12_rooms_140 (by decide) ?_
                    refine aw_iconst (v := 1) dX12_rooms_142 (by decide) ?_
                    refine aw_iload_n dX12_rooms_143 rfl ?_
                    refine aw_ishl dX12_rooms_144 ?_
                    refine aw_eqi (y := (nI (2 ^ zn0))) (fx_shl13 zn0 (by omega)) ?_
                    refine aw_iconst (v := 1) dX12_rooms_145 (by decide) ?_
                    refine aw_isub dX12_rooms_146 ?_
                    refine aw_eqi (y := (nI ((2 ^ zn0) - 1))) (pk_sub (a := (2 ^ zn0)) (b := 1) (by omega)) ?_
                    refine aw_imul dX12_rooms_147 ?_
                    refine aw_eqi (y := nI (12 * ((2 ^ zn0) - 1))) (pk_mul _ _) ?_
                    refine aw_iload dX12_rooms_148 rfl ?_
                    refine aw_iadd dX12_rooms_150 ?_
                    refine aw_eqi (y := nI ((12 * ((2 ^ zn0) - 1)) + j129)) (nI_add _ _) ?_
                    obtain ⟨g_31, e_31⟩ := JR.get i63_0 cm_132
                    refine aw_iald (v := (g_31 ((12 * ((2 ^ zn0) - 1)) + j129))) dX12_rooms_151 e_31 (by omega) (vp_in_nI (n := ((12 * ((2 ^ zn0) - 1)) + j129)) (by omega) (by omega)) (congrArg g_31 (nI_clamp (n := ((12 * ((2 ^ zn0) - 1)) + j129)) (by omega))) ?_
                    refine aw_callSi (J' := jX12_min) (As := [.int v129_3, .int (g_31 ((12 * ((2 ^ zn0) - 1)) + j129))]) (st := []) dX12_rooms_152 tb_1325 ok_X12_min rfl (r_min l D b N V63 hN cl i63_0.1 v129_3 (g_31 ((12 * ((2 ^ zn0) - 1)) + j129))) rfl (Nat.le_of_ble_eq_true rfl) ⟨Nat.le_of_ble_eq_true rfl, Nat.le_of_ble_eq_true rfl, Nat.le_of_ble_eq_true rfl, Nat.le_of_ble_eq_true rfl⟩ (fun r_33 N_34 V_35 q_36 => ?_)
                    obtain ⟨rfl, rfl⟩ := q_36
                    refine aw_istore_n (ls' := [some (.ref (b + 100)), some (.int (nI zn0)), some (.int (nI zn1)), some (.int r_33), some (.int (nI j129))]) dX12_rooms_155 (Nat.le_of_ble_eq_true rfl) rfl ?_
                    refine aw_iinc (v := (nI (j129 + 1))) (ls' := [some (.ref (b + 100)), some (.int (nI zn0)), some (.int (nI zn1)), some (.int r_33), some (.int (nI (j129 + 1)))]) dX12_rooms_156 rfl (fx_up_1 _) (Nat.le_of_ble_eq_true rfl) rfl ?_
                    refine aw_goto (tgt := 129) dX12_rooms_159 (by decide) ?_
                    refine aw_le ?_ (ih_129_26 (j129 + 1) r_33  (by omega))
                    exact ⟨rfl, ⟨rfl, ⟨rfl, ⟨rfl, ⟨rfl, trivial⟩⟩⟩⟩⟩
                refine aw_le ?_ (loop_129_25 zn0 0 99  (by omega))
                exact ⟨rfl, ⟨rfl, ⟨rfl, ⟨rfl, ⟨rfl, trivial⟩⟩⟩⟩⟩
              | succ g_63 ih_63_23 =>
                intro j63  V63 hj63 i63_0
                have hlj63 : j63 < (2 ^ zn0) := by omega
                refine aw_iload_n dX12_rooms_63 rfl ?_
                refine aw_iconst (v := 1) dX12_rooms_64 (by decide) ?_
                refine aw_iload_n dX12_rooms_65 rfl ?_
                refine aw_ishl dX12_rooms_66 ?_
                refine aw_eqi (y := (nI (2 ^ zn0))) (fx_shl13 zn0 (by omega)) ?_
                refine aw_icmp_ge (tgt := 123) dX12_rooms_67 (by decide) (fun c_37 => ?_) (fun c_37 => ?_)
                · exact absurd c_37 (nI_ge (a := j63) (b := (2 ^ zn0)) (by omega) (by omega))
                refine aw_iconst (v := 0) dX12_rooms_70 (by decide) ?_
                refine aw_istore (ls' := [some (.ref (b + 100)), some (.int (nI zn0)), some (.int (nI zn1)), some (.int (nI j63)), some (.int 0)]) dX12_rooms_71 (Nat.le_of_ble_eq_true rfl) rfl ?_
                have loop_73_37 : ∀ (g_73 : Nat), ∀ (j73 : Nat)  (V73 : Wd), j73 + g_73 = zn0 → (JR D b N cl [(132, 132, 0, 1000000), (100, 100, 13, 13)] V V73) → AW l D b jX12_rooms (fx_rm 3 0 0) none (fx_MQ D b 0 0 (fx_qi (fun r N9 V9 => N = N9 ∧ JR D b N cl [(132, 132, 0, 1000000), (100, 100, 13, 13)] V V9))) 73 [some (.ref (b + 100)), some (.int (nI zn0)), some (.int (nI zn1)), some (.int (nI j63)), some (.int (nI j73))] [] N V73 0 0 := by
                  intro g_73
                  induction g_73 with
                  | zero =>
                    intro j73  V73 hj73 i73_0
                    obtain rfl : zn0 = j73 := by omega
                    refine aw_iload dX12_rooms_73 rfl ?_
                    refine aw_iload_n dX12_rooms_75 rfl ?_
                    refine aw_icmp_ge (tgt := 117) dX12_rooms_76 (by decide) (fun c_40 => ?_) (fun c_40 => ?_)
                    rotate_left
                    · exact absurd (nI_le (a := zn0) (b := zn0) (Nat.le_refl _) (by omega)) c_40
                    refine aw_iinc (v := (nI (j63 + 1))) (ls' := [some (.ref (b + 100)), some (.int (nI zn0)), some (.int (nI zn1)), some (.int (nI (j63 + 1))), some (.int (nI zn0))]) dX12_rooms_117 rfl (fx_up_1 _) (Nat.le_of_ble_eq_true rfl) rfl ?_
                    refine aw_goto (tgt := 63) dX12_rooms_120 (by decide) ?_
                    refine aw_le ?_ (ih_63_23 (j63 + 1)  V73 (by omega) (i73_0))
                    exact ⟨rfl, ⟨rfl, ⟨rfl, ⟨rfl, trivial⟩⟩⟩⟩
                  | succ g_73 ih_73_38 =>
                    intro j73  V73 hj73 i73_0
                    have hlj73 : j73 < zn0 := by omega
                    refine aw_iload dX12_rooms_73 rfl ?_
                    refine aw_iload_n dX12_rooms_75 rfl ?_
                    refine aw_icmp_ge (tgt := 117) dX12_rooms_76 (by decide) (fun c_41 => ?_) (fun c_41 => ?_)
                    · exact absurd c_41 (nI_ge (a := j73) (b := zn0) (by omega) (by omega))
                    refine aw_aload_n dX12_rooms_79 rfl ?_
                    obtain ⟨ftoldPeople_42, ftoldDoors_42, fwasDoors_42, ffault_42, fopen_42, flines_42, fmeantSet_42, fopenedNow_42, fvainNow_42, flowNow_42, fhighNow_42, fisKept_42, tad_42, pl0_42, le0_42, nu0_42, coy_42, wag_42, say_42, e_42, hntad_42, hnpl0_42, hnle0_42, hnnu0_42, hncoy_42, hnwag_42, hnsay_42⟩ := JR.get i73_0 cm_100
                    refine aw_get dX12_rooms_80 fl_X12_107 e_42 (by omega) rfl ?_
                    refine aw_bipush (v := 12) dX12_rooms_83 (by decide) ?_
                    refine aw_iload_n dX12_rooms_85 rfl ?_
                    refine aw_imul dX12_rooms_86 ?_
                    refine aw_eqi (y := nI (12 * j63)) (pk_mul _ _) ?_
                    refine aw_iload dX12_rooms_87 rfl ?_
                    refine aw_iadd dX12_rooms_89 ?_
                    refine aw_eqi (y := nI ((12 * j63) + j73)) (nI_add _ _) ?_
                    have hq73 := fx_pow12 (k := j73) (by omega)
                    refine aw_iload_n dX12_rooms_90 rfl ?_
                    refine aw_iconst (v := 1) dX12_rooms_91 (by decide) ?_
                    refine aw_iload dX12_rooms_92 rfl ?_
                    refine aw_ishl dX12_rooms_94 ?_
                    refine aw_eqi (y := (nI (2 ^ j73))) (fx_shl12 j73 (by omega)) ?_
                    refine aw_icmp_ne (tgt := 102) dX12_rooms_95 (by decide) (fun c_43 => ?_) (fun c_43 => ?_)
                    · skip
                      have nc_43 : ¬ (j63 = (2 ^ j73)) := fun z => c_43 ((nI_eq (a := j63) (b := (2 ^ j73)) (by omega) (by omega)).mpr z)
                      refine aw_aload_n dX12_rooms_102 rfl ?_
                      refine aw_iload_n dX12_rooms_103 rfl ?_
                      refine aw_iload_n dX12_rooms_104 rfl ?_
                      refine aw_iload dX12_rooms_105 rfl ?_
                      refine aw_callVi (J' := jX12_sleeps) (As := [.int (nI zn0), .int (nI j63), .int (nI j73)]) (st := [.int (nI ((12 * j63) + j73)), .ref (b + 132)]) dX12_rooms_107 tb_1597 ok_X12_sleeps ⟨_, e_42⟩ (by omega) rfl rfl (r_sleeps l D b N V73 hN cl i73_0.1 (nI zn0) ⟨zn0, by omega, rfl⟩ (nI j63) ⟨j63, by omega, rfl⟩ (nI j73) ⟨j73, by omega, rfl⟩) rfl (Nat.le_of_ble_eq_true rfl) ⟨Nat.le_of_ble_eq_true rfl, Nat.le_of_ble_eq_true rfl, Nat.le_of_ble_eq_true rfl, Nat.le_of_ble_eq_true rfl⟩ (fun r_45 N_46 V_47 q_48 => ?_)
                      obtain ⟨rfl, rfl⟩ := q_48
                      obtain ⟨g_49, e_49⟩ := JR.get i73_0 cm_132
                      refine aw_iast dX12_rooms_110 e_49 (by omega) (vp_in_nI (n := ((12 * j63) + j73)) (by omega) (by omega)) ?_
                      refine aw_upR i73_0 cm_132 ⟨_, rfl⟩ (by decide) (WA LM0 (by decide) (by decide)) (fun V_50 j_50 k_50 e_50 => ?_)
                      refine aw_iinc (v := (nI (j73 + 1))) (ls' := [some (.ref (b + 100)), some (.int (nI zn0)), some (.int (nI zn1)), some (.int (nI j63)), some (.int (nI (j73 + 1)))]) dX12_rooms_111 rfl (fx_up_1 _) (Nat.le_of_ble_eq_true rfl) rfl ?_
                      refine aw_goto (tgt := 73) dX12_rooms_114 (by decide) ?_
                      refine aw_le ?_ (ih_73_38 (j73 + 1)  V_50 (by omega) (j_50))
                      exact ⟨rfl, ⟨rfl, ⟨rfl, ⟨rfl, ⟨rfl, trivial⟩⟩⟩⟩⟩
                    · skip
                      have nc_43 : j63 = (2 ^ j73) := (nI_eq (a := j63) (b := (2 ^ j73)) (by omega) (by omega)).mp c_43
                      refine aw_iload_n dX12_rooms_98 rfl ?_
                      refine aw_goto (tgt := 110) dX12_rooms_99 (by decide) ?_
                      obtain ⟨g_51, e_51⟩ := JR.get i73_0 cm_132
                      refine aw_iast dX12_rooms_110 e_51 (by omega) (vp_in_nI (n := ((12 * j63) + j73)) (by omega) (by omega)) ?_
                      refine aw_upR i73_0 cm_132 ⟨_, rfl⟩ (by decide) (WA LM0 (by decide) (by decide)) (fun V_52 j_52 k_52 e_52 => ?_)
                      refine aw_iinc (v := (nI (j73 + 1))) (ls' := [some (.ref (b + 100)), some (.int (nI zn0)), some (.int (nI zn1)), some (.int (nI j63)), some (.int (nI (j73 + 1)))]) dX12_rooms_111 rfl (fx_up_1 _) (Nat.le_of_ble_eq_true rfl) rfl ?_
                      refine aw_goto (tgt := 73) dX12_rooms_114 (by decide) ?_
                      refine aw_le ?_ (ih_73_38 (j73 + 1)  V_52 (by omega) (j_52))
                      exact ⟨rfl, ⟨rfl, ⟨rfl, ⟨rfl, ⟨rfl, trivial⟩⟩⟩⟩⟩
                refine aw_le ?_ (loop_73_37 zn0 0  V63 (by omega) (i63_0))
                exact ⟨rfl, ⟨rfl, ⟨rfl, ⟨rfl, ⟨rfl, trivial⟩⟩⟩⟩⟩
            refine aw_le ?_ (loop_63_22 ((2 ^ zn0) - 1) 1  V_19 (by omega) (j_19))
            exact ⟨rfl, ⟨rfl, ⟨rfl, ⟨rfl, trivial⟩⟩⟩⟩
          | succ g_37 ih_37_20 =>
            intro j37  hj37
            have hlj37 : j37 < zn0 := by omega
            refine aw_iload_n dX12_rooms_37 rfl ?_
            refine aw_iload_n dX12_rooms_38 rfl ?_
            refine aw_icmp_ge (tgt := 61) dX12_rooms_39 (by decide) (fun c_53 => ?_) (fun c_53 => ?_)
            · exact absurd c_53 (nI_ge (a := j37) (b := zn0) (by omega) (by omega))
            refine aw_aload_n dX12_rooms_42 rfl ?_
            refine aw_iload_n dX12_rooms_43 rfl ?_
            refine aw_callVi (J' := jX12_octet) (As := [.int (nI j37)]) (st := []) dX12_rooms_44 tb_1556 ok_X12_octet ⟨_, e_19⟩ (by omega) rfl rfl (r_octet l D b N V_19 hN cl j_19.1 (nI j37) ⟨j37, by omega, rfl⟩) rfl (Nat.le_of_ble_eq_true rfl) ⟨Nat.le_of_ble_eq_true rfl, Nat.le_of_ble_eq_true rfl, Nat.le_of_ble_eq_true rfl, Nat.le_of_ble_eq_true rfl⟩ (fun r_55 N_56 V_57 q_58 => ?_)
            obtain ⟨rfl, rfl⟩ := q_58
            refine aw_bipush (v := 16) dX12_rooms_47 (by decide) ?_
            refine aw_icmp_lt (tgt := 55) dX12_rooms_49 (by decide) (fun c_59 => ?_) (fun c_59 => ?_)
            · skip
              refine aw_iinc (v := (nI (j37 + 1))) (ls' := [some (.ref (b + 100)), some (.int (nI zn0)), some (.int (nI zn1)), some (.int (nI (j37 + 1))), none]) dX12_rooms_55 rfl (fx_up_1 _) (Nat.le_of_ble_eq_true rfl) rfl ?_
              refine aw_goto (tgt := 37) dX12_rooms_58 (by decide) ?_
              refine aw_le ?_ (ih_37_20 (j37 + 1)   (by omega))
              exact ⟨rfl, ⟨rfl, ⟨rfl, ⟨rfl, trivial⟩⟩⟩⟩
            · skip
              refine aw_bipush (v := (-3)) dX12_rooms_52 (by decide) ?_
              refine aw_ireti dX12_rooms_54 rfl (Nat.le_of_ble_eq_true rfl) (Nat.le_of_ble_eq_true rfl) ?_
              exact ⟨rfl, j_19⟩
        refine aw_le ?_ (loop_37_19 zn0 0   (by omega))
        exact ⟨rfl, ⟨rfl, ⟨rfl, ⟨rfl, trivial⟩⟩⟩⟩
      · skip
        have nc_18 : ¬ (zn0 ≤ tad_17) := fun z => c_18 ((nI_leI (a := zn0) (b := tad_17) (by omega) (by omega)).mpr z)
        refine aw_iconst (v := (-1)) dX12_rooms_28 (by decide) ?_
        refine aw_ireti dX12_rooms_29 rfl (Nat.le_of_ble_eq_true rfl) (Nat.le_of_ble_eq_true rfl) ?_
        exact ⟨rfl, hJ0⟩
