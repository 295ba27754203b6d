set_option maxHeartbeats 4000000 in
set_option maxRecDepth 100000 in
theorem r_readsDread (l : Launch) (D : va_G) (b : Nat) (N : Nat) (V : Wd) (hN : 133 ≤ N) (cl : Nat) (hW : CR D b cl V) (n0 : Int32) (hn0 : ∃ j : Nat, j < 12 ∧ n0 = nI j) (pl ln : Nat) (hpl : FG b 14 pl V) (hln : FG b 15 ln V) (hb : pl ≤ 240 ∧ ln ≤ 240)  : MI l D b 3 jX12_readsDread [.ref (b + 100), .int n0] N V 0 0 (fun r N9 V9 => ((r = 0 ∨ r = 1) ∧ (∃ a9, pl ≤ a9 ∧ a9 ≤ 240 ∧ FG b 14 a9 V9 ∧ FG b 15 ln V9 ∧ V9 110 = V 110)) ∧ N = N9 ∧ JR D b N cl [(100, 100, 36, 36), (100, 100, 37, 37), (100, 100, 14, 14), (100, 100, 16, 16), (100, 100, 17, 17), (101, 101, 0, 191)] V V9) := by
  have hJ0 : JR D b N cl [(100, 100, 36, 36), (100, 100, 37, 37), (100, 100, 14, 14), (100, 100, 16, 16), (100, 100, 17, 17), (101, 101, 0, 191)] V V := JR.rf hW
  obtain ⟨i0, hi0, rfl⟩ := hn0
  refine mw_of (by decide) (by simp [Value.category]) (Nat.le_of_ble_eq_true rfl) ?_
  show AW l D b jX12_readsDread (fx_rm 3 0 0) none (fx_MQ D b 0 0 (fx_qi (fun r N9 V9 => ((r = 0 ∨ r = 1) ∧ (∃ a9, pl ≤ a9 ∧ a9 ≤ 240 ∧ FG b 14 a9 V9 ∧ FG b 15 ln V9 ∧ V9 110 = V 110)) ∧ N = N9 ∧ JR D b N cl [(100, 100, 36, 36), (100, 100, 37, 37), (100, 100, 14, 14), (100, 100, 16, 16), (100, 100, 17, 17), (101, 101, 0, 191)] V V9))) 0 [some (.ref (b + 100)), some (.int (nI i0)), none, none, none] [] N V 0 0
  obtain ⟨g_1, e_1⟩ := JR.get hJ0 cm_110
  obtain ⟨ftoldPeople_2, ftoldDoors_2, fwasDoors_2, ffault_2, fopen_2, flines_2, fmeantSet_2, fopenedNow_2, fvainNow_2, flowNow_2, fhighNow_2, fisKept_2, tad_2, pl0_2, le0_2, nu0_2, coy_2, wag_2, say_2, e_2, hntad_2, hnpl0_2, hnle0_2, hnnu0_2, hncoy_2, hnwag_2, hnsay_2⟩ := JR.get hJ0 cm_100
  have hq_p := FG.eq hpl e_2 rfl (by omega) (by omega)
  have hq_l := FG.eq hln e_2 rfl (by omega) (by omega)
  refine aw_aload_n dX12_readsDread_0 rfl ?_
  refine aw_callVi (J' := jX12_here) (As := []) (st := []) dX12_readsDread_1 tb_1220 ok_X12_here ⟨_, e_2⟩ (by omega) rfl rfl (r_here l D b N V hN cl hJ0.1 g_1 e_1 pl0_2 le0_2 (FG.of e_2 rfl rfl) (FG.of e_2 rfl rfl) ⟨by omega, by omega⟩) rfl (Nat.le_of_ble_eq_true rfl) ⟨Nat.le_of_ble_eq_true rfl, Nat.le_of_ble_eq_true rfl, Nat.le_of_ble_eq_true rfl, Nat.le_of_ble_eq_true rfl⟩ (fun r_5 N_6 V_7 q_8 => ?_)
  obtain ⟨h_4, rfl, rfl⟩ := q_8
  refine aw_bipush (v := 42) dX12_readsDread_4 (by decide) ?_
  refine aw_icmp_eq (tgt := 26) dX12_readsDread_6 (by decide) (fun c_9 => ?_) (fun c_9 => ?_)
  · skip
    have hlc_9 := here_lt h_4 c_9 (by decide)
    refine aw_aload_n dX12_readsDread_26 rfl ?_
    refine aw_get dX12_readsDread_27 fl_X12_268 e_2 (by omega) rfl ?_
    refine aw_bipush (v := 20) dX12_readsDread_30 (by decide) ?_
    refine aw_icmp_ne (tgt := 45) dX12_readsDread_32 (by decide) (fun c_10 => ?_) (fun c_10 => ?_)
    · skip
      refine aw_aload_n dX12_readsDread_45 rfl ?_
      refine aw_aload_n dX12_readsDread_46 rfl ?_
      refine aw_get dX12_readsDread_47 fl_X12_268 e_2 (by omega) rfl ?_
      refine aw_iconst (v := 1) dX12_readsDread_50 (by decide) ?_
      refine aw_iadd dX12_readsDread_51 ?_
      refine aw_put dX12_readsDread_52 fp_X12_268 e_2 (by omega) rfl rfl (Nat.le_of_ble_eq_true rfl) rfl ?_
      refine aw_upR hJ0 cm_100 ⟨_, _, _, _, _, _, _, _, _, _, _, _, tad_2, pl0_2, le0_2, nu0_2, coy_2, wag_2, say_2, rfl, by omega, by omega, by omega, by omega, by omega, by omega, by omega⟩ (by decide) (WO (s := 36) (x := .int (flines_2 + 1)) e_2 rfl LM0 (by decide) (by decide) (by decide) (Or.inl (by decide))) (fun V_11 j_11 k_11 e_11 => ?_)
      refine aw_aload_n dX12_readsDread_55 rfl ?_
      refine aw_callVi (J' := jX12_readsMeant) (As := []) (st := []) dX12_readsDread_56 tb_1310 ok_X12_readsMeant ⟨_, e_11⟩ (by omega) rfl rfl (r_readsMeant l D b N V_11 hN cl j_11.1 pl0_2 le0_2 (FG.of e_11 rfl rfl) (FG.of e_11 rfl rfl) ⟨by omega, by omega⟩) rfl (Nat.le_of_ble_eq_true rfl) ⟨Nat.le_of_ble_eq_true rfl, Nat.le_of_ble_eq_true rfl, Nat.le_of_ble_eq_true rfl, Nat.le_of_ble_eq_true rfl⟩ (fun r_25 N_26 V_16 q_27 => ?_)
      obtain ⟨⟨z_14, h_13⟩, rfl, q_12⟩ := q_27
      have j_15 := JR.trans j_11 (JR.weak q_12 (Sub.cons (LMs LM0) (by decide) (by decide) (by decide) (Or.inr ⟨by decide, by decide⟩) (Sub.cons (LMs (LMs LM0)) (by decide) (by decide) (by decide) (Or.inr ⟨by decide, by decide⟩) (Sub.cons (LMs (LMs (LMs LM0))) (by decide) (by decide) (by decide) (Or.inr ⟨by decide, by decide⟩) Sub.nil))))
      obtain ⟨a_17, ha_18, hA_19, hF_20, hL_21, hz_22⟩ := h_13
      obtain ⟨ftoldPeople_k24, ftoldDoors_k24, fwasDoors_k24, ffault_k24, fopen_k24, flines_k24, fmeantSet_k24, fopenedNow_k24, fvainNow_k24, flowNow_k24, fhighNow_k24, fisKept_k24, tad_k24, pl0_k24, le0_k24, nu0_k24, coy_k24, wag_k24, say_k24, e_k24, hntad_k24, hnpl0_k24, hnle0_k24, hnnu0_k24, hncoy_k24, hnwag_k24, hnsay_k24⟩ := JR.get j_15 cm_100
      have hqp_k24 := FG.eq hF_20 e_k24 rfl (by omega) (by omega)
      have hql_k24 := FG.eq hL_21 e_k24 rfl (by omega) (by omega)
      refine aw_if_ne (tgt := 64) dX12_readsDread_59 (by decide) (fun c_28 => ?_) (fun c_28 => ?_)
      · skip
        refine aw_aload_n dX12_readsDread_64 rfl ?_
        refine aw_callVi (J' := jX12_here) (As := []) (st := []) dX12_readsDread_65 tb_1220 ok_X12_here ⟨_, e_k24⟩ (by omega) rfl rfl (r_here l D b N V_16 hN cl j_15.1 g_1 (hz_22.trans ((k_11 _ (by decide)).trans e_1)) pl0_k24 le0_k24 (FG.of e_k24 rfl rfl) (FG.of e_k24 rfl rfl) ⟨by omega, by omega⟩) rfl (Nat.le_of_ble_eq_true rfl) ⟨Nat.le_of_ble_eq_true rfl, Nat.le_of_ble_eq_true rfl, Nat.le_of_ble_eq_true rfl, Nat.le_of_ble_eq_true rfl⟩ (fun r_31 N_32 V_33 q_34 => ?_)
        obtain ⟨h_30, rfl, rfl⟩ := q_34
        refine aw_istore_n (ls' := [some (.ref (b + 100)), some (.int (nI i0)), some (.int r_31), none, none]) dX12_readsDread_68 (Nat.le_of_ble_eq_true rfl) rfl ?_
        refine aw_iload_n dX12_readsDread_69 rfl ?_
        refine aw_bipush (v := 61) dX12_readsDread_70 (by decide) ?_
        refine aw_icmp_eq (tgt := 97) dX12_readsDread_72 (by decide) (fun c_35 => ?_) (fun c_35 => ?_)
        · skip
          have hlc_35 := here_lt h_30 c_35 (by decide)
          refine aw_aload_n dX12_readsDread_97 rfl ?_
          refine aw_aload_n dX12_readsDread_98 rfl ?_
          refine aw_get dX12_readsDread_99 fl_X12_159 e_k24 (by omega) rfl ?_
          refine aw_iconst (v := 1) dX12_readsDread_102 (by decide) ?_
          refine aw_iadd dX12_readsDread_103 ?_
          refine aw_eqi (y := nI (pl0_k24 + 1)) (nI_add _ _) ?_
          refine aw_put dX12_readsDread_104 fp_X12_159 e_k24 (by omega) rfl rfl (Nat.le_of_ble_eq_true rfl) rfl ?_
          refine aw_upR j_15 cm_100 ⟨_, _, _, _, _, _, _, _, _, _, _, _, tad_k24, (pl0_k24 + 1), le0_k24, nu0_k24, coy_k24, wag_k24, say_k24, rfl, by omega, by omega, by omega, by omega, by omega, by omega, by omega⟩ (by decide) (WO (s := 14) (x := .int (nI (pl0_k24 + 1))) e_k24 rfl (LMs (LMs LM0)) (by decide) (by decide) (by decide) (Or.inl (by decide))) (fun V_36 j_36 k_36 e_36 => ?_)
          refine aw_aload_n dX12_readsDread_107 rfl ?_
          refine aw_callVi (J' := jX12_readsAmount) (As := []) (st := []) dX12_readsDread_108 tb_1318 ok_X12_readsAmount ⟨_, e_36⟩ (by omega) rfl rfl (r_readsAmount l D b N V_36 hN cl j_36.1 (pl0_k24 + 1) le0_k24 (FG.of e_36 rfl rfl) (FG.of e_36 rfl rfl) ⟨by omega, by omega⟩) rfl (Nat.le_of_ble_eq_true rfl) ⟨Nat.le_of_ble_eq_true rfl, Nat.le_of_ble_eq_true rfl, Nat.le_of_ble_eq_true rfl, Nat.le_of_ble_eq_true rfl⟩ (fun r_50 N_51 V_41 q_52 => ?_)
          obtain ⟨⟨z_39, h_38⟩, rfl, q_37⟩ := q_52
          have j_40 := JR.trans j_36 (JR.weak q_37 (Sub.cons (LMs (LMs (LMs (LMs LM0)))) (by decide) (by decide) (by decide) (Or.inr ⟨by decide, by decide⟩) (Sub.cons (LMs (LMs LM0)) (by decide) (by decide) (by decide) (Or.inr ⟨by decide, by decide⟩) (Sub.cons (LMs (LMs (LMs LM0))) (by decide) (by decide) (by decide) (Or.inr ⟨by decide, by decide⟩) Sub.nil))))
          obtain ⟨a_42, ha_43, hA_44, hF_45, hL_46, hz_47⟩ := h_38
          obtain ⟨ftoldPeople_k49, ftoldDoors_k49, fwasDoors_k49, ffault_k49, fopen_k49, flines_k49, fmeantSet_k49, fopenedNow_k49, fvainNow_k49, flowNow_k49, fhighNow_k49, fisKept_k49, tad_k49, pl0_k49, le0_k49, nu0_k49, coy_k49, wag_k49, say_k49, e_k49, hntad_k49, hnpl0_k49, hnle0_k49, hnnu0_k49, hncoy_k49, hnwag_k49, hnsay_k49⟩ := JR.get j_40 cm_100
          have hqp_k49 := FG.eq hF_45 e_k49 rfl (by omega) (by omega)
          have hql_k49 := FG.eq hL_46 e_k49 rfl (by omega) (by omega)
          refine aw_if_ne (tgt := 116) dX12_readsDread_111 (by decide) (fun c_53 => ?_) (fun c_53 => ?_)
          · skip
            refine aw_iconst (v := 0) dX12_readsDread_116 (by decide) ?_
            refine aw_istore_n (ls' := [some (.ref (b + 100)), some (.int (nI i0)), some (.int r_31), some (.int 0), none]) dX12_readsDread_117 (Nat.le_of_ble_eq_true rfl) rfl ?_
            have loop_118_53 : ∀ (g_118 : Nat), ∀ (j118 : Nat)  (V118 : Wd), j118 + g_118 = 16 → (JR D b N cl [(100, 100, 36, 36), (100, 100, 37, 37), (100, 100, 14, 14), (100, 100, 16, 16), (100, 100, 17, 17), (101, 101, 0, 191)] V V118) → (V118 100 = cO 11 [.ref (b + 101), .ref (b + 102), .ref (b + 103), .ref (b + 104), .ref (b + 105), .ref (b + 106), .ref (b + 107), .ref (b + 108), .ref (b + 109), .int ftoldPeople_k49, .int ftoldDoors_k49, .int fwasDoors_k49, .ref (b + 110), .int (nI tad_k49), .int (nI pl0_k49), .int (nI le0_k49), .int ffault_k49, .int (nI nu0_k49), .int fopen_k49, .int (nI coy_k49), .int (nI wag_k49), .int (nI say_k49), .int (nI cl), .ref (b + 111), .ref (b + 112), .ref (b + 113), .ref (b + 114), .ref (b + 115), .ref (b + 116), .ref (b + 117), .ref (b + 118), .ref (b + 119), .ref (b + 120), .ref (b + 121), .ref (b + 122), .ref (b + 123), .int flines_k49, .int fmeantSet_k49, .int fopenedNow_k49, .int fvainNow_k49, .ref (b + 124), .ref (b + 125), .ref (b + 126), .ref (b + 127), .ref (b + 128), .int flowNow_k49, .int fhighNow_k49, .ref (b + 129), .ref (b + 130), .ref (b + 131), .ref (b + 132), .int fisKept_k49]) → (V118 110 = cB D 260 g_1) → AW l D b jX12_readsDread (fx_rm 3 0 0) none (fx_MQ D b 0 0 (fx_qi (fun r N9 V9 => ((r = 0 ∨ r = 1) ∧ (∃ a9, pl ≤ a9 ∧ a9 ≤ 240 ∧ FG b 14 a9 V9 ∧ FG b 15 ln V9 ∧ V9 110 = V 110)) ∧ N = N9 ∧ JR D b N cl [(100, 100, 36, 36), (100, 100, 37, 37), (100, 100, 14, 14), (100, 100, 16, 16), (100, 100, 17, 17), (101, 101, 0, 191)] V V9))) 118 [some (.ref (b + 100)), some (.int (nI i0)), some (.int r_31), some (.int (nI j118)), none] [] N V118 0 0 := by
              intro g_118
              induction g_118 with
              | zero =>
                intro j118  V118 hj118 i118_0 i118_1 i118_2
                obtain rfl : j118 = 16 := by omega
                refine aw_iload_n dX12_readsDread_118 rfl ?_
                refine aw_bipush (v := 16) dX12_readsDread_119 (by decide) ?_
                refine aw_icmp_ge (tgt := 203) dX12_readsDread_121 (by decide) (fun c_56 => ?_) (fun c_56 => ?_)
                rotate_left
                · exact absurd (nI_le (a := 16) (b := 16) (Nat.le_refl _) (by omega)) c_56
                refine aw_iconst (v := 1) dX12_readsDread_203 (by decide) ?_
                refine aw_zreti dX12_readsDread_204 rfl (by first | exact Or.inl rfl | exact Or.inr rfl | assumption) (Nat.le_of_ble_eq_true rfl) (Nat.le_of_ble_eq_true rfl) ?_
                exact ⟨⟨(by first | exact Or.inl rfl | exact Or.inr rfl | assumption), ⟨pl0_k49, by omega, by omega, (FG.of i118_1 rfl rfl), (FG.of i118_1 rfl (by omega : le0_k49 = ln)), (i118_2).trans e_1.symm⟩⟩, rfl, i118_0⟩
              | succ g_118 ih_118_54 =>
                intro j118  V118 hj118 i118_0 i118_1 i118_2
                have hlj118 : j118 < 16 := by omega
                refine aw_iload_n dX12_readsDread_118 rfl ?_
                refine aw_bipush (v := 16) dX12_readsDread_119 (by decide) ?_
                refine aw_icmp_ge (tgt := 203) dX12_readsDread_121 (by decide) (fun c_57 => ?_) (fun c_57 => ?_)
                · exact absurd c_57 (nI_ge (a := j118) (b := 16) (by omega) (by omega))
                refine aw_aload_n dX12_readsDread_124 rfl ?_
                refine aw_get dX12_readsDread_125 fl_X12_262 i118_1 (by omega) rfl ?_
                refine aw_iload_n dX12_readsDread_128 rfl ?_
                refine aw_callSi (J' := jX12_has) (As := [.int fmeantSet_k49, .int (nI j118)]) (st := []) dX12_readsDread_129 tb_1315 ok_X12_has rfl (r_has l D b N V118 hN cl i118_0.1 fmeantSet_k49 (nI j118)) rfl (Nat.le_of_ble_eq_true rfl) ⟨Nat.le_of_ble_eq_true rfl, Nat.le_of_ble_eq_true rfl, Nat.le_of_ble_eq_true rfl, Nat.le_of_ble_eq_true rfl⟩ (fun r_60 N_61 V_62 q_63 => ?_)
                obtain ⟨h_59, rfl, rfl⟩ := q_63
                refine aw_if_ne (tgt := 138) dX12_readsDread_132 (by decide) (fun c_64 => ?_) (fun c_64 => ?_)
                · skip
                  refine aw_iconst (v := 0) dX12_readsDread_138 (by decide) ?_
                  refine aw_bipush (v := 16) dX12_readsDread_139 (by decide) ?_
                  refine aw_iload_n dX12_readsDread_141 rfl ?_
                  refine aw_imul dX12_readsDread_142 ?_
                  refine aw_eqi (y := nI (16 * i0)) (pk_mul _ _) ?_
                  refine aw_iadd dX12_readsDread_143 ?_
                  refine aw_eqi (y := nI (0 + (16 * i0))) (nI_add _ _) ?_
                  refine aw_iload_n dX12_readsDread_144 rfl ?_
                  refine aw_iadd dX12_readsDread_145 ?_
                  refine aw_eqi (y := nI ((0 + (16 * i0)) + j118)) (nI_add _ _) ?_
                  refine aw_istore (ls' := [some (.ref (b + 100)), some (.int (nI i0)), some (.int r_31), some (.int (nI j118)), some (.int (nI ((0 + (16 * i0)) + j118)))]) dX12_readsDread_146 (Nat.le_of_ble_eq_true rfl) rfl ?_
                  refine aw_aload_n dX12_readsDread_148 rfl ?_
                  refine aw_get dX12_readsDread_149 fl_X12_7 i118_1 (by omega) rfl ?_
                  refine aw_iload dX12_readsDread_152 rfl ?_
                  refine aw_iload_n dX12_readsDread_154 rfl ?_
                  refine aw_bipush (v := 61) dX12_readsDread_155 (by decide) ?_
                  refine aw_icmp_ne (tgt := 167) dX12_readsDread_157 (by decide) (fun c_65 => ?_) (fun c_65 => ?_)
                  · first | exact absurd c_65 c_35 | exact absurd c_35 c_65 | exact absurd c_65 (Int32.not_lt.mpr c_35) | exact absurd c_35 (Int32.not_lt.mpr c_65) | exact c_35 (Int32.not_lt.mp c_65) | exact c_35 (Int32.not_le.mp c_65)
                  have hlc_65 := here_lt h_30 c_65 (by decide)
                  refine aw_aload_n dX12_readsDread_160 rfl ?_
                  refine aw_get dX12_readsDread_161 fl_X12_175 i118_1 (by omega) rfl ?_
                  refine aw_goto (tgt := 196) dX12_readsDread_164 (by decide) ?_
                  obtain ⟨g_66, e_66⟩ := JR.get i118_0 cm_101
                  refine aw_iast dX12_readsDread_196 e_66 (by omega) (vp_in_nI (n := ((0 + (16 * i0)) + j118)) (by omega) (by omega)) ?_
                  refine aw_upR i118_0 cm_101 ⟨_, rfl⟩ (by decide) (WE e_66 (LMs (LMs (LMs (LMs (LMs LM0))))) (by decide) (by decide) (by rw [nI_clamp (n := ((0 + (16 * i0)) + j118)) (by omega)]; omega) (by rw [nI_clamp (n := ((0 + (16 * i0)) + j118)) (by omega)]; omega)) (fun V_67 j_67 k_67 e_67 => ?_)
                  refine aw_iinc (v := (nI (j118 + 1))) (ls' := [some (.ref (b + 100)), some (.int (nI i0)), some (.int r_31), some (.int (nI (j118 + 1))), some (.int (nI ((0 + (16 * i0)) + j118)))]) dX12_readsDread_197 rfl (fx_up_1 _) (Nat.le_of_ble_eq_true rfl) rfl ?_
                  refine aw_goto (tgt := 118) dX12_readsDread_200 (by decide) ?_
                  refine aw_le ?_ (ih_118_54 (j118 + 1)  V_67 (by omega) (j_67) (((k_67 _ (by decide)).trans i118_1)) (((k_67 _ (by decide)).trans i118_2)))
                  exact ⟨rfl, ⟨rfl, ⟨rfl, ⟨rfl, trivial⟩⟩⟩⟩
                · skip
                  refine aw_goto (tgt := 197) dX12_readsDread_135 (by decide) ?_
                  refine aw_iinc (v := (nI (j118 + 1))) (ls' := [some (.ref (b + 100)), some (.int (nI i0)), some (.int r_31), some (.int (nI (j118 + 1))), none]) dX12_readsDread_197 rfl (fx_up_1 _) (Nat.le_of_ble_eq_true rfl) rfl ?_
                  refine aw_goto (tgt := 118) dX12_readsDread_200 (by decide) ?_
                  refine aw_le ?_ (ih_118_54 (j118 + 1)  V118 (by omega) (i118_0) (i118_1) (i118_2))
                  exact ⟨rfl, ⟨rfl, ⟨rfl, ⟨rfl, trivial⟩⟩⟩⟩
            refine aw_le ?_ (loop_118_53 16 0  V_41 (by omega) (j_40) (e_k49) ((hz_47.trans ((k_36 _ (by decide)).trans (hz_22.trans ((k_11 _ (by decide)).trans e_1))))))
            exact ⟨rfl, ⟨rfl, ⟨rfl, ⟨rfl, trivial⟩⟩⟩⟩
          · skip
            refine aw_iconst (v := 0) dX12_readsDread_114 (by decide) ?_
            refine aw_zreti dX12_readsDread_115 rfl (by first | exact Or.inl rfl | exact Or.inr rfl | assumption) (Nat.le_of_ble_eq_true rfl) (Nat.le_of_ble_eq_true rfl) ?_
            exact ⟨⟨(by first | exact Or.inl rfl | exact Or.inr rfl | assumption), ⟨pl0_k49, by omega, by omega, (FG.of e_k49 rfl rfl), (FG.of e_k49 rfl (by omega : le0_k49 = ln)), ((hz_47.trans ((k_36 _ (by decide)).trans (hz_22.trans ((k_11 _ (by decide)).trans e_1))))).trans e_1.symm⟩⟩, rfl, j_40⟩
        · skip
          refine aw_iload_n dX12_readsDread_75 rfl ?_
          refine aw_bipush (v := 43) dX12_readsDread_76 (by decide) ?_
          refine aw_icmp_eq (tgt := 97) dX12_readsDread_78 (by decide) (fun c_68 => ?_) (fun c_68 => ?_)
          · skip
            have hlc_68 := here_lt h_30 c_68 (by decide)
            refine aw_aload_n dX12_readsDread_97 rfl ?_
            refine aw_aload_n dX12_readsDread_98 rfl ?_
            refine aw_get dX12_readsDread_99 fl_X12_159 e_k24 (by omega) rfl ?_
            refine aw_iconst (v := 1) dX12_readsDread_102 (by decide) ?_
            refine aw_iadd dX12_readsDread_103 ?_
            refine aw_eqi (y := nI (pl0_k24 + 1)) (nI_add _ _) ?_
            refine aw_put dX12_readsDread_104 fp_X12_159 e_k24 (by omega) rfl rfl (Nat.le_of_ble_eq_true rfl) rfl ?_
            refine aw_upR j_15 cm_100 ⟨_, _, _, _, _, _, _, _, _, _, _, _, tad_k24, (pl0_k24 + 1), le0_k24, nu0_k24, coy_k24, wag_k24, say_k24, rfl, by omega, by omega, by omega, by omega, by omega, by omega, by omega⟩ (by decide) (WO (s := 14) (x := .int (nI (pl0_k24 + 1))) e_k24 rfl (LMs (LMs LM0)) (by decide) (by decide) (by decide) (Or.inl (by decide))) (fun V_69 j_69 k_69 e_69 => ?_)
            refine aw_aload_n dX12_readsDread_107 rfl ?_
            refine aw_callVi (J' := jX12_readsAmount) (As := []) (st := []) dX12_readsDread_108 tb_1318 ok_X12_readsAmount ⟨_, e_69⟩ (by omega) rfl rfl (r_readsAmount l D b N V_69 hN cl j_69.1 (pl0_k24 + 1) le0_k24 (FG.of e_69 rfl rfl) (FG.of e_69 rfl rfl) ⟨by omega, by omega⟩) rfl (Nat.le_of_ble_eq_true rfl) ⟨Nat.le_of_ble_eq_true rfl, Nat.le_of_ble_eq_true rfl, Nat.le_of_ble_eq_true rfl, Nat.le_of_ble_eq_true rfl⟩ (fun r_83 N_84 V_74 q_85 => ?_)
            obtain ⟨⟨z_72, h_71⟩, rfl, q_70⟩ := q_85
            have j_73 := JR.trans j_69 (JR.weak q_70 (Sub.cons (LMs (LMs (LMs (LMs LM0)))) (by decide) (by decide) (by decide) (Or.inr ⟨by decide, by decide⟩) (Sub.cons (LMs (LMs LM0)) (by decide) (by decide) (by decide) (Or.inr ⟨by decide, by decide⟩) (Sub.cons (LMs (LMs (LMs LM0))) (by decide) (by decide) (by decide) (Or.inr ⟨by decide, by decide⟩) Sub.nil))))
            obtain ⟨a_75, ha_76, hA_77, hF_78, hL_79, hz_80⟩ := h_71
            obtain ⟨ftoldPeople_k82, ftoldDoors_k82, fwasDoors_k82, ffault_k82, fopen_k82, flines_k82, fmeantSet_k82, fopenedNow_k82, fvainNow_k82, flowNow_k82, fhighNow_k82, fisKept_k82, tad_k82, pl0_k82, le0_k82, nu0_k82, coy_k82, wag_k82, say_k82, e_k82, hntad_k82, hnpl0_k82, hnle0_k82, hnnu0_k82, hncoy_k82, hnwag_k82, hnsay_k82⟩ := JR.get j_73 cm_100
            have hqp_k82 := FG.eq hF_78 e_k82 rfl (by omega) (by omega)
            have hql_k82 := FG.eq hL_79 e_k82 rfl (by omega) (by omega)
            refine aw_if_ne (tgt := 116) dX12_readsDread_111 (by decide) (fun c_86 => ?_) (fun c_86 => ?_)
            · skip
              refine aw_iconst (v := 0) dX12_readsDread_116 (by decide) ?_
              refine aw_istore_n (ls' := [some (.ref (b + 100)), some (.int (nI i0)), some (.int r_31), some (.int 0), none]) dX12_readsDread_117 (Nat.le_of_ble_eq_true rfl) rfl ?_
              have loop_118_86 : ∀ (g_118 : Nat), ∀ (j118 : Nat)  (V118 : Wd), j118 + g_118 = 16 → (JR D b N cl [(100, 100, 36, 36), (100, 100, 37, 37), (100, 100, 14, 14), (100, 100, 16, 16), (100, 100, 17, 17), (101, 101, 0, 191)] V V118) → (V118 100 = cO 11 [.ref (b + 101), .ref (b + 102), .ref (b + 103), .ref (b + 104), .ref (b + 105), .ref (b + 106), .ref (b + 107), .ref (b + 108), .ref (b + 109), .int ftoldPeople_k82, .int ftoldDoors_k82, .int fwasDoors_k82, .ref (b + 110), .int (nI tad_k82), .int (nI pl0_k82), .int (nI le0_k82), .int ffault_k82, .int (nI nu0_k82), .int fopen_k82, .int (nI coy_k82), .int (nI wag_k82), .int (nI say_k82), .int (nI cl), .ref (b + 111), .ref (b + 112), .ref (b + 113), .ref (b + 114), .ref (b + 115), .ref (b + 116), .ref (b + 117), .ref (b + 118), .ref (b + 119), .ref (b + 120), .ref (b + 121), .ref (b + 122), .ref (b + 123), .int flines_k82, .int fmeantSet_k82, .int fopenedNow_k82, .int fvainNow_k82, .ref (b + 124), .ref (b + 125), .ref (b + 126), .ref (b + 127), .ref (b + 128), .int flowNow_k82, .int fhighNow_k82, .ref (b + 129), .ref (b + 130), .ref (b + 131), .ref (b + 132), .int fisKept_k82]) → (V118 110 = cB D 260 g_1) → AW l D b jX12_readsDread (fx_rm 3 0 0) none (fx_MQ D b 0 0 (fx_qi (fun r N9 V9 => ((r = 0 ∨ r = 1) ∧ (∃ a9, pl ≤ a9 ∧ a9 ≤ 240 ∧ FG b 14 a9 V9 ∧ FG b 15 ln V9 ∧ V9 110 = V 110)) ∧ N = N9 ∧ JR D b N cl [(100, 100, 36, 36), (100, 100, 37, 37), (100, 100, 14, 14), (100, 100, 16, 16), (100, 100, 17, 17), (101, 101, 0, 191)] V V9))) 118 [some (.ref (b + 100)), some (.int (nI i0)), some (.int r_31), some (.int (nI j118)), none] [] N V118 0 0 := by
                intro g_118
                induction g_118 with
                | zero =>
                  intro j118  V118 hj118 i118_0 i118_1 i118_2
                  obtain rfl : j118 = 16 := by omega
                  refine aw_iload_n dX12_readsDread_118 rfl ?_
                  refine aw_bipush (v := 16) dX12_readsDread_119 (by decide) ?_
                  refine aw_icmp_ge (tgt := 203) dX12_readsDread_121 (by decide) (fun c_89 => ?_) (fun c_89 => ?_)
                  rotate_left
                  · exact absurd (nI_le (a := 16) (b := 16) (Nat.le_refl _) (by omega)) c_89
                  refine aw_iconst (v := 1) dX12_readsDread_203 (by decide) ?_
                  refine aw_zreti dX12_readsDread_204 rfl (by first | exact Or.inl rfl | exact Or.inr rfl | assumption) (Nat.le_of_ble_eq_true rfl) (Nat.le_of_ble_eq_true rfl) ?_
                  exact ⟨⟨(by first | exact Or.inl rfl | exact Or.inr rfl | assumption), ⟨pl0_k82, by omega, by omega, (FG.of i118_1 rfl rfl), (FG.of i118_1 rfl (by omega : le0_k82 = ln)), (i118_2).trans e_1.symm⟩⟩, rfl, i118_0⟩
                | succ g_118 ih_118_87 =>
                  intro j118  V118 hj118 i118_0 i118_1 i118_2
                  have hlj118 : j118 < 16 := by omega
                  refine aw_iload_n dX12_readsDread_118 rfl ?_
                  refine aw_bipush (v := 16) dX12_readsDread_119 (by decide) ?_
                  refine aw_icmp_ge (tgt := 203) dX12_readsDread_121 (by decide) (fun c_90 => ?_) (fun c_90 => ?_)
                  · exact absurd c_90 (nI_ge (a := j118) (b := 16) (by omega) (by omega))
                  refine aw_aload_n dX12_readsDread_124 rfl ?_
                  refine aw_get dX12_readsDread_125 fl_X12_262 i118_1 (by omega) rfl ?_
                  refine aw_iload_n dX12_readsDread_128 rfl ?_
                  refine aw_callSi (J' := jX12_has) (As := [.int fmeantSet_k82, .int (nI j118)]) (st := []) dX12_readsDread_129 tb_1315 ok_X12_has rfl (r_has l D b N V118 hN cl i118_0.1 fmeantSet_k82 (nI j118)) rfl (Nat.le_of_ble_eq_true rfl) ⟨Nat.le_of_ble_eq_true rfl, Nat.le_of_ble_eq_true rfl, Nat.le_of_ble_eq_true rfl, Nat.le_of_ble_eq_true rfl⟩ (fun r_93 N_94 V_95 q_96 => ?_)
                  obtain ⟨h_92, rfl, rfl⟩ := q_96
                  refine aw_if_ne (tgt := 138) dX12_readsDread_132 (by decide) (fun c_97 => ?_) (fun c_97 => ?_)
                  · skip
                    refine aw_iconst (v := 0) dX12_readsDread_138 (by decide) ?_
                    refine aw_bipush (v := 16) dX12_readsDread_139 (by decide) ?_
                    refine aw_iload_n dX12_readsDread_141 rfl ?_
                    refine aw_imul dX12_readsDread_142 ?_
                    refine aw_eqi (y := nI (16 * i0)) (pk_mul _ _) ?_
                    refine aw_iadd dX12_readsDread_143 ?_
                    refine aw_eqi (y := nI (0 + (16 * i0))) (nI_add _ _) ?_
                    refine aw_iload_n dX12_readsDread_144 rfl ?_
                    refine aw_iadd dX12_readsDread_145 ?_
                    refine aw_eqi (y := nI ((0 + (16 * i0)) + j118)) (nI_add _ _) ?_
                    refine aw_istore (ls' := [some (.ref (b + 100)), some (.int (nI i0)), some (.int r_31), some (.int (nI j118)), some (.int (nI ((0 + (16 * i0)) + j118)))]) dX12_readsDread_146 (Nat.le_of_ble_eq_true rfl) rfl ?_
                    refine aw_aload_n dX12_readsDread_148 rfl ?_
                    refine aw_get dX12_readsDread_149 fl_X12_7 i118_1 (by omega) rfl ?_
                    refine aw_iload dX12_readsDread_152 rfl ?_
                    refine aw_iload_n dX12_readsDread_154 rfl ?_
                    refine aw_bipush (v := 61) dX12_readsDread_155 (by decide) ?_
                    refine aw_icmp_ne (tgt := 167) dX12_readsDread_157 (by decide) (fun c_98 => ?_) (fun c_98 => ?_)
                    rotate_left
                    · first | exact absurd c_35 c_98 | exact absurd c_98 c_35
                    refine aw_aload_n dX12_readsDread_167 rfl ?_
                    refine aw_get dX12_readsDread_168 fl_X12_7 i118_1 (by omega) rfl ?_
                    refine aw_iload dX12_readsDread_171 rfl ?_
                    obtain ⟨g_99, e_99⟩ := JR.get i118_0 cm_101
                    refine aw_iald (v := (g_99 ((0 + (16 * i0)) + j118))) dX12_readsDread_173 e_99 (by omega) (vp_in_nI (n := ((0 + (16 * i0)) + j118)) (by omega) (by omega)) (congrArg g_99 (nI_clamp (n := ((0 + (16 * i0)) + j118)) (by omega))) ?_
                    refine aw_iload_n dX12_readsDread_174 rfl ?_
                    refine aw_bipush (v := 43) dX12_readsDread_175 (by decide) ?_
                    refine aw_icmp_ne (tgt := 187) dX12_readsDread_177 (by decide) (fun c_100 => ?_) (fun c_100 => ?_)
                    · first | exact absurd c_100 c_68 | exact absurd c_68 c_100 | exact absurd c_100 (Int32.not_lt.mpr c_68) | exact absurd c_68 (Int32.not_lt.mpr c_100) | exact c_68 (Int32.not_lt.mp c_100) | exact c_68 (Int32.not_le.mp c_100)
                    have hlc_100 := here_lt h_30 c_100 (by decide)
                    refine aw_aload_n dX12_readsDread_180 rfl ?_
                    refine aw_get dX12_readsDread_181 fl_X12_175 i118_1 (by omega) rfl ?_
                    refine aw_goto (tgt := 192) dX12_readsDread_184 (by decide) ?_
                    refine aw_iadd dX12_readsDread_192 ?_
                    refine aw_callSi (J' := jX12_limit) (As := [.int ((g_99 ((0 + (16 * i0)) + j118)) + (nI nu0_k82))]) (st := [.int (nI ((0 + (16 * i0)) + j118)), .ref (b + 101)]) dX12_readsDread_193 tb_1322 ok_X12_limit rfl (r_limit l D b N V118 hN cl i118_0.1 ((g_99 ((0 + (16 * i0)) + j118)) + (nI nu0_k82))) rfl (Nat.le_of_ble_eq_true rfl) ⟨Nat.le_of_ble_eq_true rfl, Nat.le_of_ble_eq_true rfl, Nat.le_of_ble_eq_true rfl, Nat.le_of_ble_eq_true rfl⟩ (fun r_102 N_103 V_104 q_105 => ?_)
                    obtain ⟨rfl, rfl⟩ := q_105
                    refine aw_iast dX12_readsDread_196 e_99 (by omega) (vp_in_nI (n := ((0 + (16 * i0)) + j118)) (by omega) (by omega)) ?_
                    refine aw_upR i118_0 cm_101 ⟨_, rfl⟩ (by decide) (WE e_99 (LMs (LMs (LMs (LMs (LMs LM0))))) (by decide) (by decide) (by rw [nI_clamp (n := ((0 + (16 * i0)) + j118)) (by omega)]; omega) (by rw [nI_clamp (n := ((0 + (16 * i0)) + j118)) (by omega)]; omega)) (fun V_106 j_106 k_106 e_106 => ?_)
                    refine aw_iinc (v := (nI (j118 + 1))) (ls' := [some (.ref (b + 100)), some (.int (nI i0)), some (.int r_31), some (.int (nI (j118 + 1))), some (.int (nI ((0 + (16 * i0)) + j118)))]) dX12_readsDread_197 rfl (fx_up_1 _) (Nat.le_of_ble_eq_true rfl) rfl ?_
                    refine aw_goto (tgt := 118) dX12_readsDread_200 (by decide) ?_
                    refine aw_le ?_ (ih_118_87 (j118 + 1)  V_106 (by omega) (j_106) (((k_106 _ (by decide)).trans i118_1)) (((k_106 _ (by decide)).trans i118_2)))
                    exact ⟨rfl, ⟨rfl, ⟨rfl, ⟨rfl, trivial⟩⟩⟩⟩
                  · skip
                    refine aw_goto (tgt := 197) dX12_readsDread_135 (by decide) ?_
                    refine aw_iinc (v := (nI (j118 + 1))) (ls' := [some (.ref (b + 100)), some (.int (nI i0)), some (.int r_31), some (.int (nI (j118 + 1))), none]) dX12_readsDread_197 rfl (fx_up_1 _) (Nat.le_of_ble_eq_true rfl) rfl ?_
                    refine aw_goto (tgt := 118) dX12_readsDread_200 (by decide) ?_
                    refine aw_le ?_ (ih_118_87 (j118 + 1)  V118 (by omega) (i118_0) (i118_1) (i118_2))
                    exact ⟨rfl, ⟨rfl, ⟨rfl, ⟨rfl, trivial⟩⟩⟩⟩
              refine aw_le ?_ (loop_118_86 16 0  V_74 (by omega) (j_73) (e_k82) ((hz_80.trans ((k_69 _ (by decide)).trans (hz_22.trans ((k_11 _ (by decide)).trans e_1))))))
              exact ⟨rfl, ⟨rfl, ⟨rfl, ⟨rfl, trivial⟩⟩⟩⟩
            · skip
              refine aw_iconst (v := 0) dX12_readsDread_114 (by decide) ?_
              refine aw_zreti dX12_readsDread_115 rfl (by first | exact Or.inl rfl | exact Or.inr rfl | assumption) (Nat.le_of_ble_eq_true rfl) (Nat.le_of_ble_eq_true rfl) ?_
              exact ⟨⟨(by first | exact Or.inl rfl | exact Or.inr rfl | assumption), ⟨pl0_k82, by omega, by omega, (FG.of e_k82 rfl rfl), (FG.of e_k82 rfl (by omega : le0_k82 = ln)), ((hz_80.trans ((k_69 _ (by decide)).trans (hz_22.trans ((k_11 _ (by decide)).trans e_1))))).trans e_1.symm⟩⟩, rfl, j_73⟩
          · skip
            refine aw_iload_n dX12_readsDread_81 rfl ?_
            refine aw_bipush (v := 45) dX12_readsDread_82 (by decide) ?_
            refine aw_icmp_eq (tgt := 97) dX12_readsDread_84 (by decide) (fun c_107 => ?_) (fun c_107 => ?_)
            · skip
              have hlc_107 := here_lt h_30 c_107 (by decide)
              refine aw_aload_n dX12_readsDread_97 rfl ?_
              refine aw_aload_n dX12_readsDread_98 rfl ?_
              refine aw_get dX12_readsDread_99 fl_X12_159 e_k24 (by omega) rfl ?_
              refine aw_iconst (v := 1) dX12_readsDread_102 (by decide) ?_
              refine aw_iadd dX12_readsDread_103 ?_
              refine aw_eqi (y := nI (pl0_k24 + 1)) (nI_add _ _) ?_
              refine aw_put dX12_readsDread_104 fp_X12_159 e_k24 (by omega) rfl rfl (Nat.le_of_ble_eq_true rfl) rfl ?_
              refine aw_upR j_15 cm_100 ⟨_, _, _, _, _, _, _, _, _, _, _, _, tad_k24, (pl0_k24 + 1), le0_k24, nu0_k24, coy_k24, wag_k24, say_k24, rfl, by omega, by omega, by omega, by omega, by omega, by omega, by omega⟩ (by decide) (WO (s := 14) (x := .int (nI (pl0_k24 + 1))) e_k24 rfl (LMs (LMs LM0)) (by decide) (by decide) (by decide) (Or.inl (by decide))) (fun V_108 j_108 k_108 e_108 => ?_)
              refine aw_aload_n dX12_readsDread_107 rfl ?_
              refine aw_callVi (J' := jX12_readsAmount) (As := []) (st := []) dX12_readsDread_108 tb_1318 ok_X12_readsAmount ⟨_, e_108⟩ (by omega) rfl rfl (r_readsAmount l D b N V_108 hN cl j_108.1 (pl0_k24 + 1) le0_k24 (FG.of e_108 rfl rfl) (FG.of e_108 rfl rfl) ⟨by omega, by omega⟩) rfl (Nat.le_of_ble_eq_true rfl) ⟨Nat.le_of_ble_eq_true rfl, Nat.le_of_ble_eq_true rfl, Nat.le_of_ble_eq_true rfl, Nat.le_of_ble_eq_true rfl⟩ (fun r_122 N_123 V_113 q_124 => ?_)
              obtain ⟨⟨z_111, h_110⟩, rfl, q_109⟩ := q_124
              have j_112 := JR.trans j_108 (JR.weak q_109 (Sub.cons (LMs (LMs (LMs (LMs LM0)))) (by decide) (by decide) (by decide) (Or.inr ⟨by decide, by decide⟩) (Sub.cons (LMs (LMs LM0)) (by decide) (by decide) (by decide) (Or.inr ⟨by decide, by decide⟩) (Sub.cons (LMs (LMs (LMs LM0))) (by decide) (by decide) (by decide) (Or.inr ⟨by decide, by decide⟩) Sub.nil))))
              obtain ⟨a_114, ha_115, hA_116, hF_117, hL_118, hz_119⟩ := h_110
              obtain ⟨ftoldPeople_k121, ftoldDoors_k121, fwasDoors_k121, ffault_k121, fopen_k121, flines_k121, fmeantSet_k121, fopenedNow_k121, fvainNow_k121, flowNow_k121, fhighNow_k121, fisKept_k121, tad_k121, pl0_k121, le0_k121, nu0_k121, coy_k121, wag_k121, say_k121, e_k121, hntad_k121, hnpl0_k121, hnle0_k121, hnnu0_k121, hncoy_k121, hnwag_k121, hnsay_k121⟩ := JR.get j_112 cm_100
              have hqp_k121 := FG.eq hF_117 e_k121 rfl (by omega) (by omega)
              have hql_k121 := FG.eq hL_118 e_k121 rfl (by omega) (by omega)
              refine aw_if_ne (tgt := 116) dX12_readsDread_111 (by decide) (fun c_125 => ?_) (fun c_125 => ?_)
              · skip
                refine aw_iconst (v := 0) dX12_readsDread_116 (by decide) ?_
                refine aw_istore_n (ls' := [some (.ref (b + 100)), some (.int (nI i0)), some (.int r_31), some (.int 0), none]) dX12_readsDread_117 (Nat.le_of_ble_eq_true rfl) rfl ?_
                have loop_118_125 : ∀ (g_118 : Nat), ∀ (j118 : Nat)  (V118 : Wd), j118 + g_118 = 16 → (JR D b N cl [(100, 100, 36, 36), (100, 100, 37, 37), (100, 100, 14, 14), (100, 100, 16, 16), (100, 100, 17, 17), (101, 101, 0, 191)] V V118) → (V118 100 = cO 11 [.ref (b + 101), .ref (b + 102), .ref (b + 103), .ref (b + 104), .ref (b + 105), .ref (b + 106), .ref (b + 107), .ref (b + 108), .ref (b + 109), .int ftoldPeople_k121, .int ftoldDoors_k121, .int fwasDoors_k121, .ref (b + 110), .int (nI tad_k121), .int (nI pl0_k121), .int (nI le0_k121), .int ffault_k121, .int (nI nu0_k121), .int fopen_k121, .int (nI coy_k121), .int (nI wag_k121), .int (nI say_k121), .int (nI cl), .ref (b + 111), .ref (b + 112), .ref (b + 113), .ref (b + 114), .ref (b + 115), .ref (b + 116), .ref (b + 117), .ref (b + 118), .ref (b + 119), .ref (b + 120), .ref (b + 121), .ref (b + 122), .ref (b + 123), .int flines_k121, .int fmeantSet_k121, .int fopenedNow_k121, .int fvainNow_k121, .ref (b + 124), .ref (b + 125), .ref (b + 126), .ref (b + 127), .ref (b + 128), .int flowNow_k121, .int fhighNow_k121, .ref (b + 129), .ref (b + 130), .ref (b + 131), .ref (b + 132), .int fisKept_k121]) → (V118 110 = cB D 260 g_1) → AW l D b jX12_readsDread (fx_rm 3 0 0) none (fx_MQ D b 0 0 (fx_qi (fun r N9 V9 => ((r = 0 ∨ r = 1) ∧ (∃ a9, pl ≤ a9 ∧ a9 ≤ 240 ∧ FG b 14 a9 V9 ∧ FG b 15 ln V9 ∧ V9 110 = V 110)) ∧ N = N9 ∧ JR D b N cl [(100, 100, 36, 36), (100, 100, 37, 37), (100, 100, 14, 14), (100, 100, 16, 16), (100, 100, 17, 17), (101, 101, 0, 191)] V V9))) 118 [some (.ref (b + 100)), some (.int (nI i0)), some (.int r_31), some (.int (nI j118)), none] [] N V118 0 0 := by
                  intro g_118
                  induction g_118 with
                  | zero =>
                    intro j118  V118 hj118 i118_0 i118_1 i118_2
                    obtain rfl : j118 = 16 := by omega
                    refine aw_iload_n dX12_readsDread_118 rfl ?_
                    refine aw_bipush (v := 16) dX12_readsDread_119 (by decide) ?_
                    refine aw_icmp_ge (tgt := 203) dX12_readsDread_121 (by decide) (fun c_128 => ?_) (fun c_128 => ?_)
                    rotate_left
                    · exact absurd (nI_le (a := 16) (b := 16) (Nat.le_refl _) (by omega)) c_128
                    refine aw_iconst (v := 1) dX12_readsDread_203 (by decide) ?_
                    refine aw_zreti dX12_readsDread_204 rfl (by first | exact Or.inl rfl | exact Or.inr rfl | assumption) (Nat.le_of_ble_eq_true rfl) (Nat.le_of_ble_eq_true rfl) ?_
                    exact ⟨⟨(by first | exact Or.inl rfl | exact Or.inr rfl | assumption), ⟨pl0_k121, by omega, by omega, (FG.of i118_1 rfl rfl), (FG.of i118_1 rfl (by omega : le0_k121 = ln)), (i118_2).trans e_1.symm⟩⟩, rfl, i118_0⟩
                  | succ g_118 ih_118_126 =>
                    intro j118  V118 hj118 i118_0 i118_1 i118_2
                    have hlj118 : j118 < 16 := by omega
                    refine aw_iload_n dX12_readsDread_118 rfl ?_
                    refine aw_bipush (v := 16) dX12_readsDread_119 (by decide) ?_
                    refine aw_icmp_ge (tgt := 203) dX12_readsDread_121 (by decide) (fun c_129 => ?_) (fun c_129 => ?_)
                    · exact absurd c_129 (nI_ge (a := j118) (b := 16) (by omega) (by omega))
                    refine aw_aload_n dX12_readsDread_124 rfl ?_
                    refine aw_get dX12_readsDread_125 fl_X12_262 i118_1 (by omega) rfl ?_
                    refine aw_iload_n dX12_readsDread_128 rfl ?_
                    refine aw_callSi (J' := jX12_has) (As := [.int fmeantSet_k121, .int (nI j118)]) (st := []) dX12_readsDread_129 tb_1315 ok_X12_has rfl (r_has l D b N V118 hN cl i118_0.1 fmeantSet_k121 (nI j118)) rfl (Nat.le_of_ble_eq_true rfl) ⟨Nat.le_of_ble_eq_true rfl, Nat.le_of_ble_eq_true rfl, Nat.le_of_ble_eq_true rfl, Nat.le_of_ble_eq_true rfl⟩ (fun r_132 N_133 V_134 q_135 => ?_)
                    obtain ⟨h_131, rfl, rfl⟩ := q_135
                    refine aw_if_ne (tgt := 138) dX12_readsDread_132 (by decide) (fun c_136 => ?_) (fun c_136 => ?_)
                    · skip
                      refine aw_iconst (v := 0) dX12_readsDread_138 (by decide) ?_
                      refine aw_bipush (v := 16) dX12_readsDread_139 (by decide) ?_
                      refine aw_iload_n dX12_readsDread_141 rfl ?_
                      refine aw_imul dX12_readsDread_142 ?_
                      refine aw_eqi (y := nI (16 * i0)) (pk_mul _ _) ?_
                      refine aw_iadd dX12_readsDread_143 ?_
                      refine aw_eqi (y := nI (0 + (16 * i0))) (nI_add _ _) ?_
                      refine aw_iload_n dX12_readsDread_144 rfl ?_
                      refine aw_iadd dX12_readsDread_145 ?_
                      refine aw_eqi (y := nI ((0 + (16 * i0)) + j118)) (nI_add _ _) ?_
                      refine aw_istore (ls' := [some (.ref (b + 100)), some (.int (nI i0)), some (.int r_31), some (.int (nI j118)), some (.int (nI ((0 + (16 * i0)) + j118)))]) dX12_readsDread_146 (Nat.le_of_ble_eq_true rfl) rfl ?_
                      refine aw_aload_n dX12_readsDread_148 rfl ?_
                      refine aw_get dX12_readsDread_149 fl_X12_7 i118_1 (by omega) rfl ?_
                      refine aw_iload dX12_readsDread_152 rfl ?_
                      refine aw_iload_n dX12_readsDread_154 rfl ?_
                      refine aw_bipush (v := 61) dX12_readsDread_155 (by decide) ?_
                      refine aw_icmp_ne (tgt := 167) dX12_readsDread_157 (by decide) (fun c_137 => ?_) (fun c_137 => ?_)
                      rotate_left
                      · first | exact absurd c_35 c_137 | exact absurd c_137 c_35
                      refine aw_aload_n dX12_readsDread_167 rfl ?_
                      refine aw_get dX12_readsDread_168 fl_X12_7 i118_1 (by omega) rfl ?_
                      refine aw_iload dX12_readsDread_171 rfl ?_
                      obtain ⟨g_138, e_138⟩ := JR.get i118_0 cm_101
                      refine aw_iald (v := (g_138 ((0 + (16 * i0)) + j118))) dX12_readsDread_173 e_138 (by omega) (vp_in_nI (n := ((0 + (16 * i0)) + j118)) (by omega) (by omega)) (congrArg g_138 (nI_clamp (n := ((0 + (16 * i0)) + j118)) (by omega))) ?_
                      refine aw_iload_n dX12_readsDread_174 rfl ?_
                      refine aw_bipush (v := 43) dX12_readsDread_175 (by decide) ?_
                      refine aw_icmp_ne (tgt := 187) dX12_readsDread_177 (by decide) (fun c_139 => ?_) (fun c_139 => ?_)
                      rotate_left
                      · first | exact absurd c_68 c_139 | exact absurd c_139 c_68
                      refine aw_aload_n dX12_readsDread_187 rfl ?_
                      refine aw_get dX12_readsDread_188 fl_X12_175 i118_1 (by omega) rfl ?_
                      refine aw_ineg dX12_readsDread_191 ?_
                      refine aw_iadd dX12_readsDread_192 ?_
                      refine aw_callSi (J' := jX12_limit) (As := [.int ((g_138 ((0 + (16 * i0)) + j118)) + (-(nI nu0_k121)))]) (st := [.int (nI ((0 + (16 * i0)) + j118)), .ref (b + 101)]) dX12_readsDread_193 tb_1322 ok_X12_limit rfl (r_limit l D b N V118 hN cl i118_0.1 ((g_138 ((0 + (16 * i0)) + j118)) + (-(nI nu0_k121)))) rfl (Nat.le_of_ble_eq_true rfl) ⟨Nat.le_of_ble_eq_true rfl, Nat.le_of_ble_eq_true rfl, Nat.le_of_ble_eq_true rfl, Nat.le_of_ble_eq_true rfl⟩ (fun r_141 N_142 V_143 q_144 => ?_)
                      obtain ⟨rfl, rfl⟩ := q_144
                      refine aw_iast dX12_readsDread_196 e_138 (by omega) (vp_in_nI (n := ((0 + (16 * i0)) + j118)) (by omega) (by omega)) ?_
                      refine aw_upR i118_0 cm_101 ⟨_, rfl⟩ (by decide) (WE e_138 (LMs (LMs (LMs (LMs (LMs LM0))))) (by decide) (by decide) (by rw [nI_clamp (n := ((0 + (16 * i0)) + j118)) (by omega)]; omega) (by rw [nI_clamp (n := ((0 + (16 * i0)) + j118)) (by omega)]; omega)) (fun V_145 j_145 k_145 e_145 => ?_)
                      refine aw_iinc (v := (nI (j118 + 1))) (ls' := [some (.ref (b + 100)), some (.int (nI i0)), some (.int r_31), some (.int (nI (j118 + 1))), some (.int (nI ((0 + (16 * i0)) + j118)))]) dX12_readsDread_197 rfl (fx_up_1 _) (Nat.le_of_ble_eq_true rfl) rfl ?_
                      refine aw_goto (tgt := 118) dX12_readsDread_200 (by decide) ?_
                      refine aw_le ?_ (ih_118_126 (j118 + 1)  V_145 (by omega) (j_145) (((k_145 _ (by decide)).trans i118_1)) (((k_145 _ (by decide)).trans i118_2)))
                      exact ⟨rfl, ⟨rfl, ⟨rfl, ⟨rfl, trivial⟩⟩⟩⟩
                    · skip
                      refine aw_goto (tgt := 197) dX12_readsDread_135 (by decide) ?_
                      refine aw_iinc (v := (nI (j118 + 1))) (ls' := [some (.ref (b + 100)), some (.int (nI i0)), some (.int r_31), some (.int (nI (j118 + 1))), none]) dX12_readsDread_197 rfl (fx_up_1 _) (Nat.le_of_ble_eq_true rfl) rfl ?_
                      refine aw_goto (tgt := 118) dX12_readsDread_200 (by decide) ?_
                      refine aw_le ?_ (ih_118_126 (j118 + 1)  V118 (by omega) (i118_0) (i118_1) (i118_2))
                      exact ⟨rfl, ⟨rfl, ⟨rfl, ⟨rfl, trivial⟩⟩⟩⟩
                refine aw_le ?_ (loop_118_125 16 0  V_113 (by omega) (j_112) (e_k121) ((hz_119.trans ((k_108 _ (by decide)).trans (hz_22.trans ((k_11 _ (by decide)).trans e_1))))))
                exact ⟨rfl, ⟨rfl, ⟨rfl, ⟨rfl, trivial⟩⟩⟩⟩
              · skip
                refine aw_iconst (v := 0) dX12_readsDread_114 (by decide) ?_
                refine aw_zreti dX12_readsDread_115 rfl (by first | exact Or.inl rfl | exact Or.inr rfl | assumption) (Nat.le_of_ble_eq_true rfl) (Nat.le_of_ble_eq_true rfl) ?_
                exact ⟨⟨(by first | exact Or.inl rfl | exact Or.inr rfl | assumption), ⟨pl0_k121, by omega, by omega, (FG.of e_k121 rfl rfl), (FG.of e_k121 rfl (by omega : le0_k121 = ln)), ((hz_119.trans ((k_108 _ (by decide)).trans (hz_22.trans ((k_11 _ (by decide)).trans e_1))))).trans e_1.symm⟩⟩, rfl, j_112⟩
            · skip
              refine aw_aload_n dX12_readsDread_87 rfl ?_
              refine aw_iconst (v := 1) dX12_readsDread_88 (by decide) ?_
              refine aw_aload_n dX12_readsDread_89 rfl ?_
              refine aw_get dX12_readsDread_90 fl_X12_159 e_k24 (by omega) rfl ?_
              refine aw_callVi (J' := jX12_wrongAt) (As := [.int 1, .int (nI pl0_k24)]) (st := []) dX12_readsDread_93 tb_1224 ok_X12_wrongAt ⟨_, e_k24⟩ (by omega) rfl rfl (r_wrongAt l D b N V_16 hN cl j_15.1 1 (nI pl0_k24) pl0_k24 le0_k24 (FG.of e_k24 rfl rfl) (FG.of e_k24 rfl rfl) ⟨by omega, by omega⟩) rfl (Nat.le_of_ble_eq_true rfl) ⟨Nat.le_of_ble_eq_true rfl, Nat.le_of_ble_eq_true rfl, Nat.le_of_ble_eq_true rfl, Nat.le_of_ble_eq_true rfl⟩ (fun r_159 N_160 V_150 q_161 => ?_)
              obtain ⟨⟨z_148, h_147⟩, rfl, q_146⟩ := q_161
              have j_149 := JR.trans j_15 (JR.weak q_146 (Sub.cons (LMs (LMs (LMs LM0))) (by decide) (by decide) (by decide) (Or.inr ⟨by decide, by decide⟩) Sub.nil))
              obtain ⟨a_151, ha_152, hA_153, hF_154, hL_155, hz_156, hX_157⟩ := h_147
              obtain ⟨ftoldPeople_k158, ftoldDoors_k158, fwasDoors_k158, ffault_k158, fopen_k158, flines_k158, fmeantSet_k158, fopenedNow_k158, fvainNow_k158, flowNow_k158, fhighNow_k158, fisKept_k158, tad_k158, pl0_k158, le0_k158, nu0_k158, coy_k158, wag_k158, say_k158, e_k158, hntad_k158, hnpl0_k158, hnle0_k158, hnnu0_k158, hncoy_k158, hnwag_k158, hnsay_k158⟩ := JR.get j_149 cm_100
              have hqp_k158 := FG.eq hF_154 e_k158 rfl (by omega) (by omega)
              have hql_k158 := FG.eq hL_155 e_k158 rfl (by omega) (by omega)
              obtain rfl := hX_157
              refine aw_zreti dX12_readsDread_96 rfl (by first | exact Or.inl rfl | exact Or.inr rfl | assumption) (Nat.le_of_ble_eq_true rfl) (Nat.le_of_ble_eq_true rfl) ?_
              exact ⟨⟨(by first | exact Or.inl rfl | exact Or.inr rfl | assumption), ⟨pl0_k158, by omega, by omega, (FG.of e_k158 rfl rfl), (FG.of e_k158 rfl (by omega : le0_k158 = ln)), ((hz_156.trans (hz_22.trans ((k_11 _ (by decide)).trans e_1)))).trans e_1.symm⟩⟩, rfl, j_149⟩
      · skip
        refine aw_iconst (v := 0) dX12_readsDread_62 (by decide) ?_
        refine aw_zreti dX12_readsDread_63 rfl (by first | exact Or.inl rfl | exact Or.inr rfl | assumption) (Nat.le_of_ble_eq_true rfl) (Nat.le_of_ble_eq_true rfl) ?_
        exact ⟨⟨(by first | exact Or.inl rfl | exact Or.inr rfl | assumption), ⟨pl0_k24, by omega, by omega, (FG.of e_k24 rfl rfl), (FG.of e_k24 rfl (by omega : le0_k24 = ln)), ((hz_22.trans ((k_11 _ (by decide)).trans e_1))).trans e_1.symm⟩⟩, rfl, j_15⟩
    · skip
      refine aw_aload_n dX12_readsDread_35 rfl ?_
      refine aw_iconst (v := 4) dX12_readsDread_36 (by decide) ?_
      refine aw_aload_n dX12_readsDread_37 rfl ?_
      refine aw_get dX12_readsDread_38 fl_X12_159 e_2 (by omega) rfl ?_
      refine aw_callVi (J' := jX12_wrongAt) (As := [.int 4, .int (nI pl0_2)]) (st := []) dX12_readsDread_41 tb_1224 ok_X12_wrongAt ⟨_, e_2⟩ (by omega) rfl rfl (r_wrongAt l D b N V hN cl hJ0.1 4 (nI pl0_2) pl0_2 le0_2 (FG.of e_2 rfl rfl) (FG.of e_2 rfl rfl) ⟨by omega, by omega⟩) rfl (Nat.le_of_ble_eq_true rfl) ⟨Nat.le_of_ble_eq_true rfl, Nat.le_of_ble_eq_true rfl, Nat.le_of_ble_eq_true rfl, Nat.le_of_ble_eq_true rfl⟩ (fun r_175 N_176 V_166 q_177 => ?_)
      obtain ⟨⟨z_164, h_163⟩, rfl, q_162⟩ := q_177
      have j_165 := JR.trans hJ0 (JR.weak q_162 (Sub.cons (LMs (LMs (LMs LM0))) (by decide) (by decide) (by decide) (Or.inr ⟨by decide, by decide⟩) Sub.nil))
      obtain ⟨a_167, ha_168, hA_169, hF_170, hL_171, hz_172, hX_173⟩ := h_163
      obtain ⟨ftoldPeople_k174, ftoldDoors_k174, fwasDoors_k174, ffault_k174, fopen_k174, flines_k174, fmeantSet_k174, fopenedNow_k174, fvainNow_k174, flowNow_k174, fhighNow_k174, fisKept_k174, tad_k174, pl0_k174, le0_k174, nu0_k174, coy_k174, wag_k174, say_k174, e_k174, hntad_k174, hnpl0_k174, hnle0_k174, hnnu0_k174, hncoy_k174, hnwag_k174, hnsay_k174⟩ := JR.get j_165 cm_100
      have hqp_k174 := FG.eq hF_170 e_k174 rfl (by omega) (by omega)
      have hql_k174 := FG.eq hL_171 e_k174 rfl (by omega) (by omega)
      obtain rfl := hX_173
      refine aw_zreti dX12_readsDread_44 rfl (by first | exact Or.inl rfl | exact Or.inr rfl | assumption) (Nat.le_of_ble_eq_true rfl) (Nat.le_of_ble_eq_true rfl) ?_
      exact ⟨⟨(by first | exact Or.inl rfl | exact Or.inr rfl | assumption), ⟨pl0_k174, by omega, by omega, (FG.of e_k174 rfl rfl), (FG.of e_k174 rfl (by omega : le0_k174 = ln)), ((hz_172.trans e_1)).trans e_1.symm⟩⟩, rfl, j_165⟩
  · skip
    refine aw_aload_n dX12_readsDread_9 rfl ?_
    refine aw_callVi (J' := jX12_isLetter) (As := []) (st := []) dX12_readsDread_10 tb_1306 ok_X12_isLetter ⟨_, e_2⟩ (by omega) rfl rfl (r_isLetter l D b N V hN cl hJ0.1 g_1 e_1 pl0_2 le0_2 (FG.of e_2 rfl rfl) (FG.of e_2 rfl rfl) ⟨by omega, by omega⟩) rfl (Nat.le_of_ble_eq_true rfl) ⟨Nat.le_of_ble_eq_true rfl, Nat.le_of_ble_eq_true rfl, Nat.le_of_ble_eq_true rfl, Nat.le_of_ble_eq_true rfl⟩ (fun r_181 N_182 V_183 q_184 => ?_)
    obtain ⟨⟨z_180, h_179⟩, rfl, rfl⟩ := q_184
    refine aw_if_ne (tgt := 26) dX12_readsDread_13 (by decide) (fun c_185 => ?_) (fun c_185 => ?_)
    · skip
      obtain ⟨z_186, hz_186, ez_186⟩ := h_179.resolve_left c_185
      have hlc_185 := here_ltd ez_186 (by omega)
      refine aw_aload_n dX12_readsDread_26 rfl ?_
      refine aw_get dX12_readsDread_27 fl_X12_268 e_2 (by omega) rfl ?_
      refine aw_bipush (v := 20) dX12_readsDread_30 (by decide) ?_
      refine aw_icmp_ne (tgt := 45) dX12_readsDread_32 (by decide) (fun c_187 => ?_) (fun c_187 => ?_)
      · skip
        refine aw_aload_n dX12_readsDread_45 rfl ?_
        refine aw_aload_n dX12_readsDread_46 rfl ?_
        refine aw_get dX12_readsDread_47 fl_X12_268 e_2 (by omega) rfl ?_
        refine aw_iconst (v := 1) dX12_readsDread_50 (by decide) ?_
        refine aw_iadd dX12_readsDread_51 ?_
        refine aw_put dX12_readsDread_52 fp_X12_268 e_2 (by omega) rfl rfl (Nat.le_of_ble_eq_true rfl) rfl ?_
        refine aw_upR hJ0 cm_100 ⟨_, _, _, _, _, _, _, _, _, _, _, _, tad_2, pl0_2, le0_2, nu0_2, coy_2, wag_2, say_2, rfl, by omega, by omega, by omega, by omega, by omega, by omega, by omega⟩ (by decide) (WO (s := 36) (x := .int (flines_2 + 1)) e_2 rfl LM0 (by decide) (by decide) (by decide) (Or.inl (by decide))) (fun V_188 j_188 k_188 e_188 => ?_)
        refine aw_aload_n dX12_readsDread_55 rfl ?_
        refine aw_callVi (J' := jX12_readsMeant) (As := []) (st := []) dX12_readsDread_56 tb_1310 ok_X12_readsMeant ⟨_, e_188⟩ (by omega) rfl rfl (r_readsMeant l D b N V_188 hN cl j_188.1 pl0_2 le0_2 (FG.of e_188 rfl rfl) (FG.of e_188 rfl rfl) ⟨by omega, by omega⟩) rfl (Nat.le_of_ble_eq_true rfl) ⟨Nat.le_of_ble_eq_true rfl, Nat.le_of_ble_eq_true rfl, Nat.le_of_ble_eq_true rfl, Nat.le_of_ble_eq_true rfl⟩ (fun r_202 N_203 V_193 q_204 => ?_)
        obtain ⟨⟨z_191, h_190⟩, rfl, q_189⟩ := q_204
        have j_192 := JR.trans j_188 (JR.weak q_189 (Sub.cons (LMs LM0) (by decide) (by decide) (by decide) (Or.inr ⟨by decide, by decide⟩) (Sub.cons (LMs (LMs LM0)) (by decide) (by decide) (by decide) (Or.inr ⟨by decide, by decide⟩) (Sub.cons (LMs (LMs (LMs LM0))) (by decide) (by decide) (by decide) (Or.inr ⟨by decide, by decide⟩) Sub.nil))))
        obtain ⟨a_194, ha_195, hA_196, hF_197, hL_198, hz_199⟩ := h_190
        obtain ⟨ftoldPeople_k201, ftoldDoors_k201, fwasDoors_k201, ffault_k201, fopen_k201, flines_k201, fmeantSet_k201, fopenedNow_k201, fvainNow_k201, flowNow_k201, fhighNow_k201, fisKept_k201, tad_k201, pl0_k201, le0_k201, nu0_k201, coy_k201, wag_k201, say_k201, e_k201, hntad_k201, hnpl0_k201, hnle0_k201, hnnu0_k201, hncoy_k201, hnwag_k201, hnsay_k201⟩ := JR.get j_192 cm_100
        have hqp_k201 := FG.eq hF_197 e_k201 rfl (by omega) (by omega)
        have hql_k201 := FG.eq hL_198 e_k201 rfl (by omega) (by omega)
        refine aw_if_ne (tgt := 64) dX12_readsDread_59 (by decide) (fun c_205 => ?_) (fun c_205 => ?_)
        · skip
          refine aw_aload_n dX12_readsDread_64 rfl ?_
          refine aw_callVi (J' := jX12_here) (As := []) (st := []) dX12_readsDread_65 tb_1220 ok_X12_here ⟨_, e_k201⟩ (by omega) rfl rfl (r_here l D b N V_193 hN cl j_192.1 g_1 (hz_199.trans ((k_188 _ (by decide)).trans e_1)) pl0_k201 le0_k201 (FG.of e_k201 rfl rfl) (FG.of e_k201 rfl rfl) ⟨by omega, by omega⟩) rfl (Nat.le_of_ble_eq_true rfl) ⟨Nat.le_of_ble_eq_true rfl, Nat.le_of_ble_eq_true rfl, Nat.le_of_ble_eq_true rfl, Nat.le_of_ble_eq_true rfl⟩ (fun r_208 N_209 V_210 q_211 => ?_)
          obtain ⟨h_207, rfl, rfl⟩ := q_211
          refine aw_istore_n (ls' := [some (.ref (b + 100)), some (.int (nI i0)), some (.int r_208), none, none]) dX12_readsDread_68 (Nat.le_of_ble_eq_true rfl) rfl ?_
          refine aw_iload_n dX12_readsDread_69 rfl ?_
          refine aw_bipush (v := 61) dX12_readsDread_70 (by decide) ?_
          refine aw_icmp_eq (tgt := 97) dX12_readsDread_72 (by decide) (fun c_212 => ?_) (fun c_212 => ?_)
          · skip
            have hlc_212 := here_lt h_207 c_212 (by decide)
            refine aw_aload_n dX12_readsDread_97 rfl ?_
            refine aw_aload_n dX12_readsDread_98 rfl ?_
            refine aw_get dX12_readsDread_99 fl_X12_159 e_k201 (by omega) rfl ?_
            refine aw_iconst (v := 1) dX12_readsDread_102 (by decide) ?_
            refine aw_iadd dX12_readsDread_103 ?_
            refine aw_eqi (y := nI (pl0_k201 + 1)) (nI_add _ _) ?_
            refine aw_put dX12_readsDread_104 fp_X12_159 e_k201 (by omega) rfl rfl (Nat.le_of_ble_eq_true rfl) rfl ?_
            refine aw_upR j_192 cm_100 ⟨_, _, _, _, _, _, _, _, _, _, _, _, tad_k201, (pl0_k201 + 1), le0_k201, nu0_k201, coy_k201, wag_k201, say_k201, rfl, by omega, by omega, by omega, by omega, by omega, by omega, by omega⟩ (by decide) (WO (s := 14) (x := .int (nI (pl0_k201 + 1))) e_k201 rfl (LMs (LMs LM0)) (by decide) (by decide) (by decide) (Or.inl (by decide))) (fun V_213 j_213 k_213 e_213 => ?_)
            refine aw_aload_n dX12_readsDread_107 rfl ?_
            refine aw_callVi (J' := jX12_readsAmount) (As := []) (st := []) dX12_readsDread_108 tb_1318 ok_X12_readsAmount ⟨_, e_213⟩ (by omega) rfl rfl (r_readsAmount l D b N V_213 hN cl j_213.1 (pl0_k201 + 1) le0_k201 (FG.of e_213 rfl rfl) (FG.of e_213 rfl rfl) ⟨by omega, by omega⟩) rfl (Nat.le_of_ble_eq_true rfl) ⟨Nat.le_of_ble_eq_true rfl, Nat.le_of_ble_eq_true rfl, Nat.le_of_ble_eq_true rfl, Nat.le_of_ble_eq_true rfl⟩ (fun r_227 N_228 V_218 q_229 => ?_)
            obtain ⟨⟨z_216, h_215⟩, rfl, q_214⟩ := q_229
            have j_217 := JR.trans j_213 (JR.weak q_214 (Sub.cons (LMs (LMs (LMs (LMs LM0)))) (by decide) (by decide) (by decide) (Or.inr ⟨by decide, by decide⟩) (Sub.cons (LMs (LMs LM0)) (by decide) (by decide) (by decide) (Or.inr ⟨by decide, by decide⟩) (Sub.cons (LMs (LMs (LMs LM0))) (by decide) (by decide) (by decide) (Or.inr ⟨by decide, by decide⟩) Sub.nil))))
            obtain ⟨a_219, ha_220, hA_221, hF_222, hL_223, hz_224⟩ := h_215
            obtain ⟨ftoldPeople_k226, ftoldDoors_k226, fwasDoors_k226, ffault_k226, fopen_k226, flines_k226, fmeantSet_k226, fopenedNow_k226, fvainNow_k226, flowNow_k226, fhighNow_k226, fisKept_k226, tad_k226, pl0_k226, le0_k226, nu0_k226, coy_k226, wag_k226, say_k226, e_k226, hntad_k226, hnpl0_k226, hnle0_k226, hnnu0_k226, hncoy_k226, hnwag_k226, hnsay_k226⟩ := JR.get j_217 cm_100
            have hqp_k226 := FG.eq hF_222 e_k226 rfl (by omega) (by omega)
            have hql_k226 := FG.eq hL_223 e_k226 rfl (by omega) (by omega)
            refine aw_if_ne (tgt := 116) dX12_readsDread_111 (by decide) (fun c_230 => ?_) (fun c_230 => ?_)
            · skip
              refine aw_iconst (v := 0) dX12_readsDread_116 (by decide) ?_
              refine aw_istore_n (ls' := [some (.ref (b + 100)), some (.int (nI i0)), some (.int r_208), some (.int 0), none]) dX12_readsDread_117 (Nat.le_of_ble_eq_true rfl) rfl ?_
              have loop_118_230 : ∀ (g_118 : Nat), ∀ (j118 : Nat)  (V118 : Wd), j118 + g_118 = 16 → (JR D b N cl [(100, 100, 36, 36), (100, 100, 37, 37), (100, 100, 14, 14), (100, 100, 16, 16), (100, 100, 17, 17), (101, 101, 0, 191)] V V118) → (V118 100 = cO 11 [.ref (b + 101), .ref (b + 102), .ref (b + 103), .ref (b + 104), .ref (b + 105), .ref (b + 106), .ref (b + 107), .ref (b + 108), .ref (b + 109), .int ftoldPeople_k226, .int ftoldDoors_k226, .int fwasDoors_k226, .ref (b + 110), .int (nI tad_k226), .int (nI pl0_k226), .int (nI le0_k226), .int ffault_k226, .int (nI nu0_k226), .int fopen_k226, .int (nI coy_k226), .int (nI wag_k226), .int (nI say_k226), .int (nI cl), .ref (b + 111), .ref (b + 112), .ref (b + 113), .ref (b + 114), .ref (b + 115), .ref (b + 116), .ref (b + 117), .ref (b + 118), .ref (b + 119), .ref (b + 120), .ref (b + 121), .ref (b + 122), .ref (b + 123), .int flines_k226, .int fmeantSet_k226, .int fopenedNow_k226, .int fvainNow_k226, .ref (b + 124), .ref (b + 125), .ref (b + 126), .ref (b + 127), .ref (b + 128), .int flowNow_k226, .int fhighNow_k226, .ref (b + 129), .ref (b + 130), .ref (b + 131), .ref (b + 132), .int fisKept_k226]) → (V118 110 = cB D 260 g_1) → AW l D b jX12_readsDread (fx_rm 3 0 0) none (fx_MQ D b 0 0 (fx_qi (fun r N9 V9 => ((r = 0 ∨ r = 1) ∧ (∃ a9, pl ≤ a9 ∧ a9 ≤ 240 ∧ FG b 14 a9 V9 ∧ FG b 15 ln V9 ∧ V9 110 = V 110)) ∧ N = N9 ∧ JR D b N cl [(100, 100, 36, 36), (100, 100, 37, 37), (100, 100, 14, 14), (100, 100, 16, 16), (100, 100, 17, 17), (101, 101, 0, 191)] V V9))) 118 [some (.ref (b + 100)), some (.int (nI i0)), some (.int r_208), some (.int (nI j118)), none] [] N V118 0 0 := by
                intro g_118
                induction g_118 with
                | zero =>
                  intro j118  V118 hj118 i118_0 i118_1 i118_2
                  obtain rfl : j118 = 16 := by omega
                  refine aw_iload_n dX12_readsDread_118 rfl ?_
                  refine aw_bipush (v := 16) dX12_readsDread_119 (by decide) ?_
                  refine aw_icmp_ge (tgt := 203) dX12_readsDread_121 (by decide) (fun c_233 => ?_) (fun c_233 => ?_)
                  rotate_left
                  · exact absurd (nI_le (a := 16) (b := 16) (Nat.le_refl _) (by omega)) c_233
                  refine aw_iconst (v := 1) dX12_readsDread_203 (by decide) ?_
                  refine aw_zreti dX12_readsDread_204 rfl (by first | exact Or.inl rfl | exact Or.inr rfl | assumption) (Nat.le_of_ble_eq_true rfl) (Nat.le_of_ble_eq_true rfl) ?_
                  exact ⟨⟨(by first | exact Or.inl rfl | exact Or.inr rfl | assumption), ⟨pl0_k226, by omega, by omega, (FG.of i118_1 rfl rfl), (FG.of i118_1 rfl (by omega : le0_k226 = ln)), (i118_2).trans e_1.symm⟩⟩, rfl, i118_0⟩
                | succ g_118 ih_118_231 =>
                  intro j118  V118 hj118 i118_0 i118_1 i118_2
                  have hlj118 : j118 < 16 := by omega
                  refine aw_iload_n dX12_readsDread_118 rfl ?_
                  refine aw_bipush (v := 16) dX12_readsDread_119 (by decide) ?_
                  refine aw_icmp_ge (tgt := 203) dX12_readsDread_121 (by decide) (fun c_234 => ?_) (fun c_234 => ?_)
                  · exact absurd c_234 (nI_ge (a := j118) (b := 16) (by omega) (by omega))
                  refine aw_aload_n dX12_readsDread_124 rfl ?_
                  refine aw_get dX12_readsDread_125 fl_X12_262 i118_1 (by omega) rfl ?_
                  refine aw_iload_n dX12_readsDread_128 rfl ?_
                  refine aw_callSi (J' := jX12_has) (As := [.int fmeantSet_k226, .int (nI j118)]) (st := []) dX12_readsDread_129 tb_1315 ok_X12_has rfl (r_has l D b N V118 hN cl i118_0.1 fmeantSet_k226 (nI j118)) rfl (Nat.le_of_ble_eq_true rfl) ⟨Nat.le_of_ble_eq_true rfl, Nat.le_of_ble_eq_true rfl, Nat.le_of_ble_eq_true rfl, Nat.le_of_ble_eq_true rfl⟩ (fun r_237 N_238 V_239 q_240 => ?_)
                  obtain ⟨h_236, rfl, rfl⟩ := q_240
                  refine aw_if_ne (tgt := 138) dX12_readsDread_132 (by decide) (fun c_241 => ?_) (fun c_241 => ?_)
                  · skip
                    refine aw_iconst (v := 0) dX12_readsDread_138 (by decide) ?_
                    refine aw_bipush (v := 16) dX12_readsDread_139 (by decide) ?_
                    refine aw_iload_n dX12_readsDread_141 rfl ?_
                    refine aw_imul dX12_readsDread_142 ?_
                    refine aw_eqi (y := nI (16 * i0)) (pk_mul _ _) ?_
                    refine aw_iadd dX12_readsDread_143 ?_
                    refine aw_eqi (y := nI (0 + (16 * i0))) (nI_add _ _) ?_
                    refine aw_iload_n dX12_readsDread_144 rfl ?_
                    refine aw_iadd dX12_readsDread_145 ?_
                    refine aw_eqi (y := nI ((0 + (16 * i0)) + j118)) (nI_add _ _) ?_
                    refine aw_istore (ls' := [some (.ref (b + 100)), some (.int (nI i0)), some (.int r_208), some (.int (nI j118)), some (.int (nI ((0 + (16 * i0)) + j118)))]) dX12_readsDread_146 (Nat.le_of_ble_eq_true rfl) rfl ?_
                    refine aw_aload_n dX12_readsDread_148 rfl ?_
                    refine aw_get dX12_readsDread_149 fl_X12_7 i118_1 (by omega) rfl ?_
                    refine aw_iload dX12_readsDread_152 rfl ?_
                    refine aw_iload_n dX12_readsDread_154 rfl ?_
                    refine aw_bipush (v := 61) dX12_readsDread_155 (by decide) ?_
                    refine aw_icmp_ne (tgt := 167) dX12_readsDread_157 (by decide) (fun c_242 => ?_) (fun c_242 => ?_)
                    · first | exact absurd c_242 c_212 | exact absurd c_212 c_242 | exact absurd c_242 (Int32.not_lt.mpr c_212) | exact absurd c_212 (Int32.not_lt.mpr c_242) | exact c_212 (Int32.not_lt.mp c_242) | exact c_212 (Int32.not_le.mp c_242)
                    have hlc_242 := here_lt h_207 c_242 (by decide)
                    refine aw_aload_n dX12_readsDread_160 rfl ?_
                    refine aw_get dX12_readsDread_161 fl_X12_175 i118_1 (by omega) rfl ?_
                    refine aw_goto (tgt := 196) dX12_readsDread_164 (by decide) ?_
                    obtain ⟨g_243, e_243⟩ := JR.get i118_0 cm_101
                    refine aw_iast dX12_readsDread_196 e_243 (by omega) (vp_in_nI (n := ((0 + (16 * i0)) + j118)) (by omega) (by omega)) ?_
                    refine aw_upR i118_0 cm_101 ⟨_, rfl⟩ (by decide) (WE e_243 (LMs (LMs (LMs (LMs (LMs LM0))))) (by decide) (by decide) (by rw [nI_clamp (n := ((0 + (16 * i0)) + j118)) (by omega)]; omega) (by rw [nI_clamp (n := ((0 + (16 * i0)) + j118)) (by omega)]; omega)) (fun V_244 j_244 k_244 e_244 => ?_)
                    refine aw_iinc (v := (nI (j118 + 1))) (ls' := [some (.ref (b + 100)), some (.int (nI i0)), some (.int r_208), some (.int (nI (j118 + 1))), some (.int (nI ((0 + (16 * i0)) + j118)))]) dX12_readsDread_197 rfl (fx_up_1 _) (Nat.le_of_ble_eq_true rfl) rfl ?_
                    refine aw_goto (tgt := 118) dX12_readsDread_200 (by decide) ?_
                    refine aw_le ?_ (ih_118_231 (j118 + 1)  V_244 (by omega) (j_244) (((k_244 _ (by decide)).trans i118_1)) (((k_244 _ (by decide)).trans i118_2)))
                    exact ⟨rfl, ⟨rfl, ⟨rfl, ⟨rfl, trivial⟩⟩⟩⟩
                  · skip
                    refine aw_goto (tgt := 197) dX12_readsDread_135 (by decide) ?_
                    refine aw_iinc (v := (nI (j118 + 1))) (ls' := [some (.ref (b + 100)), some (.int (nI i0)), some (.int r_208), some (.int (nI (j118 + 1))), none]) dX12_readsDread_197 rfl (fx_up_1 _) (Nat.le_of_ble_eq_true rfl) rfl ?_
                    refine aw_goto (tgt := 118) dX12_readsDread_200 (by decide) ?_
                    refine aw_le ?_ (ih_118_231 (j118 + 1)  V118 (by omega) (i118_0) (i118_1) (i118_2))
                    exact ⟨rfl, ⟨rfl, ⟨rfl, ⟨rfl, trivial⟩⟩⟩⟩
              refine aw_le ?_ (loop_118_230 16 0  V_218 (by omega) (j_217) (e_k226) ((hz_224.trans ((k_213 _ (by decide)).trans (hz_199.trans ((k_188 _ (by decide)).trans e_1))))))
              exact ⟨rfl, ⟨rfl, ⟨rfl, ⟨rfl, trivial⟩⟩⟩⟩
            · skip
              refine aw_iconst (v := 0) dX12_readsDread_114 (by decide) ?_
              refine aw_zreti dX12_readsDread_115 rfl (by first | exact Or.inl rfl | exact Or.inr rfl | assumption) (Nat.le_of_ble_eq_true rfl) (Nat.le_of_ble_eq_true rfl) ?_
              exact ⟨⟨(by first | exact Or.inl rfl | exact Or.inr rfl | assumption), ⟨pl0_k226, by omega, by omega, (FG.of e_k226 rfl rfl), (FG.of e_k226 rfl (by omega : le0_k226 = ln)), ((hz_224.trans ((k_213 _ (by decide)).trans (hz_199.trans ((k_188 _ (by decide)).trans e_1))))).trans e_1.symm⟩⟩, rfl, j_217⟩
          · skip
            refine aw_iload_n dX12_readsDread_75 rfl ?_
            refine aw_bipush (v := 43) dX12_readsDread_76 (by decide) ?_
            refine aw_icmp_eq (tgt := 97) dX12_readsDread_78 (by decide) (fun c_245 => ?_) (fun c_245 => ?_)
            · skip
              have hlc_245 := here_lt h_207 c_245 (by decide)
              refine aw_aload_n dX12_readsDread_97 rfl ?_
              refine aw_aload_n dX12_readsDread_98 rfl ?_
              refine aw_get dX12_readsDread_99 fl_X12_159 e_k201 (by omega) rfl ?_
              refine aw_iconst (v := 1) dX12_readsDread_102 (by decide) ?_
              refine aw_iadd dX12_readsDread_103 ?_
              refine aw_eqi (y := nI (pl0_k201 + 1)) (nI_add _ _) ?_
              refine aw_put dX12_readsDread_104 fp_X12_159 e_k201 (by omega) rfl rfl (Nat.le_of_ble_eq_true rfl) rfl ?_
              refine aw_upR j_192 cm_100 ⟨_, _, _, _, _, _, _, _, _, _, _, _, tad_k201, (pl0_k201 + 1), le0_k201, nu0_k201, coy_k201, wag_k201, say_k201, rfl, by omega, by omega, by omega, by omega, by omega, by omega, by omega⟩ (by decide) (WO (s := 14) (x := .int (nI (pl0_k201 + 1))) e_k201 rfl (LMs (LMs LM0)) (by decide) (by decide) (by decide) (Or.inl (by decide))) (fun V_246 j_246 k_246 e_246 => ?_)
              refine aw_aload_n dX12_readsDread_107 rfl ?_
              refine aw_callVi (J' := jX12_readsAmount) (As := []) (st := []) dX12_readsDread_108 tb_1318 ok_X12_readsAmount ⟨_, e_246⟩ (by omega) rfl rfl (r_readsAmount l D b N V_246 hN cl j_246.1 (pl0_k201 + 1) le0_k201 (FG.of e_246 rfl rfl) (FG.of e_246 rfl rfl) ⟨by omega, by omega⟩) rfl (Nat.le_of_ble_eq_true rfl) ⟨Nat.le_of_ble_eq_true rfl, Nat.le_of_ble_eq_true rfl, Nat.le_of_ble_eq_true rfl, Nat.le_of_ble_eq_true rfl⟩ (fun r_260 N_261 V_251 q_262 => ?_)
              obtain ⟨⟨z_249, h_248⟩, rfl, q_247⟩ := q_262
              have j_250 := JR.trans j_246 (JR.weak q_247 (Sub.cons (LMs (LMs (LMs (LMs LM0)))) (by decide) (by decide) (by decide) (Or.inr ⟨by decide, by decide⟩) (Sub.cons (LMs (LMs LM0)) (by decide) (by decide) (by decide) (Or.inr ⟨by decide, by decide⟩) (Sub.cons (LMs (LMs (LMs LM0))) (by decide) (by decide) (by decide) (Or.inr ⟨by decide, by decide⟩) Sub.nil))))
              obtain ⟨a_252, ha_253, hA_254, hF_255, hL_256, hz_257⟩ := h_248
              obtain ⟨ftoldPeople_k259, ftoldDoors_k259, fwasDoors_k259, ffault_k259, fopen_k259, flines_k259, fmeantSet_k259, fopenedNow_k259, fvainNow_k259, flowNow_k259, fhighNow_k259, fisKept_k259, tad_k259, pl0_k259, le0_k259, nu0_k259, coy_k259, wag_k259, say_k259, e_k259, hntad_k259, hnpl0_k259, hnle0_k259, hnnu0_k259, hncoy_k259, hnwag_k259, hnsay_k259⟩ := JR.get j_250 cm_100
              have hqp_k259 := FG.eq hF_255 e_k259 rfl (by omega) (by omega)
              have hql_k259 := FG.eq hL_256 e_k259 rfl (by omega) (by omega)
              refine aw_if_ne (tgt := 116) dX12_readsDread_111 (by decide) (fun c_263 => ?_) (fun c_263 => ?_)
              · skip
                refine aw_iconst (v := 0) dX12_readsDread_116 (by decide) ?_
                refine aw_istore_n (ls' := [some (.ref (b + 100)), some (.int (nI i0)), some (.int r_208), some (.int 0), none]) dX12_readsDread_117 (Nat.le_of_ble_eq_true rfl) rfl ?_
                have loop_118_263 : ∀ (g_118 : Nat), ∀ (j118 : Nat)  (V118 : Wd), j118 + g_118 = 16 → (JR D b N cl [(100, 100, 36, 36), (100, 100, 37, 37), (100, 100, 14, 14), (100, 100, 16, 16), (100, 100, 17, 17), (101, 101, 0, 191)] V V118) → (V118 100 = cO 11 [.ref (b + 101), .ref (b + 102), .ref (b + 103), .ref (b + 104), .ref (b + 105), .ref (b + 106), .ref (b + 107), .ref (b + 108), .ref (b + 109), .int ftoldPeople_k259, .int ftoldDoors_k259, .int fwasDoors_k259, .ref (b + 110), .int (nI tad_k259), .int (nI pl0_k259), .int (nI le0_k259), .int ffault_k259, .int (nI nu0_k259), .int fopen_k259, .int (nI coy_k259), .int (nI wag_k259), .int (nI say_k259), .int (nI cl), .ref (b + 111), .ref (b + 112), .ref (b + 113), .ref (b + 114), .ref (b + 115), .ref (b + 116), .ref (b + 117), .ref (b + 118), .ref (b + 119), .ref (b + 120), .ref (b + 121), .ref (b + 122), .ref (b + 123), .int flines_k259, .int fmeantSet_k259, .int fopenedNow_k259, .int fvainNow_k259, .ref (b + 124), .ref (b + 125), .ref (b + 126), .ref (b + 127), .ref (b + 128), .int flowNow_k259, .int fhighNow_k259, .ref (b + 129), .ref (b + 130), .ref (b + 131), .ref (b + 132), .int fisKept_k259]) → (V118 110 = cB D 260 g_1) → AW l D b jX12_readsDread (fx_rm 3 0 0) none (fx_MQ D b 0 0 (fx_qi (fun r N9 V9 => ((r = 0 ∨ r = 1) ∧ (∃ a9, pl ≤ a9 ∧ a9 ≤ 240 ∧ FG b 14 a9 V9 ∧ FG b 15 ln V9 ∧ V9 110 = V 110)) ∧ N = N9 ∧ JR D b N cl [(100, 100, 36, 36), (100, 100, 37, 37), (100, 100, 14, 14), (100, 100, 16, 16), (100, 100, 17, 17), (101, 101, 0, 191)] V V9))) 118 [some (.ref (b + 100)), some (.int (nI i0)), some (.int r_208), some (.int (nI j118)), none] [] N V118 0 0 := by
                  intro g_118
                  induction g_118 with
                  | zero =>
                    intro j118  V118 hj118 i118_0 i118_1 i118_2
                    obtain rfl : j118 = 16 := by omega
                    refine aw_iload_n dX12_readsDread_118 rfl ?_
                    refine aw_bipush (v := 16) dX12_readsDread_119 (by decide) ?_
                    refine aw_icmp_ge (tgt := 203) dX12_readsDread_121 (by decide) (fun c_266 => ?_) (fun c_266 => ?_)
                    rotate_left
                    · exact absurd (nI_le (a := 16) (b := 16) (Nat.le_refl _) (by omega)) c_266
                    refine aw_iconst (v := 1) dX12_readsDread_203 (by decide) ?_
                    refine aw_zreti dX12_readsDread_204 rfl (by first | exact Or.inl rfl | exact Or.inr rfl | assumption) (Nat.le_of_ble_eq_true rfl) (Nat.le_of_ble_eq_true rfl) ?_
                    exact ⟨⟨(by first | exact Or.inl rfl | exact Or.inr rfl | assumption), ⟨pl0_k259, by omega, by omega, (FG.of i118_1 rfl rfl), (FG.of i118_1 rfl (by omega : le0_k259 = ln)), (i118_2).trans e_1.symm⟩⟩, rfl, i118_0⟩
                  | succ g_118 ih_118_264 =>
                    intro j118  V118 hj118 i118_0 i118_1 i118_2
                    have hlj118 : j118 < 16 := by omega
                    refine aw_iload_n dX12_readsDread_118 rfl ?_
                    refine aw_bipush (v := 16) dX12_readsDread_119 (by decide) ?_
                    refine aw_icmp_ge (tgt := 203) dX12_readsDread_121 (by decide) (fun c_267 => ?_) (fun c_267 => ?_)
                    · exact absurd c_267 (nI_ge (a := j118) (b := 16) (by omega) (by omega))
                    refine aw_aload_n dX12_readsDread_124 rfl ?_
                    refine aw_get dX12_readsDread_125 fl_X12_262 i118_1 (by omega) rfl ?_
                    refine aw_iload_n dX12_readsDread_128 rfl ?_
                    refine aw_callSi (J' := jX12_has) (As := [.int fmeantSet_k259, .int (nI j118)]) (st := []) dX12_readsDread_129 tb_1315 ok_X12_has rfl (r_has l D b N V118 hN cl i118_0.1 fmeantSet_k259 (nI j118)) rfl (Nat.le_of_ble_eq_true rfl) ⟨Nat.le_of_ble_eq_true rfl, Nat.le_of_ble_eq_true rfl, Nat.le_of_ble_eq_true rfl, Nat.le_of_ble_eq_true rfl⟩ (fun r_270 N_271 V_272 q_273 => ?_)
                    obtain ⟨h_269, rfl, rfl⟩ := q_273
                    refine aw_if_ne (tgt := 138) dX12_readsDread_132 (by decide) (fun c_274 => ?_) (fun c_274 => ?_)
                    · skip
                      refine aw_iconst (v := 0) dX12_readsDread_138 (by decide) ?_
                      refine aw_bipush (v := 16) dX12_readsDread_139 (by decide) ?_
                      refine aw_iload_n dX12_readsDread_141 rfl ?_
                      refine aw_imul dX12_readsDread_142 ?_
                      refine aw_eqi (y := nI (16 * i0)) (pk_mul _ _) ?_
                      refine aw_iadd dX12_readsDread_143 ?_
                      refine aw_eqi (y := nI (0 + (16 * i0))) (nI_add _ _) ?_
                      refine aw_iload_n dX12_readsDread_144 rfl ?_
                      refine aw_iadd dX12_readsDread_145 ?_
                      refine aw_eqi (y := nI ((0 + (16 * i0)) + j118)) (nI_add _ _) ?_
                      refine aw_istore (ls' := [some (.ref (b + 100)), some (.int (nI i0)), some (.int r_208), some (.int (nI j118)), some (.int (nI ((0 + (16 * i0)) + j118)))]) dX12_readsDread_146 (Nat.le_of_ble_eq_true rfl) rfl ?_
                      refine aw_aload_n dX12_readsDread_148 rfl ?_
                      refine aw_get dX12_readsDread_149 fl_X12_7 i118_1 (by omega) rfl ?_
                      refine aw_iload dX12_readsDread_152 rfl ?_
                      refine aw_iload_n dX12_readsDread_154 rfl ?_
                      refine aw_bipush (v := 61) dX12_readsDread_155 (by decide) ?_
                      refine aw_icmp_ne (tgt := 167) dX12_readsDread_157 (by decide) (fun c_275 => ?_) (fun c_275 => ?_)
                      rotate_left
                      · first | exact absurd c_212 c_275 | exact absurd c_275 c_212
                      refine aw_aload_n dX12_readsDread_167 rfl ?_
                      refine aw_get dX12_readsDread_168 fl_X12_7 i118_1 (by omega) rfl ?_
                      refine aw_iload dX12_readsDread_171 rfl ?_
                      obtain ⟨g_276, e_276⟩ := JR.get i118_0 cm_101
                      refine aw_iald (v := (g_276 ((0 + (16 * i0)) + j118))) dX12_readsDread_173 e_276 (by omega) (vp_in_nI (n := ((0 + (16 * i0)) + j118)) (by omega) (by omega)) (congrArg g_276 (nI_clamp (n := ((0 + (16 * i0)) + j118)) (by omega))) ?_
                      refine aw_iload_n dX12_readsDread_174 rfl ?_
                      refine aw_bipush (v := 43) dX12_readsDread_175 (by decide) ?_
                      refine aw_icmp_ne (tgt := 187) dX12_readsDread_177 (by decide) (fun c_277 => ?_) (fun c_277 => ?_)
                      · first | exact absurd c_277 c_245 | exact absurd c_245 c_277 | exact absurd c_277 (Int32.not_lt.mpr c_245) | exact absurd c_245 (Int32.not_lt.mpr c_277) | exact c_245 (Int32.not_lt.mp c_277) | exact c_245 (Int32.not_le.mp c_277)
                      have hlc_277 := here_lt h_207 c_277 (by decide)
                      refine aw_aload_n dX12_readsDread_180 rfl ?_
                      refine aw_get dX12_readsDread_181 fl_X12_175 i118_1 (by omega) rfl ?_
                      refine aw_goto (tgt := 192) dX12_readsDread_184 (by decide) ?_
                      refine aw_iadd dX12_readsDread_192 ?_
                      refine aw_callSi (J' := jX12_limit) (As := [.int ((g_276 ((0 + (16 * i0)) + j118)) + (nI nu0_k259))]) (st := [.int (nI ((0 + (16 * i0)) + j118)), .ref (b + 101)]) dX12_readsDread_193 tb_1322 ok_X12_limit rfl (r_limit l D b N V118 hN cl i118_0.1 ((g_276 ((0 + (16 * i0)) + j118)) + (nI nu0_k259))) rfl (Nat.le_of_ble_eq_true rfl) ⟨Nat.le_of_ble_eq_true rfl, Nat.le_of_ble_eq_true rfl, Nat.le_of_ble_eq_true rfl, Nat.le_of_ble_eq_true rfl⟩ (fun r_279 N_280 V_281 q_282 => ?_)
                      obtain ⟨rfl, rfl⟩ := q_282
                      refine aw_iast dX12_readsDread_196 e_276 (by omega) (vp_in_nI (n := ((0 + (16 * i0)) + j118)) (by omega) (by omega)) ?_
                      refine aw_upR i118_0 cm_101 ⟨_, rfl⟩ (by decide) (WE e_276 (LMs (LMs (LMs (LMs (LMs LM0))))) (by decide) (by decide) (by rw [nI_clamp (n := ((0 + (16 * i0)) + j118)) (by omega)]; omega) (by rw [nI_clamp (n := ((0 + (16 * i0)) + j118)) (by omega)]; omega)) (fun V_283 j_283 k_283 e_283 => ?_)
                      refine aw_iinc (v := (nI (j118 + 1))) (ls' := [some (.ref (b + 100)), some (.int (nI i0)), some (.int r_208), some (.int (nI (j118 + 1))), some (.int (nI ((0 + (16 * i0)) + j118)))]) dX12_readsDread_197 rfl (fx_up_1 _) (Nat.le_of_ble_eq_true rfl) rfl ?_
                      refine aw_goto (tgt := 118) dX12_readsDread_200 (by decide) ?_
                      refine aw_le ?_ (ih_118_264 (j118 + 1)  V_283 (by omega) (j_283) (((k_283 _ (by decide)).trans i118_1)) (((k_283 _ (by decide)).trans i118_2)))
                      exact ⟨rfl, ⟨rfl, ⟨rfl, ⟨rfl, trivial⟩⟩⟩⟩
                    · skip
                      refine aw_goto (tgt := 197) dX12_readsDread_135 (by decide) ?_
                      refine aw_iinc (v := (nI (j118 + 1))) (ls' := [some (.ref (b + 100)), some (.int (nI i0)), some (.int r_208), some (.int (nI (j118 + 1))), none]) dX12_readsDread_197 rfl (fx_up_1 _) (Nat.le_of_ble_eq_true rfl) rfl ?_
                      refine aw_goto (tgt := 118) dX12_readsDread_200 (by decide) ?_
                      refine aw_le ?_ (ih_118_264 (j118 + 1)  V118 (by omega) (i118_0) (i118_1) (i118_2))
                      exact ⟨rfl, ⟨rfl, ⟨rfl, ⟨rfl, trivial⟩⟩⟩⟩
                refine aw_le ?_ (loop_118_263 16 0  V_251 (by omega) (j_250) (e_k259) ((hz_257.trans ((k_246 _ (by decide)).trans (hz_199.trans ((k_188 _ (by decide)).trans e_1))))))
                exact ⟨rfl, ⟨rfl, ⟨rfl, ⟨rfl, trivial⟩⟩⟩⟩
              · skip
                refine aw_iconst (v := 0) dX12_readsDread_114 (by decide) ?_
                refine aw_zreti dX12_readsDread_115 rfl (by first | exact Or.inl rfl | exact Or.inr rfl | assumption) (Nat.le_of_ble_eq_true rfl) (Nat.le_of_ble_eq_true rfl) ?_
                exact ⟨⟨(by first | exact Or.inl rfl | exact Or.inr rfl | assumption), ⟨pl0_k259, by omega, by omega, (FG.of e_k259 rfl rfl), (FG.of e_k259 rfl (by omega : le0_k259 = ln)), ((hz_257.trans ((k_246 _ (by decide)).trans (hz_199.trans ((k_188 _ (by decide)).trans e_1))))).trans e_1.symm⟩⟩, rfl, j_250⟩
            · skip
              refine aw_iload_n dX12_readsDread_81 rfl ?_
              refine aw_bipush (v := 45) dX12_readsDread_82 (by decide) ?_
              refine aw_icmp_eq (tgt := 97) dX12_readsDread_84 (by decide) (fun c_284 => ?_) (fun c_284 => ?_)
              · skip
                have hlc_284 := here_lt h_207 c_284 (by decide)
                refine aw_aload_n dX12_readsDread_97 rfl ?_
                refine aw_aload_n dX12_readsDread_98 rfl ?_
                refine aw_get dX12_readsDread_99 fl_X12_159 e_k201 (by omega) rfl ?_
                refine aw_iconst (v := 1) dX12_readsDread_102 (by decide) ?_
                refine aw_iadd dX12_readsDread_103 ?_
                refine aw_eqi (y := nI (pl0_k201 + 1)) (nI_add _ _) ?_
                refine aw_put dX12_readsDread_104 fp_X12_159 e_k201 (by omega) rfl rfl (Nat.le_of_ble_eq_true rfl) rfl ?_
                refine aw_upR j_192 cm_100 ⟨_, _, _, _, _, _, _, _, _, _, _, _, tad_k201, (pl0_k201 + 1), le0_k201, nu0_k201, coy_k201, wag_k201, say_k201, rfl, by omega, by omega, by omega, by omega, by omega, by omega, by omega⟩ (by decide) (WO (s := 14) (x := .int (nI (pl0_k201 + 1))) e_k201 rfl (LMs (LMs LM0)) (by decide) (by decide) (by decide) (Or.inl (by decide))) (fun V_285 j_285 k_285 e_285 => ?_)
                refine aw_aload_n dX12_readsDread_107 rfl ?_
                refine aw_callVi (J' := jX12_readsAmount) (As := []) (st := []) dX12_readsDread_108 tb_1318 ok_X12_readsAmount ⟨_, e_285⟩ (by omega) rfl rfl (r_readsAmount l D b N V_285 hN cl j_285.1 (pl0_k201 + 1) le0_k201 (FG.of e_285 rfl rfl) (FG.of e_285 rfl rfl) ⟨by omega, by omega⟩) rfl (Nat.le_of_ble_eq_true rfl) ⟨Nat.le_of_ble_eq_true rfl, Nat.le_of_ble_eq_true rfl, Nat.le_of_ble_eq_true rfl, Nat.le_of_ble_eq_true rfl⟩ (fun r_299 N_300 V_290 q_301 => ?_)
                obtain ⟨⟨z_288, h_287⟩, rfl, q_286⟩ := q_301
                have j_289 := JR.trans j_285 (JR.weak q_286 (Sub.cons (LMs (LMs (LMs (LMs LM0)))) (by decide) (by decide) (by decide) (Or.inr ⟨by decide, by decide⟩) (Sub.cons (LMs (LMs LM0)) (by decide) (by decide) (by decide) (Or.inr ⟨by decide, by decide⟩) (Sub.cons (LMs (LMs (LMs LM0))) (by decide) (by decide) (by decide) (Or.inr ⟨by decide, by decide⟩) Sub.nil))))
                obtain ⟨a_291, ha_292, hA_293, hF_294, hL_295, hz_296⟩ := h_287
                obtain ⟨ftoldPeople_k298, ftoldDoors_k298, fwasDoors_k298, ffault_k298, fopen_k298, flines_k298, fmeantSet_k298, fopenedNow_k298, fvainNow_k298, flowNow_k298, fhighNow_k298, fisKept_k298, tad_k298, pl0_k298, le0_k298, nu0_k298, coy_k298, wag_k298, say_k298, e_k298, hntad_k298, hnpl0_k298, hnle0_k298, hnnu0_k298, hncoy_k298, hnwag_k298, hnsay_k298⟩ := JR.get j_289 cm_100
                have hqp_k298 := FG.eq hF_294 e_k298 rfl (by omega) (by omega)
                have hql_k298 := FG.eq hL_295 e_k298 rfl (by omega) (by omega)
                refine aw_if_ne (tgt := 116) dX12_readsDread_111 (by decide) (fun c_302 => ?_) (fun c_302 => ?_)
                · skip
                  refine aw_iconst (v := 0) dX12_readsDread_116 (by decide) ?_
                  refine aw_istore_n (ls' := [some (.ref (b + 100)), some (.int (nI i0)), some (.int r_208), some (.int 0), none]) dX12_readsDread_117 (Nat.le_of_ble_eq_true rfl) rfl ?_
                  have loop_118_302 : ∀ (g_118 : Nat), ∀ (j118 : Nat)  (V118 : Wd), j118 + g_118 = 16 → (JR D b N cl [(100, 100, 36, 36), (100, 100, 37, 37), (100, 100, 14, 14), (100, 100, 16, 16), (100, 100, 17, 17), (101, 101, 0, 191)] V V118) → (V118 100 = cO 11 [.ref (b + 101), .ref (b + 102), .ref (b + 103), .ref (b + 104), .ref (b + 105), .ref (b + 106), .ref (b + 107), .ref (b + 108), .ref (b + 109), .int ftoldPeople_k298, .int ftoldDoors_k298, .int fwasDoors_k298, .ref (b + 110), .int (nI tad_k298), .int (nI pl0_k298), .int (nI le0_k298), .int ffault_k298, .int (nI nu0_k298), .int fopen_k298, .int (nI coy_k298), .int (nI wag_k298), .int (nI say_k298), .int (nI cl), .ref (b + 111), .ref (b + 112), .ref (b + 113), .ref (b + 114), .ref (b + 115), .ref (b + 116), .ref (b + 117), .ref (b + 118), .ref (b + 119), .ref (b + 120), .ref (b + 121), .ref (b + 122), .ref (b + 123), .int flines_k298, .int fmeantSet_k298, .int fopenedNow_k298, .int fvainNow_k298, .ref (b + 124), .ref (b + 125), .ref (b + 126), .ref (b + 127), .ref (b + 128), .int flowNow_k298, .int fhighNow_k298, .ref (b + 129), .ref (b + 130), .ref (b + 131), .ref (b + 132), .int fisKept_k298]) → (V118 110 = cB D 260 g_1) → AW l D b jX12_readsDread (fx_rm 3 0 0) none (fx_MQ D b 0 0 (fx_qi (fun r N9 V9 => ((r = 0 ∨ r = 1) ∧ (∃ a9, pl ≤ a9 ∧ a9 ≤ 240 ∧ FG b 14 a9 V9 ∧ FG b 15 ln V9 ∧ V9 110 = V 110)) ∧ N = N9 ∧ JR D b N cl [(100, 100, 36, 36), (100, 100, 37, 37), (100, 100, 14, 14), (100, 100, 16, 16), (100, 100, 17, 17), (101, 101, 0, 191)] V V9))) 118 [some (.ref (b + 100)), some (.int (nI i0)), some (.int r_208), some (.int (nI j118)), none] [] N V118 0 0 := by
                    intro g_118
                    induction g_118 with
                    | zero =>
                      intro j118  V118 hj118 i118_0 i118_1 i118_2
                      obtain rfl : j118 = 16 := by omega
                      refine aw_iload_n dX12_readsDread_118 rfl ?_
                      refine aw_bipush (v := 16) dX12_readsDread_119 (by decide) ?_
                      refine aw_icmp_ge (tgt := 203) dX12_readsDread_121 (by decide) (fun c_305 => ?_) (fun c_305 => ?_)
                      rotate_left
                      · exact absurd (nI_le (a := 16) (b := 16) (Nat.le_refl _) (by omega)) c_305
                      refine aw_iconst (v := 1) dX12_readsDread_203 (by decide) ?_
                      refine aw_zreti dX12_readsDread_204 rfl (by first | exact Or.inl rfl | exact Or.inr rfl | assumption) (Nat.le_of_ble_eq_true rfl) (Nat.le_of_ble_eq_true rfl) ?_
                      exact ⟨⟨(by first | exact Or.inl rfl | exact Or.inr rfl | assumption), ⟨pl0_k298, by omega, by omega, (FG.of i118_1 rfl rfl), (FG.of i118_1 rfl (by omega : le0_k298 = ln)), (i118_2).trans e_1.symm⟩⟩, rfl, i118_0⟩
                    | succ g_118 ih_118_303 =>
                      intro j118  V118 hj118 i118_0 i118_1 i118_2
                      have hlj118 : j118 < 16 := by omega
                      refine aw_iload_n dX12_readsDread_118 rfl ?_
                      refine aw_bipush (v := 16) dX12_readsDread_119 (by decide) ?_
                      refine aw_icmp_ge (tgt := 203) dX12_readsDread_121 (by decide) (fun c_306 => ?_) (fun c_306 => ?_)
                      · exact absurd c_306 (nI_ge (a := j118) (b := 16) (by omega) (by omega))
                      refine aw_aload_n dX12_readsDread_124 rfl ?_
                      refine aw_get dX12_readsDread_125 fl_X12_262 i118_1 (by omega) rfl ?_
                      refine aw_iload_n dX12_readsDread_128 rfl ?_
                      refine aw_callSi (J' := jX12_has) (As := [.int fmeantSet_k298, .int (nI j118)]) (st := []) dX12_readsDread_129 tb_1315 ok_X12_has rfl (r_has l D b N V118 hN cl i118_0.1 fmeantSet_k298 (nI j118)) rfl (Nat.le_of_ble_eq_true rfl) ⟨Nat.le_of_ble_eq_true rfl, Nat.le_of_ble_eq_true rfl, Nat.le_of_ble_eq_true rfl, Nat.le_of_ble_eq_true rfl⟩ (fun r_309 N_310 V_311 q_312 => ?_)
                      obtain ⟨h_308, rfl, rfl⟩ := q_312
                      refine aw_if_ne (tgt := 138) dX12_readsDread_132 (by decide) (fun c_313 => ?_) (fun c_313 => ?_)
                      · skip
                        refine aw_iconst (v := 0) dX12_readsDread_138 (by decide) ?_
                        refine aw_bipush (v := 16) dX12_readsDread_139 (by decide) ?_
                        refine aw_iload_n dX12_readsDread_141 rfl ?_
                        refine aw_imul dX12_readsDread_142 ?_
                        refine aw_eqi (y := nI (16 * i0)) (pk_mul _ _) ?_
                        refine aw_iadd dX12_readsDread_143 ?_
                        refine aw_eqi (y := nI (0 + (16 * i0))) (nI_add _ _) ?_
                        refine aw_iload_n dX12_readsDread_144 rfl ?_
                        refine aw_iadd dX12_readsDread_145 ?_
                        refine aw_eqi (y := nI ((0 + (16 * i0)) + j118)) (nI_add _ _) ?_
                        refine aw_istore (ls' := [some (.ref (b + 100)), some (.int (nI i0)), some (.int r_208), some (.int (nI j118)), some (.int (nI ((0 + (16 * i0)) + j118)))]) dX12_readsDread_146 (Nat.le_of_ble_eq_true rfl) rfl ?_
                        refine aw_aload_n dX12_readsDread_148 rfl ?_
                        refine aw_get dX12_readsDread_149 fl_X12_7 i118_1 (by omega) rfl ?_
                        refine aw_iload dX12_readsDread_152 rfl ?_
                        refine aw_iload_n dX12_readsDread_154 rfl ?_
                        refine aw_bipush (v := 61) dX12_readsDread_155 (by decide) ?_
                        refine aw_icmp_ne (tgt := 167) dX12_readsDread_157 (by decide) (fun c_314 => ?_) (fun c_314 => ?_)
                        rotate_left
                        · first | exact absurd c_212 c_314 | exact absurd c_314 c_212
                        refine aw_aload_n dX12_readsDread_167 rfl ?_
                        refine aw_get dX12_readsDread_168 fl_X12_7 i118_1 (by omega) rfl ?_
                        refine aw_iload dX12_readsDread_171 rfl ?_
                        obtain ⟨g_315, e_315⟩ := JR.get i118_0 cm_101
                        refine aw_iald (v := (g_315 ((0 + (16 * i0)) + j118))) dX12_readsDread_173 e_315 (by omega) (vp_in_nI (n := ((0 + (16 * i0)) + j118)) (by omega) (by omega)) (congrArg g_315 (nI_clamp (n := ((0 + (16 * i0)) + j118)) (by omega))) ?_
                        refine aw_iload_n dX12_readsDread_174 rfl ?_
                        refine aw_bipush (v := 43) dX12_readsDread_175 (by decide) ?_
                        refine aw_icmp_ne (tgt := 187) dX12_readsDread_177 (by decide) (fun c_316 => ?_) (fun c_316 => ?_)
                        rotate_left
                        · first | exact absurd c_245 c_316 | exact absurd c_316 c_245
                        refine aw_aload_n dX12_readsDread_187 rfl ?_
                        refine aw_get dX12_readsDread_188 fl_X12_175 i118_1 (by omega) rfl ?_
                        refine aw_ineg dX12_readsDread_191 ?_
                        refine aw_iadd dX12_readsDread_192 ?_
                        refine aw_callSi (J' := jX12_limit) (As := [.int ((g_315 ((0 + (16 * i0)) + j118)) + (-(nI nu0_k298)))]) (st := [.int (nI ((0 + (16 * i0)) + j118)), .ref (b + 101)]) dX12_readsDread_193 tb_1322 ok_X12_limit rfl (r_limit l D b N V118 hN cl i118_0.1 ((g_315 ((0 + (16 * i0)) + j118)) + (-(nI nu0_k298)))) rfl (Nat.le_of_ble_eq_true rfl) ⟨Nat.le_of_ble_eq_true rfl, Nat.le_of_ble_eq_true rfl, Nat.le_of_ble_eq_true rfl, Nat.le_of_ble_eq_true rfl⟩ (fun r_318 N_319 V_320 q_321 => ?_)
                        obtain ⟨rfl, rfl⟩ := q_321
                        refine aw_iast dX12_readsDread_196 e_315 (by omega) (vp_in_nI (n := ((0 + (16 * i0)) + j118)) (by omega) (by omega)) ?_
                        refine aw_upR i118_0 cm_101 ⟨_, rfl⟩ (by decide) (WE e_315 (LMs (LMs (LMs (LMs (LMs LM0))))) (by decide) (by decide) (by rw [nI_clamp (n := ((0 + (16 * i0)) + j118)) (by omega)]; omega) (by rw [nI_clamp (n := ((0 + (16 * i0)) + j118)) (by omega)]; omega)) (fun V_322 j_322 k_322 e_322 => ?_)
                        refine aw_iinc (v := (nI (j118 + 1))) (ls' := [some (.ref (b + 100)), some (.int (nI i0)), some (.int r_208), some (.int (nI (j118 + 1))), some (.int (nI ((0 + (16 * i0)) + j118)))]) dX12_readsDread_197 rfl (fx_up_1 _) (Nat.le_of_ble_eq_true rfl) rfl ?_
                        refine aw_goto (tgt := 118) dX12_readsDread_200 (by decide) ?_
                        refine aw_le ?_ (ih_118_303 (j118 + 1)  V_322 (by omega) (j_322) (((k_322 _ (by decide)).trans i118_1)) (((k_322 _ (by decide)).trans i118_2)))
                        exact ⟨rfl, ⟨rfl, ⟨rfl, ⟨rfl, trivial⟩⟩⟩⟩
                      · skip
                        refine aw_goto (tgt := 197) dX12_readsDread_135 (by decide) ?_
                        refine aw_iinc (v := (nI (j118 + 1))) (ls' := [some (.ref (b + 100)), some (.int (nI i0)), some (.int r_208), some (.int (nI (j118 + 1))), none]) dX12_readsDread_197 rfl (fx_up_1 _) (Nat.le_of_ble_eq_true rfl) rfl ?_
                        refine aw_goto (tgt := 118) dX12_readsDread_200 (by decide) ?_
                        refine aw_le ?_ (ih_118_303 (j118 + 1)  V118 (by omega) (i118_0) (i118_1) (i118_2))
                        exact ⟨rfl, ⟨rfl, ⟨rfl, ⟨rfl, trivial⟩⟩⟩⟩
                  refine aw_le ?_ (loop_118_302 16 0  V_290 (by omega) (j_289) (e_k298) ((hz_296.trans ((k_285 _ (by decide)).trans (hz_199.trans ((k_188 _ (by decide)).trans e_1))))))
                  exact ⟨rfl, ⟨rfl, ⟨rfl, ⟨rfl, trivial⟩⟩⟩⟩
                · skip
                  refine aw_iconst (v := 0) dX12_readsDread_114 (by decide) ?_
                  refine aw_zreti dX12_readsDread_115 rfl (by first | exact Or.inl rfl | exact Or.inr rfl | assumption) (Nat.le_of_ble_eq_true rfl) (Nat.le_of_ble_eq_true rfl) ?_
                  exact ⟨⟨(by first | exact Or.inl rfl | exact Or.inr rfl | assumption), ⟨pl0_k298, by omega, by omega, (FG.of e_k298 rfl rfl), (FG.of e_k298 rfl (by omega : le0_k298 = ln)), ((hz_296.trans ((k_285 _ (by decide)).trans (hz_199.trans ((k_188 _ (by decide)).trans e_1))))).trans e_1.symm⟩⟩, rfl, j_289⟩
              · skip
                refine aw_aload_n dX12_readsDread_87 rfl ?_
                refine aw_iconst (v := 1) dX12_readsDread_88 (by decide) ?_
                refine aw_aload_n dX12_readsDread_89 rfl ?_
                refine aw_get dX12_readsDread_90 fl_X12_159 e_k201 (by omega) rfl ?_
                refine aw_callVi (J' := jX12_wrongAt) (As := [.int 1, .int (nI pl0_k201)]) (st := []) dX12_readsDread_93 tb_1224 ok_X12_wrongAt ⟨_, e_k201⟩ (by omega) rfl rfl (r_wrongAt l D b N V_193 hN cl j_192.1 1 (nI pl0_k201) pl0_k201 le0_k201 (FG.of e_k201 rfl rfl) (FG.of e_k201 rfl rfl) ⟨by omega, by omega⟩) rfl (Nat.le_of_ble_eq_true rfl) ⟨Nat.le_of_ble_eq_true rfl, Nat.le_of_ble_eq_true rfl, Nat.le_of_ble_eq_true rfl, Nat.le_of_ble_eq_true rfl⟩ (fun r_336 N_337 V_327 q_338 => ?_)
                obtain ⟨⟨z_325, h_324⟩, rfl, q_323⟩ := q_338
                have j_326 := JR.trans j_192 (JR.weak q_323 (Sub.cons (LMs (LMs (LMs LM0))) (by decide) (by decide) (by decide) (Or.inr ⟨by decide, by decide⟩) Sub.nil))
                obtain ⟨a_328, ha_329, hA_330, hF_331, hL_332, hz_333, hX_334⟩ := h_324
                obtain ⟨ftoldPeople_k335, ftoldDoors_k335, fwasDoors_k335, ffault_k335, fopen_k335, flines_k335, fmeantSet_k335, fopenedNow_k335, fvainNow_k335, flowNow_k335, fhighNow_k335, fisKept_k335, tad_k335, pl0_k335, le0_k335, nu0_k335, coy_k335, wag_k335, say_k335, e_k335, hntad_k335, hnpl0_k335, hnle0_k335, hnnu0_k335, hncoy_k335, hnwag_k335, hnsay_k335⟩ := JR.get j_326 cm_100
                have hqp_k335 := FG.eq hF_331 e_k335 rfl (by omega) (by omega)
                have hql_k335 := FG.eq hL_332 e_k335 rfl (by omega) (by omega)
                obtain rfl := hX_334
                refine aw_zreti dX12_readsDread_96 rfl (by first | exact Or.inl rfl | exact Or.inr rfl | assumption) (Nat.le_of_ble_eq_true rfl) (Nat.le_of_ble_eq_true rfl) ?_
                exact ⟨⟨(by first | exact Or.inl rfl | exact Or.inr rfl | assumption), ⟨pl0_k335, by omega, by omega, (FG.of e_k335 rfl rfl), (FG.of e_k335 rfl (by omega : le0_k335 = ln)), ((hz_333.trans (hz_199.trans ((k_188 _ (by decide)).trans e_1)))).trans e_1.symm⟩⟩, rfl, j_326⟩
        · skip
          refine aw_iconst (v := 0) dX12_readsDread_62 (by decide) ?_
          refine aw_zreti dX12_readsDread_63 rfl (by first | exact Or.inl rfl | exact Or.inr rfl | assumption) (Nat.le_of_ble_eq_true rfl) (Nat.le_of_ble_eq_true rfl) ?_
          exact ⟨⟨(by first | exact Or.inl rfl | exact Or.inr rfl | assumption), ⟨pl0_k201, by omega, by omega, (FG.of e_k201 rfl rfl), (FG.of e_k201 rfl (by omega : le0_k201 = ln)), ((hz_199.trans ((k_188 _ (by decide)).trans e_1))).trans e_1.symm⟩⟩, rfl, j_192⟩
      · skip
        refine aw_aload_n dX12_readsDread_35 rfl ?_
        refine aw_iconst (v := 4) dX12_readsDread_36 (by decide) ?_
        refine aw_aload_n dX12_readsDread_37 rfl ?_
        refine aw_get dX12_readsDread_38 fl_X12_159 e_2 (by omega) rfl ?_
        refine aw_callVi (J' := jX12_wrongAt) (As := [.int 4, .int (nI pl0_2)]) (st := []) dX12_readsDread_41 tb_1224 ok_X12_wrongAt ⟨_, e_2⟩ (by omega) rfl rfl (r_wrongAt l D b N V hN cl hJ0.1 4 (nI pl0_2) pl0_2 le0_2 (FG.of e_2 rfl rfl) (FG.of e_2 rfl rfl) ⟨by omega, by omega⟩) rfl (Nat.le_of_ble_eq_true rfl) ⟨Nat.le_of_ble_eq_true rfl, Nat.le_of_ble_eq_true rfl, Nat.le_of_ble_eq_true rfl, Nat.le_of_ble_eq_true rfl⟩ (fun r_352 N_353 V_343 q_354 => ?_)
        obtain ⟨⟨z_341, h_340⟩, rfl, q_339⟩ := q_354
        have j_342 := JR.trans hJ0 (JR.weak q_339 (Sub.cons (LMs (LMs (LMs LM0))) (by decide) (by decide) (by decide) (Or.inr ⟨by decide, by decide⟩) Sub.nil))
        obtain ⟨a_344, ha_345, hA_346, hF_347, hL_348, hz_349, hX_350⟩ := h_340
        obtain ⟨ftoldPeople_k351, ftoldDoors_k351, fwasDoors_k351, ffault_k351, fopen_k351, flines_k351, fmeantSet_k351, fopenedNow_k351, fvainNow_k351, flowNow_k351, fhighNow_k351, fisKept_k351, tad_k351, pl0_k351, le0_k351, nu0_k351, coy_k351, wag_k351, say_k351, e_k351, hntad_k351, hnpl0_k351, hnle0_k351, hnnu0_k351, hncoy_k351, hnwag_k351, hnsay_k351⟩ := JR.get j_342 cm_100
        have hqp_k351 := FG.eq hF_347 e_k351 rfl (by omega) (by omega)
        have hql_k351 := FG.eq hL_348 e_k351 rfl (by omega) (by omega)
        obtain rfl := hX_350
        refine aw_zreti dX12_readsDread_44 rfl (by first | exact Or.inl rfl | exact Or.inr rfl | assumption) (Nat.le_of_ble_eq_true rfl) (Nat.le_of_ble_eq_true rfl) ?_
        exact ⟨⟨(by first | exact Or.inl rfl | exact Or.inr rfl | assumption), ⟨pl0_k351, by omega, by omega, (FG.of e_k351 rfl rfl), (FG.of e_k351 rfl (by omega : le0_k351 = ln)), ((hz_349.trans e_1)).trans e_1.symm⟩⟩, rfl, j_342⟩
    · skip
      refine aw_aload_n dX12_readsDread_16 rfl ?_
      refine aw_iconst (v := 1) dX12_readsDread_17 (by decide) ?_
      refine aw_aload_n dX12_readsDread_18 rfl ?_
      refine aw_get dX12_readsDread_19 fl_X12_159 e_2 (by omega) rfl ?_
      refine aw_callVi (J' := jX12_wrongAt) (As := [.int 1, .int (nI pl0_2)]) (st := []) dX12_readsDread_22 tb_1224 ok_X12_wrongAt ⟨_, e_2⟩ (by omega) rfl rfl (r_wrongAt l D b N V hN cl hJ0.1 1 (nI pl0_2) pl0_2 le0_2 (FG.of e_2 rfl rfl) (FG.of e_2 rfl rfl) ⟨by omega, by omega⟩) rfl (Nat.le_of_ble_eq_true rfl) ⟨Nat.le_of_ble_eq_true rfl, Nat.le_of_ble_eq_true rfl, Nat.le_of_ble_eq_true rfl, Nat.le_of_ble_eq_true rfl⟩ (fun r_368 N_369 V_359 q_370 => ?_)
      obtain ⟨⟨z_357, h_356⟩, rfl, q_355⟩ := q_370
      have j_358 := JR.trans hJ0 (JR.weak q_355 (Sub.cons (LMs (LMs (LMs LM0))) (by decide) (by decide) (by decide) (Or.inr ⟨by decide, by decide⟩) Sub.nil))
      obtain ⟨a_360, ha_361, hA_362, hF_363, hL_364, hz_365, hX_366⟩ := h_356
      obtain ⟨ftoldPeople_k367, ftoldDoors_k367, fwasDoors_k367, ffault_k367, fopen_k367, flines_k367, fmeantSet_k367, fopenedNow_k367, fvainNow_k367, flowNow_k367, fhighNow_k367, fisKept_k367, tad_k367, pl0_k367, le0_k367, nu0_k367, coy_k367, wag_k367, say_k367, e_k367, hntad_k367, hnpl0_k367, hnle0_k367, hnnu0_k367, hncoy_k367, hnwag_k367, hnsay_k367⟩ := JR.get j_358 cm_100
      have hqp_k367 := FG.eq hF_363 e_k367 rfl (by omega) (by omega)
      have hql_k367 := FG.eq hL_364 e_k367 rfl (by omega) (by omega)
      obtain rfl := hX_366
      refine aw_zreti dX12_readsDread_25 rfl (by first | exact Or.inl rfl | exact Or.inr rfl | assumption) (Nat.le_of_ble_eq_true rfl) (Nat.le_of_ble_eq_true rfl) ?_
      exact ⟨⟨(by first | exact Or.inl rfl | exact Or.inr rfl | assumption), ⟨pl0_k367, by omega, by omega, (FG.of e_k367 rfl rfl), (FG.of e_k367 rfl (by omega : le0_k367 = ln)), ((hz_365.trans e_1)).trans e_1.symm⟩⟩, rfl, j_358⟩

set_option maxHeartbeats 4000000 in
set_option maxRecDepth 100000 in
theorem r_beginsText (l : Launch) (D : va_G) (b : Nat) (N : Nat) (V : Wd) (hN : 133 ≤ N) (cl : Nat) (hW : CR D b cl V) (n0 : Int32) (hn0 : ∃ j : Nat, j < 241 ∧ n0 = nI j)  : MV l D b 0 jX12_beginsText [.ref (b + 100), .int n0] N V 0 0 (fun N9 V9 => (FG b 14 0 V9 ∧ FG b 19 0 V9 ∧ FG b 21 0 V9 ∧ ∃ k, (n0 = nI k ∧ k ≤ 240) ∧ FG b 15 k V9) ∧ N = N9 ∧ JR D b N cl [(100, 100, 14, 14), (100, 100, 15, 15), (100, 100, 19, 19), (100, 100, 21, 21)] V V9) := by
  have hJ0 : JR D b N cl [(100, 100, 14, 14), (100, 100, 15, 15), (100, 100, 19, 19), (100, 100, 21, 21)] V V := JR.rf hW
  obtain ⟨i0, hi0, rfl⟩ := hn0
  refine mw_of (by decide) (by simp [Value.category]) (Nat.le_of_ble_eq_true rfl) ?_
  show AW l D b jX12_beginsText (fx_rm 0 0 0) none (fx_MQ D b 0 0 (fx_qv (fun N9 V9 => (FG b 14 0 V9 ∧ FG b 19 0 V9 ∧ FG b 21 0 V9 ∧ ∃ k, ((nI i0) = nI k ∧ k ≤ 240) ∧ FG b 15 k V9) ∧ N = N9 ∧ JR D b N cl [(100, 100, 14, 14), (100, 100, 15, 15), (100, 100, 19, 19), (100, 100, 21, 21)] V V9))) 0 [some (.ref (b + 100)), some (.int (nI i0))] [] N V 0 0
  refine aw_aload_n dX12_beginsText_0 rfl ?_
  refine aw_iconst (v := 0) dX12_beginsText_1 (by decide) ?_
  obtain ⟨ftoldPeople_1, ftoldDoors_1, fwasDoors_1, ffault_1, fopen_1, flines_1, fmeantSet_1, fopenedNow_1, fvainNow_1, flowNow_1, fhighNow_1, fisKept_1, tad_1, pl0_1, le0_1, nu0_1, coy_1, wag_1, say_1, e_1, hntad_1, hnpl0_1, hnle0_1, hnnu0_1, hncoy_1, hnwag_1, hnsay_1⟩ := JR.get hJ0 cm_100
  refine aw_put dX12_beginsText_2 fp_X12_159 e_1 (by omega) rfl rfl (Nat.le_of_ble_eq_true rfl) rfl ?_
  refine aw_upR hJ0 cm_100 ⟨_, _, _, _, _, _, _, _, _, _, _, _, tad_1, 0, le0_1, nu0_1, coy_1, wag_1, say_1, rfl, by omega, by omega, by omega, by omega, by omega, by omega, by omega⟩ (by decide) (WO (s := 14) (x := .int 0) e_1 rfl LM0 (by decide) (by decide) (by decide) (Or.inl (by decide))) (fun V_2 j_2 k_2 e_2 => ?_)
  refine aw_aload_n dX12_beginsText_5 rfl ?_
  refine aw_iload_n dX12_beginsText_6 rfl ?_
  refine aw_put dX12_beginsText_7 fp_X12_162 e_2 (by omega) rfl rfl (Nat.le_of_ble_eq_true rfl) rfl ?_
  refine aw_upR j_2 cm_100 ⟨_, _, _, _, _, _, _, _, _, _, _, _, tad_1, 0, i0, nu0_1, coy_1, wag_1, say_1, rfl, by omega, by omega, by omega, by omega, by omega, by omega, by omega⟩ (by decide) (WO (s := 15) (x := .int (nI i0)) e_2 rfl (LMs LM0) (by decide) (by decide) (by decide) (Or.inl (by decide))) (fun V_3 j_3 k_3 e_3 => ?_)
  refine aw_aload_n dX12_beginsText_10 rfl ?_
  refine aw_iconst (v := 0) dX12_beginsText_11 (by decide) ?_
  refine aw_put dX12_beginsText_12 fp_X12_182 e_3 (by omega) rfl rfl (Nat.le_of_ble_eq_true rfl) rfl ?_
  refine aw_upR j_3 cm_100 ⟨_, _, _, _, _, _, _, _, _, _, _, _, tad_1, 0, i0, nu0_1, 0, wag_1, say_1, rfl, by omega, by omega, by omega, by omega, by omega, by omega, by omega⟩ (by decide) (WO (s := 19) (x := .int 0) e_3 rfl (LMs (LMs LM0)) (by decide) (by decide) (by decide) (Or.inl (by decide))) (fun V_4 j_4 k_4 e_4 => ?_)
  refine aw_aload_n dX12_beginsText_15 rfl ?_
  refine aw_iconst (v := 0) dX12_beginsText_16 (by decide) ?_
  refine aw_put dX12_beginsText_17 fp_X12_236 e_4 (by omega) rfl rfl (Nat.le_of_ble_eq_true rfl) rfl ?_
  refine aw_upR j_4 cm_100 ⟨_, _, _, _, _, _, _, _, _, _, _, _, tad_1, 0, i0, nu0_1, 0, wag_1, 0, rfl, by omega, by omega, by omega, by omega, by omega, by omega, by omega⟩ (by decide) (WO (s := 21) (x := .int 0) e_4 rfl (LMs (LMs (LMs LM0))) (by decide) (by decide) (by decide) (Or.inl (by decide))) (fun V_5 j_5 k_5 e_5 => ?_)
  refine aw_vreti dX12_beginsText_20 rfl (Nat.le_of_ble_eq_true rfl) (Nat.le_of_ble_eq_true rfl) ?_
  exact ⟨⟨(FG.of e_5 rfl rfl), (FG.of e_5 rfl rfl), (FG.of e_5 rfl rfl), i0, ⟨rfl, by omega⟩, (FG.of e_5 rfl rfl)⟩, rfl, j_5⟩

set_option maxHeartbeats 4000000 in
set_option maxRecDepth 100000 in
theorem r_dreads (l : Launch) (D : va_G) (b : Nat) (N : Nat) (V : Wd) (hN : 133 ≤ N) (cl : Nat) (hW : CR D b cl V) (n0 : Int32) (n1 : Int32)  : MI l D b 4 jX12_dreads [.ref (b + 100), .int n0, .int n1] N V 0 0 (fun r N9 V9 => N = N9 ∧ JR D b N cl [(101, 102, 0, 1000000), (100, 100, 14, 14), (100, 100, 15, 15), (100, 100, 19, 19), (100, 100, 21, 21), (100, 100, 36, 36), (100, 100, 37, 37), (100, 100, 16, 16), (100, 100, 17, 17), (100, 100, 13, 13), (100, 100, 9, 9)] V V9) := by
  have hJ0 : JR D b N cl [(101, 102, 0, 1000000), (100, 100, 14, 14), (100, 100, 15, 15), (100, 100, 19, 19), (100, 100, 21, 21), (100, 100, 36, 36), (100, 100, 37, 37), (100, 100, 16, 16), (100, 100, 17, 17), (100, 100, 13, 13), (100, 100, 9, 9)] V V := JR.rf hW
  refine mw_of (by decide) (by simp [Value.category]) (Nat.le_of_ble_eq_true rfl) ?_
  show AW l D b jX12_dreads (fx_rm 4 0 0) none (fx_MQ D b 0 0 (fx_qi (fun r N9 V9 => N = N9 ∧ JR D b N cl [(101, 102, 0, 1000000), (100, 100, 14, 14), (100, 100, 15, 15), (100, 100, 19, 19), (100, 100, 21, 21), (100, 100, 36, 36), (100, 100, 37, 37), (100, 100, 16, 16), (100, 100, 17, 17), (100, 100, 13, 13), (100, 100, 9, 9)] V V9))) 0 [some (.ref (b + 100)), some (.int n0), some (.int n1), none] [] N V 0 0
  refine aw_iload_n dX12_dreads_0 rfl ?_
  refine aw_iconst (v := 0) dX12_dreads_1 (by decide) ?_
  refine aw_bipush (v := 11) dX12_dreads_2 (by decide) ?_
  refine aw_callSi (J' := jX12_in) (As := [.int n0, .int 0, .int 11]) (st := []) dX12_dreads_4 tb_1209 ok_X12_in rfl (r_in l D b N V hN cl hJ0.1 n0 0 11) rfl (Nat.le_of_ble_eq_true rfl) ⟨Nat.le_of_ble_eq_true rfl, Nat.le_of_ble_eq_true rfl, Nat.le_of_ble_eq_true rfl, Nat.le_of_ble_eq_true rfl⟩ (fun r_4 N_5 V_6 q_7 => ?_)
  obtain ⟨⟨z_3, h_2⟩, rfl, rfl⟩ := q_7
  refine aw_if_eq (tgt := 28) dX12_dreads_7 (by decide) (fun c_8 => ?_) (fun c_8 => ?_)
  · skip
    refine aw_iconst (v := (-1)) dX12_dreads_28 (by decide) ?_
    refine aw_ireti dX12_dreads_29 rfl (Nat.le_of_ble_eq_true rfl) (Nat.le_of_ble_eq_true rfl) ?_
    exact ⟨rfl, hJ0⟩
  · skip
    obtain ⟨zn0, h0zn0, hzn0, rfl⟩ := in_nat (a := 0) (b := 11) (by decide) (h_2.resolve_left c_8)
    refine aw_iload_n dX12_dreads_10 rfl ?_
    refine aw_iconst (v := 1) dX12_dreads_11 (by decide) ?_
    refine aw_bipush (v := 120) dX12_dreads_12 (by decide) ?_
    refine aw_callSi (J' := jX12_in) (As := [.int n1, .int 1, .int 120]) (st := []) dX12_dreads_14 tb_1209 ok_X12_in rfl (r_in l D b N V hN cl hJ0.1 n1 1 120) rfl (Nat.le_of_ble_eq_true rfl) ⟨Nat.le_of_ble_eq_true rfl, Nat.le_of_ble_eq_true rfl, Nat.le_of_ble_eq_true rfl, Nat.le_of_ble_eq_true rfl⟩ (fun r_12 N_13 V_14 q_15 => ?_)
    obtain ⟨⟨z_11, h_10⟩, rfl, rfl⟩ := q_15
    refine aw_if_eq (tgt := 28) dX12_dreads_17 (by decide) (fun c_16 => ?_) (fun c_16 => ?_)
    · skip
      refine aw_iconst (v := (-1)) dX12_dreads_28 (by decide) ?_
      refine aw_ireti dX12_dreads_29 rfl (Nat.le_of_ble_eq_true rfl) (Nat.le_of_ble_eq_true rfl) ?_
      exact ⟨rfl, hJ0⟩
    · skip
      obtain ⟨zn1, h0zn1, hzn1, rfl⟩ := in_nat (a := 1) (b := 120) (by decide) (h_10.resolve_left c_16)
      refine aw_iload_n dX12_dreads_20 rfl ?_
      refine aw_aload_n dX12_dreads_21 rfl ?_
      obtain ⟨ftoldPeople_17, ftoldDoors_17, fwasDoors_17, ffault_17, fopen_17, flines_17, fmeantSet_17, fopenedNow_17, fvainNow_17, flowNow_17, fhighNow_17, fisKept_17, tad_17, pl0_17, le0_17, nu0_17, coy_17, wag_17, say_17, e_17, hntad_17, hnpl0_17, hnle0_17, hnnu0_17, hncoy_17, hnwag_17, hnsay_17⟩ := JR.get hJ0 cm_100
      refine aw_get dX12_dreads_22 fl_X12_152 e_17 (by omega) rfl ?_
      refine aw_icmp_le (tgt := 30) dX12_dreads_25 (by decide) (fun c_18 => ?_) (fun c_18 => ?_)
      · skip
        have nc_18 : zn1 ≤ tad_17 := (nI_leI (a := zn1) (b := tad_17) (by omega) (by omega)).mp c_18
        refine aw_aload_n dX12_dreads_30 rfl ?_
        refine aw_iload_n dX12_dreads_31 rfl ?_
        refine aw_callVv (J' := jX12_beginsText) (As := [.int (nI zn1)]) (st := []) dX12_dreads_32 tb_1212 ok_X12_beginsText ⟨_, e_17⟩ (by omega) rfl rfl (r_beginsText l D b N V hN cl hJ0.1 (nI zn1) ⟨zn1, by omega, rfl⟩) rfl (Nat.le_of_ble_eq_true rfl) ⟨Nat.le_of_ble_eq_true rfl, Nat.le_of_ble_eq_true rfl, Nat.le_of_ble_eq_true rfl, Nat.le_of_ble_eq_true rfl⟩ (fun  N_30 V_22 q_31 => ?_)
        obtain ⟨h_20, rfl, q_19⟩ := q_31
        have j_21 := JR.trans hJ0 (JR.weak q_19 (Sub.cons (LMs LM0) (by decide) (by decide) (by decide) (Or.inr ⟨by decide, by decide⟩) (Sub.cons (LMs (LMs LM0)) (by decide) (by decide) (by decide) (Or.inr ⟨by decide, by decide⟩) (Sub.cons (LMs (LMs (LMs LM0))) (by decide) (by decide) (by decide) (Or.inr ⟨by decide, by decide⟩) (Sub.cons (LMs (LMs (LMs (LMs LM0)))) (by decide) (by decide) (by decide) (Or.inr ⟨by decide, by decide⟩) Sub.nil)))))
        obtain ⟨hB_23, hB_25, hB_26, hB_27, hB_28, hB_24⟩ := h_20
        have hk_k29 : zn1 = hB_27 := (nI_eq (by omega) (by omega)).mp hB_28.1
        obtain ⟨ftoldPeople_k29, ftoldDoors_k29, fwasDoors_k29, ffault_k29, fopen_k29, flines_k29, fmeantSet_k29, fopenedNow_k29, fvainNow_k29, flowNow_k29, fhighNow_k29, fisKept_k29, tad_k29, pl0_k29, le0_k29, nu0_k29, coy_k29, wag_k29, say_k29, e_k29, hntad_k29, hnpl0_k29, hnle0_k29, hnnu0_k29, hncoy_k29, hnwag_k29, hnsay_k29⟩ := JR.get j_21 cm_100
        have hq0_k29 := FG.eq hB_23 e_k29 rfl (by omega) (by omega)
        have hq1_k29 := FG.eq hB_24 e_k29 rfl (by omega) (by omega)
        have hq2_k29 := FG.eq hB_25 e_k29 rfl (by omega) (by omega)
        have hq3_k29 := FG.eq hB_26 e_k29 rfl (by omega) (by omega)
        refine aw_aload_n dX12_dreads_35 rfl ?_
        refine aw_iconst (v := 0) dX12_dreads_36 (by decide) ?_
        refine aw_put dX12_dreads_37 fp_X12_268 e_k29 (by omega) rfl rfl (Nat.le_of_ble_eq_true rfl) rfl ?_
        refine aw_upR j_21 cm_100 ⟨_, _, _, _, _, _, _, _, _, _, _, _, tad_k29, pl0_k29, le0_k29, nu0_k29, coy_k29, wag_k29, say_k29, rfl, by omega, by omega, by omega, by omega, by omega, by omega, by omega⟩ (by decide) (WO (s := 36) (x := .int 0) e_k29 rfl (LMs (LMs (LMs (LMs (LMs LM0))))) (by decide) (by decide) (by decide) (Or.inl (by decide))) (fun V_32 j_32 k_32 e_32 => ?_)
        refine aw_aload_n dX12_dreads_40 rfl ?_
        refine aw_get dX12_dreads_41 fl_X12_7 e_32 (by omega) rfl ?_
        refine aw_aload_n dX12_dreads_44 rfl ?_
        refine aw_get dX12_dreads_45 fl_X12_13 e_32 (by omega) rfl ?_
        refine aw_callSv (J' := jX12_copies) (As := [.ref (b + 101), .ref (b + 102)]) (st := []) dX12_dreads_48 tb_1299 ok_X12_copies rfl (r_copies l D b N V_32 hN cl j_32.1 101 1 cm_101 102 2 cm_102 (by decide)) rfl (Nat.le_of_ble_eq_true rfl) ⟨Nat.le_of_ble_eq_true rfl, Nat.le_of_ble_eq_true rfl, Nat.le_of_ble_eq_true rfl, Nat.le_of_ble_eq_true rfl⟩ (fun  N_36 V_35 q_37 => ?_)
        obtain ⟨rfl, q_33⟩ := q_37
        have j_34 := JR.trans j_32 (JR.weak q_33 (Sub.cons LM0 (by decide) (by decide) (by decide) (Or.inl rfl) Sub.nil))
        refine aw_aload_n dX12_dreads_51 rfl ?_
        refine aw_iload_n dX12_dreads_52 rfl ?_
        obtain ⟨ftoldPeople_38, ftoldDoors_38, fwasDoors_38, ffault_38, fopen_38, flines_38, fmeantSet_38, fopenedNow_38, fvainNow_38, flowNow_38, fhighNow_38, fisKept_38, tad_38, pl0_38, le0_38, nu0_38, coy_38, wag_38, say_38, e_38, hntad_38, hnpl0_38, hnle0_38, hnnu0_38, hncoy_38, hnwag_38, hnsay_38⟩ := JR.get j_34 cm_100
        obtain ⟨g_51, e_51⟩ := JR.get j_34 cm_110
        refine aw_callVi (J' := jX12_readsDread) (As := [.int (nI zn0)]) (st := []) dX12_dreads_53 tb_1302 ok_X12_readsDread ⟨_, e_38⟩ (by omega) rfl rfl (r_readsDread l D b N V_35 hN cl j_34.1 (nI zn0) ⟨zn0, by omega, rfl⟩ pl0_38 le0_38 (FG.of e_38 rfl rfl) (FG.of e_38 rfl rfl) ⟨by omega, by omega⟩) rfl (Nat.le_of_ble_eq_true rfl) ⟨Nat.le_of_ble_eq_true rfl, Nat.le_of_ble_eq_true rfl, Nat.le_of_ble_eq_true rfl, Nat.le_of_ble_eq_true rfl⟩ (fun r_53 N_54 V_43 q_55 => ?_)
        obtain ⟨⟨z_41, h_40⟩, rfl, q_39⟩ := q_55
        have j_42 := JR.trans j_34 (JR.weak q_39 (Sub.cons (LMs (LMs (LMs (LMs (LMs LM0))))) (by decide) (by decide) (by decide) (Or.inr ⟨by decide, by decide⟩) (Sub.cons (LMs (LMs (LMs (LMs (LMs (LMs LM0)))))) (by decide) (by decide) (by decide) (Or.inr ⟨by decide, by decide⟩) (Sub.cons (LMs LM0) (by decide) (by decide) (by decide) (Or.inr ⟨by decide, by decide⟩) (Sub.cons (LMs (LMs (LMs (LMs (LMs (LMs (LMs LM0))))))) (by decide) (by decide) (by decide) (Or.inr ⟨by decide, by decide⟩) (Sub.cons (LMs (LMs (LMs (LMs (LMs (LMs (LMs (LMs LM0)))))))) (by decide) (by decide) (by decide) (Or.inr ⟨by decide, by decide⟩) (Sub.cons LM0 (by decide) (by decide) (by decide) (Or.inl rfl) Sub.nil)))))))
        obtain ⟨a_44, ha_45, hA_46, hF_47, hL_48, hz_49⟩ := h_40
        obtain ⟨ftoldPeople_k52, ftoldDoors_k52, fwasDoors_k52, ffault_k52, fopen_k52, flines_k52, fmeantSet_k52, fopenedNow_k52, fvainNow_k52, flowNow_k52, fhighNow_k52, fisKept_k52, tad_k52, pl0_k52, le0_k52, nu0_k52, coy_k52, wag_k52, say_k52, e_k52, hntad_k52, hnpl0_k52, hnle0_k52, hnnu0_k52, hncoy_k52, hnwag_k52, hnsay_k52⟩ := JR.get j_42 cm_100
        have hqp_k52 := FG.eq hF_47 e_k52 rfl (by omega) (by omega)
        have hql_k52 := FG.eq hL_48 e_k52 rfl (by omega) (by omega)
        refine aw_istore_n (ls' := [some (.ref (b + 100)), some (.int (nI zn0)), some (.int (nI zn1)), some (.int r_53)]) dX12_dreads_56 (Nat.le_of_ble_eq_true rfl) rfl ?_
        have ml_57_56 : ∀ (m : Nat) (a57 : Nat) (v57_3 : Int32) (V57 : Wd), m = 2 * (240 - a57) + (if v57_3 = 0 then 0 else 1) → (JR D b N cl [(101, 102, 0, 1000000), (100, 100, 14, 14), (100, 100, 15, 15), (100, 100, 19, 19), (100, 100, 21, 21), (100, 100, 36, 36), (100, 100, 37, 37), (100, 100, 16, 16), (100, 100, 17, 17), (100, 100, 13, 13), (100, 100, 9, 9)] V V57) → (FG b 14 a57 V57) → (FG b 15 le0_k52 V57) → (a57 ≤ 240 ∧ le0_k52 ≤ 240) → AW l D b jX12_dreads (fx_rm 4 0 0) none (fx_MQ D b 0 0 (fx_qi (fun r N9 V9 => N = N9 ∧ JR D b N cl [(101, 102, 0, 1000000), (100, 100, 14, 14), (100, 100, 15, 15), (100, 100, 19, 19), (100, 100, 21, 21), (100, 100, 36, 36), (100, 100, 37, 37), (100, 100, 16, 16), (100, 100, 17, 17), (100, 100, 13, 13), (100, 100, 9, 9)] V V9))) 57 [some (.ref (b + 100)), some (.int (nI zn0)), some (.int (nI zn1)), some (.int v57_3)] [] N V57 0 0 := by
          intro m; refine Nat.strongRecOn m ?_
          intro m mih_57_56 a57 v57_3 V57 hm57 i57_0 i57_1 i57_2 i57_3
          obtain ⟨ftoldPeople_57, ftoldDoors_57, fwasDoors_57, ffault_57, fopen_57, flines_57, fmeantSet_57, fopenedNow_57, fvainNow_57, flowNow_57, fhighNow_57, fisKept_57, tad_57, pl0_57, le0_57, nu0_57, coy_57, wag_57, say_57, e_57, hntad_57, hnpl0_57, hnle0_57, hnnu0_57, hncoy_57, hnwag_57, hnsay_57⟩ := JR.get i57_0 cm_100
          have hqp_57 := FG.eq i57_1 e_57 rfl (by omega) (by omega)
          have hql_57 := FG.eq i57_2 e_57 rfl (by omega) (by omega)
          refine aw_iload_n dX12_dreads_57 rfl ?_
          refine aw_if_eq (tgt := 98) dX12_dreads_58 (by decide) (fun c_58 => ?_) (fun c_58 => ?_)
          · skip
            refine aw_aload_n dX12_dreads_98 rfl ?_
            refine aw_iconst (v := 0) dX12_dreads_99 (by decide) ?_
            refine aw_put dX12_dreads_100 fp_X12_152 e_57 (by omega) rfl rfl (Nat.le_of_ble_eq_true rfl) rfl ?_
            refine aw_upR i57_0 cm_100 ⟨_, _, _, _, _, _, _, _, _, _, _, _, 0, pl0_57, le0_57, nu0_57, coy_57, wag_57, say_57, rfl, by omega, by omega, by omega, by omega, by omega, by omega, by omega⟩ (by decide) (WO (s := 13) (x := .int 0) e_57 rfl (LMs (LMs (LMs (LMs (LMs (LMs (LMs (LMs (LMs LM0))))))))) (by decide) (by decide) (by decide) (Or.inl (by decide))) (fun V_59 j_59 k_59 e_59 => ?_)
            refine aw_iload_n dX12_dreads_103 rfl ?_
            refine aw_if_ne (tgt := 123) dX12_dreads_104 (by decide) (fun c_60 => ?_) (fun c_60 => ?_)
            · first | exact absurd c_60 c_58 | exact absurd c_58 c_60 | exact absurd c_60 (Int32.not_lt.mpr c_58) | exact absurd c_58 (Int32.not_lt.mpr c_60) | exact c_58 (Int32.not_lt.mp c_60) | exact c_58 (Int32.not_le.mp c_60)
            refine aw_aload_n dX12_dreads_107 rfl ?_
            refine aw_get dX12_dreads_108 fl_X12_13 e_59 (by omega) rfl ?_
            refine aw_aload_n dX12_dreads_111 rfl ?_
            refine aw_get dX12_dreads_112 fl_X12_7 e_59 (by omega) rfl ?_
            refine aw_callSv (J' := jX12_copies) (As := [.ref (b + 102), .ref (b + 101)]) (st := []) dX12_dreads_115 tb_1299 ok_X12_copies rfl (r_copies l D b N V_59 hN cl j_59.1 102 2 cm_102 101 1 cm_101 (by decide)) rfl (Nat.le_of_ble_eq_true rfl) ⟨Nat.le_of_ble_eq_true rfl, Nat.le_of_ble_eq_true rfl, Nat.le_of_ble_eq_true rfl, Nat.le_of_ble_eq_true rfl⟩ (fun  N_64 V_63 q_65 => ?_)
            obtain ⟨rfl, q_61⟩ := q_65
            have j_62 := JR.trans j_59 (JR.weak q_61 (Sub.cons LM0 (by decide) (by decide) (by decide) (Or.inl rfl) Sub.nil))
            refine aw_aload_n dX12_dreads_118 rfl ?_
            obtain ⟨ftoldPeople_66, ftoldDoors_66, fwasDoors_66, ffault_66, fopen_66, flines_66, fmeantSet_66, fopenedNow_66, fvainNow_66, flowNow_66, fhighNow_66, fisKept_66, tad_66, pl0_66, le0_66, nu0_66, coy_66, wag_66, say_66, e_66, hntad_66, hnpl0_66, hnle0_66, hnnu0_66, hncoy_66, hnwag_66, hnsay_66⟩ := JR.get j_62 cm_100
            refine aw_get dX12_dreads_119 fl_X12_169 e_66 (by omega) rfl ?_
            refine aw_ireti dX12_dreads_122 rfl (Nat.le_of_ble_eq_true rfl) (Nat.le_of_ble_eq_true rfl) ?_
            exact ⟨rfl, j_62⟩
          · skip
            refine aw_aload_n dX12_dreads_61 rfl ?_
            refine aw_get dX12_dreads_62 fl_X12_159 e_57 (by omega) rfl ?_
            refine aw_aload_n dX12_dreads_65 rfl ?_
            refine aw_get dX12_dreads_66 fl_X12_162 e_57 (by omega) rfl ?_
            refine aw_icmp_ge (tgt := 98) dX12_dreads_69 (by decide) (fun c_67 => ?_) (fun c_67 => ?_)
            · skip
              have nc_67 : le0_57 ≤ pl0_57 := (nI_leI (a := le0_57) (b := pl0_57) (by omega) (by omega)).mp c_67
              refine aw_aload_n dX12_dreads_98 rfl ?_
              refine aw_iconst (v := 0) dX12_dreads_99 (by decide) ?_
              refine aw_put dX12_dreads_100 fp_X12_152 e_57 (by omega) rfl rfl (Nat.le_of_ble_eq_true rfl) rfl ?_
              refine aw_upR i57_0 cm_100 ⟨_, _, _, _, _, _, _, _, _, _, _, _, 0, pl0_57, le0_57, nu0_57, coy_57, wag_57, say_57, rfl, by omega, by omega, by omega, by omega, by omega, by omega, by omega⟩ (by decide) (WO (s := 13) (x := .int 0) e_57 rfl (LMs (LMs (LMs (LMs (LMs (LMs (LMs (LMs (LMs LM0))))))))) (by decide) (by decide) (by decide) (Or.inl (by decide))) (fun V_68 j_68 k_68 e_68 => ?_)
              refine aw_iload_n dX12_dreads_103 rfl ?_
              refine aw_if_ne (tgt := 123) dX12_dreads_104 (by decide) (fun c_69 => ?_) (fun c_69 => ?_)
              rotate_left
              · first | exact absurd c_58 c_69 | exact absurd c_69 c_58
              refine aw_aload_n dX12_dreads_123 rfl ?_
              refine aw_aload_n dX12_dreads_124 rfl ?_
              refine aw_get dX12_dreads_125 fl_X12_121 e_68 (by omega) rfl ?_
              refine aw_iconst (v := 1) dX12_dreads_128 (by decide) ?_
              refine aw_iload_n dX12_dreads_129 rfl ?_
              refine aw_ishl dX12_dreads_130 ?_
              refine aw_ior dX12_dreads_131 ?_
              refine aw_put dX12_dreads_132 fp_X12_121 e_68 (by omega) rfl rfl (Nat.le_of_ble_eq_true rfl) rfl ?_
              refine aw_upR j_68 cm_100 ⟨_, _, _, _, _, _, _, _, _, _, _, _, 0, pl0_57, le0_57, nu0_57, coy_57, wag_57, say_57, rfl, by omega, by omega, by omega, by omega, by omega, by omega, by omega⟩ (by decide) (WO (s := 9) (x := .int (ftoldPeople_57 ||| ((1 : Int32) <<< ((nI zn0) &&& 31)))) e_68 rfl (LMs (LMs (LMs (LMs (LMs (LMs (LMs (LMs (LMs (LMs LM0)))))))))) (by decide) (by decide) (by decide) (Or.inl (by decide))) (fun V_70 j_70 k_70 e_70 => ?_)
              refine aw_aload_n dX12_dreads_135 rfl ?_
              refine aw_get dX12_dreads_136 fl_X12_268 e_70 (by omega) rfl ?_
              refine aw_ireti dX12_dreads_139 rfl (Nat.le_of_ble_eq_true rfl) (Nat.le_of_ble_eq_true rfl) ?_
              exact ⟨rfl, j_70⟩
            · skip
              have nc_67 : ¬ (le0_57 ≤ pl0_57) := fun z => c_67 ((nI_leI (a := le0_57) (b := pl0_57) (by omega) (by omega)).mpr z)
              refine aw_aload_n dX12_dreads_72 rfl ?_
              refine aw_bipush (v := 59) dX12_dreads_73 (by decide) ?_
              obtain ⟨g_83, e_83⟩ := JR.get i57_0 cm_110
              refine aw_callVi (J' := jX12_takes) (As := [.int 59]) (st := []) dX12_dreads_75 tb_1291 ok_X12_takes ⟨_, e_57⟩ (by omega) rfl rfl (r_takes l D b N V57 hN cl i57_0.1 59 pl0_57 le0_57 (FG.of e_57 rfl rfl) (FG.of e_57 rfl rfl) ⟨by omega, by omega⟩ (by decide)) rfl (Nat.le_of_ble_eq_true rfl) ⟨Nat.le_of_ble_eq_true rfl, Nat.le_of_ble_eq_true rfl, Nat.le_of_ble_eq_true rfl, Nat.le_of_ble_eq_true rfl⟩ (fun r_85 N_86 V_75 q_87 => ?_)
              obtain ⟨⟨z_73, h_72⟩, rfl, q_71⟩ := q_87
              have j_74 := JR.trans i57_0 (JR.weak q_71 (Sub.cons (LMs LM0) (by decide) (by decide) (by decide) (Or.inr ⟨by decide, by decide⟩) (Sub.cons (LMs (LMs (LMs (LMs (LMs (LMs (LMs LM0))))))) (by decide) (by decide) (by decide) (Or.inr ⟨by decide, by decide⟩) Sub.nil)))
              obtain ⟨a_76, ha_77, hA_78, hF_79, hL_80, hz_81, hX_82⟩ := h_72
              obtain ⟨ftoldPeople_k84, ftoldDoors_k84, fwasDoors_k84, ffault_k84, fopen_k84, flines_k84, fmeantSet_k84, fopenedNow_k84, fvainNow_k84, flowNow_k84, fhighNow_k84, fisKept_k84, tad_k84, pl0_k84, le0_k84, nu0_k84, coy_k84, wag_k84, say_k84, e_k84, hntad_k84, hnpl0_k84, hnle0_k84, hnnu0_k84, hncoy_k84, hnwag_k84, hnsay_k84⟩ := JR.get j_74 cm_100
              have hqp_k84 := FG.eq hF_79 e_k84 rfl (by omega) (by omega)
              have hql_k84 := FG.eq hL_80 e_k84 rfl (by omega) (by omega)
              refine aw_if_eq (tgt := 93) dX12_dreads_78 (by decide) (fun c_88 => ?_) (fun c_88 => ?_)
              · skip
                refine aw_iconst (v := 0) dX12_dreads_93 (by decide) ?_
                refine aw_istore_n (ls' := [some (.ref (b + 100)), some (.int (nI zn0)), some (.int (nI zn1)), some (.int 0)]) dX12_dreads_94 (Nat.le_of_ble_eq_true rfl) rfl ?_
                refine aw_goto (tgt := 57) dX12_dreads_95 (by decide) ?_
                refine aw_le ?_ (mih_57_56 _ (by rw [hm57]; exact tl_dec c_58 (by omega) (Or.inl rfl) (by omega)) pl0_k84 0 V_75 rfl (j_74) ((FG.of e_k84 rfl rfl)) ((FG.of e_k84 rfl (by omega : le0_k84 = le0_k52))) (by omega))
                exact ⟨rfl, ⟨rfl, ⟨rfl, ⟨rfl, trivial⟩⟩⟩⟩
              · skip
                refine aw_aload_n dX12_dreads_81 rfl ?_
                refine aw_iload_n dX12_dreads_82 rfl ?_
                refine aw_callVi (J' := jX12_readsDread) (As := [.int (nI zn0)]) (st := []) dX12_dreads_83 tb_1302 ok_X12_readsDread ⟨_, e_k84⟩ (by omega) rfl rfl (r_readsDread l D b N V_75 hN cl j_74.1 (nI zn0) ⟨zn0, by omega, rfl⟩ pl0_k84 le0_k84 (FG.of e_k84 rfl rfl) (FG.of e_k84 rfl rfl) ⟨by omega, by omega⟩) rfl (Nat.le_of_ble_eq_true rfl) ⟨Nat.le_of_ble_eq_true rfl, Nat.le_of_ble_eq_true rfl, Nat.le_of_ble_eq_true rfl, Nat.le_of_ble_eq_true rfl⟩ (fun r_102 N_103 V_93 q_104 => ?_)
                obtain ⟨⟨z_91, h_90⟩, rfl, q_89⟩ := q_104
                have j_92 := JR.trans j_74 (JR.weak q_89 (Sub.cons (LMs (LMs (LMs (LMs (LMs LM0))))) (by decide) (by decide) (by decide) (Or.inr ⟨by decide, by decide⟩) (Sub.cons (LMs (LMs (LMs (LMs (LMs (LMs LM0)))))) (by decide) (by decide) (by decide) (Or.inr ⟨by decide, by decide⟩) (Sub.cons (LMs LM0) (by decide) (by decide) (by decide) (Or.inr ⟨by decide, by decide⟩) (Sub.cons (LMs (LMs (LMs (LMs (LMs (LMs (LMs LM0))))))) (by decide) (by decide) (by decide) (Or.inr ⟨by decide, by decide⟩) (Sub.cons (LMs (LMs (LMs (LMs (LMs (LMs (LMs (LMs LM0)))))))) (by decide) (by decide) (by decide) (Or.inr ⟨by decide, by decide⟩) (Sub.cons LM0 (by decide) (by decide) (by decide) (Or.inl rfl) Sub.nil)))))))
                obtain ⟨a_94, ha_95, hA_96, hF_97, hL_98, hz_99⟩ := h_90
                obtain ⟨ftoldPeople_k101, ftoldDoors_k101, fwasDoors_k101, ffault_k101, fopen_k101, flines_k101, fmeantSet_k101, fopenedNow_k101, fvainNow_k101, flowNow_k101, fhighNow_k101, fisKept_k101, tad_k101, pl0_k101, le0_k101, nu0_k101, coy_k101, wag_k101, say_k101, e_k101, hntad_k101, hnpl0_k101, hnle0_k101, hnnu0_k101, hncoy_k101, hnwag_k101, hnsay_k101⟩ := JR.get j_92 cm_100
                have hqp_k101 := FG.eq hF_97 e_k101 rfl (by omega) (by omega)
                have hql_k101 := FG.eq hL_98 e_k101 rfl (by omega) (by omega)
                refine aw_if_eq (tgt := 93) dX12_dreads_86 (by decide) (fun c_105 => ?_) (fun c_105 => ?_)
                · skip
                  refine aw_iconst (v := 0) dX12_dreads_93 (by decide) ?_
                  refine aw_istore_n (ls' := [some (.ref (b + 100)), some (.int (nI zn0)), some (.int (nI zn1)), some (.int 0)]) dX12_dreads_94 (Nat.le_of_ble_eq_true rfl) rfl ?_
                  refine aw_goto (tgt := 57) dX12_dreads_95 (by decide) ?_
                  refine aw_le ?_ (mih_57_56 _ (by rw [hm57]; exact tl_dec c_58 (by omega) (Or.inl rfl) (by omega)) pl0_k101 0 V_93 rfl (j_92) ((FG.of e_k101 rfl rfl)) ((FG.of e_k101 rfl (by omega : le0_k101 = le0_k52))) (by omega))
                  exact ⟨rfl, ⟨rfl, ⟨rfl, ⟨rfl, trivial⟩⟩⟩⟩
                · skip
                  refine aw_iconst (v := 1) dX12_dreads_89 (by decide) ?_
                  refine aw_goto (tgt := 94) dX12_dreads_90 (by decide) ?_
                  refine aw_istore_n (ls' := [some (.ref (b + 100)), some (.int (nI zn0)), some (.int (nI zn1)), some (.int 1)]) dX12_dreads_94 (Nat.le_of_ble_eq_true rfl) rfl ?_
                  refine aw_goto (tgt := 57) dX12_dreads_95 (by decide) ?_
                  refine aw_le ?_ (mih_57_56 _ (by rw [hm57]; exact tl_dec c_58 (by omega) (Or.inr (by have := hX_82.resolve_left c_88; omega)) (by omega)) pl0_k101 1 V_93 rfl (j_92) ((FG.of e_k101 rfl rfl)) ((FG.of e_k101 rfl (by omega : le0_k101 = le0_k52))) (by omega))
                  exact ⟨rfl, ⟨rfl, ⟨rfl, ⟨rfl, trivial⟩⟩⟩⟩
        refine aw_le ?_ (ml_57_56 _ pl0_k52 r_53 V_43 rfl (j_42) ((FG.of e_k52 rfl rfl)) ((FG.of e_k52 rfl (by omega : le0_k52 = le0_k52))) (by omega))
        exact ⟨rfl, ⟨rfl, ⟨rfl, ⟨rfl, trivial⟩⟩⟩⟩
      · skip
        have nc_18 : ¬ (zn1 ≤ tad_17) := fun z => c_18 ((nI_leI (a := zn1) (b := tad_17) (by omega) (by omega)).mpr z)
        refine aw_iconst (v := (-1)) dX12_dreads_28 (by decide) ?_
        refine aw_ireti dX12_dreads_29 rfl (Nat.le_of_ble_eq_true rfl) (Nat.le_of_ble_eq_true rfl) ?_
        exact ⟨rfl, hJ0⟩

set_option maxHeartbeats 4000000 in
set_option maxRecDepth 100000 in
theorem r_readsOne (l : Launch) (D : va_G) (b : Nat) (N : Nat) (V : Wd) (hN : 133 ≤ N) (cl : Nat) (hW : CR D b cl V)  (pl ln : Nat) (hpl : FG b 14 pl V) (hln : FG b 15 ln V) (hb : pl ≤ 240 ∧ ln ≤ 240)  : MI l D b 3 jX12_readsOne [.ref (b + 100)] N V 0 0 (fun r N9 V9 => ((r = 0 ∨ r = 1) ∧ (∃ a9, pl ≤ a9 ∧ a9 ≤ 240 ∧ FG b 14 a9 V9 ∧ FG b 15 ln V9 ∧ V9 110 = V 110 ∧ (r = 0 ∨ ∃ k, k < 12 ∧ FG b 17 k V9))) ∧ N = N9 ∧ JR D b N cl [(100, 100, 17, 17), (100, 100, 14, 14), (100, 100, 16, 16)] V V9) := by
  have hJ0 : JR D b N cl [(100, 100, 17, 17), (100, 100, 14, 14), (100, 100, 16, 16)] V V := JR.rf hW
  refine mw_of (by decide) (by simp [Value.category]) (Nat.le_of_ble_eq_true rfl) ?_
  show AW l D b jX12_readsOne (fx_rm 3 0 0) none (fx_MQ D b 0 0 (fx_qi (fun r N9 V9 => ((r = 0 ∨ r = 1) ∧ (∃ a9, pl ≤ a9 ∧ a9 ≤ 240 ∧ FG b 14 a9 V9 ∧ FG b 15 ln V9 ∧ V9 110 = V 110 ∧ (r = 0 ∨ ∃ k, k < 12 ∧ FG b 17 k V9))) ∧ N = N9 ∧ JR D b N cl [(100, 100, 17, 17), (100, 100, 14, 14), (100, 100, 16, 16)] V V9))) 0 [some (.ref (b + 100)), none] [] N V 0 0
  obtain ⟨g_1, e_1⟩ := JR.get hJ0 cm_110
  obtain ⟨ftoldPeople_2, ftoldDoors_2, fwasDoors_2, ffault_2, fopen_2, flines_2, fmeantSet_2, fopenedNow_2, fvainNow_2, flowNow_2, fhighNow_2, fisKept_2, tad_2, pl0_2, le0_2, nu0_2, coy_2, wag_2, say_2, e_2, hntad_2, hnpl0_2, hnle0_2, hnnu0_2, hncoy_2, hnwag_2, hnsay_2⟩ := JR.get hJ0 cm_100
  have hq_p := FG.eq hpl e_2 rfl (by omega) (by omega)
  have hq_l := FG.eq hln e_2 rfl (by omega) (by omega)
  refine aw_aload_n dX12_readsOne_0 rfl ?_
  refine aw_get dX12_readsOne_1 fl_X12_159 e_2 (by omega) rfl ?_
  refine aw_istore_n (ls' := [some (.ref (b + 100)), some (.int (nI pl0_2))]) dX12_readsOne_4 (Nat.le_of_ble_eq_true rfl) rfl ?_
  refine aw_aload_n dX12_readsOne_5 rfl ?_
  refine aw_callVi (J' := jX12_readsAmount) (As := []) (st := []) dX12_readsOne_6 tb_1318 ok_X12_readsAmount ⟨_, e_2⟩ (by omega) rfl rfl (r_readsAmount l D b N V hN cl hJ0.1 pl0_2 le0_2 (FG.of e_2 rfl rfl) (FG.of e_2 rfl rfl) ⟨by omega, by omega⟩) rfl (Nat.le_of_ble_eq_true rfl) ⟨Nat.le_of_ble_eq_true rfl, Nat.le_of_ble_eq_true rfl, Nat.le_of_ble_eq_true rfl, Nat.le_of_ble_eq_true rfl⟩ (fun r_16 N_17 V_7 q_18 => ?_)
  obtain ⟨⟨z_5, h_4⟩, rfl, q_3⟩ := q_18
  have j_6 := JR.trans hJ0 (JR.weak q_3 (Sub.cons LM0 (by decide) (by decide) (by decide) (Or.inr ⟨by decide, by decide⟩) (Sub.cons (LMs LM0) (by decide) (by decide) (by decide) (Or.inr ⟨by decide, by decide⟩) (Sub.cons (LMs (LMs LM0)) (by decide) (by decide) (by decide) (Or.inr ⟨by decide, by decide⟩) Sub.nil))))
  obtain ⟨a_8, ha_9, hA_10, hF_11, hL_12, hz_13⟩ := h_4
  obtain ⟨ftoldPeople_k15, ftoldDoors_k15, fwasDoors_k15, ffault_k15, fopen_k15, flines_k15, fmeantSet_k15, fopenedNow_k15, fvainNow_k15, flowNow_k15, fhighNow_k15, fisKept_k15, tad_k15, pl0_k15, le0_k15, nu0_k15, coy_k15, wag_k15, say_k15, e_k15, hntad_k15, hnpl0_k15, hnle0_k15, hnnu0_k15, hncoy_k15, hnwag_k15, hnsay_k15⟩ := JR.get j_6 cm_100
  have hqp_k15 := FG.eq hF_11 e_k15 rfl (by omega) (by omega)
  have hql_k15 := FG.eq hL_12 e_k15 rfl (by omega) (by omega)
  refine aw_if_ne (tgt := 14) dX12_readsOne_9 (by decide) (fun c_19 => ?_) (fun c_19 => ?_)
  · skip
    refine aw_aload_n dX12_readsOne_14 rfl ?_
    refine aw_aload_n dX12_readsOne_15 rfl ?_
    refine aw_get dX12_readsOne_16 fl_X12_175 e_k15 (by omega) rfl ?_
    refine aw_callVi (J' := jX12_isTold) (As := [.int (nI nu0_k15)]) (st := []) dX12_readsOne_19 tb_1351 ok_X12_isTold ⟨_, e_k15⟩ (by omega) rfl rfl (r_isTold l D b N V_7 hN cl j_6.1 (nI nu0_k15)) rfl (Nat.le_of_ble_eq_true rfl) ⟨Nat.le_of_ble_eq_true rfl, Nat.le_of_ble_eq_true rfl, Nat.le_of_ble_eq_true rfl, Nat.le_of_ble_eq_true rfl⟩ (fun r_23 N_24 V_25 q_26 => ?_)
    obtain ⟨⟨z_22, h_21⟩, rfl, rfl⟩ := q_26
    refine aw_if_ne (tgt := 35) dX12_readsOne_22 (by decide) (fun c_27 => ?_) (fun c_27 => ?_)
    · skip
      refine aw_iconst (v := 1) dX12_readsOne_35 (by decide) ?_
      refine aw_goto (tgt := 40) dX12_readsOne_36 (by decide) ?_
      refine aw_zreti dX12_readsOne_40 rfl (by first | exact Or.inl rfl | exact Or.inr rfl | assumption) (Nat.le_of_ble_eq_true rfl) (Nat.le_of_ble_eq_true rfl) ?_
      exact ⟨⟨(by first | exact Or.inl rfl | exact Or.inr rfl | assumption), ⟨pl0_k15, by omega, by omega, (FG.of e_k15 rfl rfl), (FG.of e_k15 rfl (by omega : le0_k15 = ln)), ((hz_13.trans e_1)).trans e_1.symm, Or.inr ⟨nu0_k15, (by obtain ⟨j, hj, e⟩ := h_21.resolve_left c_27; have := (nI_eq (by omega) (by omega)).mp e; omega), (FG.of e_k15 rfl rfl)⟩⟩⟩, rfl, j_6⟩
    · skip
      refine aw_aload_n dX12_readsOne_25 rfl ?_
      refine aw_bipush (v := 7) dX12_readsOne_26 (by decide) ?_
      refine aw_iload_n dX12_readsOne_28 rfl ?_
      refine aw_callVi (J' := jX12_wrongAt) (As := [.int 7, .int (nI pl0_2)]) (st := []) dX12_readsOne_29 tb_1224 ok_X12_wrongAt ⟨_, e_k15⟩ (by omega) rfl rfl (r_wrongAt l D b N V_7 hN cl j_6.1 7 (nI pl0_2) pl0_k15 le0_k15 (FG.of e_k15 rfl rfl) (FG.of e_k15 rfl rfl) ⟨by omega, by omega⟩) rfl (Nat.le_of_ble_eq_true rfl) ⟨Nat.le_of_ble_eq_true rfl, Nat.le_of_ble_eq_true rfl, Nat.le_of_ble_eq_true rfl, Nat.le_of_ble_eq_true rfl⟩ (fun r_41 N_42 V_32 q_43 => ?_)
      obtain ⟨⟨z_30, h_29⟩, rfl, q_28⟩ := q_43
      have j_31 := JR.trans j_6 (JR.weak q_28 (Sub.cons (LMs (LMs LM0)) (by decide) (by decide) (by decide) (Or.inr ⟨by decide, by decide⟩) Sub.nil))
      obtain ⟨a_33, ha_34, hA_35, hF_36, hL_37, hz_38, hX_39⟩ := h_29
      obtain ⟨ftoldPeople_k40, ftoldDoors_k40, fwasDoors_k40, ffault_k40, fopen_k40, flines_k40, fmeantSet_k40, fopenedNow_k40, fvainNow_k40, flowNow_k40, fhighNow_k40, fisKept_k40, tad_k40, pl0_k40, le0_k40, nu0_k40, coy_k40, wag_k40, say_k40, e_k40, hntad_k40, hnpl0_k40, hnle0_k40, hnnu0_k40, hncoy_k40, hnwag_k40, hnsay_k40⟩ := JR.get j_31 cm_100
      have hqp_k40 := FG.eq hF_36 e_k40 rfl (by omega) (by omega)
      have hql_k40 := FG.eq hL_37 e_k40 rfl (by omega) (by omega)
      obtain rfl := hX_39
      refine aw_if_eq (tgt := 39) dX12_readsOne_32 (by decide) (fun c_44 => ?_) (fun c_44 => ?_)
      rotate_left
      · exact absurd (by decide) c_44
      refine aw_iconst (v := 0) dX12_readsOne_39 (by decide) ?_
      refine aw_zreti dX12_readsOne_40 rfl (by first | exact Or.inl rfl | exact Or.inr rfl | assumption) (Nat.le_of_ble_eq_true rfl) (Nat.le_of_ble_eq_true rfl) ?_
      exact ⟨⟨(by first | exact Or.inl rfl | exact Or.inr rfl | assumption), ⟨pl0_k40, by omega, by omega, (FG.of e_k40 rfl rfl), (FG.of e_k40 rfl (by omega : le0_k40 = ln)), ((hz_38.trans (hz_13.trans e_1))).trans e_1.symm, Or.inl rfl⟩⟩, rfl, j_31⟩
  · skip
    refine aw_iconst (v := 0) dX12_readsOne_12 (by decide) ?_
    refine aw_zreti dX12_readsOne_13 rfl (by first | exact Or.inl rfl | exact Or.inr rfl | assumption) (Nat.le_of_ble_eq_true rfl) (Nat.le_of_ble_eq_true rfl) ?_
    exact ⟨⟨(by first | exact Or.inl rfl | exact Or.inr rfl | assumption), ⟨pl0_k15, by omega, by omega, (FG.of e_k15 rfl rfl), (FG.of e_k15 rfl (by omega : le0_k15 = ln)), ((hz_13.trans e_1)).trans e_1.symm, Or.inl rfl⟩⟩, rfl, j_6⟩

set_option maxHeartbeats 4000000 in
set_option maxRecDepth 100000 in
theorem r_readsTwo (l : Launch) (D : va_G) (b : Nat) (N : Nat) (V : Wd) (hN : 133 ≤ N) (cl : Nat) (hW : CR D b cl V)  (pl ln : Nat) (hpl : FG b 14 pl V) (hln : FG b 15 ln V) (hb : pl ≤ 240 ∧ ln ≤ 240)  : MI l D b 4 jX12_readsTwo [.ref (b + 100)] N V 0 0 (fun r N9 V9 => ((r = 0 ∨ r = 1) ∧ (∃ a9, pl ≤ a9 ∧ a9 ≤ 240 ∧ FG b 14 a9 V9 ∧ FG b 15 ln V9 ∧ V9 110 = V 110)) ∧ N = N9 ∧ JR D b N cl [(104, 104, 0, 1000000), (100, 100, 17, 17), (100, 100, 14, 14), (100, 100, 16, 16)] V V9) := by
  have hJ0 : JR D b N cl [(104, 104, 0, 1000000), (100, 100, 17, 17), (100, 100, 14, 14), (100, 100, 16, 16)] V V := JR.rf hW
  refine mw_of (by decide) (by simp [Value.category]) (Nat.le_of_ble_eq_true rfl) ?_
  show AW l D b jX12_readsTwo (fx_rm 4 0 0) none (fx_MQ D b 0 0 (fx_qi (fun r N9 V9 => ((r = 0 ∨ r = 1) ∧ (∃ a9, pl ≤ a9 ∧ a9 ≤ 240 ∧ FG b 14 a9 V9 ∧ FG b 15 ln V9 ∧ V9 110 = V 110)) ∧ N = N9 ∧ JR D b N cl [(104, 104, 0, 1000000), (100, 100, 17, 17), (100, 100, 14, 14), (100, 100, 16, 16)] V V9))) 0 [some (.ref (b + 100)), none, none, none, none] [] N V 0 0
  obtain ⟨g_1, e_1⟩ := JR.get hJ0 cm_110
  obtain ⟨ftoldPeople_2, ftoldDoors_2, fwasDoors_2, ffault_2, fopen_2, flines_2, fmeantSet_2, fopenedNow_2, fvainNow_2, flowNow_2, fhighNow_2, fisKept_2, tad_2, pl0_2, le0_2, nu0_2, coy_2, wag_2, say_2, e_2, hntad_2, hnpl0_2, hnle0_2, hnnu0_2, hncoy_2, hnwag_2, hnsay_2⟩ := JR.get hJ0 cm_100
  have hq_p := FG.eq hpl e_2 rfl (by omega) (by omega)
  have hq_l := FG.eq hln e_2 rfl (by omega) (by omega)
  refine aw_aload_n dX12_readsTwo_0 rfl ?_
  refine aw_callVi (J' := jX12_readsOne) (As := []) (st := []) dX12_readsTwo_1 tb_1347 ok_X12_readsOne ⟨_, e_2⟩ (by omega) rfl rfl (r_readsOne l D b N V hN cl hJ0.1 pl0_2 le0_2 (FG.of e_2 rfl rfl) (FG.of e_2 rfl rfl) ⟨by omega, by omega⟩) rfl (Nat.le_of_ble_eq_true rfl) ⟨Nat.le_of_ble_eq_true rfl, Nat.le_of_ble_eq_true rfl, Nat.le_of_ble_eq_true rfl, Nat.le_of_ble_eq_true rfl⟩ (fun r_16 N_17 V_7 q_18 => ?_)
  obtain ⟨⟨z_5, h_4⟩, rfl, q_3⟩ := q_18
  have j_6 := JR.trans hJ0 (JR.weak q_3 (Sub.cons (LMs LM0) (by decide) (by decide) (by decide) (Or.inr ⟨by decide, by decide⟩) (Sub.cons (LMs (LMs LM0)) (by decide) (by decide) (by decide) (Or.inr ⟨by decide, by decide⟩) (Sub.cons (LMs (LMs (LMs LM0))) (by decide) (by decide) (by decide) (Or.inr ⟨by decide, by decide⟩) Sub.nil))))
  obtain ⟨a_8, ha_9, hA_10, hF_11, hL_12, hz_13, hX_14⟩ := h_4
  obtain ⟨ftoldPeople_k15, ftoldDoors_k15, fwasDoors_k15, ffault_k15, fopen_k15, flines_k15, fmeantSet_k15, fopenedNow_k15, fvainNow_k15, flowNow_k15, fhighNow_k15, fisKept_k15, tad_k15, pl0_k15, le0_k15, nu0_k15, coy_k15, wag_k15, say_k15, e_k15, hntad_k15, hnpl0_k15, hnle0_k15, hnnu0_k15, hncoy_k15, hnwag_k15, hnsay_k15⟩ := JR.get j_6 cm_100
  have hqp_k15 := FG.eq hF_11 e_k15 rfl (by omega) (by omega)
  have hql_k15 := FG.eq hL_12 e_k15 rfl (by omega) (by omega)
  refine aw_if_ne (tgt := 9) dX12_readsTwo_4 (by decide) (fun c_19 => ?_) (fun c_19 => ?_)
  · skip
    have hno_20 : nu0_k15 < 12 := by obtain ⟨k, hk, f⟩ := hX_14.resolve_left c_19; have := FG.eq f e_k15 rfl (by omega) (by omega); omega
    refine aw_aload_n dX12_readsTwo_9 rfl ?_
    refine aw_get dX12_readsTwo_10 fl_X12_175 e_k15 (by omega) rfl ?_
    refine aw_istore_n (ls' := [some (.ref (b + 100)), some (.int (nI nu0_k15)), none, none, none]) dX12_readsTwo_13 (Nat.le_of_ble_eq_true rfl) rfl ?_
    refine aw_aload_n dX12_readsTwo_14 rfl ?_
    refine aw_callVi (J' := jX12_here) (As := []) (st := []) dX12_readsTwo_15 tb_1220 ok_X12_here ⟨_, e_k15⟩ (by omega) rfl rfl (r_here l D b N V_7 hN cl j_6.1 g_1 (hz_13.trans e_1) pl0_k15 le0_k15 (FG.of e_k15 rfl rfl) (FG.of e_k15 rfl rfl) ⟨by omega, by omega⟩) rfl (Nat.le_of_ble_eq_true rfl) ⟨Nat.le_of_ble_eq_true rfl, Nat.le_of_ble_eq_true rfl, Nat.le_of_ble_eq_true rfl, Nat.le_of_ble_eq_true rfl⟩ (fun r_23 N_24 V_25 q_26 => ?_)
    obtain ⟨h_22, rfl, rfl⟩ := q_26
    refine aw_bipush (v := 38) dX12_readsTwo_18 (by decide) ?_
    refine aw_icmp_ne (tgt := 27) dX12_readsTwo_20 (by decide) (fun c_27 => ?_) (fun c_27 => ?_)
    · skip
      refine aw_iconst (v := 0) dX12_readsTwo_27 (by decide) ?_
      refine aw_istore_n (ls' := [some (.ref (b + 100)), some (.int (nI nu0_k15)), some (.int 0), none, none]) dX12_readsTwo_28 (Nat.le_of_ble_eq_true rfl) rfl ?_
      refine aw_iload_n dX12_readsTwo_29 rfl ?_
      refine aw_if_ne (tgt := 52) dX12_readsTwo_30 (by decide) (fun c_28 => ?_) (fun c_28 => ?_)
      · exact absurd rfl c_28
      refine aw_aload_n dX12_readsTwo_33 rfl ?_
      refine aw_callVi (J' := jX12_here) (As := []) (st := []) dX12_readsTwo_34 tb_1220 ok_X12_here ⟨_, e_k15⟩ (by omega) rfl rfl (r_here l D b N V_7 hN cl j_6.1 g_1 (hz_13.trans e_1) pl0_k15 le0_k15 (FG.of e_k15 rfl rfl) (FG.of e_k15 rfl rfl) ⟨by omega, by omega⟩) rfl (Nat.le_of_ble_eq_true rfl) ⟨Nat.le_of_ble_eq_true rfl, Nat.le_of_ble_eq_true rfl, Nat.le_of_ble_eq_true rfl, Nat.le_of_ble_eq_true rfl⟩ (fun r_31 N_32 V_33 q_34 => ?_)
      obtain ⟨h_30, rfl, rfl⟩ := q_34
      refine aw_bipush (v := 47) dX12_readsTwo_37 (by decide) ?_
      refine aw_icmp_eq (tgt := 52) dX12_readsTwo_39 (by decide) (fun c_35 => ?_) (fun c_35 => ?_)
      · skip
        have hlc_35 := here_lt h_30 c_35 (by decide)
        refine aw_aload_n dX12_readsTwo_52 rfl ?_
        refine aw_aload_n dX12_readsTwo_53 rfl ?_
        refine aw_get dX12_readsTwo_54 fl_X12_159 e_k15 (by omega) rfl ?_
        refine aw_iconst (v := 1) dX12_readsTwo_57 (by decide) ?_
        refine aw_iadd dX12_readsTwo_58 ?_
        refine aw_eqi (y := nI (pl0_k15 + 1)) (nI_add _ _) ?_
        refine aw_put dX12_readsTwo_59 fp_X12_159 e_k15 (by omega) rfl rfl (Nat.le_of_ble_eq_true rfl) rfl ?_
        refine aw_upR j_6 cm_100 ⟨_, _, _, _, _, _, _, _, _, _, _, _, tad_k15, (pl0_k15 + 1), le0_k15, nu0_k15, coy_k15, wag_k15, say_k15, rfl, by omega, by omega, by omega, by omega, by omega, by omega, by omega⟩ (by decide) (WO (s := 14) (x := .int (nI (pl0_k15 + 1))) e_k15 rfl (LMs (LMs LM0)) (by decide) (by decide) (by decide) (Or.inl (by decide))) (fun V_36 j_36 k_36 e_36 => ?_)
        refine aw_aload_n dX12_readsTwo_62 rfl ?_
        refine aw_get dX12_readsTwo_63 fl_X12_159 e_36 (by omega) rfl ?_
        refine aw_istore_n (ls' := [some (.ref (b + 100)), some (.int (nI nu0_k15)), some (.int 0), some (.int (nI (pl0_k15 + 1))), none]) dX12_readsTwo_66 (Nat.le_of_ble_eq_true rfl) rfl ?_
        refine aw_aload_n dX12_readsTwo_67 rfl ?_
        refine aw_callVi (J' := jX12_readsOne) (As := []) (st := []) dX12_readsTwo_68 tb_1347 ok_X12_readsOne ⟨_, e_36⟩ (by omega) rfl rfl (r_readsOne l D b N V_36 hN cl j_36.1 (pl0_k15 + 1) le0_k15 (FG.of e_36 rfl rfl) (FG.of e_36 rfl rfl) ⟨by omega, by omega⟩) rfl (Nat.le_of_ble_eq_true rfl) ⟨Nat.le_of_ble_eq_true rfl, Nat.le_of_ble_eq_true rfl, Nat.le_of_ble_eq_true rfl, Nat.le_of_ble_eq_true rfl⟩ (fun r_50 N_51 V_41 q_52 => ?_)
        obtain ⟨⟨z_39, h_38⟩, rfl, q_37⟩ := q_52
        have j_40 := JR.trans j_36 (JR.weak q_37 (Sub.cons (LMs LM0) (by decide) (by decide) (by decide) (Or.inr ⟨by decide, by decide⟩) (Sub.cons (LMs (LMs LM0)) (by decide) (by decide) (by decide) (Or.inr ⟨by decide, by decide⟩) (Sub.cons (LMs (LMs (LMs LM0))) (by decide) (by decide) (by decide) (Or.inr ⟨by decide, by decide⟩) Sub.nil))))
        obtain ⟨a_42, ha_43, hA_44, hF_45, hL_46, hz_47, hX_48⟩ := h_38
        obtain ⟨ftoldPeople_k49, ftoldDoors_k49, fwasDoors_k49, ffault_k49, fopen_k49, flines_k49, fmeantSet_k49, fopenedNow_k49, fvainNow_k49, flowNow_k49, fhighNow_k49, fisKept_k49, tad_k49, pl0_k49, le0_k49, nu0_k49, coy_k49, wag_k49, say_k49, e_k49, hntad_k49, hnpl0_k49, hnle0_k49, hnnu0_k49, hncoy_k49, hnwag_k49, hnsay_k49⟩ := JR.get j_40 cm_100
        have hqp_k49 := FG.eq hF_45 e_k49 rfl (by omega) (by omega)
        have hql_k49 := FG.eq hL_46 e_k49 rfl (by omega) (by omega)
        refine aw_if_ne (tgt := 76) dX12_readsTwo_71 (by decide) (fun c_53 => ?_) (fun c_53 => ?_)
        · skip
          have hno_54 : nu0_k49 < 12 := by obtain ⟨k, hk, f⟩ := hX_48.resolve_left c_53; have := FG.eq f e_k49 rfl (by omega) (by omega); omega
          refine aw_aload_n dX12_readsTwo_76 rfl ?_
          refine aw_get dX12_readsTwo_77 fl_X12_175 e_k49 (by omega) rfl ?_
          refine aw_istore (ls' := [some (.ref (b + 100)), some (.int (nI nu0_k15)), some (.int 0), some (.int (nI (pl0_k15 + 1))), some (.int (nI nu0_k49))]) dX12_readsTwo_80 (Nat.le_of_ble_eq_true rfl) rfl ?_
          refine aw_iload_n dX12_readsTwo_82 rfl ?_
          refine aw_iload dX12_readsTwo_83 rfl ?_
          refine aw_icmp_ne (tgt := 96) dX12_readsTwo_85 (by decide) (fun c_55 => ?_) (fun c_55 => ?_)
          · skip
            have nc_55 : ¬ (nu0_k15 = nu0_k49) := fun z => c_55 ((nI_eq (a := nu0_k15) (b := nu0_k49) (by omega) (by omega)).mpr z)
            refine aw_aload_n dX12_readsTwo_96 rfl ?_
            refine aw_get dX12_readsTwo_97 fl_X12_19 e_k49 (by omega) rfl ?_
            refine aw_iload_n dX12_readsTwo_100 rfl ?_
            refine aw_iload_n dX12_readsTwo_101 rfl ?_
            refine aw_if_eq (tgt := 119) dX12_readsTwo_102 (by decide) (fun c_56 => ?_) (fun c_56 => ?_)
            rotate_left
            · exact absurd (by decide) c_56
            refine aw_aload_n dX12_readsTwo_119 rfl ?_
            refine aw_get dX12_readsTwo_120 fl_X12_19 e_k49 (by omega) rfl ?_
            refine aw_iload_n dX12_readsTwo_123 rfl ?_
            obtain ⟨g_57, e_57, p_57⟩ := JR.get j_40 cm_104
            refine aw_iald (v := (g_57 nu0_k15)) dX12_readsTwo_124 e_57 (by omega) (vp_in_nI (n := nu0_k15) (by omega) (by omega)) (congrArg g_57 (nI_clamp (n := nu0_k15) (by omega))) ?_
            obtain ⟨z_58, hz_58, ez_58⟩ := p_57 nu0_k15 (by omega)
            refine aw_eqi ez_58 ?_
            refine aw_iconst (v := 1) dX12_readsTwo_125 (by decide) ?_
            refine aw_iload dX12_readsTwo_126 rfl ?_
            refine aw_ishl dX12_readsTwo_128 ?_
            refine aw_eqi (y := (nI (2 ^ nu0_k49))) (fx_shl12 nu0_k49 (by omega)) ?_
            refine aw_iconst (v := (-1)) dX12_readsTwo_129 (by decide) ?_
            refine aw_ixor dX12_readsTwo_130 ?_
            refine aw_iand dX12_readsTwo_131 ?_
            obtain ⟨z_59, hz_59, ez_59⟩ := fx_andle (s := z_58) ((nI (2 ^ nu0_k49)) ^^^ (-1))
            refine aw_eqi (y := (nI z_59)) ez_59 ?_
            refine aw_iast dX12_readsTwo_132 e_57 (by omega) (vp_in_nI (n := nu0_k15) (by omega) (by omega)) ?_
            refine aw_upR j_40 cm_104 ⟨_, rfl, isP_upd (P := (fun v => ∃ k : Nat, k < 4096 ∧ v = nI k)) p_57 ⟨z_59, (by first | omega | exact fx_pow12 (by omega) | exact or_lt (by omega) (by first | omega | exact fx_pow12 (by omega))), rfl⟩⟩ (by decide) (WA LM0 (by decide) (by decide)) (fun V_60 j_60 k_60 e_60 => ?_)
            refine aw_aload_n dX12_readsTwo_133 rfl ?_
            refine aw_get dX12_readsTwo_134 fl_X12_19 ((k_60 _ (by decide)).trans e_k49) (by omega) rfl ?_
            refine aw_iload dX12_readsTwo_137 rfl ?_
            refine aw_iload_n dX12_readsTwo_139 rfl ?_
            refine aw_if_eq (tgt := 157) dX12_readsTwo_140 (by decide) (fun c_62 => ?_) (fun c_62 => ?_)
            rotate_left
            · exact absurd (by decide) c_62
            refine aw_aload_n dX12_readsTwo_157 rfl ?_
            refine aw_get dX12_readsTwo_158 fl_X12_19 ((k_60 _ (by decide)).trans e_k49) (by omega) rfl ?_
            refine aw_iload dX12_readsTwo_161 rfl ?_
            obtain ⟨g_63, e_63, p_63⟩ := JR.get j_60 cm_104
            refine aw_iald (v := (g_63 nu0_k49)) dX12_readsTwo_163 e_63 (by omega) (vp_in_nI (n := nu0_k49) (by omega) (by omega)) (congrArg g_63 (nI_clamp (n := nu0_k49) (by omega))) ?_
            obtain ⟨z_64, hz_64, ez_64⟩ := p_63 nu0_k49 (by omega)
            refine aw_eqi ez_64 ?_
            refine aw_iconst (v := 1) dX12_readsTwo_164 (by decide) ?_
            refine aw_iload_n dX12_readsTwo_165 rfl ?_
            refine aw_ishl dX12_readsTwo_166 ?_
            refine aw_eqi (y := (nI (2 ^ nu0_k15))) (fx_shl12 nu0_k15 (by omega)) ?_
            refine aw_iconst (v := (-1)) dX12_readsTwo_167 (by decide) ?_
            refine aw_ixor dX12_readsTwo_168 ?_
            refine aw_iand dX12_readsTwo_169 ?_
            obtain ⟨z_65, hz_65, ez_65⟩ := fx_andle (s := z_64) ((nI (2 ^ nu0_k15)) ^^^ (-1))
            refine aw_eqi (y := (nI z_65)) ez_65 ?_
            refine aw_iast dX12_readsTwo_170 e_63 (by omega) (vp_in_nI (n := nu0_k49) (by omega) (by omega)) ?_
            refine aw_upR j_60 cm_104 ⟨_, rfl, isP_upd (P := (fun v => ∃ k : Nat, k < 4096 ∧ v = nI k)) p_63 ⟨z_65, (by first | omega | exact fx_pow12 (by omega) | exact or_lt (by omega) (by first | omega | exact fx_pow12 (by omega))), rfl⟩⟩ (by decide) (WA LM0 (by decide) (by decide)) (fun V_66 j_66 k_66 e_66 => ?_)
            refine aw_iconst (v := 1) dX12_readsTwo_171 (by decide) ?_
            refine aw_zreti dX12_readsTwo_172 rfl (by first | exact Or.inl rfl | exact Or.inr rfl | assumption) (Nat.le_of_ble_eq_true rfl) (Nat.le_of_ble_eq_true rfl) ?_
            exact ⟨⟨(by first | exact Or.inl rfl | exact Or.inr rfl | assumption), ⟨pl0_k49, by omega, by omega, (FG.of ((k_66 _ (by decide)).trans ((k_60 _ (by decide)).trans e_k49)) rfl rfl), (FG.of ((k_66 _ (by decide)).trans ((k_60 _ (by decide)).trans e_k49)) rfl (by omega : le0_k49 = ln)), (((k_66 _ (by decide)).trans ((k_60 _ (by decide)).trans (hz_47.trans ((k_36 _ (by decide)).trans (hz_13.trans e_1)))))).trans e_1.symm⟩⟩, rfl, j_66⟩
          · skip
            have nc_55 : nu0_k15 = nu0_k49 := (nI_eq (a := nu0_k15) (b := nu0_k49) (by omega) (by omega)).mp c_55
            refine aw_aload_n dX12_readsTwo_88 rfl ?_
            refine aw_bipush (v := 6) dX12_readsTwo_89 (by decide) ?_
            refine aw_iload_n dX12_readsTwo_91 rfl ?_
            refine aw_callVi (J' := jX12_wrongAt) (As := [.int 6, .int (nI (pl0_k15 + 1))]) (st := []) dX12_readsTwo_92 tb_1224 ok_X12_wrongAt ⟨_, e_k49⟩ (by omega) rfl rfl (r_wrongAt l D b N V_41 hN cl j_40.1 6 (nI (pl0_k15 + 1)) pl0_k49 le0_k49 (FG.of e_k49 rfl rfl) (FG.of e_k49 rfl rfl) ⟨by omega, by omega⟩) rfl (Nat.le_of_ble_eq_true rfl) ⟨Nat.le_of_ble_eq_true rfl, Nat.le_of_ble_eq_true rfl, Nat.le_of_ble_eq_true rfl, Nat.le_of_ble_eq_true rfl⟩ (fun r_81 N_82 V_72 q_83 => ?_)
            obtain ⟨⟨z_70, h_69⟩, rfl, q_68⟩ := q_83
            have j_71 := JR.trans j_40 (JR.weak q_68 (Sub.cons (LMs (LMs (LMs LM0))) (by decide) (by decide) (by decide) (Or.inr ⟨by decide, by decide⟩) Sub.nil))
            obtain ⟨a_73, ha_74, hA_75, hF_76, hL_77, hz_78, hX_79⟩ := h_69
            obtain ⟨ftoldPeople_k80, ftoldDoors_k80, fwasDoors_k80, ffault_k80, fopen_k80, flines_k80, fmeantSet_k80, fopenedNow_k80, fvainNow_k80, flowNow_k80, fhighNow_k80, fisKept_k80, tad_k80, pl0_k80, le0_k80, nu0_k80, coy_k80, wag_k80, say_k80, e_k80, hntad_k80, hnpl0_k80, hnle0_k80, hnnu0_k80, hncoy_k80, hnwag_k80, hnsay_k80⟩ := JR.get j_71 cm_100
            have hqp_k80 := FG.eq hF_76 e_k80 rfl (by omega) (by omega)
            have hql_k80 := FG.eq hL_77 e_k80 rfl (by omega) (by omega)
            obtain rfl := hX_79
            refine aw_zreti dX12_readsTwo_95 rfl (by first | exact Or.inl rfl | exact Or.inr rfl | assumption) (Nat.le_of_ble_eq_true rfl) (Nat.le_of_ble_eq_true rfl) ?_
            exact ⟨⟨(by first | exact Or.inl rfl | exact Or.inr rfl | assumption), ⟨pl0_k80, by omega, by omega, (FG.of e_k80 rfl rfl), (FG.of e_k80 rfl (by omega : le0_k80 = ln)), ((hz_78.trans (hz_47.trans ((k_36 _ (by decide)).trans (hz_13.trans e_1))))).trans e_1.symm⟩⟩, rfl, j_71⟩
        · skip
          refine aw_iconst (v := 0) dX12_readsTwo_74 (by decide) ?_
          refine aw_zreti dX12_readsTwo_75 rfl (by first | exact Or.inl rfl | exact Or.inr rfl | assumption) (Nat.le_of_ble_eq_true rfl) (Nat.le_of_ble_eq_true rfl) ?_
          exact ⟨⟨(by first | exact Or.inl rfl | exact Or.inr rfl | assumption), ⟨pl0_k49, by omega, by omega, (FG.of e_k49 rfl rfl), (FG.of e_k49 rfl (by omega : le0_k49 = ln)), ((hz_47.trans ((k_36 _ (by decide)).trans (hz_13.trans e_1)))).trans e_1.symm⟩⟩, rfl, j_40⟩
      · skip
        refine aw_aload_n dX12_readsTwo_42 rfl ?_
        refine aw_iconst (v := 1) dX12_readsTwo_43 (by decide) ?_
        refine aw_aload_n dX12_readsTwo_44 rfl ?_
        refine aw_get dX12_readsTwo_45 fl_X12_159 e_k15 (by omega) rfl ?_
        refine aw_callVi (J' := jX12_wrongAt) (As := [.int 1, .int (nI pl0_k15)]) (st := []) dX12_readsTwo_48 tb_1224 ok_X12_wrongAt ⟨_, e_k15⟩ (by omega) rfl rfl (r_wrongAt l D b N V_7 hN cl j_6.1 1 (nI pl0_k15) pl0_k15 le0_k15 (FG.of e_k15 rfl rfl) (FG.of e_k15 rfl rfl) ⟨by omega, by omega⟩) rfl (Nat.le_of_ble_eq_true rfl) ⟨Nat.le_of_ble_eq_true rfl, Nat.le_of_ble_eq_true rfl, Nat.le_of_ble_eq_true rfl, Nat.le_of_ble_eq_true rfl⟩ (fun r_97 N_98 V_88 q_99 => ?_)
        obtain ⟨⟨z_86, h_85⟩, rfl, q_84⟩ := q_99
        have j_87 := JR.trans j_6 (JR.weak q_84 (Sub.cons (LMs (LMs (LMs LM0))) (by decide) (by decide) (by decide) (Or.inr ⟨by decide, by decide⟩) Sub.nil))
        obtain ⟨a_89, ha_90, hA_91, hF_92, hL_93, hz_94, hX_95⟩ := h_85
        obtain ⟨ftoldPeople_k96, ftoldDoors_k96, fwasDoors_k96, ffault_k96, fopen_k96, flines_k96, fmeantSet_k96, fopenedNow_k96, fvainNow_k96, flowNow_k96, fhighNow_k96, fisKept_k96, tad_k96, pl0_k96, le0_k96, nu0_k96, coy_k96, wag_k96, say_k96, e_k96, hntad_k96, hnpl0_k96, hnle0_k96, hnnu0_k96, hncoy_k96, hnwag_k96, hnsay_k96⟩ := JR.get j_87 cm_100
        have hqp_k96 := FG.eq hF_92 e_k96 rfl (by omega) (by omega)
        have hql_k96 := FG.eq hL_93 e_k96 rfl (by omega) (by omega)
        obtain rfl := hX_95
        refine aw_zreti dX12_readsTwo_51 rfl (by first | exact Or.inl rfl | exact Or.inr rfl | assumption) (Nat.le_of_ble_eq_true rfl) (Nat.le_of_ble_eq_true rfl) ?_
        exact ⟨⟨(by first | exact Or.inl rfl | exact Or.inr rfl | assumption), ⟨pl0_k96, by omega, by omega, (FG.of e_k96 rfl rfl), (FG.of e_k96 rfl (by omega : le0_k96 = ln)), ((hz_94.trans (hz_13.trans e_1))).trans e_1.symm⟩⟩, rfl, j_87⟩
    · skip
      have hlc_27 := here_lt h_22 c_27 (by decide)
      refine aw_iconst (v := 1) dX12_readsTwo_23 (by decide) ?_
      refine aw_goto (tgt := 28) dX12_readsTwo_24 (by decide) ?_
      refine aw_istore_n (ls' := [some (.ref (b + 100)), some (.int (nI nu0_k15)), some (.int 1), none, none]) dX12_readsTwo_28 (Nat.le_of_ble_eq_true rfl) rfl ?_
      refine aw_iload_n dX12_readsTwo_29 rfl ?_
      refine aw_if_ne (tgt := 52) dX12_readsTwo_30 (by decide) (fun c_100 => ?_) (fun c_100 => ?_)
      rotate_left
      · exact absurd c_100 (by decide)
      refine aw_aload_n dX12_readsTwo_52 rfl ?_
      refine aw_aload_n dX12_readsTwo_53 rfl ?_
      refine aw_get dX12_readsTwo_54 fl_X12_159 e_k15 (by omega) rfl ?_
      refine aw_iconst (v := 1) dX12_readsTwo_57 (by decide) ?_
      refine aw_iadd dX12_readsTwo_58 ?_
      refine aw_eqi (y := nI (pl0_k15 + 1)) (nI_add _ _) ?_
      refine aw_put dX12_readsTwo_59 fp_X12_159 e_k15 (by omega) rfl rfl (Nat.le_of_ble_eq_true rfl) rfl ?_
      refine aw_upR j_6 cm_100 ⟨_, _, _, _, _, _, _, _, _, _, _, _, tad_k15, (pl0_k15 + 1), le0_k15, nu0_k15, coy_k15, wag_k15, say_k15, rfl, by omega, by omega, by omega, by omega, by omega, by omega, by omega⟩ (by decide) (WO (s := 14) (x := .int (nI (pl0_k15 + 1))) e_k15 rfl (LMs (LMs LM0)) (by decide) (by decide) (by decide) (Or.inl (by decide))) (fun V_101 j_101 k_101 e_101 => ?_)
      refine aw_aload_n dX12_readsTwo_62 rfl ?_
      refine aw_get dX12_readsTwo_63 fl_X12_159 e_101 (by omega) rfl ?_
      refine aw_istore_n (ls' := [some (.ref (b + 100)), some (.int (nI nu0_k15)), some (.int 1), some (.int (nI (pl0_k15 + 1))), none]) dX12_readsTwo_66 (Nat.le_of_ble_eq_true rfl) rfl ?_
      refine aw_aload_n dX12_readsTwo_67 rfl ?_
      refine aw_callVi (J' := jX12_readsOne) (As := []) (st := []) dX12_readsTwo_68 tb_1347 ok_X12_readsOne ⟨_, e_101⟩ (by omega) rfl rfl (r_readsOne l D b N V_101 hN cl j_101.1 (pl0_k15 + 1) le0_k15 (FG.of e_101 rfl rfl) (FG.of e_101 rfl rfl) ⟨by omega, by omega⟩) rfl (Nat.le_of_ble_eq_true rfl) ⟨Nat.le_of_ble_eq_true rfl, Nat.le_of_ble_eq_true rfl, Nat.le_of_ble_eq_true rfl, Nat.le_of_ble_eq_true rfl⟩ (fun r_115 N_116 V_106 q_117 => ?_)
      obtain ⟨⟨z_104, h_103⟩, rfl, q_102⟩ := q_117
      have j_105 := JR.trans j_101 (JR.weak q_102 (Sub.cons (LMs LM0) (by decide) (by decide) (by decide) (Or.inr ⟨by decide, by decide⟩) (Sub.cons (LMs (LMs LM0)) (by decide) (by decide) (by decide) (Or.inr ⟨by decide, by decide⟩) (Sub.cons (LMs (LMs (LMs LM0))) (by decide) (by decide) (by decide) (Or.inr ⟨by decide, by decide⟩) Sub.nil))))
      obtain ⟨a_107, ha_108, hA_109, hF_110, hL_111, hz_112, hX_113⟩ := h_103
      obtain ⟨ftoldPeople_k114, ftoldDoors_k114, fwasDoors_k114, ffault_k114, fopen_k114, flines_k114, fmeantSet_k114, fopenedNow_k114, fvainNow_k114, flowNow_k114, fhighNow_k114, fisKept_k114, tad_k114, pl0_k114, le0_k114, nu0_k114, coy_k114, wag_k114, say_k114, e_k114, hntad_k114, hnpl0_k114, hnle0_k114, hnnu0_k114, hncoy_k114, hnwag_k114, hnsay_k114⟩ := JR.get j_105 cm_100
      have hqp_k114 := FG.eq hF_110 e_k114 rfl (by omega) (by omega)
      have hql_k114 := FG.eq hL_111 e_k114 rfl (by omega) (by omega)
      refine aw_if_ne (tgt := 76) dX12_readsTwo_71 (by decide) (fun c_118 => ?_) (fun c_118 => ?_)
      · skip
        have hno_119 : nu0_k114 < 12 := by obtain ⟨k, hk, f⟩ := hX_113.resolve_left c_118; have := FG.eq f e_k114 rfl (by omega) (by omega); omega
        refine aw_aload_n dX12_readsTwo_76 rfl ?_
        refine aw_get dX12_readsTwo_77 fl_X12_175 e_k114 (by omega) rfl ?_
        refine aw_istore (ls' := [some (.ref (b + 100)), some (.int (nI nu0_k15)), some (.int 1), some (.int (nI (pl0_k15 + 1))), some (.int (nI nu0_k114))]) dX12_readsTwo_80 (Nat.le_of_ble_eq_true rfl) rfl ?_
        refine aw_iload_n dX12_readsTwo_82 rfl ?_
        refine aw_iload dX12_readsTwo_83 rfl ?_
        refine aw_icmp_ne (tgt := 96) dX12_readsTwo_85 (by decide) (fun c_120 => ?_) (fun c_120 => ?_)
        · skip
          have nc_120 : ¬ (nu0_k15 = nu0_k114) := fun z => c_120 ((nI_eq (a := nu0_k15) (b := nu0_k114) (by omega) (by omega)).mpr z)
          refine aw_aload_n dX12_readsTwo_96 rfl ?_
          refine aw_get dX12_readsTwo_97 fl_X12_19 e_k114 (by omega) rfl ?_
          refine aw_iload_n dX12_readsTwo_100 rfl ?_
          refine aw_iload_n dX12_readsTwo_101 rfl ?_
          refine aw_if_eq (tgt := 119) dX12_readsTwo_102 (by decide) (fun c_121 => ?_) (fun c_121 => ?_)
          · exact absurd c_121 (by decide)
          refine aw_aload_n dX12_readsTwo_105 rfl ?_
          refine aw_get dX12_readsTwo_106 fl_X12_19 e_k114 (by omega) rfl ?_
          refine aw_iload_n dX12_readsTwo_109 rfl ?_
          obtain ⟨g_122, e_122, p_122⟩ := JR.get j_105 cm_104
          refine aw_iald (v := (g_122 nu0_k15)) dX12_readsTwo_110 e_122 (by omega) (vp_in_nI (n := nu0_k15) (by omega) (by omega)) (congrArg g_122 (nI_clamp (n := nu0_k15) (by omega))) ?_
          obtain ⟨z_123, hz_123, ez_123⟩ := p_122 nu0_k15 (by omega)
          refine aw_eqi ez_123 ?_
          refine aw_iconst (v := 1) dX12_readsTwo_111 (by decide) ?_
          refine aw_iload dX12_readsTwo_112 rfl ?_
          refine aw_ishl dX12_readsTwo_114 ?_
          refine aw_eqi (y := (nI (2 ^ nu0_k114))) (fx_shl12 nu0_k114 (by omega)) ?_
          refine aw_ior dX12_readsTwo_115 ?_
          refine aw_eqi (y := (nI (z_123 ||| (2 ^ nu0_k114)))) (fx_orI _ _) ?_
          refine aw_goto (tgt := 132) dX12_readsTwo_116 (by decide) ?_
          refine aw_iast dX12_readsTwo_132 e_122 (by omega) (vp_in_nI (n := nu0_k15) (by omega) (by omega)) ?_
          refine aw_upR j_105 cm_104 ⟨_, rfl, isP_upd (P := (fun v => ∃ k : Nat, k < 4096 ∧ v = nI k)) p_122 ⟨(z_123 ||| (2 ^ nu0_k114)), (by first | omega | exact fx_pow12 (by omega) | exact or_lt (by omega) (by first | omega | exact fx_pow12 (by omega))), rfl⟩⟩ (by decide) (WA LM0 (by decide) (by decide)) (fun V_124 j_124 k_124 e_124 => ?_)
          refine aw_aload_n dX12_readsTwo_133 rfl ?_
          refine aw_get dX12_readsTwo_134 fl_X12_19 ((k_124 _ (by decide)).trans e_k114) (by omega) rfl ?_
          refine aw_iload dX12_readsTwo_137 rfl ?_
          refine aw_iload_n dX12_readsTwo_139 rfl ?_
          refine aw_if_eq (tgt := 157) dX12_readsTwo_140 (by decide) (fun c_126 => ?_) (fun c_126 => ?_)
          · exact absurd c_126 (by decide)
          refine aw_aload_n dX12_readsTwo_143 rfl ?_
          refine aw_get dX12_readsTwo_144 fl_X12_19 ((k_124 _ (by decide)).trans e_k114) (by omega) rfl ?_
          refine aw_iload dX12_readsTwo_147 rfl ?_
          obtain ⟨g_127, e_127, p_127⟩ := JR.get j_124 cm_104
          refine aw_iald (v := (g_127 nu0_k114)) dX12_readsTwo_149 e_127 (by omega) (vp_in_nI (n := nu0_k114) (by omega) (by omega)) (congrArg g_127 (nI_clamp (n := nu0_k114) (by omega))) ?_
          obtain ⟨z_128, hz_128, ez_128⟩ := p_127 nu0_k114 (by omega)
          refine aw_eqi ez_128 ?_
          refine aw_iconst (v := 1) dX12_readsTwo_150 (by decide) ?_
          refine aw_iload_n dX12_readsTwo_151 rfl ?_
          refine aw_ishl dX12_readsTwo_152 ?_
          refine aw_eqi (y := (nI (2 ^ nu0_k15))) (fx_shl12 nu0_k15 (by omega)) ?_
          refine aw_ior dX12_readsTwo_153 ?_
          refine aw_eqi (y := (nI (z_128 ||| (2 ^ nu0_k15)))) (fx_orI _ _) ?_
          refine aw_goto (tgt := 170) dX12_readsTwo_154 (by decide) ?_
          refine aw_iast dX12_readsTwo_170 e_127 (by omega) (vp_in_nI (n := nu0_k114) (by omega) (by omega)) ?_
          refine aw_upR j_124 cm_104 ⟨_, rfl, isP_upd (P := (fun v => ∃ k : Nat, k < 4096 ∧ v = nI k)) p_127 ⟨(z_128 ||| (2 ^ nu0_k15)), (by first | omega | exact fx_pow12 (by omega) | exact or_lt (by omega) (by first | omega | exact fx_pow12 (by omega))), rfl⟩⟩ (by decide) (WA LM0 (by decide) (by decide)) (fun V_129 j_129 k_129 e_129 => ?_)
          refine aw_iconst (v := 1) dX12_readsTwo_171 (by decide) ?_
          refine aw_zreti dX12_readsTwo_172 rfl (by first | exact Or.inl rfl | exact Or.inr rfl | assumption) (Nat.le_of_ble_eq_true rfl) (Nat.le_of_ble_eq_true rfl) ?_
          exact ⟨⟨(by first | exact Or.inl rfl | exact Or.inr rfl | assumption), ⟨pl0_k114, by omega, by omega, (FG.of ((k_129 _ (by decide)).trans ((k_124 _ (by decide)).trans e_k114)) rfl rfl), (FG.of ((k_129 _ (by decide)).trans ((k_124 _ (by decide)).trans e_k114)) rfl (by omega : le0_k114 = ln)), (((k_129 _ (by decide)).trans ((k_124 _ (by decide)).trans (hz_112.trans ((k_101 _ (by decide)).trans (hz_13.trans e_1)))))).trans e_1.symm⟩⟩, rfl, j_129⟩
        · skip
          have nc_120 : nu0_k15 = nu0_k114 := (nI_eq (a := nu0_k15) (b := nu0_k114) (by omega) (by omega)).mp c_120
          refine aw_aload_n dX12_readsTwo_88 rfl ?_
          refine aw_bipush (v := 6) dX12_readsTwo_89 (by decide) ?_
          refine aw_iload_n dX12_readsTwo_91 rfl ?_
          refine aw_callVi (J' := jX12_wrongAt) (As := [.int 6, .int (nI (pl0_k15 + 1))]) (st := []) dX12_readsTwo_92 tb_1224 ok_X12_wrongAt ⟨_, e_k114⟩ (by omega) rfl rfl (r_wrongAt l D b N V_106 hN cl j_105.1 6 (nI (pl0_k15 + 1)) pl0_k114 le0_k114 (FG.of e_k114 rfl rfl) (FG.of e_k114 rfl rfl) ⟨by omega, by omega⟩) rfl (Nat.le_of_ble_eq_true rfl) ⟨Nat.le_of_ble_eq_true rfl, Nat.le_of_ble_eq_true rfl, Nat.le_of_ble_eq_true rfl, Nat.le_of_ble_eq_true rfl⟩ (fun r_144 N_145 V_135 q_146 => ?_)
          obtain ⟨⟨z_133, h_132⟩, rfl, q_131⟩ := q_146
          have j_134 := JR.trans j_105 (JR.weak q_131 (Sub.cons (LMs (LMs (LMs LM0))) (by decide) (by decide) (by decide) (Or.inr ⟨by decide, by decide⟩) Sub.nil))
          obtain ⟨a_136, ha_137, hA_138, hF_139, hL_140, hz_141, hX_142⟩ := h_132
          obtain ⟨ftoldPeople_k143, ftoldDoors_k143, fwasDoors_k143, ffault_k143, fopen_k143, flines_k143, fmeantSet_k143, fopenedNow_k143, fvainNow_k143, flowNow_k143, fhighNow_k143, fisKept_k143, tad_k143, pl0_k143, le0_k143, nu0_k143, coy_k143, wag_k143, say_k143, e_k143, hntad_k143, hnpl0_k143, hnle0_k143, hnnu0_k143, hncoy_k143, hnwag_k143, hnsay_k143⟩ := JR.get j_134 cm_100
          have hqp_k143 := FG.eq hF_139 e_k143 rfl (by omega) (by omega)
          have hql_k143 := FG.eq hL_140 e_k143 rfl (by omega) (by omega)
          obtain rfl := hX_142
          refine aw_zreti dX12_readsTwo_95 rfl (by first | exact Or.inl rfl | exact Or.inr rfl | assumption) (Nat.le_of_ble_eq_true rfl) (Nat.le_of_ble_eq_true rfl) ?_
          exact ⟨⟨(by first | exact Or.inl rfl | exact Or.inr rfl | assumption), ⟨pl0_k143, by omega, by omega, (FG.of e_k143 rfl rfl), (FG.of e_k143 rfl (by omega : le0_k143 = ln)), ((hz_141.trans (hz_112.trans ((k_101 _ (by decide)).trans (hz_13.trans e_1))))).trans e_1.symm⟩⟩, rfl, j_134⟩
      · skip
        refine aw_iconst (v := 0) dX12_readsTwo_74 (by decide) ?_
        refine aw_zreti dX12_readsTwo_75 rfl (by first | exact Or.inl rfl | exact Or.inr rfl | assumption) (Nat.le_of_ble_eq_true rfl) (Nat.le_of_ble_eq_true rfl) ?_
        exact ⟨⟨(by first | exact Or.inl rfl | exact Or.inr rfl | assumption), ⟨pl0_k114, by omega, by omega, (FG.of e_k114 rfl rfl), (FG.of e_k114 rfl (by omega : le0_k114 = ln)), ((hz_112.trans ((k_101 _ (by decide)).trans (hz_13.trans e_1)))).trans e_1.symm⟩⟩, rfl, j_105⟩
  · skip
    refine aw_iconst (v := 0) dX12_readsTwo_7 (by decide) ?_
    refine aw_zreti dX12_readsTwo_8 rfl (by first | exact Or.inl rfl | exact Or.inr rfl | assumption) (Nat.le_of_ble_eq_true rfl) (Nat.le_of_ble_eq_true rfl) ?_
    exact ⟨⟨(by first | exact Or.inl rfl | exact Or.inr rfl | assumption), ⟨pl0_k15, by omega, by omega, (FG.of e_k15 rfl rfl), (FG.of e_k15 rfl (by omega : le0_k15 = ln)), ((hz_13.trans e_1)).trans e_1.symm⟩⟩, rfl, j_6⟩

set_option maxHeartbeats 4000000 in
set_option maxRecDepth 100000 in
theorem r_readsDoor (l : Launch) (D : va_G) (b : Nat) (N : Nat) (V : Wd) (hN : 133 ≤ N) (cl : Nat) (hW : CR D b cl V)  (pl ln : Nat) (hpl : FG b 14 pl V) (hln : FG b 15 ln V) (hb : pl ≤ 240 ∧ ln ≤ 240)  : MI l D b 3 jX12_readsDoor [.ref (b + 100)] N V 0 0 (fun r N9 V9 => ((r = 0 ∨ r = 1) ∧ (∃ a9, pl ≤ a9 ∧ a9 ≤ 240 ∧ FG b 14 a9 V9 ∧ FG b 15 ln V9 ∧ V9 110 = V 110)) ∧ N = N9 ∧ JR D b N cl [(106, 107, 0, 1000000), (100, 100, 17, 17), (100, 100, 14, 14), (100, 100, 16, 16), (100, 100, 10, 10), (101, 101, 192, 207)] V V9) := by
  have hJ0 : JR D b N cl [(106, 107, 0, 1000000), (100, 100, 17, 17), (100, 100, 14, 14), (100, 100, 16, 16), (100, 100, 10, 10), (101, 101, 192, 207)] V V := JR.rf hW
  refine mw_of (by decide) (by simp [Value.category]) (Nat.le_of_ble_eq_true rfl) ?_
  show AW l D b jX12_readsDoor (fx_rm 3 0 0) none (fx_MQ D b 0 0 (fx_qi (fun r N9 V9 => ((r = 0 ∨ r = 1) ∧ (∃ a9, pl ≤ a9 ∧ a9 ≤ 240 ∧ FG b 14 a9 V9 ∧ FG b 15 ln V9 ∧ V9 110 = V 110)) ∧ N = N9 ∧ JR D b N cl [(106, 107, 0, 1000000), (100, 100, 17, 17), (100, 100, 14, 14), (100, 100, 16, 16), (100, 100, 10, 10), (101, 101, 192, 207)] V V9))) 0 [some (.ref (b + 100)), none, none, none] [] N V 0 0
  obtain ⟨g_1, e_1⟩ := JR.get hJ0 cm_110
  obtain ⟨ftoldPeople_2, ftoldDoors_2, fwasDoors_2, ffault_2, fopen_2, flines_2, fmeantSet_2, fopenedNow_2, fvainNow_2, flowNow_2, fhighNow_2, fisKept_2, tad_2, pl0_2, le0_2, nu0_2, coy_2, wag_2, say_2, e_2, hntad_2, hnpl0_2, hnle0_2, hnnu0_2, hncoy_2, hnwag_2, hnsay_2⟩ := JR.get hJ0 cm_100
  have hq_p := FG.eq hpl e_2 rfl (by omega) (by omega)
  have hq_l := FG.eq hln e_2 rfl (by omega) (by omega)
  refine aw_aload_n dX12_readsDoor_0 rfl ?_
  refine aw_get dX12_readsDoor_1 fl_X12_159 e_2 (by omega) rfl ?_
  refine aw_istore_n (ls' := [some (.ref (b + 100)), some (.int (nI pl0_2)), none, none]) dX12_readsDoor_4 (Nat.le_of_ble_eq_true rfl) rfl ?_
  refine aw_aload_n dX12_readsDoor_5 rfl ?_
  refine aw_callVi (J' := jX12_readsAmount) (As := []) (st := []) dX12_readsDoor_6 tb_1318 ok_X12_readsAmount ⟨_, e_2⟩ (by omega) rfl rfl (r_readsAmount l D b N V hN cl hJ0.1 pl0_2 le0_2 (FG.of e_2 rfl rfl) (FG.of e_2 rfl rfl) ⟨by omega, by omega⟩) rfl (Nat.le_of_ble_eq_true rfl) ⟨Nat.le_of_ble_eq_true rfl, Nat.le_of_ble_eq_true rfl, Nat.le_of_ble_eq_true rfl, Nat.le_of_ble_eq_true rfl⟩ (fun r_16 N_17 V_7 q_18 => ?_)
  obtain ⟨⟨z_5, h_4⟩, rfl, q_3⟩ := q_18
  have j_6 := JR.trans hJ0 (JR.weak q_3 (Sub.cons (LMs LM0) (by decide) (by decide) (by decide) (Or.inr ⟨by decide, by decide⟩) (Sub.cons (LMs (LMs LM0)) (by decide) (by decide) (by decide) (Or.inr ⟨by decide, by decide⟩) (Sub.cons (LMs (LMs (LMs LM0))) (by decide) (by decide) (by decide) (Or.inr ⟨by decide, by decide⟩) Sub.nil))))
  obtain ⟨a_8, ha_9, hA_10, hF_11, hL_12, hz_13⟩ := h_4
  obtain ⟨ftoldPeople_k15, ftoldDoors_k15, fwasDoors_k15, ffault_k15, fopen_k15, flines_k15, fmeantSet_k15, fopenedNow_k15, fvainNow_k15, flowNow_k15, fhighNow_k15, fisKept_k15, tad_k15, pl0_k15, le0_k15, nu0_k15, coy_k15, wag_k15, say_k15, e_k15, hntad_k15, hnpl0_k15, hnle0_k15, hnnu0_k15, hncoy_k15, hnwag_k15, hnsay_k15⟩ := JR.get j_6 cm_100
  have hqp_k15 := FG.eq hF_11 e_k15 rfl (by omega) (by omega)
  have hql_k15 := FG.eq hL_12 e_k15 rfl (by omega) (by omega)
  refine aw_if_ne (tgt := 14) dX12_readsDoor_9 (by decide) (fun c_19 => ?_) (fun c_19 => ?_)
  · skip
    refine aw_aload_n dX12_readsDoor_14 rfl ?_
    refine aw_get dX12_readsDoor_15 fl_X12_175 e_k15 (by omega) rfl ?_
    refine aw_istore_n (ls' := [some (.ref (b + 100)), some (.int (nI pl0_2)), some (.int (nI nu0_k15)), none]) dX12_readsDoor_18 (Nat.le_of_ble_eq_true rfl) rfl ?_
    refine aw_iload_n dX12_readsDoor_19 rfl ?_
    refine aw_bipush (v := 16) dX12_readsDoor_20 (by decide) ?_
    refine aw_icmp_lt (tgt := 32) dX12_readsDoor_22 (by decide) (fun c_20 => ?_) (fun c_20 => ?_)
    · skip
      have nc_20 : nu0_k15 < 16 := (nI_ltI (a := nu0_k15) (b := 16) (by omega) (by omega)).mp c_20
      refine aw_aload_n dX12_readsDoor_32 rfl ?_
      refine aw_callVi (J' := jX12_here) (As := []) (st := []) dX12_readsDoor_33 tb_1220 ok_X12_here ⟨_, e_k15⟩ (by omega) rfl rfl (r_here l D b N V_7 hN cl j_6.1 g_1 (hz_13.trans e_1) pl0_k15 le0_k15 (FG.of e_k15 rfl rfl) (FG.of e_k15 rfl rfl) ⟨by omega, by omega⟩) rfl (Nat.le_of_ble_eq_true rfl) ⟨Nat.le_of_ble_eq_true rfl, Nat.le_of_ble_eq_true rfl, Nat.le_of_ble_eq_true rfl, Nat.le_of_ble_eq_true rfl⟩ (fun r_23 N_24 V_25 q_26 => ?_)
      obtain ⟨h_22, rfl, rfl⟩ := q_26
      refine aw_bipush (v := 33) dX12_readsDoor_36 (by decide) ?_
      refine aw_icmp_ne (tgt := 94) dX12_readsDoor_38 (by decide) (fun c_27 => ?_) (fun c_27 => ?_)
      · skip
        refine aw_aload_n dX12_readsDoor_94 rfl ?_
        refine aw_bipush (v := 58) dX12_readsDoor_95 (by decide) ?_
        refine aw_callVi (J' := jX12_takes) (As := [.int 58]) (st := []) dX12_readsDoor_97 tb_1291 ok_X12_takes ⟨_, e_k15⟩ (by omega) rfl rfl (r_takes l D b N V_7 hN cl j_6.1 58 pl0_k15 le0_k15 (FG.of e_k15 rfl rfl) (FG.of e_k15 rfl rfl) ⟨by omega, by omega⟩ (by decide)) rfl (Nat.le_of_ble_eq_true rfl) ⟨Nat.le_of_ble_eq_true rfl, Nat.le_of_ble_eq_true rfl, Nat.le_of_ble_eq_true rfl, Nat.le_of_ble_eq_true rfl⟩ (fun r_41 N_42 V_32 q_43 => ?_)
        obtain ⟨⟨z_30, h_29⟩, rfl, q_28⟩ := q_43
        have j_31 := JR.trans j_6 (JR.weak q_28 (Sub.cons (LMs (LMs LM0)) (by decide) (by decide) (by decide) (Or.inr ⟨by decide, by decide⟩) (Sub.cons (LMs (LMs (LMs LM0))) (by decide) (by decide) (by decide) (Or.inr ⟨by decide, by decide⟩) Sub.nil)))
        obtain ⟨a_33, ha_34, hA_35, hF_36, hL_37, hz_38, hX_39⟩ := h_29
        obtain ⟨ftoldPeople_k40, ftoldDoors_k40, fwasDoors_k40, ffault_k40, fopen_k40, flines_k40, fmeantSet_k40, fopenedNow_k40, fvainNow_k40, flowNow_k40, fhighNow_k40, fisKept_k40, tad_k40, pl0_k40, le0_k40, nu0_k40, coy_k40, wag_k40, say_k40, e_k40, hntad_k40, hnpl0_k40, hnle0_k40, hnnu0_k40, hncoy_k40, hnwag_k40, hnsay_k40⟩ := JR.get j_31 cm_100
        have hqp_k40 := FG.eq hF_36 e_k40 rfl (by omega) (by omega)
        have hql_k40 := FG.eq hL_37 e_k40 rfl (by omega) (by omega)
        refine aw_if_ne (tgt := 105) dX12_readsDoor_100 (by decide) (fun c_44 => ?_) (fun c_44 => ?_)
        · skip
          refine aw_aload_n dX12_readsDoor_105 rfl ?_
          refine aw_callVi (J' := jX12_isLetter) (As := []) (st := []) dX12_readsDoor_106 tb_1306 ok_X12_isLetter ⟨_, e_k40⟩ (by omega) rfl rfl (r_isLetter l D b N V_32 hN cl j_31.1 g_1 (hz_38.trans (hz_13.trans e_1)) pl0_k40 le0_k40 (FG.of e_k40 rfl rfl) (FG.of e_k40 rfl rfl) ⟨by omega, by omega⟩) rfl (Nat.le_of_ble_eq_true rfl) ⟨Nat.le_of_ble_eq_true rfl, Nat.le_of_ble_eq_true rfl, Nat.le_of_ble_eq_true rfl, Nat.le_of_ble_eq_true rfl⟩ (fun r_48 N_49 V_50 q_51 => ?_)
          obtain ⟨⟨z_47, h_46⟩, rfl, rfl⟩ := q_51
          refine aw_if_ne (tgt := 122) dX12_readsDoor_109 (by decide) (fun c_52 => ?_) (fun c_52 => ?_)
          · skip
            obtain ⟨z_53, hz_53, ez_53⟩ := h_46.resolve_left c_52
            have hlc_52 := here_ltd ez_53 (by omega)
            refine aw_aload_n dX12_readsDoor_122 rfl ?_
            refine aw_callVi (J' := jX12_here) (As := []) (st := []) dX12_readsDoor_123 tb_1220 ok_X12_here ⟨_, e_k40⟩ (by omega) rfl rfl (r_here l D b N V_32 hN cl j_31.1 g_1 (hz_38.trans (hz_13.trans e_1)) pl0_k40 le0_k40 (FG.of e_k40 rfl rfl) (FG.of e_k40 rfl rfl) ⟨by omega, by omega⟩) rfl (Nat.le_of_ble_eq_true rfl) ⟨Nat.le_of_ble_eq_true rfl, Nat.le_of_ble_eq_true rfl, Nat.le_of_ble_eq_true rfl, Nat.le_of_ble_eq_true rfl⟩ (fun r_56 N_57 V_58 q_59 => ?_)
            obtain ⟨h_55, rfl, rfl⟩ := q_59
            refine aw_eqi (h_55.trans ez_53) ?_
            refine aw_bipush (v := 97) dX12_readsDoor_126 (by decide) ?_
            refine aw_isub dX12_readsDoor_128 ?_
            refine aw_eqi (y := (nI ((97 + z_53) - 97))) (pk_sub (a := (97 + z_53)) (b := 97) (by omega)) ?_
            refine aw_istore_n (ls' := [some (.ref (b + 100)), some (.int (nI pl0_2)), some (.int (nI nu0_k15)), some (.int (nI ((97 + z_53) - 97)))]) dX12_readsDoor_129 (Nat.le_of_ble_eq_true rfl) rfl ?_
            refine aw_aload_n dX12_readsDoor_130 rfl ?_
            refine aw_aload_n dX12_readsDoor_131 rfl ?_
            refine aw_get dX12_readsDoor_132 fl_X12_159 e_k40 (by omega) rfl ?_
            refine aw_iconst (v := 1) dX12_readsDoor_135 (by decide) ?_
            refine aw_iadd dX12_readsDoor_136 ?_
            refine aw_eqi (y := nI (pl0_k40 + 1)) (nI_add _ _) ?_
            refine aw_put dX12_readsDoor_137 fp_X12_159 e_k40 (by omega) rfl rfl (Nat.le_of_ble_eq_true rfl) rfl ?_
            refine aw_upR j_31 cm_100 ⟨_, _, _, _, _, _, _, _, _, _, _, _, tad_k40, (pl0_k40 + 1), le0_k40, nu0_k40, coy_k40, wag_k40, say_k40, rfl, by omega, by omega, by omega, by omega, by omega, by omega, by omega⟩ (by decide) (WO (s := 14) (x := .int (nI (pl0_k40 + 1))) e_k40 rfl (LMs (LMs LM0)) (by decide) (by decide) (by decide) (Or.inl (by decide))) (fun V_60 j_60 k_60 e_60 => ?_)
            refine aw_aload_n dX12_readsDoor_140 rfl ?_
            refine aw_callVi (J' := jX12_readsAmount) (As := []) (st := []) dX12_readsDoor_141 tb_1318 ok_X12_readsAmount ⟨_, e_60⟩ (by omega) rfl rfl (r_readsAmount l D b N V_60 hN cl j_60.1 (pl0_k40 + 1) le0_k40 (FG.of e_60 rfl rfl) (FG.of e_60 rfl rfl) ⟨by omega, by omega⟩) rfl (Nat.le_of_ble_eq_true rfl) ⟨Nat.le_of_ble_eq_true rfl, Nat.le_of_ble_eq_true rfl, Nat.le_of_ble_eq_true rfl, Nat.le_of_ble_eq_true rfl⟩ (fun r_74 N_75 V_65 q_76 => ?_)
            obtain ⟨⟨z_63, h_62⟩, rfl, q_61⟩ := q_76
            have j_64 := JR.trans j_60 (JR.weak q_61 (Sub.cons (LMs LM0) (by decide) (by decide) (by decide) (Or.inr ⟨by decide, by decide⟩) (Sub.cons (LMs (LMs LM0)) (by decide) (by decide) (by decide) (Or.inr ⟨by decide, by decide⟩) (Sub.cons (LMs (LMs (LMs LM0))) (by decide) (by decide) (by decide) (Or.inr ⟨by decide, by decide⟩) Sub.nil))))
            obtain ⟨a_66, ha_67, hA_68, hF_69, hL_70, hz_71⟩ := h_62
            obtain ⟨ftoldPeople_k73, ftoldDoors_k73, fwasDoors_k73, ffault_k73, fopen_k73, flines_k73, fmeantSet_k73, fopenedNow_k73, fvainNow_k73, flowNow_k73, fhighNow_k73, fisKept_k73, tad_k73, pl0_k73, le0_k73, nu0_k73, coy_k73, wag_k73, say_k73, e_k73, hntad_k73, hnpl0_k73, hnle0_k73, hnnu0_k73, hncoy_k73, hnwag_k73, hnsay_k73⟩ := JR.get j_64 cm_100
            have hqp_k73 := FG.eq hF_69 e_k73 rfl (by omega) (by omega)
            have hql_k73 := FG.eq hL_70 e_k73 rfl (by omega) (by omega)
            refine aw_if_ne (tgt := 149) dX12_readsDoor_144 (by decide) (fun c_77 => ?_) (fun c_77 => ?_)
            · skip
              refine aw_aload_n dX12_readsDoor_149 rfl ?_
              refine aw_aload_n dX12_readsDoor_150 rfl ?_
              refine aw_get dX12_readsDoor_151 fl_X12_129 e_k73 (by omega) rfl ?_
              refine aw_iconst (v := 1) dX12_readsDoor_154 (by decide) ?_
              refine aw_iload_n dX12_readsDoor_155 rfl ?_
              refine aw_ishl dX12_readsDoor_156 ?_
              refine aw_ior dX12_readsDoor_157 ?_
              refine aw_put dX12_readsDoor_158 fp_X12_129 e_k73 (by omega) rfl rfl (Nat.le_of_ble_eq_true rfl) rfl ?_
              refine aw_upR j_64 cm_100 ⟨_, _, _, _, _, _, _, _, _, _, _, _, tad_k73, pl0_k73, le0_k73, nu0_k73, coy_k73, wag_k73, say_k73, rfl, by omega, by omega, by omega, by omega, by omega, by omega, by omega⟩ (by decide) (WO (s := 10) (x := .int (ftoldDoors_k73 ||| ((1 : Int32) <<< ((nI nu0_k15) &&& 31)))) e_k73 rfl (LMs (LMs (LMs (LMs LM0)))) (by decide) (by decide) (by decide) (Or.inl (by decide))) (fun V_78 j_78 k_78 e_78 => ?_)
              refine aw_aload_n dX12_readsDoor_161 rfl ?_
              refine aw_get dX12_readsDoor_162 fl_X12_25 e_78 (by omega) rfl ?_
              refine aw_iload_n dX12_readsDoor_165 rfl ?_
              refine aw_iload_n dX12_readsDoor_166 rfl ?_
              obtain ⟨g_79, e_79, p_79⟩ := JR.get j_78 cm_106
              refine aw_iast dX12_readsDoor_167 e_79 (by omega) (vp_in_nI (n := nu0_k15) (by omega) (by omega)) ?_
              refine aw_upR j_78 cm_106 ⟨_, rfl, isP_upd (P := (fun v => ∃ k : Nat, k < 16 ∧ v = nI k)) p_79 ⟨((97 + z_53) - 97), by omega, rfl⟩⟩ (by decide) (WA LM0 (by decide) (by decide)) (fun V_80 j_80 k_80 e_80 => ?_)
              refine aw_aload_n dX12_readsDoor_168 rfl ?_
              refine aw_get dX12_readsDoor_169 fl_X12_28 ((k_80 _ (by decide)).trans e_78) (by omega) rfl ?_
              refine aw_iload_n dX12_readsDoor_172 rfl ?_
              refine aw_aload_n dX12_readsDoor_173 rfl ?_
              refine aw_get dX12_readsDoor_174 fl_X12_175 ((k_80 _ (by decide)).trans e_78) (by omega) rfl ?_
              obtain ⟨g_82, e_82⟩ := JR.get j_80 cm_107
              refine aw_iast dX12_readsDoor_177 e_82 (by omega) (vp_in_nI (n := nu0_k15) (by omega) (by omega)) ?_
              refine aw_upR j_80 cm_107 ⟨_, rfl⟩ (by decide) (WA LM0 (by decide) (by decide)) (fun V_83 j_83 k_83 e_83 => ?_)
              refine aw_aload_n dX12_readsDoor_178 rfl ?_
              refine aw_get dX12_readsDoor_179 fl_X12_7 ((k_83 _ (by decide)).trans ((k_80 _ (by decide)).trans e_78)) (by omega) rfl ?_
              refine aw_sipush (v := 192) dX12_readsDoor_182 (by decide) ?_
              refine aw_iload_n dX12_readsDoor_185 rfl ?_
              refine aw_iadd dX12_readsDoor_186 ?_
              refine aw_eqi (y := nI (192 + nu0_k15)) (nI_add _ _) ?_
              refine aw_iconst (v := 0) dX12_readsDoor_187 (by decide) ?_
              obtain ⟨g_84, e_84⟩ := JR.get j_83 cm_101
              refine aw_iast dX12_readsDoor_188 e_84 (by omega) (vp_in_nI (n := (192 + nu0_k15)) (by omega) (by omega)) ?_
              refine aw_upR j_83 cm_101 ⟨_, rfl⟩ (by decide) (WE e_84 (LMs (LMs (LMs (LMs (LMs LM0))))) (by decide) (by decide) (by rw [nI_clamp (n := (192 + nu0_k15)) (by omega)]; omega) (by rw [nI_clamp (n := (192 + nu0_k15)) (by omega)]; omega)) (fun V_85 j_85 k_85 e_85 => ?_)
              refine aw_iconst (v := 1) dX12_readsDoor_189 (by decide) ?_
              refine aw_zreti dX12_readsDoor_190 rfl (by first | exact Or.inl rfl | exact Or.inr rfl | assumption) (Nat.le_of_ble_eq_true rfl) (Nat.le_of_ble_eq_true rfl) ?_
              exact ⟨⟨(by first | exact Or.inl rfl | exact Or.inr rfl | assumption), ⟨pl0_k73, by omega, by omega, (FG.of ((k_85 _ (by decide)).trans ((k_83 _ (by decide)).trans ((k_80 _ (by decide)).trans e_78))) rfl rfl), (FG.of ((k_85 _ (by decide)).trans ((k_83 _ (by decide)).trans ((k_80 _ (by decide)).trans e_78))) rfl (by omega : le0_k73 = ln)), (((k_85 _ (by decide)).trans ((k_83 _ (by decide)).trans ((k_80 _ (by decide)).trans ((k_78 _ (by decide)).trans (hz_71.trans ((k_60 _ (by decide)).trans (hz_38.trans (hz_13.trans e_1))))))))).trans e_1.symm⟩⟩, rfl, j_85⟩
            · skip
              refine aw_iconst (v := 0) dX12_readsDoor_147 (by decide) ?_
              refine aw_zreti dX12_readsDoor_148 rfl (by first | exact Or.inl rfl | exact Or.inr rfl | assumption) (Nat.le_of_ble_eq_true rfl) (Nat.le_of_ble_eq_true rfl) ?_
              exact ⟨⟨(by first | exact Or.inl rfl | exact Or.inr rfl | assumption), ⟨pl0_k73, by omega, by omega, (FG.of e_k73 rfl rfl), (FG.of e_k73 rfl (by omega : le0_k73 = ln)), ((hz_71.trans ((k_60 _ (by decide)).trans (hz_38.trans (hz_13.trans e_1))))).trans e_1.symm⟩⟩, rfl, j_64⟩
          · skip
            refine aw_aload_n dX12_readsDoor_112 rfl ?_
            refine aw_iconst (v := 1) dX12_readsDoor_113 (by decide) ?_
            refine aw_aload_n dX12_readsDoor_114 rfl ?_
            refine aw_get dX12_readsDoor_115 fl_X12_159 e_k40 (by omega) rfl ?_
            refine aw_callVi (J' := jX12_wrongAt) (As := [.int 1, .int (nI pl0_k40)]) (st := []) dX12_readsDoor_118 tb_1224 ok_X12_wrongAt ⟨_, e_k40⟩ (by omega) rfl rfl (r_wrongAt l D b N V_32 hN cl j_31.1 1 (nI pl0_k40) pl0_k40 le0_k40 (FG.of e_k40 rfl rfl) (FG.of e_k40 rfl rfl) ⟨by omega, by omega⟩) rfl (Nat.le_of_ble_eq_true rfl) ⟨Nat.le_of_ble_eq_true rfl, Nat.le_of_ble_eq_true rfl, Nat.le_of_ble_eq_true rfl, Nat.le_of_ble_eq_true rfl⟩ (fun r_99 N_100 V_90 q_101 => ?_)
            obtain ⟨⟨z_88, h_87⟩, rfl, q_86⟩ := q_101
            have j_89 := JR.trans j_31 (JR.weak q_86 (Sub.cons (LMs (LMs (LMs LM0))) (by decide) (by decide) (by decide) (Or.inr ⟨by decide, by decide⟩) Sub.nil))
            obtain ⟨a_91, ha_92, hA_93, hF_94, hL_95, hz_96, hX_97⟩ := h_87
            obtain ⟨ftoldPeople_k98, ftoldDoors_k98, fwasDoors_k98, ffault_k98, fopen_k98, flines_k98, fmeantSet_k98, fopenedNow_k98, fvainNow_k98, flowNow_k98, fhighNow_k98, fisKept_k98, tad_k98, pl0_k98, le0_k98, nu0_k98, coy_k98, wag_k98, say_k98, e_k98, hntad_k98, hnpl0_k98, hnle0_k98, hnnu0_k98, hncoy_k98, hnwag_k98, hnsay_k98⟩ := JR.get j_89 cm_100
            have hqp_k98 := FG.eq hF_94 e_k98 rfl (by omega) (by omega)
            have hql_k98 := FG.eq hL_95 e_k98 rfl (by omega) (by omega)
            obtain rfl := hX_97
            refine aw_zreti dX12_readsDoor_121 rfl (by first | exact Or.inl rfl | exact Or.inr rfl | assumption) (Nat.le_of_ble_eq_true rfl) (Nat.le_of_ble_eq_true rfl) ?_
            exact ⟨⟨(by first | exact Or.inl rfl | exact Or.inr rfl | assumption), ⟨pl0_k98, by omega, by omega, (FG.of e_k98 rfl rfl), (FG.of e_k98 rfl (by omega : le0_k98 = ln)), ((hz_96.trans (hz_38.trans (hz_13.trans e_1)))).trans e_1.symm⟩⟩, rfl, j_89⟩
        · skip
          refine aw_iconst (v := 0) dX12_readsDoor_103 (by decide) ?_
          refine aw_zreti dX12_readsDoor_104 rfl (by first | exact Or.inl rfl | exact Or.inr rfl | assumption) (Nat.le_of_ble_eq_true rfl) (Nat.le_of_ble_eq_true rfl) ?_
          exact ⟨⟨(by first | exact Or.inl rfl | exact Or.inr rfl | assumption), ⟨pl0_k40, by omega, by omega, (FG.of e_k40 rfl rfl), (FG.of e_k40 rfl (by omega : le0_k40 = ln)), ((hz_38.trans (hz_13.trans e_1))).trans e_1.symm⟩⟩, rfl, j_31⟩
      · skip
        have hlc_27 := here_lt h_22 c_27 (by decide)
        refine aw_aload_n dX12_readsDoor_41 rfl ?_
        refine aw_iload_n dX12_readsDoor_42 rfl ?_
        refine aw_callVi (J' := jX12_isDoor) (As := [.int (nI nu0_k15)]) (st := []) dX12_readsDoor_43 tb_1359 ok_X12_isDoor ⟨_, e_k15⟩ (by omega) rfl rfl (r_isDoor l D b N V_7 hN cl j_6.1 (nI nu0_k15)) rfl (Nat.le_of_ble_eq_true rfl) ⟨Nat.le_of_ble_eq_true rfl, Nat.le_of_ble_eq_true rfl, Nat.le_of_ble_eq_true rfl, Nat.le_of_ble_eq_true rfl⟩ (fun r_105 N_106 V_107 q_108 => ?_)
        obtain ⟨⟨z_104, h_103⟩, rfl, rfl⟩ := q_108
        refine aw_if_ne (tgt := 57) dX12_readsDoor_46 (by decide) (fun c_109 => ?_) (fun c_109 => ?_)
        · skip
          refine aw_aload_n dX12_readsDoor_57 rfl ?_
          refine aw_aload_n dX12_readsDoor_58 rfl ?_
          refine aw_get dX12_readsDoor_59 fl_X12_159 e_k15 (by omega) rfl ?_
          refine aw_iconst (v := 1) dX12_readsDoor_62 (by decide) ?_
          refine aw_iadd dX12_readsDoor_63 ?_
          refine aw_eqi (y := nI (pl0_k15 + 1)) (nI_add _ _) ?_
          refine aw_put dX12_readsDoor_64 fp_X12_159 e_k15 (by omega) rfl rfl (Nat.le_of_ble_eq_true rfl) rfl ?_
          refine aw_upR j_6 cm_100 ⟨_, _, _, _, _, _, _, _, _, _, _, _, tad_k15, (pl0_k15 + 1), le0_k15, nu0_k15, coy_k15, wag_k15, say_k15, rfl, by omega, by omega, by omega, by omega, by omega, by omega, by omega⟩ (by decide) (WO (s := 14) (x := .int (nI (pl0_k15 + 1))) e_k15 rfl (LMs (LMs LM0)) (by decide) (by decide) (by decide) (Or.inl (by decide))) (fun V_110 j_110 k_110 e_110 => ?_)
          refine aw_aload_n dX12_readsDoor_67 rfl ?_
          refine aw_aload_n dX12_readsDoor_68 rfl ?_
          refine aw_get dX12_readsDoor_69 fl_X12_129 e_110 (by omega) rfl ?_
          refine aw_iconst (v := 1) dX12_readsDoor_72 (by decide) ?_
          refine aw_iload_n dX12_readsDoor_73 rfl ?_
          refine aw_ishl dX12_readsDoor_74 ?_
          refine aw_iconst (v := (-1)) dX12_readsDoor_75 (by decide) ?_
          refine aw_ixor dX12_readsDoor_76 ?_
          refine aw_iand dX12_readsDoor_77 ?_
          refine aw_put dX12_readsDoor_78 fp_X12_129 e_110 (by omega) rfl rfl (Nat.le_of_ble_eq_true rfl) rfl ?_
          refine aw_upR j_110 cm_100 ⟨_, _, _, _, _, _, _, _, _, _, _, _, tad_k15, (pl0_k15 + 1), le0_k15, nu0_k15, coy_k15, wag_k15, say_k15, rfl, by omega, by omega, by omega, by omega, by omega, by omega, by omega⟩ (by decide) (WO (s := 10) (x := .int (ftoldDoors_k15 &&& (((1 : Int32) <<< ((nI nu0_k15) &&& 31)) ^^^ (-1)))) e_110 rfl (LMs (LMs (LMs (LMs LM0)))) (by decide) (by decide) (by decide) (Or.inl (by decide))) (fun V_111 j_111 k_111 e_111 => ?_)
          refine aw_aload_n dX12_readsDoor_81 rfl ?_
          refine aw_get dX12_readsDoor_82 fl_X12_7 e_111 (by omega) rfl ?_
          refine aw_sipush (v := 192) dX12_readsDoor_85 (by decide) ?_
          refine aw_iload_n dX12_readsDoor_88 rfl ?_
          refine aw_iadd dX12_readsDoor_89 ?_
          refine aw_eqi (y := nI (192 + nu0_k15)) (nI_add _ _) ?_
          refine aw_iconst (v := 0) dX12_readsDoor_90 (by decide) ?_
          obtain ⟨g_112, e_112⟩ := JR.get j_111 cm_101
          refine aw_iast dX12_readsDoor_91 e_112 (by omega) (vp_in_nI (n := (192 + nu0_k15)) (by omega) (by omega)) ?_
          refine aw_upR j_111 cm_101 ⟨_, rfl⟩ (by decide) (WE e_112 (LMs (LMs (LMs (LMs (LMs LM0))))) (by decide) (by decide) (by rw [nI_clamp (n := (192 + nu0_k15)) (by omega)]; omega) (by rw [nI_clamp (n := (192 + nu0_k15)) (by omega)]; omega)) (fun V_113 j_113 k_113 e_113 => ?_)
          refine aw_iconst (v := 1) dX12_readsDoor_92 (by decide) ?_
          refine aw_zreti dX12_readsDoor_93 rfl (by first | exact Or.inl rfl | exact Or.inr rfl | assumption) (Nat.le_of_ble_eq_true rfl) (Nat.le_of_ble_eq_true rfl) ?_
          exact ⟨⟨(by first | exact Or.inl rfl | exact Or.inr rfl | assumption), ⟨(pl0_k15 + 1), by omega, by omega, (FG.of ((k_113 _ (by decide)).trans e_111) rfl rfl), (FG.of ((k_113 _ (by decide)).trans e_111) rfl (by omega : le0_k15 = ln)), (((k_113 _ (by decide)).trans ((k_111 _ (by decide)).trans ((k_110 _ (by decide)).trans (hz_13.trans e_1))))).trans e_1.symm⟩⟩, rfl, j_113⟩
        · skip
          refine aw_aload_n dX12_readsDoor_49 rfl ?_
          refine aw_bipush (v := 7) dX12_readsDoor_50 (by decide) ?_
          refine aw_iload_n dX12_readsDoor_52 rfl ?_
          refine aw_callVi (J' := jX12_wrongAt) (As := [.int 7, .int (nI pl0_2)]) (st := []) dX12_readsDoor_53 tb_1224 ok_X12_wrongAt ⟨_, e_k15⟩ (by omega) rfl rfl (r_wrongAt l D b N V_7 hN cl j_6.1 7 (nI pl0_2) pl0_k15 le0_k15 (FG.of e_k15 rfl rfl) (FG.of e_k15 rfl rfl) ⟨by omega, by omega⟩) rfl (Nat.le_of_ble_eq_true rfl) ⟨Nat.le_of_ble_eq_true rfl, Nat.le_of_ble_eq_true rfl, Nat.le_of_ble_eq_true rfl, Nat.le_of_ble_eq_true rfl⟩ (fun r_127 N_128 V_118 q_129 => ?_)
          obtain ⟨⟨z_116, h_115⟩, rfl, q_114⟩ := q_129
          have j_117 := JR.trans j_6 (JR.weak q_114 (Sub.cons (LMs (LMs (LMs LM0))) (by decide) (by decide) (by decide) (Or.inr ⟨by decide, by decide⟩) Sub.nil))
          obtain ⟨a_119, ha_120, hA_121, hF_122, hL_123, hz_124, hX_125⟩ := h_115
          obtain ⟨ftoldPeople_k126, ftoldDoors_k126, fwasDoors_k126, ffault_k126, fopen_k126, flines_k126, fmeantSet_k126, fopenedNow_k126, fvainNow_k126, flowNow_k126, fhighNow_k126, fisKept_k126, tad_k126, pl0_k126, le0_k126, nu0_k126, coy_k126, wag_k126, say_k126, e_k126, hntad_k126, hnpl0_k126, hnle0_k126, hnnu0_k126, hncoy_k126, hnwag_k126, hnsay_k126⟩ := JR.get j_117 cm_100
          have hqp_k126 := FG.eq hF_122 e_k126 rfl (by omega) (by omega)
          have hql_k126 := FG.eq hL_123 e_k126 rfl (by omega) (by omega)
          obtain rfl := hX_125
          refine aw_zreti dX12_readsDoor_56 rfl (by first | exact Or.inl rfl | exact Or.inr rfl | assumption) (Nat.le_of_ble_eq_true rfl) (Nat.le_of_ble_eq_true rfl) ?_
          exact ⟨⟨(by first | exact Or.inl rfl | exact Or.inr rfl | assumption), ⟨pl0_k126, by omega, by omega, (FG.of e_k126 rfl rfl), (FG.of e_k126 rfl (by omega : le0_k126 = ln)), ((hz_124.trans (hz_13.trans e_1))).trans e_1.symm⟩⟩, rfl, j_117⟩
    · skip
      have nc_20 : ¬ (nu0_k15 < 16) := fun z => c_20 ((nI_ltI (a := nu0_k15) (b := 16) (by omega) (by omega)).mpr z)
      refine aw_aload_n dX12_readsDoor_25 rfl ?_
      refine aw_iconst (v := 3) dX12_readsDoor_26 (by decide) ?_
      refine aw_iload_n dX12_readsDoor_27 rfl ?_
      refine aw_callVi (J' := jX12_wrongAt) (As := [.int 3, .int (nI pl0_2)]) (st := []) dX12_readsDoor_28 tb_1224 ok_X12_wrongAt ⟨_, e_k15⟩ (by omega) rfl rfl (r_wrongAt l D b N V_7 hN cl j_6.1 3 (nI pl0_2) pl0_k15 le0_k15 (FG.of e_k15 rfl rfl) (FG.of e_k15 rfl rfl) ⟨by omega, by omega⟩) rfl (Nat.le_of_ble_eq_true rfl) ⟨Nat.le_of_ble_eq_true rfl, Nat.le_of_ble_eq_true rfl, Nat.le_of_ble_eq_true rfl, Nat.le_of_ble_eq_true rfl⟩ (fun r_143 N_144 V_134 q_145 => ?_)
      obtain ⟨⟨z_132, h_131⟩, rfl, q_130⟩ := q_145
      have j_133 := JR.trans j_6 (JR.weak q_130 (Sub.cons (LMs (LMs (LMs LM0))) (by decide) (by decide) (by decide) (Or.inr ⟨by decide, by decide⟩) Sub.nil))
      obtain ⟨a_135, ha_136, hA_137, hF_138, hL_139, hz_140, hX_141⟩ := h_131
      obtain ⟨ftoldPeople_k142, ftoldDoors_k142, fwasDoors_k142, ffault_k142, fopen_k142, flines_k142, fmeantSet_k142, fopenedNow_k142, fvainNow_k142, flowNow_k142, fhighNow_k142, fisKept_k142, tad_k142, pl0_k142, le0_k142, nu0_k142, coy_k142, wag_k142, say_k142, e_k142, hntad_k142, hnpl0_k142, hnle0_k142, hnnu0_k142, hncoy_k142, hnwag_k142, hnsay_k142⟩ := JR.get j_133 cm_100
      have hqp_k142 := FG.eq hF_138 e_k142 rfl (by omega) (by omega)
      have hql_k142 := FG.eq hL_139 e_k142 rfl (by omega) (by omega)
      obtain rfl := hX_141
      refine aw_zreti dX12_readsDoor_31 rfl (by first | exact Or.inl rfl | exact Or.inr rfl | assumption) (Nat.le_of_ble_eq_true rfl) (Nat.le_of_ble_eq_true rfl) ?_
      exact ⟨⟨(by first | exact Or.inl rfl | exact Or.inr rfl | assumption), ⟨pl0_k142, by omega, by omega, (FG.of e_k142 rfl rfl), (FG.of e_k142 rfl (by omega : le0_k142 = ln)), ((hz_140.trans (hz_13.trans e_1))).trans e_1.symm⟩⟩, rfl, j_133⟩
  · skip
    refine aw_iconst (v := 0) dX12_readsDoor_12 (by decide) ?_
    refine aw_zreti dX12_readsDoor_13 rfl (by first | exact Or.inl rfl | exact Or.inr rfl | assumption) (Nat.le_of_ble_eq_true rfl) (Nat.le_of_ble_eq_true rfl) ?_
    exact ⟨⟨(by first | exact Or.inl rfl | exact Or.inr rfl | assumption), ⟨pl0_k15, by omega, by omega, (FG.of e_k15 rfl rfl), (FG.of e_k15 rfl (by omega : le0_k15 = ln)), ((hz_13.trans e_1)).trans e_1.symm⟩⟩, rfl, j_6⟩

set_option maxHeartbeats 4000000 in
set_option maxRecDepth 100000 in
theorem r_readsOrder (l : Launch) (D : va_G) (b : Nat) (N : Nat) (V : Wd) (hN : 133 ≤ N) (cl : Nat) (hW : CR D b cl V)  (pl ln : Nat) (hpl : FG b 14 pl V) (hln : FG b 15 ln V) (hb : pl ≤ 240 ∧ ln ≤ 240)  : MI l D b 5 jX12_readsOrder [.ref (b + 100)] N V 0 0 (fun r N9 V9 => ((r = 0 ∨ r = 1) ∧ (∃ a9, pl ≤ a9 ∧ a9 ≤ 240 ∧ FG b 14 a9 V9 ∧ FG b 15 ln V9 ∧ V9 110 = V 110)) ∧ N = N9 ∧ JR D b N cl [(104, 104, 0, 1000000), (106, 107, 0, 1000000), (100, 100, 36, 36), (100, 100, 14, 14), (100, 100, 17, 17), (100, 100, 16, 16), (100, 100, 10, 10), (101, 101, 192, 207)] V V9) := by
  have hJ0 : JR D b N cl [(104, 104, 0, 1000000), (106, 107, 0, 1000000), (100, 100, 36, 36), (100, 100, 14, 14), (100, 100, 17, 17), (100, 100, 16, 16), (100, 100, 10, 10), (101, 101, 192, 207)] V V := JR.rf hW
  refine mw_of (by decide) (by simp [Value.category]) (Nat.le_of_ble_eq_true rfl) ?_
  show AW l D b jX12_readsOrder (fx_rm 5 0 0) none (fx_MQ D b 0 0 (fx_qi (fun r N9 V9 => ((r = 0 ∨ r = 1) ∧ (∃ a9, pl ≤ a9 ∧ a9 ≤ 240 ∧ FG b 14 a9 V9 ∧ FG b 15 ln V9 ∧ V9 110 = V 110)) ∧ N = N9 ∧ JR D b N cl [(104, 104, 0, 1000000), (106, 107, 0, 1000000), (100, 100, 36, 36), (100, 100, 14, 14), (100, 100, 17, 17), (100, 100, 16, 16), (100, 100, 10, 10), (101, 101, 192, 207)] V V9))) 0 [some (.ref (b + 100))] [] N V 0 0
  obtain ⟨g_1, e_1⟩ := JR.get hJ0 cm_110
  obtain ⟨ftoldPeople_2, ftoldDoors_2, fwasDoors_2, ffault_2, fopen_2, flines_2, fmeantSet_2, fopenedNow_2, fvainNow_2, flowNow_2, fhighNow_2, fisKept_2, tad_2, pl0_2, le0_2, nu0_2, coy_2, wag_2, say_2, e_2, hntad_2, hnpl0_2, hnle0_2, hnnu0_2, hncoy_2, hnwag_2, hnsay_2⟩ := JR.get hJ0 cm_100
  have hq_p := FG.eq hpl e_2 rfl (by omega) (by omega)
  have hq_l := FG.eq hln e_2 rfl (by omega) (by omega)
  refine aw_aload_n dX12_readsOrder_0 rfl ?_
  refine aw_callVi (J' := jX12_here) (As := []) (st := []) dX12_readsOrder_1 tb_1220 ok_X12_here ⟨_, e_2⟩ (by omega) rfl rfl (r_here l D b N V hN cl hJ0.1 g_1 e_1 pl0_2 le0_2 (FG.of e_2 rfl rfl) (FG.of e_2 rfl rfl) ⟨by omega, by omega⟩) rfl (Nat.le_of_ble_eq_true rfl) ⟨Nat.le_of_ble_eq_true rfl, Nat.le_of_ble_eq_true rfl, Nat.le_of_ble_eq_true rfl, Nat.le_of_ble_eq_true rfl⟩ (fun r_5 N_6 V_7 q_8 => ?_)
  obtain ⟨h_4, rfl, rfl⟩ := q_8
  refine aw_bipush (v := 100) dX12_readsOrder_4 (by decide) ?_
  refine aw_icmp_eq (tgt := 26) dX12_readsOrder_6 (by decide) (fun c_9 => ?_) (fun c_9 => ?_)
  · skip
    have hlc_9 := here_lt h_4 c_9 (by decide)
    refine aw_aload_n dX12_readsOrder_26 rfl ?_
    refine aw_get dX12_readsOrder_27 fl_X12_268 e_2 (by omega) rfl ?_
    refine aw_bipush (v := 16) dX12_readsOrder_30 (by decide) ?_
    refine aw_icmp_ne (tgt := 45) dX12_readsOrder_32 (by decide) (fun c_10 => ?_) (fun c_10 => ?_)
    · skip
      refine aw_aload_n dX12_readsOrder_45 rfl ?_
      refine aw_aload_n dX12_readsOrder_46 rfl ?_
      refine aw_get dX12_readsOrder_47 fl_X12_268 e_2 (by omega) rfl ?_
      refine aw_iconst (v := 1) dX12_readsOrder_50 (by decide) ?_
      refine aw_iadd dX12_readsOrder_51 ?_
      refine aw_put dX12_readsOrder_52 fp_X12_268 e_2 (by omega) rfl rfl (Nat.le_of_ble_eq_true rfl) rfl ?_
      refine aw_upR hJ0 cm_100 ⟨_, _, _, _, _, _, _, _, _, _, _, _, tad_2, pl0_2, le0_2, nu0_2, coy_2, wag_2, say_2, rfl, by omega, by omega, by omega, by omega, by omega, by omega, by omega⟩ (by decide) (WO (s := 36) (x := .int (flines_2 + 1)) e_2 rfl (LMs (LMs LM0)) (by decide) (by decide) (by decide) (Or.inl (by decide))) (fun V_11 j_11 k_11 e_11 => ?_)
      refine aw_aload_n dX12_readsOrder_55 rfl ?_
      refine aw_callVi (J' := jX12_here) (As := []) (st := []) dX12_readsOrder_56 tb_1220 ok_X12_here ⟨_, e_11⟩ (by omega) rfl rfl (r_here l D b N V_11 hN cl j_11.1 g_1 ((k_11 _ (by decide)).trans e_1) pl0_2 le0_2 (FG.of e_11 rfl rfl) (FG.of e_11 rfl rfl) ⟨by omega, by omega⟩) rfl (Nat.le_of_ble_eq_true rfl) ⟨Nat.le_of_ble_eq_true rfl, Nat.le_of_ble_eq_true rfl, Nat.le_of_ble_eq_true rfl, Nat.le_of_ble_eq_true rfl⟩ (fun r_14 N_15 V_16 q_17 => ?_)
      obtain ⟨h_13, rfl, rfl⟩ := q_17
      refine aw_eqi (y := 100) (h_13.trans (h_4.symm.trans c_9)) ?_
      refine aw_bipush (v := 100) dX12_readsOrder_59 (by decide) ?_
      refine aw_icmp_eq (tgt := 69) dX12_readsOrder_61 (by decide) (fun c_18 => ?_) (fun c_18 => ?_)
      rotate_left
      · exact absurd (by decide) c_18
      refine aw_aload_n dX12_readsOrder_69 rfl ?_
      refine aw_aload_n dX12_readsOrder_70 rfl ?_
      refine aw_get dX12_readsOrder_71 fl_X12_159 e_11 (by omega) rfl ?_
      refine aw_iconst (v := 1) dX12_readsOrder_74 (by decide) ?_
      refine aw_iadd dX12_readsOrder_75 ?_
      refine aw_eqi (y := nI (pl0_2 + 1)) (nI_add _ _) ?_
      refine aw_put dX12_readsOrder_76 fp_X12_159 e_11 (by omega) rfl rfl (Nat.le_of_ble_eq_true rfl) rfl ?_
      refine aw_upR j_11 cm_100 ⟨_, _, _, _, _, _, _, _, _, _, _, _, tad_2, (pl0_2 + 1), le0_2, nu0_2, coy_2, wag_2, say_2, rfl, by omega, by omega, by omega, by omega, by omega, by omega, by omega⟩ (by decide) (WO (s := 14) (x := .int (nI (pl0_2 + 1))) e_11 rfl (LMs (LMs (LMs LM0))) (by decide) (by decide) (by decide) (Or.inl (by decide))) (fun V_19 j_19 k_19 e_19 => ?_)
      refine aw_aload_n dX12_readsOrder_79 rfl ?_
      refine aw_callVi (J' := jX12_readsDoor) (As := []) (st := []) dX12_readsOrder_80 tb_1355 ok_X12_readsDoor ⟨_, e_19⟩ (by omega) rfl rfl (r_readsDoor l D b N V_19 hN cl j_19.1 (pl0_2 + 1) le0_2 (FG.of e_19 rfl rfl) (FG.of e_19 rfl rfl) ⟨by omega, by omega⟩) rfl (Nat.le_of_ble_eq_true rfl) ⟨Nat.le_of_ble_eq_true rfl, Nat.le_of_ble_eq_true rfl, Nat.le_of_ble_eq_true rfl, Nat.le_of_ble_eq_true rfl⟩ (fun r_33 N_34 V_24 q_35 => ?_)
      obtain ⟨⟨z_22, h_21⟩, rfl, q_20⟩ := q_35
      have j_23 := JR.trans j_19 (JR.weak q_20 (Sub.cons (LMs LM0) (by decide) (by decide) (by decide) (Or.inl rfl) (Sub.cons (LMs (LMs (LMs (LMs LM0)))) (by decide) (by decide) (by decide) (Or.inr ⟨by decide, by decide⟩) (Sub.cons (LMs (LMs (LMs LM0))) (by decide) (by decide) (by decide) (Or.inr ⟨by decide, by decide⟩) (Sub.cons (LMs (LMs (LMs (LMs (LMs LM0))))) (by decide) (by decide) (by decide) (Or.inr ⟨by decide, by decide⟩) (Sub.cons (LMs (LMs (LMs (LMs (LMs (LMs LM0)))))) (by decide) (by decide) (by decide) (Or.inr ⟨by decide, by decide⟩) (Sub.cons (LMs (LMs (LMs (LMs (LMs (LMs (LMs LM0))))))) (by decide) (by decide) (by decide) (Or.inr ⟨by decide, by decide⟩) Sub.nil)))))))
      obtain ⟨a_25, ha_26, hA_27, hF_28, hL_29, hz_30⟩ := h_21
      obtain ⟨ftoldPeople_k32, ftoldDoors_k32, fwasDoors_k32, ffault_k32, fopen_k32, flines_k32, fmeantSet_k32, fopenedNow_k32, fvainNow_k32, flowNow_k32, fhighNow_k32, fisKept_k32, tad_k32, pl0_k32, le0_k32, nu0_k32, coy_k32, wag_k32, say_k32, e_k32, hntad_k32, hnpl0_k32, hnle0_k32, hnnu0_k32, hncoy_k32, hnwag_k32, hnsay_k32⟩ := JR.get j_23 cm_100
      have hqp_k32 := FG.eq hF_28 e_k32 rfl (by omega) (by omega)
      have hql_k32 := FG.eq hL_29 e_k32 rfl (by omega) (by omega)
      refine aw_zreti dX12_readsOrder_83 rfl (by first | exact Or.inl rfl | exact Or.inr rfl | assumption) (Nat.le_of_ble_eq_true rfl) (Nat.le_of_ble_eq_true rfl) ?_
      exact ⟨⟨(by first | exact Or.inl rfl | exact Or.inr rfl | assumption), ⟨pl0_k32, by omega, by omega, (FG.of e_k32 rfl rfl), (FG.of e_k32 rfl (by omega : le0_k32 = ln)), ((hz_30.trans ((k_19 _ (by decide)).trans ((k_11 _ (by decide)).trans e_1)))).trans e_1.symm⟩⟩, rfl, j_23⟩
    · skip
      refine aw_aload_n dX12_readsOrder_35 rfl ?_
      refine aw_iconst (v := 4) dX12_readsOrder_36 (by decide) ?_
      refine aw_aload_n dX12_readsOrder_37 rfl ?_
      refine aw_get dX12_readsOrder_38 fl_X12_159 e_2 (by omega) rfl ?_
      refine aw_callVi (J' := jX12_wrongAt) (As := [.int 4, .int (nI pl0_2)]) (st := []) dX12_readsOrder_41 tb_1224 ok_X12_wrongAt ⟨_, e_2⟩ (by omega) rfl rfl (r_wrongAt l D b N V hN cl hJ0.1 4 (nI pl0_2) pl0_2 le0_2 (FG.of e_2 rfl rfl) (FG.of e_2 rfl rfl) ⟨by omega, by omega⟩) rfl (Nat.le_of_ble_eq_true rfl) ⟨Nat.le_of_ble_eq_true rfl, Nat.le_of_ble_eq_true rfl, Nat.le_of_ble_eq_true rfl, Nat.le_of_ble_eq_true rfl⟩ (fun r_49 N_50 V_40 q_51 => ?_)
      obtain ⟨⟨z_38, h_37⟩, rfl, q_36⟩ := q_51
      have j_39 := JR.trans hJ0 (JR.weak q_36 (Sub.cons (LMs (LMs (LMs (LMs (LMs LM0))))) (by decide) (by decide) (by decide) (Or.inr ⟨by decide, by decide⟩) Sub.nil))
      obtain ⟨a_41, ha_42, hA_43, hF_44, hL_45, hz_46, hX_47⟩ := h_37
      obtain ⟨ftoldPeople_k48, ftoldDoors_k48, fwasDoors_k48, ffault_k48, fopen_k48, flines_k48, fmeantSet_k48, fopenedNow_k48, fvainNow_k48, flowNow_k48, fhighNow_k48, fisKept_k48, tad_k48, pl0_k48, le0_k48, nu0_k48, coy_k48, wag_k48, say_k48, e_k48, hntad_k48, hnpl0_k48, hnle0_k48, hnnu0_k48, hncoy_k48, hnwag_k48, hnsay_k48⟩ := JR.get j_39 cm_100
      have hqp_k48 := FG.eq hF_44 e_k48 rfl (by omega) (by omega)
      have hql_k48 := FG.eq hL_45 e_k48 rfl (by omega) (by omega)
      obtain rfl := hX_47
      refine aw_zreti dX12_readsOrder_44 rfl (by first | exact Or.inl rfl | exact Or.inr rfl | assumption) (Nat.le_of_ble_eq_true rfl) (Nat.le_of_ble_eq_true rfl) ?_
      exact ⟨⟨(by first | exact Or.inl rfl | exact Or.inr rfl | assumption), ⟨pl0_k48, by omega, by omega, (FG.of e_k48 rfl rfl), (FG.of e_k48 rfl (by omega : le0_k48 = ln)), ((hz_46.trans e_1)).trans e_1.symm⟩⟩, rfl, j_39⟩
  · skip
    refine aw_aload_n dX12_readsOrder_9 rfl ?_
    refine aw_callVi (J' := jX12_isDigit) (As := []) (st := []) dX12_readsOrder_10 tb_1241 ok_X12_isDigit ⟨_, e_2⟩ (by omega) rfl rfl (r_isDigit l D b N V hN cl hJ0.1 g_1 e_1 pl0_2 le0_2 (FG.of e_2 rfl rfl) (FG.of e_2 rfl rfl) ⟨by omega, by omega⟩) rfl (Nat.le_of_ble_eq_true rfl) ⟨Nat.le_of_ble_eq_true rfl, Nat.le_of_ble_eq_true rfl, Nat.le_of_ble_eq_true rfl, Nat.le_of_ble_eq_true rfl⟩ (fun r_55 N_56 V_57 q_58 => ?_)
    obtain ⟨⟨z_54, h_53⟩, rfl, rfl⟩ := q_58
    refine aw_if_ne (tgt := 26) dX12_readsOrder_13 (by decide) (fun c_59 => ?_) (fun c_59 => ?_)
    · skip
      obtain ⟨z_60, hz_60, ez_60⟩ := h_53.resolve_left c_59
      have hlc_59 := here_ltd ez_60 (by omega)
      refine aw_aload_n dX12_readsOrder_26 rfl ?_
      refine aw_get dX12_readsOrder_27 fl_X12_268 e_2 (by omega) rfl ?_
      refine aw_bipush (v := 16) dX12_readsOrder_30 (by decide) ?_
      refine aw_icmp_ne (tgt := 45) dX12_readsOrder_32 (by decide) (fun c_61 => ?_) (fun c_61 => ?_)
      · skip
        refine aw_aload_n dX12_readsOrder_45 rfl ?_
        refine aw_aload_n dX12_readsOrder_46 rfl ?_
        refine aw_get dX12_readsOrder_47 fl_X12_268 e_2 (by omega) rfl ?_
        refine aw_iconst (v := 1) dX12_readsOrder_50 (by decide) ?_
        refine aw_iadd dX12_readsOrder_51 ?_
        refine aw_put dX12_readsOrder_52 fp_X12_268 e_2 (by omega) rfl rfl (Nat.le_of_ble_eq_true rfl) rfl ?_
        refine aw_upR hJ0 cm_100 ⟨_, _, _, _, _, _, _, _, _, _, _, _, tad_2, pl0_2, le0_2, nu0_2, coy_2, wag_2, say_2, rfl, by omega, by omega, by omega, by omega, by omega, by omega, by omega⟩ (by decide) (WO (s := 36) (x := .int (flines_2 + 1)) e_2 rfl (LMs (LMs LM0)) (by decide) (by decide) (by decide) (Or.inl (by decide))) (fun V_62 j_62 k_62 e_62 => ?_)
        refine aw_aload_n dX12_readsOrder_55 rfl ?_
        refine aw_callVi (J' := jX12_here) (As := []) (st := []) dX12_readsOrder_56 tb_1220 ok_X12_here ⟨_, e_62⟩ (by omega) rfl rfl (r_here l D b N V_62 hN cl j_62.1 g_1 ((k_62 _ (by decide)).trans e_1) pl0_2 le0_2 (FG.of e_62 rfl rfl) (FG.of e_62 rfl rfl) ⟨by omega, by omega⟩) rfl (Nat.le_of_ble_eq_true rfl) ⟨Nat.le_of_ble_eq_true rfl, Nat.le_of_ble_eq_true rfl, Nat.le_of_ble_eq_true rfl, Nat.le_of_ble_eq_true rfl⟩ (fun r_65 N_66 V_67 q_68 => ?_)
        obtain ⟨h_64, rfl, rfl⟩ := q_68
        refine aw_eqi (h_64.trans ez_60) ?_
        refine aw_bipush (v := 100) dX12_readsOrder_59 (by decide) ?_
        refine aw_icmp_eq (tgt := 69) dX12_readsOrder_61 (by decide) (fun c_69 => ?_) (fun c_69 => ?_)
        · skip
          have nc_69 : (48 + z_60) = 100 := (nI_eq (a := (48 + z_60)) (b := 100) (by omega) (by omega)).mp c_69
          refine aw_aload_n dX12_readsOrder_69 rfl ?_
          refine aw_aload_n dX12_readsOrder_70 rfl ?_
          refine aw_get dX12_readsOrder_71 fl_X12_159 e_62 (by omega) rfl ?_
          refine aw_iconst (v := 1) dX12_readsOrder_74 (by decide) ?_
          refine aw_iadd dX12_readsOrder_75 ?_
          refine aw_eqi (y := nI (pl0_2 + 1)) (nI_add _ _) ?_
          refine aw_put dX12_readsOrder_76 fp_X12_159 e_62 (by omega) rfl rfl (Nat.le_of_ble_eq_true rfl) rfl ?_
          refine aw_upR j_62 cm_100 ⟨_, _, _, _, _, _, _, _, _, _, _, _, tad_2, (pl0_2 + 1), le0_2, nu0_2, coy_2, wag_2, say_2, rfl, by omega, by omega, by omega, by omega, by omega, by omega, by omega⟩ (by decide) (WO (s := 14) (x := .int (nI (pl0_2 + 1))) e_62 rfl (LMs (LMs (LMs LM0))) (by decide) (by decide) (by decide) (Or.inl (by decide))) (fun V_70 j_70 k_70 e_70 => ?_)
          refine aw_aload_n dX12_readsOrder_79 rfl ?_
          refine aw_callVi (J' := jX12_readsDoor) (As := []) (st := []) dX12_readsOrder_80 tb_1355 ok_X12_readsDoor ⟨_, e_70⟩ (by omega) rfl rfl (r_readsDoor l D b N V_70 hN cl j_70.1 (pl0_2 + 1) le0_2 (FG.of e_70 rfl rfl) (FG.of e_70 rfl rfl) ⟨by omega, by omega⟩) rfl (Nat.le_of_ble_eq_true rfl) ⟨Nat.le_of_ble_eq_true rfl, Nat.le_of_ble_eq_true rfl, Nat.le_of_ble_eq_true rfl, Nat.le_of_ble_eq_true rfl⟩ (fun r_84 N_85 V_75 q_86 => ?_)
          obtain ⟨⟨z_73, h_72⟩, rfl, q_71⟩ := q_86
          have j_74 := JR.trans j_70 (JR.weak q_71 (Sub.cons (LMs LM0) (by decide) (by decide) (by decide) (Or.inl rfl) (Sub.cons (LMs (LMs (LMs (LMs LM0)))) (by decide) (by decide) (by decide) (Or.inr ⟨by decide, by decide⟩) (Sub.cons (LMs (LMs (LMs LM0))) (by decide) (by decide) (by decide) (Or.inr ⟨by decide, by decide⟩) (Sub.cons (LMs (LMs (LMs (LMs (LMs LM0))))) (by decide) (by decide) (by decide) (Or.inr ⟨by decide, by decide⟩) (Sub.cons (LMs (LMs (LMs (LMs (LMs (LMs LM0)))))) (by decide) (by decide) (by decide) (Or.inr ⟨by decide, by decide⟩) (Sub.cons (LMs (LMs (LMs (LMs (LMs (LMs (LMs LM0))))))) (by decide) (by decide) (by decide) (Or.inr ⟨by decide, by decide⟩) Sub.nil)))))))
          obtain ⟨a_76, ha_77, hA_78, hF_79, hL_80, hz_81⟩ := h_72
          obtain ⟨ftoldPeople_k83, ftoldDoors_k83, fwasDoors_k83, ffault_k83, fopen_k83, flines_k83, fmeantSet_k83, fopenedNow_k83, fvainNow_k83, flowNow_k83, fhighNow_k83, fisKept_k83, tad_k83, pl0_k83, le0_k83, nu0_k83, coy_k83, wag_k83, say_k83, e_k83, hntad_k83, hnpl0_k83, hnle0_k83, hnnu0_k83, hncoy_k83, hnwag_k83, hnsay_k83⟩ := JR.get j_74 cm_100
          have hqp_k83 := FG.eq hF_79 e_k83 rfl (by omega) (by omega)
          have hql_k83 := FG.eq hL_80 e_k83 rfl (by omega) (by omega)
          refine aw_zreti dX12_readsOrder_83 rfl (by first | exact Or.inl rfl | exact Or.inr rfl | assumption) (Nat.le_of_ble_eq_true rfl) (Nat.le_of_ble_eq_true rfl) ?_
          exact ⟨⟨(by first | exact Or.inl rfl | exact Or.inr rfl | assumption), ⟨pl0_k83, by omega, by omega, (FG.of e_k83 rfl rfl), (FG.of e_k83 rfl (by omega : le0_k83 = ln)), ((hz_81.trans ((k_70 _ (by decide)).trans ((k_62 _ (by decide)).trans e_1)))).trans e_1.symm⟩⟩, rfl, j_74⟩
        · skip
          have nc_69 : ¬ ((48 + z_60) = 100) := fun z => c_69 ((nI_eq (a := (48 + z_60)) (b := 100) (by omega) (by omega)).mpr z)
          refine aw_aload_n dX12_readsOrder_64 rfl ?_
          refine aw_callVi (J' := jX12_readsTwo) (As := []) (st := []) dX12_readsOrder_65 tb_1343 ok_X12_readsTwo ⟨_, e_62⟩ (by omega) rfl rfl (r_readsTwo l D b N V_62 hN cl j_62.1 pl0_2 le0_2 (FG.of e_62 rfl rfl) (FG.of e_62 rfl rfl) ⟨by omega, by omega⟩) rfl (Nat.le_of_ble_eq_true rfl) ⟨Nat.le_of_ble_eq_true rfl, Nat.le_of_ble_eq_true rfl, Nat.le_of_ble_eq_true rfl, Nat.le_of_ble_eq_true rfl⟩ (fun r_100 N_101 V_91 q_102 => ?_)
          obtain ⟨⟨z_89, h_88⟩, rfl, q_87⟩ := q_102
          have j_90 := JR.trans j_62 (JR.weak q_87 (Sub.cons LM0 (by decide) (by decide) (by decide) (Or.inl rfl) (Sub.cons (LMs (LMs (LMs (LMs LM0)))) (by decide) (by decide) (by decide) (Or.inr ⟨by decide, by decide⟩) (Sub.cons (LMs (LMs (LMs LM0))) (by decide) (by decide) (by decide) (Or.inr ⟨by decide, by decide⟩) (Sub.cons (LMs (LMs (LMs (LMs (LMs LM0))))) (by decide) (by decide) (by decide) (Or.inr ⟨by decide, by decide⟩) Sub.nil)))))
          obtain ⟨a_92, ha_93, hA_94, hF_95, hL_96, hz_97⟩ := h_88
          obtain ⟨ftoldPeople_k99, ftoldDoors_k99, fwasDoors_k99, ffault_k99, fopen_k99, flines_k99, fmeantSet_k99, fopenedNow_k99, fvainNow_k99, flowNow_k99, fhighNow_k99, fisKept_k99, tad_k99, pl0_k99, le0_k99, nu0_k99, coy_k99, wag_k99, say_k99, e_k99, hntad_k99, hnpl0_k99, hnle0_k99, hnnu0_k99, hncoy_k99, hnwag_k99, hnsay_k99⟩ := JR.get j_90 cm_100
          have hqp_k99 := FG.eq hF_95 e_k99 rfl (by omega) (by omega)
          have hql_k99 := FG.eq hL_96 e_k99 rfl (by omega) (by omega)
          refine aw_zreti dX12_readsOrder_68 rfl (by first | exact Or.inl rfl | exact Or.inr rfl | assumption) (Nat.le_of_ble_eq_true rfl) (Nat.le_of_ble_eq_true rfl) ?_
          exact ⟨⟨(by first | exact Or.inl rfl | exact Or.inr rfl | assumption), ⟨pl0_k99, by omega, by omega, (FG.of e_k99 rfl rfl), (FG.of e_k99 rfl (by omega : le0_k99 = ln)), ((hz_97.trans ((k_62 _ (by decide)).trans e_1))).trans e_1.symm⟩⟩, rfl, j_90⟩
      · skip
        refine aw_aload_n dX12_readsOrder_35 rfl ?_
        refine aw_iconst (v := 4) dX12_readsOrder_36 (by decide) ?_
        refine aw_aload_n dX12_readsOrder_37 rfl ?_
        refine aw_get dX12_readsOrder_38 fl_X12_159 e_2 (by omega) rfl ?_
        refine aw_callVi (J' := jX12_wrongAt) (As := [.int 4, .int (nI pl0_2)]) (st := []) dX12_readsOrder_41 tb_1224 ok_X12_wrongAt ⟨_, e_2⟩ (by omega) rfl rfl (r_wrongAt l D b N V hN cl hJ0.1 4 (nI pl0_2) pl0_2 le0_2 (FG.of e_2 rfl rfl) (FG.of e_2 rfl rfl) ⟨by omega, by omega⟩) rfl (Nat.le_of_ble_eq_true rfl) ⟨Nat.le_of_ble_eq_true rfl, Nat.le_of_ble_eq_true rfl, Nat.le_of_ble_eq_true rfl, Nat.le_of_ble_eq_true rfl⟩ (fun r_116 N_117 V_107 q_118 => ?_)
        obtain ⟨⟨z_105, h_104⟩, rfl, q_103⟩ := q_118
        have j_106 := JR.trans hJ0 (JR.weak q_103 (Sub.cons (LMs (LMs (LMs (LMs (LMs LM0))))) (by decide) (by decide) (by decide) (Or.inr ⟨by decide, by decide⟩) Sub.nil))
        obtain ⟨a_108, ha_109, hA_110, hF_111, hL_112, hz_113, hX_114⟩ := h_104
        obtain ⟨ftoldPeople_k115, ftoldDoors_k115, fwasDoors_k115, ffault_k115, fopen_k115, flines_k115, fmeantSet_k115, fopenedNow_k115, fvainNow_k115, flowNow_k115, fhighNow_k115, fisKept_k115, tad_k115, pl0_k115, le0_k115, nu0_k115, coy_k115, wag_k115, say_k115, e_k115, hntad_k115, hnpl0_k115, hnle0_k115, hnnu0_k115, hncoy_k115, hnwag_k115, hnsay_k115⟩ := JR.get j_106 cm_100
        have hqp_k115 := FG.eq hF_111 e_k115 rfl (by omega) (by omega)
        have hql_k115 := FG.eq hL_112 e_k115 rfl (by omega) (by omega)
        obtain rfl := hX_114
        refine aw_zreti dX12_readsOrder_44 rfl (by first | exact Or.inl rfl | exact Or.inr rfl | assumption) (Nat.le_of_ble_eq_true rfl) (Nat.le_of_ble_eq_true rfl) ?_
        exact ⟨⟨(by first | exact Or.inl rfl | exact Or.inr rfl | assumption), ⟨pl0_k115, by omega, by omega, (FG.of e_k115 rfl rfl), (FG.of e_k115 rfl (by omega : le0_k115 = ln)), ((hz_113.trans e_1)).trans e_1.symm⟩⟩, rfl, j_106⟩
    · skip
      refine aw_aload_n dX12_readsOrder_16 rfl ?_
      refine aw_iconst (v := 1) dX12_readsOrder_17 (by decide) ?_
      refine aw_aload_n dX12_readsOrder_18 rfl ?_
      refine aw_get dX12_readsOrder_19 fl_X12_159 e_2 (by omega) rfl ?_
      refine aw_callVi (J' := jX12_wrongAt) (As := [.int 1, .int (nI pl0_2)]) (st := []) dX12_readsOrder_22 tb_1224 ok_X12_wrongAt ⟨_, e_2⟩ (by omega) rfl rfl (r_wrongAt l D b N V hN cl hJ0.1 1 (nI pl0_2) pl0_2 le0_2 (FG.of e_2 rfl rfl) (FG.of e_2 rfl rfl) ⟨by omega, by omega⟩) rfl (Nat.le_of_ble_eq_true rfl) ⟨Nat.le_of_ble_eq_true rfl, Nat.le_of_ble_eq_true rfl, Nat.le_of_ble_eq_true rfl, Nat.le_of_ble_eq_true rfl⟩ (fun r_132 N_133 V_123 q_134 => ?_)
      obtain ⟨⟨z_121, h_120⟩, rfl, q_119⟩ := q_134
      have j_122 := JR.trans hJ0 (JR.weak q_119 (Sub.cons (LMs (LMs (LMs (LMs (LMs LM0))))) (by decide) (by decide) (by decide) (Or.inr ⟨by decide, by decide⟩) Sub.nil))
      obtain ⟨a_124, ha_125, hA_126, hF_127, hL_128, hz_129, hX_130⟩ := h_120
      obtain ⟨ftoldPeople_k131, ftoldDoors_k131, fwasDoors_k131, ffault_k131, fopen_k131, flines_k131, fmeantSet_k131, fopenedNow_k131, fvainNow_k131, flowNow_k131, fhighNow_k131, fisKept_k131, tad_k131, pl0_k131, le0_k131, nu0_k131, coy_k131, wag_k131, say_k131, e_k131, hntad_k131, hnpl0_k131, hnle0_k131, hnnu0_k131, hncoy_k131, hnwag_k131, hnsay_k131⟩ := JR.get j_122 cm_100
      have hqp_k131 := FG.eq hF_127 e_k131 rfl (by omega) (by omega)
      have hql_k131 := FG.eq hL_128 e_k131 rfl (by omega) (by omega)
      obtain rfl := hX_130
      refine aw_zreti dX12_readsOrder_25 rfl (by first | exact Or.inl rfl | exact Or.inr rfl | assumption) (Nat.le_of_ble_eq_true rfl) (Nat.le_of_ble_eq_true rfl) ?_
      exact ⟨⟨(by first | exact Or.inl rfl | exact Or.inr rfl | assumption), ⟨pl0_k131, by omega, by omega, (FG.of e_k131 rfl rfl), (FG.of e_k131 rfl (by omega : le0_k131 = ln)), ((hz_129.trans e_1)).trans e_1.symm⟩⟩, rfl, j_122⟩

set_option maxHeartbeats 4000000 in
set_option maxRecDepth 100000 in
theorem r_laysAside (l : Launch) (D : va_G) (b : Nat) (N : Nat) (V : Wd) (hN : 133 ≤ N) (cl : Nat) (hW : CR D b cl V)   : MV l D b 1 jX12_laysAside [.ref (b + 100)] N V 0 0 (fun N9 V9 => N = N9 ∧ JR D b N cl [(102, 102, 0, 1000000), (105, 105, 0, 1000000), (108, 109, 0, 1000000), (100, 100, 11, 11)] V V9) := by
  have hJ0 : JR D b N cl [(102, 102, 0, 1000000), (105, 105, 0, 1000000), (108, 109, 0, 1000000), (100, 100, 11, 11)] V V := JR.rf hW
  refine mw_of (by decide) (by simp [Value.category]) (Nat.le_of_ble_eq_true rfl) ?_
  show AW l D b jX12_laysAside (fx_rm 1 0 0) none (fx_MQ D b 0 0 (fx_qv (fun N9 V9 => N = N9 ∧ JR D b N cl [(102, 102, 0, 1000000), (105, 105, 0, 1000000), (108, 109, 0, 1000000), (100, 100, 11, 11)] V V9))) 0 [some (.ref (b + 100)), none] [] N V 0 0
  refine aw_aload_n dX12_laysAside_0 rfl ?_
  obtain ⟨ftoldPeople_1, ftoldDoors_1, fwasDoors_1, ffault_1, fopen_1, flines_1, fmeantSet_1, fopenedNow_1, fvainNow_1, flowNow_1, fhighNow_1, fisKept_1, tad_1, pl0_1, le0_1, nu0_1, coy_1, wag_1, say_1, e_1, hntad_1, hnpl0_1, hnle0_1, hnnu0_1, hncoy_1, hnwag_1, hnsay_1⟩ := JR.get hJ0 cm_100
  refine aw_get dX12_laysAside_1 fl_X12_7 e_1 (by omega) rfl ?_
  refine aw_aload_n dX12_laysAside_4 rfl ?_
  refine aw_get dX12_laysAside_5 fl_X12_13 e_1 (by omega) rfl ?_
  refine aw_callSv (J' := jX12_copies) (As := [.ref (b + 101), .ref (b + 102)]) (st := []) dX12_laysAside_8 tb_1299 ok_X12_copies rfl (r_copies l D b N V hN cl hJ0.1 101 1 cm_101 102 2 cm_102 (by decide)) rfl (Nat.le_of_ble_eq_true rfl) ⟨Nat.le_of_ble_eq_true rfl, Nat.le_of_ble_eq_true rfl, Nat.le_of_ble_eq_true rfl, Nat.le_of_ble_eq_true rfl⟩ (fun  N_5 V_4 q_6 => ?_)
  obtain ⟨rfl, q_2⟩ := q_6
  have j_3 := JR.trans hJ0 (JR.weak q_2 (Sub.cons LM0 (by decide) (by decide) (by decide) (Or.inl rfl) Sub.nil))
  refine aw_aload_n dX12_laysAside_11 rfl ?_
  refine aw_aload_n dX12_laysAside_12 rfl ?_
  obtain ⟨ftoldPeople_7, ftoldDoors_7, fwasDoors_7, ffault_7, fopen_7, flines_7, fmeantSet_7, fopenedNow_7, fvainNow_7, flowNow_7, fhighNow_7, fisKept_7, tad_7, pl0_7, le0_7, nu0_7, coy_7, wag_7, say_7, e_7, hntad_7, hnpl0_7, hnle0_7, hnnu0_7, hncoy_7, hnwag_7, hnsay_7⟩ := JR.get j_3 cm_100
  refine aw_get dX12_laysAside_13 fl_X12_129 e_7 (by omega) rfl ?_
  refine aw_put dX12_laysAside_16 fp_X12_296 e_7 (by omega) rfl rfl (Nat.le_of_ble_eq_true rfl) rfl ?_
  refine aw_upR j_3 cm_100 ⟨_, _, _, _, _, _, _, _, _, _, _, _, tad_7, pl0_7, le0_7, nu0_7, coy_7, wag_7, say_7, rfl, by omega, by omega, by omega, by omega, by omega, by omega, by omega⟩ (by decide) (WO (s := 11) (x := .int ftoldDoors_7) e_7 rfl (LMs (LMs (LMs LM0))) (by decide) (by decide) (by decide) (Or.inl (by decide))) (fun V_8 j_8 k_8 e_8 => ?_)
  refine aw_iconst (v := 0) dX12_laysAside_19 (by decide) ?_
  refine aw_istore_n (ls' := [some (.ref (b + 100)), some (.int 0)]) dX12_laysAside_20 (Nat.le_of_ble_eq_true rfl) rfl ?_
  have loop_21_8 : ∀ (g_21 : Nat), ∀ (j21 : Nat)  (V21 : Wd), j21 + g_21 = 12 → (JR D b N cl [(102, 102, 0, 1000000), (105, 105, 0, 1000000), (108, 109, 0, 1000000), (100, 100, 11, 11)] V V21) → AW l D b jX12_laysAside (fx_rm 1 0 0) none (fx_MQ D b 0 0 (fx_qv (fun N9 V9 => N = N9 ∧ JR D b N cl [(102, 102, 0, 1000000), (105, 105, 0, 1000000), (108, 109, 0, 1000000), (100, 100, 11, 11)] V V9))) 21 [some (.ref (b + 100)), some (.int (nI j21))] [] N V21 0 0 := by
    intro g_21
    induction g_21 with
    | zero =>
      intro j21  V21 hj21 i21_0
      obtain rfl : j21 = 12 := by omega
      refine aw_iload_n dX12_laysAside_21 rfl ?_
      refine aw_bipush (v := 12) dX12_laysAside_22 (by decide) ?_
      refine aw_icmp_ge (tgt := 45) dX12_laysAside_24 (by decide) (fun c_11 => ?_) (fun c_11 => ?_)
      rotate_left
      · exact absurd (nI_le (a := 12) (b := 12) (Nat.le_refl _) (by omega)) c_11
      refine aw_iconst (v := 0) dX12_laysAside_45 (by decide) ?_
      refine aw_istore_n (ls' := [some (.ref (b + 100)), some (.int 0)]) dX12_laysAside_46 (Nat.le_of_ble_eq_true rfl) rfl ?_
      have loop_47_11 : ∀ (g_47 : Nat), ∀ (j47 : Nat)  (V47 : Wd), j47 + g_47 = 16 → (JR D b N cl [(102, 102, 0, 1000000), (105, 105, 0, 1000000), (108, 109, 0, 1000000), (100, 100, 11, 11)] V V47) → AW l D b jX12_laysAside (fx_rm 1 0 0) none (fx_MQ D b 0 0 (fx_qv (fun N9 V9 => N = N9 ∧ JR D b N cl [(102, 102, 0, 1000000), (105, 105, 0, 1000000), (108, 109, 0, 1000000), (100, 100, 11, 11)] V V9))) 47 [some (.ref (b + 100)), some (.int (nI j47))] [] N V47 0 0 := by
        intro g_47
        induction g_47 with
        | zero =>
          intro j47  V47 hj47 i47_0
          obtain rfl : j47 = 16 := by omega
          refine aw_iload_n dX12_laysAside_47 rfl ?_
          refine aw_bipush (v := 16) dX12_laysAside_48 (by decide) ?_
          refine aw_icmp_ge (tgt := 83) dX12_laysAside_50 (by decide) (fun c_14 => ?_) (fun c_14 => ?_)
          rotate_left
          · exact absurd (nI_le (a := 16) (b := 16) (Nat.le_refl _) (by omega)) c_14
          refine aw_vreti dX12_laysAside_83 rfl (Nat.le_of_ble_eq_true rfl) (Nat.le_of_ble_eq_true rfl) ?_
          exact ⟨rfl, i47_0⟩
        | succ g_47 ih_47_12 =>
          intro j47  V47 hj47 i47_0
          have hlj47 : j47 < 16 := by omega
          refine aw_iload_n dX12_laysAside_47 rfl ?_
          refine aw_bipush (v := 16) dX12_laysAside_48 (by decide) ?_
          refine aw_icmp_ge (tgt := 83) dX12_laysAside_50 (by decide) (fun c_15 => ?_) (fun c_15 => ?_)
          · exact absurd c_15 (nI_ge (a := j47) (b := 16) (by omega) (by omega))
          refine aw_aload_n dX12_laysAside_53 rfl ?_
          obtain ⟨ftoldPeople_16, ftoldDoors_16, fwasDoors_16, ffault_16, fopen_16, flines_16, fmeantSet_16, fopenedNow_16, fvainNow_16, flowNow_16, fhighNow_16, fisKept_16, tad_16, pl0_16, le0_16, nu0_16, coy_16, wag_16, say_16, e_16, hntad_16, hnpl0_16, hnle0_16, hnnu0_16, hncoy_16, hnwag_16, hnsay_16⟩ := JR.get i47_0 cm_100
          refine aw_get dX12_laysAside_54 fl_X12_31 e_16 (by omega) rfl ?_
          refine aw_iload_n dX12_laysAside_57 rfl ?_
          refine aw_aload_n dX12_laysAside_58 rfl ?_
          refine aw_get dX12_laysAside_59 fl_X12_25 e_16 (by omega) rfl ?_
          refine aw_iload_n dX12_laysAside_62 rfl ?_
          obtain ⟨g_17, e_17, p_17⟩ := JR.get i47_0 cm_106
          refine aw_iald (v := (g_17 j47)) dX12_laysAside_63 e_17 (by omega) (vp_in_nI (n := j47) (by omega) (by omega)) (congrArg g_17 (nI_clamp (n := j47) (by omega))) ?_
          obtain ⟨g_18, e_18, p_18⟩ := JR.get i47_0 cm_108
          refine aw_iast dX12_laysAside_64 e_18 (by omega) (vp_in_nI (n := j47) (by omega) (by omega)) ?_
          refine aw_upR i47_0 cm_108 ⟨_, rfl, isP_upd (P := (fun v => ∃ k : Nat, k < 16 ∧ v = nI k)) p_18 (p_17 _ (by omega))⟩ (by decide) (WA (LMs (LMs LM0)) (by decide) (by decide)) (fun V_19 j_19 k_19 e_19 => ?_)
          refine aw_aload_n dX12_laysAside_65 rfl ?_
          refine aw_get dX12_laysAside_66 fl_X12_34 ((k_19 _ (by decide)).trans e_16) (by omega) rfl ?_
          refine aw_iload_n dX12_laysAside_69 rfl ?_
          refine aw_aload_n dX12_laysAside_70 rfl ?_
          refine aw_get dX12_laysAside_71 fl_X12_28 ((k_19 _ (by decide)).trans e_16) (by omega) rfl ?_
          refine aw_iload_n dX12_laysAside_74 rfl ?_
          obtain ⟨g_21, e_21⟩ := JR.get j_19 cm_107
          refine aw_iald (v := (g_21 j47)) dX12_laysAside_75 e_21 (by omega) (vp_in_nI (n := j47) (by omega) (by omega)) (congrArg g_21 (nI_clamp (n := j47) (by omega))) ?_
          obtain ⟨g_22, e_22⟩ := JR.get j_19 cm_109
          refine aw_iast dX12_laysAside_76 e_22 (by omega) (vp_in_nI (n := j47) (by omega) (by omega)) ?_
          refine aw_upR j_19 cm_109 ⟨_, rfl⟩ (by decide) (WA (LMs (LMs LM0)) (by decide) (by decide)) (fun V_23 j_23 k_23 e_23 => ?_)
          refine aw_iinc (v := (nI (j47 + 1))) (ls' := [some (.ref (b + 100)), some (.int (nI (j47 + 1)))]) dX12_laysAside_77 rfl (fx_up_1 _) (Nat.le_of_ble_eq_true rfl) rfl ?_
          refine aw_goto (tgt := 47) dX12_laysAside_80 (by decide) ?_
          refine aw_le ?_ (ih_47_12 (j47 + 1)  V_23 (by omega) (j_23))
          exact ⟨rfl, ⟨rfl, trivial⟩⟩
      refine aw_le ?_ (loop_47_11 16 0  V21 (by omega) (i21_0))
      exact ⟨rfl, ⟨rfl, trivial⟩⟩
    | succ g_21 ih_21_9 =>
      intro j21  V21 hj21 i21_0
      have hlj21 : j21 < 12 := by omega
      refine aw_iload_n dX12_laysAside_21 rfl ?_
      refine aw_bipush (v := 12) dX12_laysAside_22 (by decide) ?_
      refine aw_icmp_ge (tgt := 45) dX12_laysAside_24 (by decide) (fun c_24 => ?_) (fun c_24 => ?_)
      · exact absurd c_24 (nI_ge (a := j21) (b := 12) (by omega) (by omega))
      refine aw_aload_n dX12_laysAside_27 rfl ?_
      obtain ⟨ftoldPeople_25, ftoldDoors_25, fwasDoors_25, ffault_25, fopen_25, flines_25, fmeantSet_25, fopenedNow_25, fvainNow_25, flowNow_25, fhighNow_25, fisKept_25, tad_25, pl0_25, le0_25, nu0_25, coy_25, wag_25, say_25, e_25, hntad_25, hnpl0_25, hnle0_25, hnnu0_25, hncoy_25, hnwag_25, hnsay_25⟩ := JR.get i21_0 cm_100
      refine aw_get dX12_laysAside_28 fl_X12_22 e_25 (by omega) rfl ?_
      refine aw_iload_n dX12_laysAside_31 rfl ?_
      refine aw_aload_n dX12_laysAside_32 rfl ?_
      refine aw_get dX12_laysAside_33 fl_X12_19 e_25 (by omega) rfl ?_
      refine aw_iload_n dX12_laysAside_36 rfl ?_
      obtain ⟨g_26, e_26, p_26⟩ := JR.get i21_0 cm_104
      refine aw_iald (v := (g_26 j21)) dX12_laysAside_37 e_26 (by omega) (vp_in_nI (n := j21) (by omega) (by omega)) (congrArg g_26 (nI_clamp (n := j21) (by omega))) ?_
      obtain ⟨g_27, e_27, p_27⟩ := JR.get i21_0 cm_105
      refine aw_iast dX12_laysAside_38 e_27 (by omega) (vp_in_nI (n := j21) (by omega) (by omega)) ?_
      refine aw_upR i21_0 cm_105 ⟨_, rfl, isP_upd (P := (fun v => ∃ k : Nat, k < 4096 ∧ v = nI k)) p_27 (p_26 _ (by omega))⟩ (by decide) (WA (LMs LM0) (by decide) (by decide)) (fun V_28 j_28 k_28 e_28 => ?_)
      refine aw_iinc (v := (nI (j21 + 1))) (ls' := [some (.ref (b + 100)), some (.int (nI (j21 + 1)))]) dX12_laysAside_39 rfl (fx_up_1 _) (Nat.le_of_ble_eq_true rfl) rfl ?_
      refine aw_goto (tgt := 21) dX12_laysAside_42 (by decide) ?_
      refine aw_le ?_ (ih_21_9 (j21 + 1)  V_28 (by omega) (j_28))
      exact ⟨rfl, ⟨rfl, trivial⟩⟩
  refine aw_le ?_ (loop_21_8 12 0  V_8 (by omega) (j_8))
  exact ⟨rfl, ⟨rfl, trivial⟩⟩

set_option maxHeartbeats 4000000 in
set_option maxRecDepth 100000 in
theorem r_putsBack (l : Launch) (D : va_G) (b : Nat) (N : Nat) (V : Wd) (hN : 133 ≤ N) (cl : Nat) (hW : CR D b cl V)   : MV l D b 1 jX12_putsBack [.ref (b + 100)] N V 0 0 (fun N9 V9 => N = N9 ∧ JR D b N cl [(101, 101, 0, 1000000), (104, 104, 0, 1000000), (106, 107, 0, 1000000), (100, 100, 10, 10)] V V9) := by
  have hJ0 : JR D b N cl [(101, 101, 0, 1000000), (104, 104, 0, 1000000), (106, 107, 0, 1000000), (100, 100, 10, 10)] V V := JR.rf hW
  refine mw_of (by decide) (by simp [Value.category]) (Nat.le_of_ble_eq_true rfl) ?_
  show AW l D b jX12_putsBack (fx_rm 1 0 0) none (fx_MQ D b 0 0 (fx_qv (fun N9 V9 => N = N9 ∧ JR D b N cl [(101, 101, 0, 1000000), (104, 104, 0, 1000000), (106, 107, 0, 1000000), (100, 100, 10, 10)] V V9))) 0 [some (.ref (b + 100)), none] [] N V 0 0
  refine aw_aload_n dX12_putsBack_0 rfl ?_
  obtain ⟨ftoldPeople_1, ftoldDoors_1, fwasDoors_1, ffault_1, fopen_1, flines_1, fmeantSet_1, fopenedNow_1, fvainNow_1, flowNow_1, fhighNow_1, fisKept_1, tad_1, pl0_1, le0_1, nu0_1, coy_1, wag_1, say_1, e_1, hntad_1, hnpl0_1, hnle0_1, hnnu0_1, hncoy_1, hnwag_1, hnsay_1⟩ := JR.get hJ0 cm_100
  refine aw_get dX12_putsBack_1 fl_X12_13 e_1 (by omega) rfl ?_
  refine aw_aload_n dX12_putsBack_4 rfl ?_
  refine aw_get dX12_putsBack_5 fl_X12_7 e_1 (by omega) rfl ?_
  refine aw_callSv (J' := jX12_copies) (As := [.ref (b + 102), .ref (b + 101)]) (st := []) dX12_putsBack_8 tb_1299 ok_X12_copies rfl (r_copies l D b N V hN cl hJ0.1 102 2 cm_102 101 1 cm_101 (by decide)) rfl (Nat.le_of_ble_eq_true rfl) ⟨Nat.le_of_ble_eq_true rfl, Nat.le_of_ble_eq_true rfl, Nat.le_of_ble_eq_true rfl, Nat.le_of_ble_eq_true rfl⟩ (fun  N_5 V_4 q_6 => ?_)
  obtain ⟨rfl, q_2⟩ := q_6
  have j_3 := JR.trans hJ0 (JR.weak q_2 (Sub.cons LM0 (by decide) (by decide) (by decide) (Or.inl rfl) Sub.nil))
  refine aw_aload_n dX12_putsBack_11 rfl ?_
  refine aw_aload_n dX12_putsBack_12 rfl ?_
  obtain ⟨ftoldPeople_7, ftoldDoors_7, fwasDoors_7, ffault_7, fopen_7, flines_7, fmeantSet_7, fopenedNow_7, fvainNow_7, flowNow_7, fhighNow_7, fisKept_7, tad_7, pl0_7, le0_7, nu0_7, coy_7, wag_7, say_7, e_7, hntad_7, hnpl0_7, hnle0_7, hnnu0_7, hncoy_7, hnwag_7, hnsay_7⟩ := JR.get j_3 cm_100
  refine aw_get dX12_putsBack_13 fl_X12_296 e_7 (by omega) rfl ?_
  refine aw_put dX12_putsBack_16 fp_X12_129 e_7 (by omega) rfl rfl (Nat.le_of_ble_eq_true rfl) rfl ?_
  refine aw_upR j_3 cm_100 ⟨_, _, _, _, _, _, _, _, _, _, _, _, tad_7, pl0_7, le0_7, nu0_7, coy_7, wag_7, say_7, rfl, by omega, by omega, by omega, by omega, by omega, by omega, by omega⟩ (by decide) (WO (s := 10) (x := .int fwasDoors_7) e_7 rfl (LMs (LMs (LMs LM0))) (by decide) (by decide) (by decide) (Or.inl (by decide))) (fun V_8 j_8 k_8 e_8 => ?_)
  refine aw_iconst (v := 0) dX12_putsBack_19 (by decide) ?_
  refine aw_istore_n (ls' := [some (.ref (b + 100)), some (.int 0)]) dX12_putsBack_20 (Nat.le_of_ble_eq_true rfl) rfl ?_
  have loop_21_8 : ∀ (g_21 : Nat), ∀ (j21 : Nat)  (V21 : Wd), j21 + g_21 = 12 → (JR D b N cl [(101, 101, 0, 1000000), (104, 104, 0, 1000000), (106, 107, 0, 1000000), (100, 100, 10, 10)] V V21) → AW l D b jX12_putsBack (fx_rm 1 0 0) none (fx_MQ D b 0 0 (fx_qv (fun N9 V9 => N = N9 ∧ JR D b N cl [(101, 101, 0, 1000000), (104, 104, 0, 1000000), (106, 107, 0, 1000000), (100, 100, 10, 10)] V V9))) 21 [some (.ref (b + 100)), some (.int (nI j21))] [] N V21 0 0 := by
    intro g_21
    induction g_21 with
    | zero =>
      intro j21  V21 hj21 i21_0
      obtain rfl : j21 = 12 := by omega
      refine aw_iload_n dX12_putsBack_21 rfl ?_
      refine aw_bipush (v := 12) dX12_putsBack_22 (by decide) ?_
      refine aw_icmp_ge (tgt := 45) dX12_putsBack_24 (by decide) (fun c_11 => ?_) (fun c_11 => ?_)
      rotate_left
      · exact absurd (nI_le (a := 12) (b := 12) (Nat.le_refl _) (by omega)) c_11
      refine aw_iconst (v := 0) dX12_putsBack_45 (by decide) ?_
      refine aw_istore_n (ls' := [some (.ref (b + 100)), some (.int 0)]) dX12_putsBack_46 (Nat.le_of_ble_eq_true rfl) rfl ?_
      have loop_47_11 : ∀ (g_47 : Nat), ∀ (j47 : Nat)  (V47 : Wd), j47 + g_47 = 16 → (JR D b N cl [(101, 101, 0, 1000000), (104, 104, 0, 1000000), (106, 107, 0, 1000000), (100, 100, 10, 10)] V V47) → AW l D b jX12_putsBack (fx_rm 1 0 0) none (fx_MQ D b 0 0 (fx_qv (fun N9 V9 => N = N9 ∧ JR D b N cl [(101, 101, 0, 1000000), (104, 104, 0, 1000000), (106, 107, 0, 1000000), (100, 100, 10, 10)] V V9))) 47 [some (.ref (b + 100)), some (.int (nI j47))] [] N V47 0 0 := by
        intro g_47
        induction g_47 with
        | zero =>
          intro j47  V47 hj47 i47_0
          obtain rfl : j47 = 16 := by omega
          refine aw_iload_n dX12_putsBack_47 rfl ?_
          refine aw_bipush (v := 16) dX12_putsBack_48 (by decide) ?_
          refine aw_icmp_ge (tgt := 83) dX12_putsBack_50 (by decide) (fun c_14 => ?_) (fun c_14 => ?_)
          rotate_left
          · exact absurd (nI_le (a := 16) (b := 16) (Nat.le_refl _) (by omega)) c_14
          refine aw_vreti dX12_putsBack_83 rfl (Nat.le_of_ble_eq_true rfl) (Nat.le_of_ble_eq_true rfl) ?_
          exact ⟨rfl, i47_0⟩
        | succ g_47 ih_47_12 =>
          intro j47  V47 hj47 i47_0
          have hlj47 : j47 < 16 := by omega
          refine aw_iload_n dX12_putsBack_47 rfl ?_
          refine aw_bipush (v := 16) dX12_putsBack_48 (by decide) ?_
          refine aw_icmp_ge (tgt := 83) dX12_putsBack_50 (by decide) (fun c_15 => ?_) (fun c_15 => ?_)
          · exact absurd c_15 (nI_ge (a := j47) (b := 16) (by omega) (by omega))
          refine aw_aload_n dX12_putsBack_53 rfl ?_
          obtain ⟨ftoldPeople_16, ftoldDoors_16, fwasDoors_16, ffault_16, fopen_16, flines_16, fmeantSet_16, fopenedNow_16, fvainNow_16, flowNow_16, fhighNow_16, fisKept_16, tad_16, pl0_16, le0_16, nu0_16, coy_16, wag_16, say_16, e_16, hntad_16, hnpl0_16, hnle0_16, hnnu0_16, hncoy_16, hnwag_16, hnsay_16⟩ := JR.get i47_0 cm_100
          refine aw_get dX12_putsBack_54 fl_X12_25 e_16 (by omega) rfl ?_
          refine aw_iload_n dX12_putsBack_57 rfl ?_
          refine aw_aload_n dX12_putsBack_58 rfl ?_
          refine aw_get dX12_putsBack_59 fl_X12_31 e_16 (by omega) rfl ?_
          refine aw_iload_n dX12_putsBack_62 rfl ?_
          obtain ⟨g_17, e_17, p_17⟩ := JR.get i47_0 cm_108
          refine aw_iald (v := (g_17 j47)) dX12_putsBack_63 e_17 (by omega) (vp_in_nI (n := j47) (by omega) (by omega)) (congrArg g_17 (nI_clamp (n := j47) (by omega))) ?_
          obtain ⟨g_18, e_18, p_18⟩ := JR.get i47_0 cm_106
          refine aw_iast dX12_putsBack_64 e_18 (by omega) (vp_in_nI (n := j47) (by omega) (by omega)) ?_
          refine aw_upR i47_0 cm_106 ⟨_, rfl, isP_upd (P := (fun v => ∃ k : Nat, k < 16 ∧ v = nI k)) p_18 (p_17 _ (by omega))⟩ (by decide) (WA (LMs (LMs LM0)) (by decide) (by decide)) (fun V_19 j_19 k_19 e_19 => ?_)
          refine aw_aload_n dX12_putsBack_65 rfl ?_
          refine aw_get dX12_putsBack_66 fl_X12_28 ((k_19 _ (by decide)).trans e_16) (by omega) rfl ?_
          refine aw_iload_n dX12_putsBack_69 rfl ?_
          refine aw_aload_n dX12_putsBack_70 rfl ?_
          refine aw_get dX12_putsBack_71 fl_X12_34 ((k_19 _ (by decide)).trans e_16) (by omega) rfl ?_
          refine aw_iload_n dX12_putsBack_74 rfl ?_
          obtain ⟨g_21, e_21⟩ := JR.get j_19 cm_109
          refine aw_iald (v := (g_21 j47)) dX12_putsBack_75 e_21 (by omega) (vp_in_nI (n := j47) (by omega) (by omega)) (congrArg g_21 (nI_clamp (n := j47) (by omega))) ?_
          obtain ⟨g_22, e_22⟩ := JR.get j_19 cm_107
          refine aw_iast dX12_putsBack_76 e_22 (by omega) (vp_in_nI (n := j47) (by omega) (by omega)) ?_
          refine aw_upR j_19 cm_107 ⟨_, rfl⟩ (by decide) (WA (LMs (LMs LM0)) (by decide) (by decide)) (fun V_23 j_23 k_23 e_23 => ?_)
          refine aw_iinc (v := (nI (j47 + 1))) (ls' := [some (.ref (b + 100)), some (.int (nI (j47 + 1)))]) dX12_putsBack_77 rfl (fx_up_1 _) (Nat.le_of_ble_eq_true rfl) rfl ?_
          refine aw_goto (tgt := 47) dX12_putsBack_80 (by decide) ?_
          refine aw_le ?_ (ih_47_12 (j47 + 1)  V_23 (by omega) (j_23))
          exact ⟨rfl, ⟨rfl, trivial⟩⟩
      refine aw_le ?_ (loop_47_11 16 0  V21 (by omega) (i21_0))
      exact ⟨rfl, ⟨rfl, trivial⟩⟩
    | succ g_21 ih_21_9 =>
      intro j21  V21 hj21 i21_0
      have hlj21 : j21 < 12 := by omega
      refine aw_iload_n dX12_putsBack_21 rfl ?_
      refine aw_bipush (v := 12) dX12_putsBack_22 (by decide) ?_
      refine aw_icmp_ge (tgt := 45) dX12_putsBack_24 (by decide) (fun c_24 => ?_) (fun c_24 => ?_)
      · exact absurd c_24 (nI_ge (a := j21) (b := 12) (by omega) (by omega))
      refine aw_aload_n dX12_putsBack_27 rfl ?_
      obtain ⟨ftoldPeople_25, ftoldDoors_25, fwasDoors_25, ffault_25, fopen_25, flines_25, fmeantSet_25, fopenedNow_25, fvainNow_25, flowNow_25, fhighNow_25, fisKept_25, tad_25, pl0_25, le0_25, nu0_25, coy_25, wag_25, say_25, e_25, hntad_25, hnpl0_25, hnle0_25, hnnu0_25, hncoy_25, hnwag_25, hnsay_25⟩ := JR.get i21_0 cm_100
      refine aw_get dX12_putsBack_28 fl_X12_19 e_25 (by omega) rfl ?_
      refine aw_iload_n dX12_putsBack_31 rfl ?_
      refine aw_aload_n dX12_putsBack_32 rfl ?_
      refine aw_get dX12_putsBack_33 fl_X12_22 e_25 (by omega) rfl ?_
      refine aw_iload_n dX12_putsBack_36 rfl ?_
      obtain ⟨g_26, e_26, p_26⟩ := JR.get i21_0 cm_105
      refine aw_iald (v := (g_26 j21)) dX12_putsBack_37 e_26 (by omega) (vp_in_nI (n := j21) (by omega) (by omega)) (congrArg g_26 (nI_clamp (n := j21) (by omega))) ?_
      obtain ⟨g_27, e_27, p_27⟩ := JR.get i21_0 cm_104
      refine aw_iast dX12_putsBack_38 e_27 (by omega) (vp_in_nI (n := j21) (by omega) (by omega)) ?_
      refine aw_upR i21_0 cm_104 ⟨_, rfl, isP_upd (P := (fun v => ∃ k : Nat, k < 4096 ∧ v = nI k)) p_27 (p_26 _ (by omega))⟩ (by decide) (WA (LMs LM0) (by decide) (by decide)) (fun V_28 j_28 k_28 e_28 => ?_)
      refine aw_iinc (v := (nI (j21 + 1))) (ls' := [some (.ref (b + 100)), some (.int (nI (j21 + 1)))]) dX12_putsBack_39 rfl (fx_up_1 _) (Nat.le_of_ble_eq_true rfl) rfl ?_
      refine aw_goto (tgt := 21) dX12_putsBack_42 (by decide) ?_
      refine aw_le ?_ (ih_21_9 (j21 + 1)  V_28 (by omega) (j_28))
      exact ⟨rfl, ⟨rfl, trivial⟩⟩
  refine aw_le ?_ (loop_21_8 12 0  V_8 (by omega) (j_8))
  exact ⟨rfl, ⟨rfl, trivial⟩⟩

set_option maxHeartbeats 4000000 in
set_option maxRecDepth 100000 in
theorem r_orders (l : Launch) (D : va_G) (b : Nat) (N : Nat) (V : Wd) (hN : 133 ≤ N) (cl : Nat) (hW : CR D b cl V) (n0 : Int32)  : MI l D b 6 jX12_orders [.ref (b + 100), .int n0] N V 0 0 (fun r N9 V9 => N = N9 ∧ JR D b N cl [(101, 102, 0, 1000000), (104, 109, 0, 1000000), (100, 100, 14, 14), (100, 100, 15, 15), (100, 100, 19, 19), (100, 100, 21, 21), (100, 100, 36, 36), (100, 100, 11, 11), (100, 100, 17, 17), (100, 100, 16, 16), (100, 100, 10, 10), (100, 100, 13, 13)] V V9) := by
  have hJ0 : JR D b N cl [(101, 102, 0, 1000000), (104, 109, 0, 1000000), (100, 100, 14, 14), (100, 100, 15, 15), (100, 100, 19, 19), (100, 100, 21, 21), (100, 100, 36, 36), (100, 100, 11, 11), (100, 100, 17, 17), (100, 100, 16, 16), (100, 100, 10, 10), (100, 100, 13, 13)] V V := JR.rf hW
  refine mw_of (by decide) (by simp [Value.category]) (Nat.le_of_ble_eq_true rfl) ?_
  show AW l D b jX12_orders (fx_rm 6 0 0) none (fx_MQ D b 0 0 (fx_qi (fun r N9 V9 => N = N9 ∧ JR D b N cl [(101, 102, 0, 1000000), (104, 109, 0, 1000000), (100, 100, 14, 14), (100, 100, 15, 15), (100, 100, 19, 19), (100, 100, 21, 21), (100, 100, 36, 36), (100, 100, 11, 11), (100, 100, 17, 17), (100, 100, 16, 16), (100, 100, 10, 10), (100, 100, 13, 13)] V V9))) 0 [some (.ref (b + 100)), some (.int n0), none] [] N V 0 0
  refine aw_iload_n dX12_orders_0 rfl ?_
  refine aw_iconst (v := 1) dX12_orders_1 (by decide) ?_
  refine aw_bipush (v := 120) dX12_orders_2 (by decide) ?_
  refine aw_callSi (J' := jX12_in) (As := [.int n0, .int 1, .int 120]) (st := []) dX12_orders_4 tb_1209 ok_X12_in rfl (r_in l D b N V hN cl hJ0.1 n0 1 120) rfl (Nat.le_of_ble_eq_true rfl) ⟨Nat.le_of_ble_eq_true rfl, Nat.le_of_ble_eq_true rfl, Nat.le_of_ble_eq_true rfl, Nat.le_of_ble_eq_true rfl⟩ (fun r_4 N_5 V_6 q_7 => ?_)
  obtain ⟨⟨z_3, h_2⟩, rfl, rfl⟩ := q_7
  refine aw_if_eq (tgt := 18) dX12_orders_7 (by decide) (fun c_8 => ?_) (fun c_8 => ?_)
  · skip
    refine aw_iconst (v := (-1)) dX12_orders_18 (by decide) ?_
    refine aw_ireti dX12_orders_19 rfl (Nat.le_of_ble_eq_true rfl) (Nat.le_of_ble_eq_true rfl) ?_
    exact ⟨rfl, hJ0⟩
  · skip
    obtain ⟨zn0, h0zn0, hzn0, rfl⟩ := in_nat (a := 1) (b := 120) (by decide) (h_2.resolve_left c_8)
    refine aw_iload_n dX12_orders_10 rfl ?_
    refine aw_aload_n dX12_orders_11 rfl ?_
    obtain ⟨ftoldPeople_9, ftoldDoors_9, fwasDoors_9, ffault_9, fopen_9, flines_9, fmeantSet_9, fopenedNow_9, fvainNow_9, flowNow_9, fhighNow_9, fisKept_9, tad_9, pl0_9, le0_9, nu0_9, coy_9, wag_9, say_9, e_9, hntad_9, hnpl0_9, hnle0_9, hnnu0_9, hncoy_9, hnwag_9, hnsay_9⟩ := JR.get hJ0 cm_100
    refine aw_get dX12_orders_12 fl_X12_152 e_9 (by omega) rfl ?_
    refine aw_icmp_le (tgt := 20) dX12_orders_15 (by decide) (fun c_10 => ?_) (fun c_10 => ?_)
    · skip
      have nc_10 : zn0 ≤ tad_9 := (nI_leI (a := zn0) (b := tad_9) (by omega) (by omega)).mp c_10
      refine aw_aload_n dX12_orders_20 rfl ?_
      refine aw_iload_n dX12_orders_21 rfl ?_
      refine aw_callVv (J' := jX12_beginsText) (As := [.int (nI zn0)]) (st := []) dX12_orders_22 tb_1212 ok_X12_beginsText ⟨_, e_9⟩ (by omega) rfl rfl (r_beginsText l D b N V hN cl hJ0.1 (nI zn0) ⟨zn0, by omega, rfl⟩) rfl (Nat.le_of_ble_eq_true rfl) ⟨Nat.le_of_ble_eq_true rfl, Nat.le_of_ble_eq_true rfl, Nat.le_of_ble_eq_true rfl, Nat.le_of_ble_eq_true rfl⟩ (fun  N_22 V_14 q_23 => ?_)
      obtain ⟨h_12, rfl, q_11⟩ := q_23
      have j_13 := JR.trans hJ0 (JR.weak q_11 (Sub.cons (LMs (LMs LM0)) (by decide) (by decide) (by decide) (Or.inr ⟨by decide, by decide⟩) (Sub.cons (LMs (LMs (LMs LM0))) (by decide) (by decide) (by decide) (Or.inr ⟨by decide, by decide⟩) (Sub.cons (LMs (LMs (LMs (LMs LM0)))) (by decide) (by decide) (by decide) (Or.inr ⟨by decide, by decide⟩) (Sub.cons (LMs (LMs (LMs (LMs (LMs LM0))))) (by decide) (by decide) (by decide) (Or.inr ⟨by decide, by decide⟩) Sub.nil)))))
      obtain ⟨hB_15, hB_17, hB_18, hB_19, hB_20, hB_16⟩ := h_12
      have hk_k21 : zn0 = hB_19 := (nI_eq (by omega) (by omega)).mp hB_20.1
      obtain ⟨ftoldPeople_k21, ftoldDoors_k21, fwasDoors_k21, ffault_k21, fopen_k21, flines_k21, fmeantSet_k21, fopenedNow_k21, fvainNow_k21, flowNow_k21, fhighNow_k21, fisKept_k21, tad_k21, pl0_k21, le0_k21, nu0_k21, coy_k21, wag_k21, say_k21, e_k21, hntad_k21, hnpl0_k21, hnle0_k21, hnnu0_k21, hncoy_k21, hnwag_k21, hnsay_k21⟩ := JR.get j_13 cm_100
      have hq0_k21 := FG.eq hB_15 e_k21 rfl (by omega) (by omega)
      have hq1_k21 := FG.eq hB_16 e_k21 rfl (by omega) (by omega)
      have hq2_k21 := FG.eq hB_17 e_k21 rfl (by omega) (by omega)
      have hq3_k21 := FG.eq hB_18 e_k21 rfl (by omega) (by omega)
      refine aw_aload_n dX12_orders_25 rfl ?_
      refine aw_iconst (v := 0) dX12_orders_26 (by decide) ?_
      refine aw_put dX12_orders_27 fp_X12_268 e_k21 (by omega) rfl rfl (Nat.le_of_ble_eq_true rfl) rfl ?_
      refine aw_upR j_13 cm_100 ⟨_, _, _, _, _, _, _, _, _, _, _, _, tad_k21, pl0_k21, le0_k21, nu0_k21, coy_k21, wag_k21, say_k21, rfl, by omega, by omega, by omega, by omega, by omega, by omega, by omega⟩ (by decide) (WO (s := 36) (x := .int 0) e_k21 rfl (LMs (LMs (LMs (LMs (LMs (LMs LM0)))))) (by decide) (by decide) (by decide) (Or.inl (by decide))) (fun V_24 j_24 k_24 e_24 => ?_)
      refine aw_aload_n dX12_orders_30 rfl ?_
      refine aw_callVv (J' := jX12_laysAside) (As := []) (st := []) dX12_orders_31 tb_1335 ok_X12_laysAside ⟨_, e_24⟩ (by omega) rfl rfl (r_laysAside l D b N V_24 hN cl j_24.1) rfl (Nat.le_of_ble_eq_true rfl) ⟨Nat.le_of_ble_eq_true rfl, Nat.le_of_ble_eq_true rfl, Nat.le_of_ble_eq_true rfl, Nat.le_of_ble_eq_true rfl⟩ (fun  N_28 V_27 q_29 => ?_)
      obtain ⟨rfl, q_25⟩ := q_29
      have j_26 := JR.trans j_24 (JR.weak q_25 (Sub.cons LM0 (by decide) (by decide) (by decide) (Or.inl rfl) (Sub.cons (LMs LM0) (by decide) (by decide) (by decide) (Or.inl rfl) (Sub.cons (LMs LM0) (by decide) (by decide) (by decide) (Or.inl rfl) (Sub.cons (LMs (LMs (LMs (LMs (LMs (LMs (LMs LM0))))))) (by decide) (by decide) (by decide) (Or.inr ⟨by decide, by decide⟩) Sub.nil)))))
      refine aw_aload_n dX12_orders_34 rfl ?_
      obtain ⟨ftoldPeople_30, ftoldDoors_30, fwasDoors_30, ffault_30, fopen_30, flines_30, fmeantSet_30, fopenedNow_30, fvainNow_30, flowNow_30, fhighNow_30, fisKept_30, tad_30, pl0_30, le0_30, nu0_30, coy_30, wag_30, say_30, e_30, hntad_30, hnpl0_30, hnle0_30, hnnu0_30, hncoy_30, hnwag_30, hnsay_30⟩ := JR.get j_26 cm_100
      obtain ⟨g_43, e_43⟩ := JR.get j_26 cm_110
      refine aw_callVi (J' := jX12_readsOrder) (As := []) (st := []) dX12_orders_35 tb_1339 ok_X12_readsOrder ⟨_, e_30⟩ (by omega) rfl rfl (r_readsOrder l D b N V_27 hN cl j_26.1 pl0_30 le0_30 (FG.of e_30 rfl rfl) (FG.of e_30 rfl rfl) ⟨by omega, by omega⟩) rfl (Nat.le_of_ble_eq_true rfl) ⟨Nat.le_of_ble_eq_true rfl, Nat.le_of_ble_eq_true rfl, Nat.le_of_ble_eq_true rfl, Nat.le_of_ble_eq_true rfl⟩ (fun r_45 N_46 V_35 q_47 => ?_)
      obtain ⟨⟨z_33, h_32⟩, rfl, q_31⟩ := q_47
      have j_34 := JR.trans j_26 (JR.weak q_31 (Sub.cons (LMs LM0) (by decide) (by decide) (by decide) (Or.inl rfl) (Sub.cons (LMs LM0) (by decide) (by decide) (by decide) (Or.inl rfl) (Sub.cons (LMs (LMs (LMs (LMs (LMs (LMs LM0)))))) (by decide) (by decide) (by decide) (Or.inr ⟨by decide, by decide⟩) (Sub.cons (LMs (LMs LM0)) (by decide) (by decide) (by decide) (Or.inr ⟨by decide, by decide⟩) (Sub.cons (LMs (LMs (LMs (LMs (LMs (LMs (LMs (LMs LM0)))))))) (by decide) (by decide) (by decide) (Or.inr ⟨by decide, by decide⟩) (Sub.cons (LMs (LMs (LMs (LMs (LMs (LMs (LMs (LMs (LMs LM0))))))))) (by decide) (by decide) (by decide) (Or.inr ⟨by decide, by decide⟩) (Sub.cons (LMs (LMs (LMs (LMs (LMs (LMs (LMs (LMs (LMs (LMs LM0)))))))))) (by decide) (by decide) (by decide) (Or.inr ⟨by decide, by decide⟩) (Sub.cons LM0 (by decide) (by decide) (by decide) (Or.inl rfl) Sub.nil)))))))))
      obtain ⟨a_36, ha_37, hA_38, hF_39, hL_40, hz_41⟩ := h_32
      obtain ⟨ftoldPeople_k44, ftoldDoors_k44, fwasDoors_k44, ffault_k44, fopen_k44, flines_k44, fmeantSet_k44, fopenedNow_k44, fvainNow_k44, flowNow_k44, fhighNow_k44, fisKept_k44, tad_k44, pl0_k44, le0_k44, nu0_k44, coy_k44, wag_k44, say_k44, e_k44, hntad_k44, hnpl0_k44, hnle0_k44, hnnu0_k44, hncoy_k44, hnwag_k44, hnsay_k44⟩ := JR.get j_34 cm_100
      have hqp_k44 := FG.eq hF_39 e_k44 rfl (by omega) (by omega)
      have hql_k44 := FG.eq hL_40 e_k44 rfl (by omega) (by omega)
      refine aw_istore_n (ls' := [some (.ref (b + 100)), some (.int (nI zn0)), some (.int r_45)]) dX12_orders_38 (Nat.le_of_ble_eq_true rfl) rfl ?_
      have ml_39_48 : ∀ (m : Nat) (a39 : Nat) (v39_2 : Int32) (V39 : Wd), m = 2 * (240 - a39) + (if v39_2 = 0 then 0 else 1) → (JR D b N cl [(101, 102, 0, 1000000), (104, 109, 0, 1000000), (100, 100, 14, 14), (100, 100, 15, 15), (100, 100, 19, 19), (100, 100, 21, 21), (100, 100, 36, 36), (100, 100, 11, 11), (100, 100, 17, 17), (100, 100, 16, 16), (100, 100, 10, 10), (100, 100, 13, 13)] V V39) → (FG b 14 a39 V39) → (FG b 15 le0_k44 V39) → (a39 ≤ 240 ∧ le0_k44 ≤ 240) → AW l D b jX12_orders (fx_rm 6 0 0) none (fx_MQ D b 0 0 (fx_qi (fun r N9 V9 => N = N9 ∧ JR D b N cl [(101, 102, 0, 1000000), (104, 109, 0, 1000000), (100, 100, 14, 14), (100, 100, 15, 15), (100, 100, 19, 19), (100, 100, 21, 21), (100, 100, 36, 36), (100, 100, 11, 11), (100, 100, 17, 17), (100, 100, 16, 16), (100, 100, 10, 10), (100, 100, 13, 13)] V V9))) 39 [some (.ref (b + 100)), some (.int (nI zn0)), some (.int v39_2)] [] N V39 0 0 := by
        intro m; refine Nat.strongRecOn m ?_
        intro m mih_39_48 a39 v39_2 V39 hm39 i39_0 i39_1 i39_2 i39_3
        obtain ⟨ftoldPeople_49, ftoldDoors_49, fwasDoors_49, ffault_49, fopen_49, flines_49, fmeantSet_49, fopenedNow_49, fvainNow_49, flowNow_49, fhighNow_49, fisKept_49, tad_49, pl0_49, le0_49, nu0_49, coy_49, wag_49, say_49, e_49, hntad_49, hnpl0_49, hnle0_49, hnnu0_49, hncoy_49, hnwag_49, hnsay_49⟩ := JR.get i39_0 cm_100
        have hqp_39 := FG.eq i39_1 e_49 rfl (by omega) (by omega)
        have hql_39 := FG.eq i39_2 e_49 rfl (by omega) (by omega)
        refine aw_iload_n dX12_orders_39 rfl ?_
        refine aw_if_eq (tgt := 79) dX12_orders_40 (by decide) (fun c_50 => ?_) (fun c_50 => ?_)
        · skip
          refine aw_aload_n dX12_orders_79 rfl ?_
          refine aw_iconst (v := 0) dX12_orders_80 (by decide) ?_
          refine aw_put dX12_orders_81 fp_X12_152 e_49 (by omega) rfl rfl (Nat.le_of_ble_eq_true rfl) rfl ?_
          refine aw_upR i39_0 cm_100 ⟨_, _, _, _, _, _, _, _, _, _, _, _, 0, pl0_49, le0_49, nu0_49, coy_49, wag_49, say_49, rfl, by omega, by omega, by omega, by omega, by omega, by omega, by omega⟩ (by decide) (WO (s := 13) (x := .int 0) e_49 rfl (LMs (LMs (LMs (LMs (LMs (LMs (LMs (LMs (LMs (LMs (LMs LM0))))))))))) (by decide) (by decide) (by decide) (Or.inl (by decide))) (fun V_51 j_51 k_51 e_51 => ?_)
          refine aw_iload_n dX12_orders_84 rfl ?_
          refine aw_if_eq (tgt := 93) dX12_orders_85 (by decide) (fun c_52 => ?_) (fun c_52 => ?_)
          rotate_left
          · exact absurd c_50 c_52
          refine aw_aload_n dX12_orders_93 rfl ?_
          refine aw_callVv (J' := jX12_putsBack) (As := []) (st := []) dX12_orders_94 tb_1363 ok_X12_putsBack ⟨_, e_51⟩ (by omega) rfl rfl (r_putsBack l D b N V_51 hN cl j_51.1) rfl (Nat.le_of_ble_eq_true rfl) ⟨Nat.le_of_ble_eq_true rfl, Nat.le_of_ble_eq_true rfl, Nat.le_of_ble_eq_true rfl, Nat.le_of_ble_eq_true rfl⟩ (fun  N_56 V_55 q_57 => ?_)
          obtain ⟨rfl, q_53⟩ := q_57
          have j_54 := JR.trans j_51 (JR.weak q_53 (Sub.cons LM0 (by decide) (by decide) (by decide) (Or.inl rfl) (Sub.cons (LMs LM0) (by decide) (by decide) (by decide) (Or.inl rfl) (Sub.cons (LMs LM0) (by decide) (by decide) (by decide) (Or.inl rfl) (Sub.cons (LMs (LMs (LMs (LMs (LMs (LMs (LMs (LMs (LMs (LMs LM0)))))))))) (by decide) (by decide) (by decide) (Or.inr ⟨by decide, by decide⟩) Sub.nil)))))
          refine aw_aload_n dX12_orders_97 rfl ?_
          obtain ⟨ftoldPeople_58, ftoldDoors_58, fwasDoors_58, ffault_58, fopen_58, flines_58, fmeantSet_58, fopenedNow_58, fvainNow_58, flowNow_58, fhighNow_58, fisKept_58, tad_58, pl0_58, le0_58, nu0_58, coy_58, wag_58, say_58, e_58, hntad_58, hnpl0_58, hnle0_58, hnnu0_58, hncoy_58, hnwag_58, hnsay_58⟩ := JR.get j_54 cm_100
          refine aw_get dX12_orders_98 fl_X12_169 e_58 (by omega) rfl ?_
          refine aw_ireti dX12_orders_101 rfl (Nat.le_of_ble_eq_true rfl) (Nat.le_of_ble_eq_true rfl) ?_
          exact ⟨rfl, j_54⟩
        · skip
          refine aw_aload_n dX12_orders_43 rfl ?_
          refine aw_get dX12_orders_44 fl_X12_159 e_49 (by omega) rfl ?_
          refine aw_aload_n dX12_orders_47 rfl ?_
          refine aw_get dX12_orders_48 fl_X12_162 e_49 (by omega) rfl ?_
          refine aw_icmp_ge (tgt := 79) dX12_orders_51 (by decide) (fun c_59 => ?_) (fun c_59 => ?_)
          · skip
            have nc_59 : le0_49 ≤ pl0_49 := (nI_leI (a := le0_49) (b := pl0_49) (by omega) (by omega)).mp c_59
            refine aw_aload_n dX12_orders_79 rfl ?_
            refine aw_iconst (v := 0) dX12_orders_80 (by decide) ?_
            refine aw_put dX12_orders_81 fp_X12_152 e_49 (by omega) rfl rfl (Nat.le_of_ble_eq_true rfl) rfl ?_
            refine aw_upR i39_0 cm_100 ⟨_, _, _, _, _, _, _, _, _, _, _, _, 0, pl0_49, le0_49, nu0_49, coy_49, wag_49, say_49, rfl, by omega, by omega, by omega, by omega, by omega, by omega, by omega⟩ (by decide) (WO (s := 13) (x := .int 0) e_49 rfl (LMs (LMs (LMs (LMs (LMs (LMs (LMs (LMs (LMs (LMs (LMs LM0))))))))))) (by decide) (by decide) (by decide) (Or.inl (by decide))) (fun V_60 j_60 k_60 e_60 => ?_)
            refine aw_iload_n dX12_orders_84 rfl ?_
            refine aw_if_eq (tgt := 93) dX12_orders_85 (by decide) (fun c_61 => ?_) (fun c_61 => ?_)
            · first | exact absurd c_61 c_50 | exact absurd c_50 c_61 | exact absurd c_61 (Int32.not_lt.mpr c_50) | exact absurd c_50 (Int32.not_lt.mpr c_61) | exact c_50 (Int32.not_lt.mp c_61) | exact c_50 (Int32.not_le.mp c_61)
            refine aw_aload_n dX12_orders_88 rfl ?_
            refine aw_get dX12_orders_89 fl_X12_268 e_60 (by omega) rfl ?_
            refine aw_ireti dX12_orders_92 rfl (Nat.le_of_ble_eq_true rfl) (Nat.le_of_ble_eq_true rfl) ?_
            exact ⟨rfl, j_60⟩
          · skip
            have nc_59 : ¬ (le0_49 ≤ pl0_49) := fun z => c_59 ((nI_leI (a := le0_49) (b := pl0_49) (by omega) (by omega)).mpr z)
            refine aw_aload_n dX12_orders_54 rfl ?_
            refine aw_bipush (v := 59) dX12_orders_55 (by decide) ?_
            obtain ⟨g_74, e_74⟩ := JR.get i39_0 cm_110
            refine aw_callVi (J' := jX12_takes) (As := [.int 59]) (st := []) dX12_orders_57 tb_1291 ok_X12_takes ⟨_, e_49⟩ (by omega) rfl rfl (r_takes l D b N V39 hN cl i39_0.1 59 pl0_49 le0_49 (FG.of e_49 rfl rfl) (FG.of e_49 rfl rfl) ⟨by omega, by omega⟩ (by decide)) rfl (Nat.le_of_ble_eq_true rfl) ⟨Nat.le_of_ble_eq_true rfl, Nat.le_of_ble_eq_true rfl, Nat.le_of_ble_eq_true rfl, Nat.le_of_ble_eq_true rfl⟩ (fun r_76 N_77 V_66 q_78 => ?_)
            obtain ⟨⟨z_64, h_63⟩, rfl, q_62⟩ := q_78
            have j_65 := JR.trans i39_0 (JR.weak q_62 (Sub.cons (LMs (LMs LM0)) (by decide) (by decide) (by decide) (Or.inr ⟨by decide, by decide⟩) (Sub.cons (LMs (LMs (LMs (LMs (LMs (LMs (LMs (LMs (LMs LM0))))))))) (by decide) (by decide) (by decide) (Or.inr ⟨by decide, by decide⟩) Sub.nil)))
            obtain ⟨a_67, ha_68, hA_69, hF_70, hL_71, hz_72, hX_73⟩ := h_63
            obtain ⟨ftoldPeople_k75, ftoldDoors_k75, fwasDoors_k75, ffault_k75, fopen_k75, flines_k75, fmeantSet_k75, fopenedNow_k75, fvainNow_k75, flowNow_k75, fhighNow_k75, fisKept_k75, tad_k75, pl0_k75, le0_k75, nu0_k75, coy_k75, wag_k75, say_k75, e_k75, hntad_k75, hnpl0_k75, hnle0_k75, hnnu0_k75, hncoy_k75, hnwag_k75, hnsay_k75⟩ := JR.get j_65 cm_100
            have hqp_k75 := FG.eq hF_70 e_k75 rfl (by omega) (by omega)
            have hql_k75 := FG.eq hL_71 e_k75 rfl (by omega) (by omega)
            refine aw_if_eq (tgt := 74) dX12_orders_60 (by decide) (fun c_79 => ?_) (fun c_79 => ?_)
            · skip
              refine aw_iconst (v := 0) dX12_orders_74 (by decide) ?_
              refine aw_istore_n (ls' := [some (.ref (b + 100)), some (.int (nI zn0)), some (.int 0)]) dX12_orders_75 (Nat.le_of_ble_eq_true rfl) rfl ?_
              refine aw_goto (tgt := 39) dX12_orders_76 (by decide) ?_
              refine aw_le ?_ (mih_39_48 _ (by rw [hm39]; exact tl_dec c_50 (by omega) (Or.inl rfl) (by omega)) pl0_k75 0 V_66 rfl (j_65) ((FG.of e_k75 rfl rfl)) ((FG.of e_k75 rfl (by omega : le0_k75 = le0_k44))) (by omega))
              exact ⟨rfl, ⟨rfl, ⟨rfl, trivial⟩⟩⟩
            · skip
              refine aw_aload_n dX12_orders_63 rfl ?_
              refine aw_callVi (J' := jX12_readsOrder) (As := []) (st := []) dX12_orders_64 tb_1339 ok_X12_readsOrder ⟨_, e_k75⟩ (by omega) rfl rfl (r_readsOrder l D b N V_66 hN cl j_65.1 pl0_k75 le0_k75 (FG.of e_k75 rfl rfl) (FG.of e_k75 rfl rfl) ⟨by omega, by omega⟩) rfl (Nat.le_of_ble_eq_true rfl) ⟨Nat.le_of_ble_eq_true rfl, Nat.le_of_ble_eq_true rfl, Nat.le_of_ble_eq_true rfl, Nat.le_of_ble_eq_true rfl⟩ (fun r_93 N_94 V_84 q_95 => ?_)
              obtain ⟨⟨z_82, h_81⟩, rfl, q_80⟩ := q_95
              have j_83 := JR.trans j_65 (JR.weak q_80 (Sub.cons (LMs LM0) (by decide) (by decide) (by decide) (Or.inl rfl) (Sub.cons (LMs LM0) (by decide) (by decide) (by decide) (Or.inl rfl) (Sub.cons (LMs (LMs (LMs (LMs (LMs (LMs LM0)))))) (by decide) (by decide) (by decide) (Or.inr ⟨by decide, by decide⟩) (Sub.cons (LMs (LMs LM0)) (by decide) (by decide) (by decide) (Or.inr ⟨by decide, by decide⟩) (Sub.cons (LMs (LMs (LMs (LMs (LMs (LMs (LMs (LMs LM0)))))))) (by decide) (by decide) (by decide) (Or.inr ⟨by decide, by decide⟩) (Sub.cons (LMs (LMs (LMs (LMs (LMs (LMs (LMs (LMs (LMs LM0))))))))) (by decide) (by decide) (by decide) (Or.inr ⟨by decide, by decide⟩) (Sub.cons (LMs (LMs (LMs (LMs (LMs (LMs (LMs (LMs (LMs (LMs LM0)))))))))) (by decide) (by decide) (by decide) (Or.inr ⟨by decide, by decide⟩) (Sub.cons LM0 (by decide) (by decide) (by decide) (Or.inl rfl) Sub.nil)))))))))
              obtain ⟨a_85, ha_86, hA_87, hF_88, hL_89, hz_90⟩ := h_81
              obtain ⟨ftoldPeople_k92, ftoldDoors_k92, fwasDoors_k92, ffault_k92, fopen_k92, flines_k92, fmeantSet_k92, fopenedNow_k92, fvainNow_k92, flowNow_k92, fhighNow_k92, fisKept_k92, tad_k92, pl0_k92, le0_k92, nu0_k92, coy_k92, wag_k92, say_k92, e_k92, hntad_k92, hnpl0_k92, hnle0_k92, hnnu0_k92, hncoy_k92, hnwag_k92, hnsay_k92⟩ := JR.get j_83 cm_100
              have hqp_k92 := FG.eq hF_88 e_k92 rfl (by omega) (by omega)
              have hql_k92 := FG.eq hL_89 e_k92 rfl (by omega) (by omega)
              refine aw_if_eq (tgt := 74) dX12_orders_67 (by decide) (fun c_96 => ?_) (fun c_96 => ?_)
              · skip
                refine aw_iconst (v := 0) dX12_orders_74 (by decide) ?_
                refine aw_istore_n (ls' := [some (.ref (b + 100)), some (.int (nI zn0)), some (.int 0)]) dX12_orders_75 (Nat.le_of_ble_eq_true rfl) rfl ?_
                refine aw_goto (tgt := 39) dX12_orders_76 (by decide) ?_
                refine aw_le ?_ (mih_39_48 _ (by rw [hm39]; exact tl_dec c_50 (by omega) (Or.inl rfl) (by omega)) pl0_k92 0 V_84 rfl (j_83) ((FG.of e_k92 rfl rfl)) ((FG.of e_k92 rfl (by omega : le0_k92 = le0_k44))) (by omega))
                exact ⟨rfl, ⟨rfl, ⟨rfl, trivial⟩⟩⟩
              · skip
                refine aw_iconst (v := 1) dX12_orders_70 (by decide) ?_
                refine aw_goto (tgt := 75) dX12_orders_71 (by decide) ?_
                refine aw_istore_n (ls' := [some (.ref (b + 100)), some (.int (nI zn0)), some (.int 1)]) dX12_orders_75 (Nat.le_of_ble_eq_true rfl) rfl ?_
                refine aw_goto (tgt := 39) dX12_orders_76 (by decide) ?_
                refine aw_le ?_ (mih_39_48 _ (by rw [hm39]; exact tl_dec c_50 (by omega) (Or.inr (by have := hX_73.resolve_left c_79; omega)) (by omega)) pl0_k92 1 V_84 rfl (j_83) ((FG.of e_k92 rfl rfl)) ((FG.of e_k92 rfl (by omega : le0_k92 = le0_k44))) (by omega))
                exact ⟨rfl, ⟨rfl, ⟨rfl, trivial⟩⟩⟩
      refine aw_le ?_ (ml_39_48 _ pl0_k44 r_45 V_35 rfl (j_34) ((FG.of e_k44 rfl rfl)) ((FG.of e_k44 rfl (by omega : le0_k44 = le0_k44))) (by omega))
      exact ⟨rfl, ⟨rfl, ⟨rfl, trivial⟩⟩⟩
    · skip
      have nc_10 : ¬ (zn0 ≤ tad_9) := fun z => c_10 ((nI_leI (a := zn0) (b := tad_9) (by omega) (by omega)).mpr z)
      refine aw_iconst (v := (-1)) dX12_orders_18 (by decide) ?_
      refine aw_ireti dX12_orders_19 rfl (Nat.le_of_ble_eq_true rfl) (Nat.le_of_ble_eq_true rfl) ?_
      exact ⟨rfl, hJ0⟩
