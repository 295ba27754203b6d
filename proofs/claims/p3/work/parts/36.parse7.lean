set_option maxHeartbeats 20000000 in
set_option maxRecDepth 100000 in
theorem r_readsRule (l : Launch) (D : va_G) (b : Nat) (N : Nat) (V : Wd) (hN : 133 ≤ N) (cl : Nat) (hW : CR D b cl V)  (g sd wa sl sf sh st : Nat → Int32) (pl ln cm sm : Nat) (hX : RX D b V g pl ln cm sd wa sl sf sh st sm) : MI l D b 7 jX12_readsRule [.ref (b + 100)] N V 0 0 (fun r N9 V9 => ((r = 0 ∨ r = 1) ∧ (r = 0 ∨ ∃ (sd9 wa9 : Nat → Int32) (pl9 cm9 : Nat) (sl9 sf9 sh9 st9 : Nat → Int32), RX D b V9 g pl9 ln cm9 sd9 wa9 sl9 sf9 sh9 st9 (sm + 1) ∧ pl < pl9)) ∧ N = N9 ∧ JR D b N cl [(111, 116, 0, 1000000), (100, 100, 14, 14), (100, 100, 18, 18), (100, 100, 20, 20), (100, 100, 19, 19), (100, 100, 16, 16), (100, 100, 17, 17), (100, 100, 21, 21)] V V9) := by
  have hJ0 : JR D b N cl [(111, 116, 0, 1000000), (100, 100, 14, 14), (100, 100, 18, 18), (100, 100, 20, 20), (100, 100, 19, 19), (100, 100, 16, 16), (100, 100, 17, 17), (100, 100, 21, 21)] V V := JR.rf hW
  refine mw_of (by decide) (by simp [Value.category]) (Nat.le_of_ble_eq_true rfl) ?_
  show AW l D b jX12_readsRule (fx_rm 7 0 0) none (fx_MQ D b 0 0 (fx_qi (fun r N9 V9 => ((r = 0 ∨ r = 1) ∧ (r = 0 ∨ ∃ (sd9 wa9 : Nat → Int32) (pl9 cm9 : Nat) (sl9 sf9 sh9 st9 : Nat → Int32), RX D b V9 g pl9 ln cm9 sd9 wa9 sl9 sf9 sh9 st9 (sm + 1) ∧ pl < pl9)) ∧ N = N9 ∧ JR D b N cl [(111, 116, 0, 1000000), (100, 100, 14, 14), (100, 100, 18, 18), (100, 100, 20, 20), (100, 100, 19, 19), (100, 100, 16, 16), (100, 100, 17, 17), (100, 100, 21, 21)] V V9))) 0 [some (.ref (b + 100)), none] [] N V 0 0
  obtain ⟨xg_r1, xs_r1, xw_r1, xa_r1, xb_r1, xd_r1, xe_r1, xp_r1, xl_r1, xc_r1, xm_r1, ⟨hB1_r1, hB2_r1, hB3_r1, hB4_r1⟩, hR_r1⟩ := id hX
  obtain ⟨ftoldPeople_2, ftoldDoors_2, fwasDoors_2, ffault_2, fopen_2, flines_2, fmeantSet_2, fopenedNow_2, fvainNow_2, flowNow_2, fhighNow_2, fisKept_2, tad_2, pl0_2, le0_2, nu0_2, coy_2, wag_2, say_2, e_2, hntad_2, hnpl0_2, hnle0_2, hnnu0_2, hncoy_2, hnwag_2, hnsay_2⟩ := JR.get hJ0 cm_100
  have sb_r1pl := FG.eq xp_r1 e_2 rfl (by omega) (by omega)
  subst sb_r1pl
  have sb_r1cm := FG.eq xc_r1 e_2 rfl (by omega) (by omega)
  subst sb_r1cm
  have sb_r1sm := FG.eq xm_r1 e_2 rfl (by omega) (by omega)
  subst sb_r1sm
  have sb_r1ln := FG.eq xl_r1 e_2 rfl (by omega) (by omega)
  have hz0 : ∀ wa : Nat → Int32, wgt wa 0 = 0 := fun _ => rfl
  refine aw_aload_n dX12_readsRule_0 rfl ?_
  refine aw_callVi (J' := jX12_here) (As := []) (st := []) dX12_readsRule_1 tb_1220 ok_X12_here ⟨_, e_2⟩ (by omega) rfl rfl (r_here l D b N V hN cl hJ0.1 g xg_r1 pl0_2 le0_2 (FG.of e_2 rfl rfl) (FG.of e_2 rfl rfl) ⟨by omega, by omega⟩) rfl (Nat.le_of_ble_eq_true rfl) ⟨Nat.le_of_ble_eq_true rfl, Nat.le_of_ble_eq_true rfl, Nat.le_of_ble_eq_true rfl, Nat.le_of_ble_eq_true rfl⟩ (fun r_5 N_6 V_7 q_8 => ?_)
  obtain ⟨h_4, rfl, rfl⟩ := q_8
  refine aw_istore_n (ls' := [some (.ref (b + 100)), some (.int r_5)]) dX12_readsRule_4 (Nat.le_of_ble_eq_true rfl) rfl ?_
  refine aw_iload_n dX12_readsRule_5 rfl ?_
  refine aw_bipush (v := 101) dX12_readsRule_6 (by decide) ?_
  refine aw_icmp_eq (tgt := 39) dX12_readsRule_8 (by decide) (fun c_9 => ?_) (fun c_9 => ?_)
  · skip
    have hlc_9 := here_lt h_4 c_9 (by decide)
    subst c_9
    refine aw_aload_n dX12_readsRule_39 rfl ?_
    refine aw_get dX12_readsRule_40 fl_X12_236 e_2 (by omega) rfl ?_
    refine aw_bipush (v := 16) dX12_readsRule_43 (by decide) ?_
    refine aw_icmp_ne (tgt := 58) dX12_readsRule_45 (by decide) (fun c_10 => ?_) (fun c_10 => ?_)
    · skip
      have nc_10 : ¬ (say_2 = 16) := fun z => c_10 ((nI_eq (a := say_2) (b := 16) (by omega) (by omega)).mpr z)
      refine aw_aload_n dX12_readsRule_58 rfl ?_
      refine aw_get dX12_readsRule_59 fl_X12_47 e_2 (by omega) rfl ?_
      refine aw_aload_n dX12_readsRule_62 rfl ?_
      refine aw_get dX12_readsRule_63 fl_X12_236 e_2 (by omega) rfl ?_
      refine aw_iload_n dX12_readsRule_66 rfl ?_
      refine aw_iast dX12_readsRule_67 xa_r1 (by omega) (vp_in_nI (n := say_2) (by omega) (by omega)) ?_
      refine aw_upR hJ0 cm_113 ⟨_, rfl⟩ (by decide) (WA LM0 (by decide) (by decide)) (fun V_11 j_11 k_11 e_11 => ?_)
      have e_12 : V_11 113 = cI D 16 (upd sl say_2 101) := by rw [e_11, nI_clamp (n := say_2) (by omega)]
      refine aw_aload_n dX12_readsRule_68 rfl ?_
      refine aw_aload_n dX12_readsRule_69 rfl ?_
      refine aw_get dX12_readsRule_70 fl_X12_159 ((k_11 _ (by decide)).trans e_2) (by omega) rfl ?_
      refine aw_iconst (v := 1) dX12_readsRule_73 (by decide) ?_
      refine aw_iadd dX12_readsRule_74 ?_
      refine aw_eqi (y := nI (pl0_2 + 1)) (nI_add _ _) ?_
      refine aw_put dX12_readsRule_75 fp_X12_159 ((k_11 _ (by decide)).trans e_2) (by omega) rfl rfl (Nat.le_of_ble_eq_true rfl) rfl ?_
      refine aw_upR j_11 cm_100 ⟨_, _, _, _, _, _, _, _, _, _, _, _, tad_2, (pl0_2 + 1), le0_2, nu0_2, coy_2, wag_2, say_2, rfl, by omega, by omega, by omega, by omega, by omega, by omega, by omega⟩ (by decide) (WO (s := 14) (x := .int (nI (pl0_2 + 1))) ((k_11 _ (by decide)).trans e_2) rfl (LMs LM0) (by decide) (by decide) (by decide) (Or.inl (by decide))) (fun V_13 j_13 k_13 e_13 => ?_)
      refine aw_aload_n dX12_readsRule_78 rfl ?_
      refine aw_get dX12_readsRule_79 fl_X12_50 e_13 (by omega) rfl ?_
      refine aw_aload_n dX12_readsRule_82 rfl ?_
      refine aw_get dX12_readsRule_83 fl_X12_236 e_13 (by omega) rfl ?_
      refine aw_aload_n dX12_readsRule_86 rfl ?_
      refine aw_get dX12_readsRule_87 fl_X12_182 e_13 (by omega) rfl ?_
      refine aw_iast dX12_readsRule_90 ((k_13 _ (by decide)).trans ((k_11 _ (by decide)).trans xb_r1)) (by omega) (vp_in_nI (n := say_2) (by omega) (by omega)) ?_
      refine aw_upR j_13 cm_114 ⟨_, rfl⟩ (by decide) (WA LM0 (by decide) (by decide)) (fun V_14 j_14 k_14 e_14 => ?_)
      have e_15 : V_14 114 = cI D 16 (upd sf say_2 (nI coy_2)) := by rw [e_14, nI_clamp (n := say_2) (by omega)]
      refine aw_aload_n dX12_readsRule_91 rfl ?_
      refine aw_iconst (v := 0) dX12_readsRule_92 (by decide) ?_
      refine aw_put dX12_readsRule_93 fp_X12_186 ((k_14 _ (by decide)).trans e_13) (by omega) rfl rfl (Nat.le_of_ble_eq_true rfl) rfl ?_
      refine aw_upR j_14 cm_100 ⟨_, _, _, _, _, _, _, _, _, _, _, _, tad_2, (pl0_2 + 1), le0_2, nu0_2, coy_2, wag_2, say_2, rfl, by omega, by omega, by omega, by omega, by omega, by omega, by omega⟩ (by decide) (WO (s := 18) (x := .int 0) ((k_14 _ (by decide)).trans e_13) rfl (LMs (LMs LM0)) (by decide) (by decide) (by decide) (Or.inl (by decide))) (fun V_16 j_16 k_16 e_16 => ?_)
      refine aw_aload_n dX12_readsRule_96 rfl ?_
      refine aw_iconst (v := 0) dX12_readsRule_97 (by decide) ?_
      refine aw_put dX12_readsRule_98 fp_X12_189 e_16 (by omega) rfl rfl (Nat.le_of_ble_eq_true rfl) rfl ?_
      refine aw_upR j_16 cm_100 ⟨_, _, _, _, _, _, _, _, _, _, _, _, tad_2, (pl0_2 + 1), le0_2, nu0_2, coy_2, 0, say_2, rfl, by omega, by omega, by omega, by omega, by omega, by omega, by omega⟩ (by decide) (WO (s := 20) (x := .int 0) e_16 rfl (LMs (LMs (LMs LM0))) (by decide) (by decide) (by decide) (Or.inl (by decide))) (fun V_17 j_17 k_17 e_17 => ?_)
      refine aw_iload_n dX12_readsRule_101 rfl ?_
      refine aw_bipush (v := 120) dX12_readsRule_102 (by decide) ?_
      refine aw_icmp_eq (tgt := 116) dX12_readsRule_104 (by decide) (fun c_18 => ?_) (fun c_18 => ?_)
      · exact absurd c_18 (by decide)
      have hP1 := PS.start sd wa (cm := coy_2) (by omega)
      have hz1 := hz0 wa
      refine aw_aload_n dX12_readsRule_107 rfl ?_
      refine aw_callVi (J' := jX12_readsSum) (As := []) (st := []) dX12_readsRule_108 tb_1228 ok_X12_readsSum ⟨_, e_17⟩ (by omega) rfl rfl (r_readsSum l D b N V_17 hN cl j_17.1 g sd wa (pl0_2 + 1) ln coy_2 0 coy_2 (fun _ => 0) (upd sl say_2 101) (upd sf say_2 (nI coy_2)) sh st say_2 0 ⟨((k_17 _ (by decide)).trans ((k_16 _ (by decide)).trans ((k_14 _ (by decide)).trans ((k_13 _ (by decide)).trans ((k_11 _ (by decide)).trans xg_r1))))), ((k_17 _ (by decide)).trans ((k_16 _ (by decide)).trans ((k_14 _ (by decide)).trans ((k_13 _ (by decide)).trans ((k_11 _ (by decide)).trans xs_r1))))), ((k_17 _ (by decide)).trans ((k_16 _ (by decide)).trans ((k_14 _ (by decide)).trans ((k_13 _ (by decide)).trans ((k_11 _ (by decide)).trans xw_r1))))), (FG.of e_17 rfl rfl), (FG.of e_17 rfl (by omega : le0_2 = ln)), (FG.of e_17 rfl rfl), (FG.of e_17 rfl rfl), hP1, ⟨by omega, by omega, by omega, by omega⟩, ((k_17 _ (by decide)).trans ((k_16 _ (by decide)).trans ((k_14 _ (by decide)).trans ((k_13 _ (by decide)).trans e_12)))), ((k_17 _ (by decide)).trans ((k_16 _ (by decide)).trans e_15)), ((k_17 _ (by decide)).trans ((k_16 _ (by decide)).trans ((k_14 _ (by decide)).trans ((k_13 _ (by decide)).trans ((k_11 _ (by decide)).trans xd_r1))))), ((k_17 _ (by decide)).trans ((k_16 _ (by decide)).trans ((k_14 _ (by decide)).trans ((k_13 _ (by decide)).trans ((k_11 _ (by decide)).trans xe_r1))))), (FG.of e_17 rfl (by omega : say_2 = say_2)), by omega⟩ (Or.inl rfl)) rfl (Nat.le_of_ble_eq_true rfl) ⟨Nat.le_of_ble_eq_true rfl, Nat.le_of_ble_eq_true rfl, Nat.le_of_ble_eq_true rfl, Nat.le_of_ble_eq_true rfl⟩ (fun r_24 N_25 V_23 q_26 => ?_)
      obtain ⟨⟨z_21, h_20⟩, rfl, q_19⟩ := q_26
      have j_22 := JR.trans j_17 (JR.weak q_19 (Sub.cons LM0 (by decide) (by decide) (by decide) (Or.inl rfl) (Sub.cons (LMs (LMs (LMs (LMs LM0)))) (by decide) (by decide) (by decide) (Or.inr ⟨by decide, by decide⟩) (Sub.cons (LMs LM0) (by decide) (by decide) (by decide) (Or.inr ⟨by decide, by decide⟩) (Sub.cons (LMs (LMs (LMs (LMs (LMs LM0))))) (by decide) (by decide) (by decide) (Or.inr ⟨by decide, by decide⟩) (Sub.cons (LMs (LMs (LMs (LMs (LMs (LMs LM0)))))) (by decide) (by decide) (by decide) (Or.inr ⟨by decide, by decide⟩) (Sub.cons (LMs (LMs LM0)) (by decide) (by decide) (by decide) (Or.inr ⟨by decide, by decide⟩) (Sub.cons (LMs (LMs (LMs LM0))) (by decide) (by decide) (by decide) (Or.inr ⟨by decide, by decide⟩) Sub.nil))))))))
      refine aw_if_ne (tgt := 116) dX12_readsRule_111 (by decide) (fun c_27 => ?_) (fun c_27 => ?_)
      · skip
        obtain ⟨sd_y28, wa_y28, pl_y28, cm_y28, wt_y28, dp_y28, hX_y28, sw_y28, sa_y28, ss_y28, sd9_y28, sp_y28⟩ := (h_20.resolve_left c_27)
        obtain ⟨xg_x29, xs_x29, xw_x29, xp_x29, xl_x29, xc_x29, xt_x29, hP_x29, ⟨hB1_x29, hB2_x29, hB3_x29, hB4_x29⟩, xa_x29, xb_x29, xd_x29, xe_x29, xm_x29, hB5_x29⟩ := hX_y28
        obtain ⟨ftoldPeople_30, ftoldDoors_30, fwasDoors_30, ffault_30, fopen_30, flines_30, fmeantSet_30, fopenedNow_30, fvainNow_30, flowNow_30, fhighNow_30, fisKept_30, tad_30, pl0_30, le0_30, nu0_30, coy_30, wag_30, say_30, e_30, hntad_30, hnpl0_30, hnle0_30, hnnu0_30, hncoy_30, hnwag_30, hnsay_30⟩ := JR.get j_22 cm_100
        have sb_x29pl := FG.eq xp_x29 e_30 rfl (by omega) (by omega)
        subst sb_x29pl
        have sb_x29cm := FG.eq xc_x29 e_30 rfl (by omega) (by omega)
        subst sb_x29cm
        have sb_x29wt := FG.eq xt_x29 e_30 rfl (by omega) (by omega)
        subst sb_x29wt
        have sb_x29ln := FG.eq xl_x29 e_30 rfl (by omega) (by omega)
        have hsg_x29 := hP_x29.2.1
        have sb_x29sm := FG.eq xm_x29 e_30 rfl (by omega) (by omega)
        have hSeg1 : SegOK sd_y28 coy_2 coy_30 := PS.done (wa := wa_y28) (dep := dp_y28) (sw_y28 ▸ hP_x29)
        refine aw_aload_n dX12_readsRule_116 rfl ?_
        refine aw_get dX12_readsRule_117 fl_X12_53 e_30 (by omega) rfl ?_
        refine aw_aload_n dX12_readsRule_120 rfl ?_
        refine aw_get dX12_readsRule_121 fl_X12_236 e_30 (by omega) rfl ?_
        refine aw_aload_n dX12_readsRule_124 rfl ?_
        refine aw_get dX12_readsRule_125 fl_X12_182 e_30 (by omega) rfl ?_
        refine aw_iast dX12_readsRule_128 xd_x29 (by omega) (vp_in_nI (n := say_30) (by omega) (by omega)) ?_
        refine aw_upR j_22 cm_115 ⟨_, rfl⟩ (by decide) (WA LM0 (by decide) (by decide)) (fun V_31 j_31 k_31 e_31 => ?_)
        have e_32 : V_31 115 = cI D 16 (upd sh say_30 (nI coy_30)) := by rw [e_31, nI_clamp (n := say_30) (by omega)]
        have hP3 := PS.start sd_y28 wa_y28 (cm := coy_30) (by omega)
        have hP2 : PS sd_y28 wa_y28 coy_30 coy_30 wag_30 (fun _ => 0) := by rw [sw_y28]; exact hP3
        refine aw_aload_n dX12_readsRule_129 rfl ?_
        refine aw_callVi (J' := jX12_readsCondition) (As := []) (st := []) dX12_readsRule_130 tb_1271 ok_X12_readsCondition ⟨_, ((k_31 _ (by decide)).trans e_30)⟩ (by omega) rfl rfl (r_readsCondition l D b N V_31 hN cl j_31.1 g sd_y28 wa_y28 pl0_30 ln coy_30 wag_30 coy_30 (fun _ => 0) (upd sl say_2 101) (upd sf say_2 (nI coy_2)) (upd sh say_30 (nI coy_30)) st say_2 0 ⟨((k_31 _ (by decide)).trans xg_x29), ((k_31 _ (by decide)).trans xs_x29), ((k_31 _ (by decide)).trans xw_x29), (FG.of ((k_31 _ (by decide)).trans e_30) rfl rfl), (FG.of ((k_31 _ (by decide)).trans e_30) rfl (by omega : le0_30 = ln)), (FG.of ((k_31 _ (by decide)).trans e_30) rfl rfl), (FG.of ((k_31 _ (by decide)).trans e_30) rfl rfl), hP2, ⟨by omega, by omega, by omega, by omega⟩, ((k_31 _ (by decide)).trans xa_x29), ((k_31 _ (by decide)).trans xb_x29), e_32, ((k_31 _ (by decide)).trans xe_x29), (FG.of ((k_31 _ (by decide)).trans e_30) rfl (by omega : say_30 = say_2)), by omega⟩ (by omega) (by omega)) rfl (Nat.le_of_ble_eq_true rfl) ⟨Nat.le_of_ble_eq_true rfl, Nat.le_of_ble_eq_true rfl, Nat.le_of_ble_eq_true rfl, Nat.le_of_ble_eq_true rfl⟩ (fun r_38 N_39 V_37 q_40 => ?_)
        obtain ⟨⟨z_35, h_34⟩, rfl, q_33⟩ := q_40
        have j_36 := JR.trans j_31 (JR.weak q_33 (Sub.cons LM0 (by decide) (by decide) (by decide) (Or.inl rfl) (Sub.cons (LMs (LMs LM0)) (by decide) (by decide) (by decide) (Or.inr ⟨by decide, by decide⟩) (Sub.cons (LMs (LMs (LMs LM0))) (by decide) (by decide) (by decide) (Or.inr ⟨by decide, by decide⟩) (Sub.cons (LMs LM0) (by decide) (by decide) (by decide) (Or.inr ⟨by decide, by decide⟩) (Sub.cons (LMs (LMs (LMs (LMs (LMs LM0))))) (by decide) (by decide) (by decide) (Or.inr ⟨by decide, by decide⟩) (Sub.cons (LMs (LMs (LMs (LMs LM0)))) (by decide) (by decide) (by decide) (Or.inr ⟨by decide, by decide⟩) (Sub.cons (LMs (LMs (LMs (LMs (LMs (LMs LM0)))))) (by decide) (by decide) (by decide) (Or.inr ⟨by decide, by decide⟩) Sub.nil))))))))
        refine aw_if_ne (tgt := 138) dX12_readsRule_133 (by decide) (fun c_41 => ?_) (fun c_41 => ?_)
        · skip
          obtain ⟨sd_y42, wa_y42, pl_y42, cm_y42, wt_y42, dp_y42, hX_y42, nw_y42, ns_y42, nd_y42, np_y42⟩ := (h_34.resolve_left c_41)
          obtain ⟨xg_x43, xs_x43, xw_x43, xp_x43, xl_x43, xc_x43, xt_x43, hP_x43, ⟨hB1_x43, hB2_x43, hB3_x43, hB4_x43⟩, xa_x43, xb_x43, xd_x43, xe_x43, xm_x43, hB5_x43⟩ := hX_y42
          obtain ⟨ftoldPeople_44, ftoldDoors_44, fwasDoors_44, ffault_44, fopen_44, flines_44, fmeantSet_44, fopenedNow_44, fvainNow_44, flowNow_44, fhighNow_44, fisKept_44, tad_44, pl0_44, le0_44, nu0_44, coy_44, wag_44, say_44, e_44, hntad_44, hnpl0_44, hnle0_44, hnnu0_44, hncoy_44, hnwag_44, hnsay_44⟩ := JR.get j_36 cm_100
          clear hntad_30 hnpl0_30 hnle0_30 hnnu0_30 hncoy_30 hnwag_30 hnsay_30
          have sb_x43pl := FG.eq xp_x43 e_44 rfl (by omega) (by omega)
          subst sb_x43pl
          have sb_x43cm := FG.eq xc_x43 e_44 rfl (by omega) (by omega)
          subst sb_x43cm
          have sb_x43wt := FG.eq xt_x43 e_44 rfl (by omega) (by omega)
          subst sb_x43wt
          have sb_x43ln := FG.eq xl_x43 e_44 rfl (by omega) (by omega)
          have hsg_x43 := hP_x43.2.1
          have sb_x43sm := FG.eq xm_x43 e_44 rfl (by omega) (by omega)
          refine aw_aload_n dX12_readsRule_138 rfl ?_
          refine aw_get dX12_readsRule_139 fl_X12_56 e_44 (by omega) rfl ?_
          refine aw_aload_n dX12_readsRule_142 rfl ?_
          refine aw_get dX12_readsRule_143 fl_X12_236 e_44 (by omega) rfl ?_
          refine aw_aload_n dX12_readsRule_146 rfl ?_
          refine aw_get dX12_readsRule_147 fl_X12_182 e_44 (by omega) rfl ?_
          refine aw_iast dX12_readsRule_150 xe_x43 (by omega) (vp_in_nI (n := say_44) (by omega) (by omega)) ?_
          refine aw_upR j_36 cm_116 ⟨_, rfl⟩ (by decide) (WA LM0 (by decide) (by decide)) (fun V_45 j_45 k_45 e_45 => ?_)
          have e_46 : V_45 116 = cI D 16 (upd st say_44 (nI coy_44)) := by rw [e_45, nI_clamp (n := say_44) (by omega)]
          refine aw_aload_n dX12_readsRule_151 rfl ?_
          refine aw_aload_n dX12_readsRule_152 rfl ?_
          refine aw_get dX12_readsRule_153 fl_X12_236 ((k_45 _ (by decide)).trans e_44) (by omega) rfl ?_
          refine aw_iconst (v := 1) dX12_readsRule_156 (by decide) ?_
          refine aw_iadd dX12_readsRule_157 ?_
          refine aw_eqi (y := nI (say_44 + 1)) (nI_add _ _) ?_
          refine aw_put dX12_readsRule_158 fp_X12_236 ((k_45 _ (by decide)).trans e_44) (by omega) rfl rfl (Nat.le_of_ble_eq_true rfl) rfl ?_
          refine aw_upR j_45 cm_100 ⟨_, _, _, _, _, _, _, _, _, _, _, _, tad_44, pl0_44, le0_44, nu0_44, coy_44, wag_44, (say_44 + 1), rfl, by omega, by omega, by omega, by omega, by omega, by omega, by omega⟩ (by decide) (WO (s := 21) (x := .int (nI (say_44 + 1))) ((k_45 _ (by decide)).trans e_44) rfl (LMs (LMs (LMs (LMs (LMs (LMs (LMs LM0))))))) (by decide) (by decide) (by decide) (Or.inl (by decide))) (fun V_47 j_47 k_47 e_47 => ?_)
          refine aw_iconst (v := 1) dX12_readsRule_161 (by decide) ?_
          have hSeg2 : SegOK sd_y42 coy_30 coy_44 := PS.done (wa := wa_y42) (dep := dp_y42) (nw_y42 ▸ hP_x43)
          refine aw_zreti dX12_readsRule_162 rfl (by first | exact Or.inl rfl | exact Or.inr rfl | assumption) (Nat.le_of_ble_eq_true rfl) (Nat.le_of_ble_eq_true rfl) ?_
          exact ⟨⟨(by first | exact Or.inl rfl | exact Or.inr rfl | assumption), Or.inr ⟨sd_y42, wa_y42, pl0_44, coy_44, (upd sl say_2 101), (upd sf say_2 (nI coy_2)), (upd sh say_30 (nI coy_30)), (upd st say_44 (nI coy_44)), ⟨((k_47 _ (by decide)).trans ((k_45 _ (by decide)).trans xg_x43)), ((k_47 _ (by decide)).trans ((k_45 _ (by decide)).trans xs_x43)), ((k_47 _ (by decide)).trans ((k_45 _ (by decide)).trans xw_x43)), ((k_47 _ (by decide)).trans ((k_45 _ (by decide)).trans xa_x43)), ((k_47 _ (by decide)).trans ((k_45 _ (by decide)).trans xb_x43)), ((k_47 _ (by decide)).trans ((k_45 _ (by decide)).trans xd_x43)), ((k_47 _ (by decide)).trans e_46), (FG.of e_47 rfl rfl), (FG.of e_47 rfl (by omega : le0_44 = ln)), (FG.of e_47 rfl rfl), (FG.of e_47 rfl (by omega : (say_44 + 1) = say_2 + 1)), ⟨by omega, by omega, by omega, by omega⟩, (RI.step hR_r1 (fun k hk => (ns_y42 k (by omega)).trans (ss_y28 k hk)) (by omega) (by omega) (hSeg1.congr ns_y42) hSeg2 (by omega) (by omega) (by omega))⟩, by omega⟩⟩, rfl, j_47⟩
        · skip
          refine aw_iconst (v := 0) dX12_readsRule_136 (by decide) ?_
          refine aw_zreti dX12_readsRule_137 rfl (by first | exact Or.inl rfl | exact Or.inr rfl | assumption) (Nat.le_of_ble_eq_true rfl) (Nat.le_of_ble_eq_true rfl) ?_
          exact ⟨⟨(by first | exact Or.inl rfl | exact Or.inr rfl | assumption), Or.inl rfl⟩, rfl, j_36⟩
      · skip
        refine aw_iconst (v := 0) dX12_readsRule_114 (by decide) ?_
        refine aw_zreti dX12_readsRule_115 rfl (by first | exact Or.inl rfl | exact Or.inr rfl | assumption) (Nat.le_of_ble_eq_true rfl) (Nat.le_of_ble_eq_true rfl) ?_
        exact ⟨⟨(by first | exact Or.inl rfl | exact Or.inr rfl | assumption), Or.inl rfl⟩, rfl, j_22⟩
    · skip
      have nc_10 : say_2 = 16 := (nI_eq (a := say_2) (b := 16) (by omega) (by omega)).mp c_10
      refine aw_aload_n dX12_readsRule_48 rfl ?_
      refine aw_iconst (v := 4) dX12_readsRule_49 (by decide) ?_
      refine aw_aload_n dX12_readsRule_50 rfl ?_
      refine aw_get dX12_readsRule_51 fl_X12_159 e_2 (by omega) rfl ?_
      refine aw_callVi (J' := jX12_wrongAt) (As := [.int 4, .int (nI pl0_2)]) (st := []) dX12_readsRule_54 tb_1224 ok_X12_wrongAt ⟨_, e_2⟩ (by omega) rfl rfl (r_wrongAt l D b N V hN cl hJ0.1 4 (nI pl0_2) pl0_2 le0_2 (FG.of e_2 rfl rfl) (FG.of e_2 rfl rfl) ⟨by omega, by omega⟩) rfl (Nat.le_of_ble_eq_true rfl) ⟨Nat.le_of_ble_eq_true rfl, Nat.le_of_ble_eq_true rfl, Nat.le_of_ble_eq_true rfl, Nat.le_of_ble_eq_true rfl⟩ (fun r_61 N_62 V_52 q_63 => ?_)
      obtain ⟨⟨z_50, h_49⟩, rfl, q_48⟩ := q_63
      have j_51 := JR.trans hJ0 (JR.weak q_48 (Sub.cons (LMs (LMs (LMs (LMs (LMs LM0))))) (by decide) (by decide) (by decide) (Or.inr ⟨by decide, by decide⟩) Sub.nil))
      obtain ⟨a_53, ha_54, hA_55, hF_56, hL_57, hz_58, hX_59⟩ := h_49
      obtain ⟨ftoldPeople_k60, ftoldDoors_k60, fwasDoors_k60, ffault_k60, fopen_k60, flines_k60, fmeantSet_k60, fopenedNow_k60, fvainNow_k60, flowNow_k60, fhighNow_k60, fisKept_k60, tad_k60, pl0_k60, le0_k60, nu0_k60, coy_k60, wag_k60, say_k60, e_k60, hntad_k60, hnpl0_k60, hnle0_k60, hnnu0_k60, hncoy_k60, hnwag_k60, hnsay_k60⟩ := JR.get j_51 cm_100
      have hqp_k60 := FG.eq hF_56 e_k60 rfl (by omega) (by omega)
      have hql_k60 := FG.eq hL_57 e_k60 rfl (by omega) (by omega)
      obtain rfl := hX_59
      refine aw_zreti dX12_readsRule_57 rfl (by first | exact Or.inl rfl | exact Or.inr rfl | assumption) (Nat.le_of_ble_eq_true rfl) (Nat.le_of_ble_eq_true rfl) ?_
      exact ⟨⟨(by first | exact Or.inl rfl | exact Or.inr rfl | assumption), Or.inl rfl⟩, rfl, j_51⟩
  · skip
    refine aw_iload_n dX12_readsRule_11 rfl ?_
    refine aw_bipush (v := 99) dX12_readsRule_12 (by decide) ?_
    refine aw_icmp_eq (tgt := 39) dX12_readsRule_14 (by decide) (fun c_64 => ?_) (fun c_64 => ?_)
    · skip
      have hlc_64 := here_lt h_4 c_64 (by decide)
      subst c_64
      refine aw_aload_n dX12_readsRule_39 rfl ?_
      refine aw_get dX12_readsRule_40 fl_X12_236 e_2 (by omega) rfl ?_
      refine aw_bipush (v := 16) dX12_readsRule_43 (by decide) ?_
      refine aw_icmp_ne (tgt := 58) dX12_readsRule_45 (by decide) (fun c_65 => ?_) (fun c_65 => ?_)
      · skip
        have nc_65 : ¬ (say_2 = 16) := fun z => c_65 ((nI_eq (a := say_2) (b := 16) (by omega) (by omega)).mpr z)
        refine aw_aload_n dX12_readsRule_58 rfl ?_
        refine aw_get dX12_readsRule_59 fl_X12_47 e_2 (by omega) rfl ?_
        refine aw_aload_n dX12_readsRule_62 rfl ?_
        refine aw_get dX12_readsRule_63 fl_X12_236 e_2 (by omega) rfl ?_
        refine aw_iload_n dX12_readsRule_66 rfl ?_
        refine aw_iast dX12_readsRule_67 xa_r1 (by omega) (vp_in_nI (n := say_2) (by omega) (by omega)) ?_
        refine aw_upR hJ0 cm_113 ⟨_, rfl⟩ (by decide) (WA LM0 (by decide) (by decide)) (fun V_66 j_66 k_66 e_66 => ?_)
        have e_67 : V_66 113 = cI D 16 (upd sl say_2 99) := by rw [e_66, nI_clamp (n := say_2) (by omega)]
        refine aw_aload_n dX12_readsRule_68 rfl ?_
        refine aw_aload_n dX12_readsRule_69 rfl ?_
        refine aw_get dX12_readsRule_70 fl_X12_159 ((k_66 _ (by decide)).trans e_2) (by omega) rfl ?_
        refine aw_iconst (v := 1) dX12_readsRule_73 (by decide) ?_
        refine aw_iadd dX12_readsRule_74 ?_
        refine aw_eqi (y := nI (pl0_2 + 1)) (nI_add _ _) ?_
        refine aw_put dX12_readsRule_75 fp_X12_159 ((k_66 _ (by decide)).trans e_2) (by omega) rfl rfl (Nat.le_of_ble_eq_true rfl) rfl ?_
        refine aw_upR j_66 cm_100 ⟨_, _, _, _, _, _, _, _, _, _, _, _, tad_2, (pl0_2 + 1), le0_2, nu0_2, coy_2, wag_2, say_2, rfl, by omega, by omega, by omega, by omega, by omega, by omega, by omega⟩ (by decide) (WO (s := 14) (x := .int (nI (pl0_2 + 1))) ((k_66 _ (by decide)).trans e_2) rfl (LMs LM0) (by decide) (by decide) (by decide) (Or.inl (by decide))) (fun V_68 j_68 k_68 e_68 => ?_)
        refine aw_aload_n dX12_readsRule_78 rfl ?_
        refine aw_get dX12_readsRule_79 fl_X12_50 e_68 (by omega) rfl ?_
        refine aw_aload_n dX12_readsRule_82 rfl ?_
        refine aw_get dX12_readsRule_83 fl_X12_236 e_68 (by omega) rfl ?_
        refine aw_aload_n dX12_readsRule_86 rfl ?_
        refine aw_get dX12_readsRule_87 fl_X12_182 e_68 (by omega) rfl ?_
        refine aw_iast dX12_readsRule_90 ((k_68 _ (by decide)).trans ((k_66 _ (by decide)).trans xb_r1)) (by omega) (vp_in_nI (n := say_2) (by omega) (by omega)) ?_
        refine aw_upR j_68 cm_114 ⟨_, rfl⟩ (by decide) (WA LM0 (by decide) (by decide)) (fun V_69 j_69 k_69 e_69 => ?_)
        have e_70 : V_69 114 = cI D 16 (upd sf say_2 (nI coy_2)) := by rw [e_69, nI_clamp (n := say_2) (by omega)]
        refine aw_aload_n dX12_readsRule_91 rfl ?_
        refine aw_iconst (v := 0) dX12_readsRule_92 (by decide) ?_
        refine aw_put dX12_readsRule_93 fp_X12_186 ((k_69 _ (by decide)).trans e_68) (by omega) rfl rfl (Nat.le_of_ble_eq_true rfl) rfl ?_
        refine aw_upR j_69 cm_100 ⟨_, _, _, _, _, _, _, _, _, _, _, _, tad_2, (pl0_2 + 1), le0_2, nu0_2, coy_2, wag_2, say_2, rfl, by omega, by omega, by omega, by omega, by omega, by omega, by omega⟩ (by decide) (WO (s := 18) (x := .int 0) ((k_69 _ (by decide)).trans e_68) rfl (LMs (LMs LM0)) (by decide) (by decide) (by decide) (Or.inl (by decide))) (fun V_71 j_71 k_71 e_71 => ?_)
        refine aw_aload_n dX12_readsRule_96 rfl ?_
        refine aw_iconst (v := 0) dX12_readsRule_97 (by decide) ?_
        refine aw_put dX12_readsRule_98 fp_X12_189 e_71 (by omega) rfl rfl (Nat.le_of_ble_eq_true rfl) rfl ?_
        refine aw_upR j_71 cm_100 ⟨_, _, _, _, _, _, _, _, _, _, _, _, tad_2, (pl0_2 + 1), le0_2, nu0_2, coy_2, 0, say_2, rfl, by omega, by omega, by omega, by omega, by omega, by omega, by omega⟩ (by decide) (WO (s := 20) (x := .int 0) e_71 rfl (LMs (LMs (LMs LM0))) (by decide) (by decide) (by decide) (Or.inl (by decide))) (fun V_72 j_72 k_72 e_72 => ?_)
        refine aw_iload_n dX12_readsRule_101 rfl ?_
        refine aw_bipush (v := 120) dX12_readsRule_102 (by decide) ?_
        refine aw_icmp_eq (tgt := 116) dX12_readsRule_104 (by decide) (fun c_73 => ?_) (fun c_73 => ?_)
        · exact absurd c_73 (by decide)
        have hP1 := PS.start sd wa (cm := coy_2) (by omega)
        have hz1 := hz0 wa
        refine aw_aload_n dX12_readsRule_107 rfl ?_
        refine aw_callVi (J' := jX12_readsSum) (As := []) (st := []) dX12_readsRule_108 tb_1228 ok_X12_readsSum ⟨_, e_72⟩ (by omega) rfl rfl (r_readsSum l D b N V_72 hN cl j_72.1 g sd wa (pl0_2 + 1) ln coy_2 0 coy_2 (fun _ => 0) (upd sl say_2 99) (upd sf say_2 (nI coy_2)) sh st say_2 0 ⟨((k_72 _ (by decide)).trans ((k_71 _ (by decide)).trans ((k_69 _ (by decide)).trans ((k_68 _ (by decide)).trans ((k_66 _ (by decide)).trans xg_r1))))), ((k_72 _ (by decide)).trans ((k_71 _ (by decide)).trans ((k_69 _ (by decide)).trans ((k_68 _ (by decide)).trans ((k_66 _ (by decide)).trans xs_r1))))), ((k_72 _ (by decide)).trans ((k_71 _ (by decide)).trans ((k_69 _ (by decide)).trans ((k_68 _ (by decide)).trans ((k_66 _ (by decide)).trans xw_r1))))), (FG.of e_72 rfl rfl), (FG.of e_72 rfl (by omega : le0_2 = ln)), (FG.of e_72 rfl rfl), (FG.of e_72 rfl rfl), hP1, ⟨by omega, by omega, by omega, by omega⟩, ((k_72 _ (by decide)).trans ((k_71 _ (by decide)).trans ((k_69 _ (by decide)).trans ((k_68 _ (by decide)).trans e_67)))), ((k_72 _ (by decide)).trans ((k_71 _ (by decide)).trans e_70)), ((k_72 _ (by decide)).trans ((k_71 _ (by decide)).trans ((k_69 _ (by decide)).trans ((k_68 _ (by decide)).trans ((k_66 _ (by decide)).trans xd_r1))))), ((k_72 _ (by decide)).trans ((k_71 _ (by decide)).trans ((k_69 _ (by decide)).trans ((k_68 _ (by decide)).trans ((k_66 _ (by decide)).trans xe_r1))))), (FG.of e_72 rfl (by omega : say_2 = say_2)), by omega⟩ (Or.inl rfl)) rfl (Nat.le_of_ble_eq_true rfl) ⟨Nat.le_of_ble_eq_true rfl, Nat.le_of_ble_eq_true rfl, Nat.le_of_ble_eq_true rfl, Nat.le_of_ble_eq_true rfl⟩ (fun r_79 N_80 V_78 q_81 => ?_)
        obtain ⟨⟨z_76, h_75⟩, rfl, q_74⟩ := q_81
        have j_77 := JR.trans j_72 (JR.weak q_74 (Sub.cons LM0 (by decide) (by decide) (by decide) (Or.inl rfl) (Sub.cons (LMs (LMs (LMs (LMs LM0)))) (by decide) (by decide) (by decide) (Or.inr ⟨by decide, by decide⟩) (Sub.cons (LMs LM0) (by decide) (by decide) (by decide) (Or.inr ⟨by decide, by decide⟩) (Sub.cons (LMs (LMs (LMs (LMs (LMs LM0))))) (by decide) (by decide) (by decide) (Or.inr ⟨by decide, by decide⟩) (Sub.cons (LMs (LMs (LMs (LMs (LMs (LMs LM0)))))) (by decide) (by decide) (by decide) (Or.inr ⟨by decide, by decide⟩) (Sub.cons (LMs (LMs LM0)) (by decide) (by decide) (by decide) (Or.inr ⟨by decide, by decide⟩) (Sub.cons (LMs (LMs (LMs LM0))) (by decide) (by decide) (by decide) (Or.inr ⟨by decide, by decide⟩) Sub.nil))))))))
        refine aw_if_ne (tgt := 116) dX12_readsRule_111 (by decide) (fun c_82 => ?_) (fun c_82 => ?_)
        · skip
          obtain ⟨sd_y83, wa_y83, pl_y83, cm_y83, wt_y83, dp_y83, hX_y83, sw_y83, sa_y83, ss_y83, sd9_y83, sp_y83⟩ := (h_75.resolve_left c_82)
          obtain ⟨xg_x84, xs_x84, xw_x84, xp_x84, xl_x84, xc_x84, xt_x84, hP_x84, ⟨hB1_x84, hB2_x84, hB3_x84, hB4_x84⟩, xa_x84, xb_x84, xd_x84, xe_x84, xm_x84, hB5_x84⟩ := hX_y83
          obtain ⟨ftoldPeople_85, ftoldDoors_85, fwasDoors_85, ffault_85, fopen_85, flines_85, fmeantSet_85, fopenedNow_85, fvainNow_85, flowNow_85, fhighNow_85, fisKept_85, tad_85, pl0_85, le0_85, nu0_85, coy_85, wag_85, say_85, e_85, hntad_85, hnpl0_85, hnle0_85, hnnu0_85, hncoy_85, hnwag_85, hnsay_85⟩ := JR.get j_77 cm_100
          have sb_x84pl := FG.eq xp_x84 e_85 rfl (by omega) (by omega)
          subst sb_x84pl
          have sb_x84cm := FG.eq xc_x84 e_85 rfl (by omega) (by omega)
          subst sb_x84cm
          have sb_x84wt := FG.eq xt_x84 e_85 rfl (by omega) (by omega)
          subst sb_x84wt
          have sb_x84ln := FG.eq xl_x84 e_85 rfl (by omega) (by omega)
          have hsg_x84 := hP_x84.2.1
          have sb_x84sm := FG.eq xm_x84 e_85 rfl (by omega) (by omega)
          have hSeg1 : SegOK sd_y83 coy_2 coy_85 := PS.done (wa := wa_y83) (dep := dp_y83) (sw_y83 ▸ hP_x84)
          refine aw_aload_n dX12_readsRule_116 rfl ?_
          refine aw_get dX12_readsRule_117 fl_X12_53 e_85 (by omega) rfl ?_
          refine aw_aload_n dX12_readsRule_120 rfl ?_
          refine aw_get dX12_readsRule_121 fl_X12_236 e_85 (by omega) rfl ?_
          refine aw_aload_n dX12_readsRule_124 rfl ?_
          refine aw_get dX12_readsRule_125 fl_X12_182 e_85 (by omega) rfl ?_
          refine aw_iast dX12_readsRule_128 xd_x84 (by omega) (vp_in_nI (n := say_85) (by omega) (by omega)) ?_
          refine aw_upR j_77 cm_115 ⟨_, rfl⟩ (by decide) (WA LM0 (by decide) (by decide)) (fun V_86 j_86 k_86 e_86 => ?_)
          have e_87 : V_86 115 = cI D 16 (upd sh say_85 (nI coy_85)) := by rw [e_86, nI_clamp (n := say_85) (by omega)]
          have hP3 := PS.start sd_y83 wa_y83 (cm := coy_85) (by omega)
          have hP2 : PS sd_y83 wa_y83 coy_85 coy_85 wag_85 (fun _ => 0) := by rw [sw_y83]; exact hP3
          refine aw_aload_n dX12_readsRule_129 rfl ?_
          refine aw_callVi (J' := jX12_readsCondition) (As := []) (st := []) dX12_readsRule_130 tb_1271 ok_X12_readsCondition ⟨_, ((k_86 _ (by decide)).trans e_85)⟩ (by omega) rfl rfl (r_readsCondition l D b N V_86 hN cl j_86.1 g sd_y83 wa_y83 pl0_85 ln coy_85 wag_85 coy_85 (fun _ => 0) (upd sl say_2 99) (upd sf say_2 (nI coy_2)) (upd sh say_85 (nI coy_85)) st say_2 0 ⟨((k_86 _ (by decide)).trans xg_x84), ((k_86 _ (by decide)).trans xs_x84), ((k_86 _ (by decide)).trans xw_x84), (FG.of ((k_86 _ (by decide)).trans e_85) rfl rfl), (FG.of ((k_86 _ (by decide)).trans e_85) rfl (by omega : le0_85 = ln)), (FG.of ((k_86 _ (by decide)).trans e_85) rfl rfl), (FG.of ((k_86 _ (by decide)).trans e_85) rfl rfl), hP2, ⟨by omega, by omega, by omega, by omega⟩, ((k_86 _ (by decide)).trans xa_x84), ((k_86 _ (by decide)).trans xb_x84), e_87, ((k_86 _ (by decide)).trans xe_x84), (FG.of ((k_86 _ (by decide)).trans e_85) rfl (by omega : say_85 = say_2)), by omega⟩ (by omega) (by omega)) rfl (Nat.le_of_ble_eq_true rfl) ⟨Nat.le_of_ble_eq_true rfl, Nat.le_of_ble_eq_true rfl, Nat.le_of_ble_eq_true rfl, Nat.le_of_ble_eq_true rfl⟩ (fun r_93 N_94 V_92 q_95 => ?_)
          obtain ⟨⟨z_90, h_89⟩, rfl, q_88⟩ := q_95
          have j_91 := JR.trans j_86 (JR.weak q_88 (Sub.cons LM0 (by decide) (by decide) (by decide) (Or.inl rfl) (Sub.cons (LMs (LMs LM0)) (by decide) (by decide) (by decide) (Or.inr ⟨by decide, by decide⟩) (Sub.cons (LMs (LMs (LMs LM0))) (by decide) (by decide) (by decide) (Or.inr ⟨by decide, by decide⟩) (Sub.cons (LMs LM0) (by decide) (by decide) (by decide) (Or.inr ⟨by decide, by decide⟩) (Sub.cons (LMs (LMs (LMs (LMs (LMs LM0))))) (by decide) (by decide) (by decide) (Or.inr ⟨by decide, by decide⟩) (Sub.cons (LMs (LMs (LMs (LMs LM0)))) (by decide) (by decide) (by decide) (Or.inr ⟨by decide, by decide⟩) (Sub.cons (LMs (LMs (LMs (LMs (LMs (LMs LM0)))))) (by decide) (by decide) (by decide) (Or.inr ⟨by decide, by decide⟩) Sub.nil))))))))
          refine aw_if_ne (tgt := 138) dX12_readsRule_133 (by decide) (fun c_96 => ?_) (fun c_96 => ?_)
          · skip
            obtain ⟨sd_y97, wa_y97, pl_y97, cm_y97, wt_y97, dp_y97, hX_y97, nw_y97, ns_y97, nd_y97, np_y97⟩ := (h_89.resolve_left c_96)
            obtain ⟨xg_x98, xs_x98, xw_x98, xp_x98, xl_x98, xc_x98, xt_x98, hP_x98, ⟨hB1_x98, hB2_x98, hB3_x98, hB4_x98⟩, xa_x98, xb_x98, xd_x98, xe_x98, xm_x98, hB5_x98⟩ := hX_y97
            obtain ⟨ftoldPeople_99, ftoldDoors_99, fwasDoors_99, ffault_99, fopen_99, flines_99, fmeantSet_99, fopenedNow_99, fvainNow_99, flowNow_99, fhighNow_99, fisKept_99, tad_99, pl0_99, le0_99, nu0_99, coy_99, wag_99, say_99, e_99, hntad_99, hnpl0_99, hnle0_99, hnnu0_99, hncoy_99, hnwag_99, hnsay_99⟩ := JR.get j_91 cm_100
            clear hntad_85 hnpl0_85 hnle0_85 hnnu0_85 hncoy_85 hnwag_85 hnsay_85
            have sb_x98pl := FG.eq xp_x98 e_99 rfl (by omega) (by omega)
            subst sb_x98pl
            have sb_x98cm := FG.eq xc_x98 e_99 rfl (by omega) (by omega)
            subst sb_x98cm
            have sb_x98wt := FG.eq xt_x98 e_99 rfl (by omega) (by omega)
            subst sb_x98wt
            have sb_x98ln := FG.eq xl_x98 e_99 rfl (by omega) (by omega)
            have hsg_x98 := hP_x98.2.1
            have sb_x98sm := FG.eq xm_x98 e_99 rfl (by omega) (by omega)
            refine aw_aload_n dX12_readsRule_138 rfl ?_
            refine aw_get dX12_readsRule_139 fl_X12_56 e_99 (by omega) rfl ?_
            refine aw_aload_n dX12_readsRule_142 rfl ?_
            refine aw_get dX12_readsRule_143 fl_X12_236 e_99 (by omega) rfl ?_
            refine aw_aload_n dX12_readsRule_146 rfl ?_
            refine aw_get dX12_readsRule_147 fl_X12_182 e_99 (by omega) rfl ?_
            refine aw_iast dX12_readsRule_150 xe_x98 (by omega) (vp_in_nI (n := say_99) (by omega) (by omega)) ?_
            refine aw_upR j_91 cm_116 ⟨_, rfl⟩ (by decide) (WA LM0 (by decide) (by decide)) (fun V_100 j_100 k_100 e_100 => ?_)
            have e_101 : V_100 116 = cI D 16 (upd st say_99 (nI coy_99)) := by rw [e_100, nI_clamp (n := say_99) (by omega)]
            refine aw_aload_n dX12_readsRule_151 rfl ?_
            refine aw_aload_n dX12_readsRule_152 rfl ?_
            refine aw_get dX12_readsRule_153 fl_X12_236 ((k_100 _ (by decide)).trans e_99) (by omega) rfl ?_
            refine aw_iconst (v := 1) dX12_readsRule_156 (by decide) ?_
            refine aw_iadd dX12_readsRule_157 ?_
            refine aw_eqi (y := nI (say_99 + 1)) (nI_add _ _) ?_
            refine aw_put dX12_readsRule_158 fp_X12_236 ((k_100 _ (by decide)).trans e_99) (by omega) rfl rfl (Nat.le_of_ble_eq_true rfl) rfl ?_
            refine aw_upR j_100 cm_100 ⟨_, _, _, _, _, _, _, _, _, _, _, _, tad_99, pl0_99, le0_99, nu0_99, coy_99, wag_99, (say_99 + 1), rfl, by omega, by omega, by omega, by omega, by omega, by omega, by omega⟩ (by decide) (WO (s := 21) (x := .int (nI (say_99 + 1))) ((k_100 _ (by decide)).trans e_99) rfl (LMs (LMs (LMs (LMs (LMs (LMs (LMs LM0))))))) (by decide) (by decide) (by decide) (Or.inl (by decide))) (fun V_102 j_102 k_102 e_102 => ?_)
            refine aw_iconst (v := 1) dX12_readsRule_161 (by decide) ?_
            have hSeg2 : SegOK sd_y97 coy_85 coy_99 := PS.done (wa := wa_y97) (dep := dp_y97) (nw_y97 ▸ hP_x98)
            refine aw_zreti dX12_readsRule_162 rfl (by first | exact Or.inl rfl | exact Or.inr rfl | assumption) (Nat.le_of_ble_eq_true rfl) (Nat.le_of_ble_eq_true rfl) ?_
            exact ⟨⟨(by first | exact Or.inl rfl | exact Or.inr rfl | assumption), Or.inr ⟨sd_y97, wa_y97, pl0_99, coy_99, (upd sl say_2 99), (upd sf say_2 (nI coy_2)), (upd sh say_85 (nI coy_85)), (upd st say_99 (nI coy_99)), ⟨((k_102 _ (by decide)).trans ((k_100 _ (by decide)).trans xg_x98)), ((k_102 _ (by decide)).trans ((k_100 _ (by decide)).trans xs_x98)), ((k_102 _ (by decide)).trans ((k_100 _ (by decide)).trans xw_x98)), ((k_102 _ (by decide)).trans ((k_100 _ (by decide)).trans xa_x98)), ((k_102 _ (by decide)).trans ((k_100 _ (by decide)).trans xb_x98)), ((k_102 _ (by decide)).trans ((k_100 _ (by decide)).trans xd_x98)), ((k_102 _ (by decide)).trans e_101), (FG.of e_102 rfl rfl), (FG.of e_102 rfl (by omega : le0_99 = ln)), (FG.of e_102 rfl rfl), (FG.of e_102 rfl (by omega : (say_99 + 1) = say_2 + 1)), ⟨by omega, by omega, by omega, by omega⟩, (RI.step hR_r1 (fun k hk => (ns_y97 k (by omega)).trans (ss_y83 k hk)) (by omega) (by omega) (hSeg1.congr ns_y97) hSeg2 (by omega) (by omega) (by omega))⟩, by omega⟩⟩, rfl, j_102⟩
          · skip
            refine aw_iconst (v := 0) dX12_readsRule_136 (by decide) ?_
            refine aw_zreti dX12_readsRule_137 rfl (by first | exact Or.inl rfl | exact Or.inr rfl | assumption) (Nat.le_of_ble_eq_true rfl) (Nat.le_of_ble_eq_true rfl) ?_
            exact ⟨⟨(by first | exact Or.inl rfl | exact Or.inr rfl | assumption), Or.inl rfl⟩, rfl, j_91⟩
        · skip
          refine aw_iconst (v := 0) dX12_readsRule_114 (by decide) ?_
          refine aw_zreti dX12_readsRule_115 rfl (by first | exact Or.inl rfl | exact Or.inr rfl | assumption) (Nat.le_of_ble_eq_true rfl) (Nat.le_of_ble_eq_true rfl) ?_
          exact ⟨⟨(by first | exact Or.inl rfl | exact Or.inr rfl | assumption), Or.inl rfl⟩, rfl, j_77⟩
      · skip
        have nc_65 : say_2 = 16 := (nI_eq (a := say_2) (b := 16) (by omega) (by omega)).mp c_65
        refine aw_aload_n dX12_readsRule_48 rfl ?_
        refine aw_iconst (v := 4) dX12_readsRule_49 (by decide) ?_
        refine aw_aload_n dX12_readsRule_50 rfl ?_
        refine aw_get dX12_readsRule_51 fl_X12_159 e_2 (by omega) rfl ?_
        refine aw_callVi (J' := jX12_wrongAt) (As := [.int 4, .int (nI pl0_2)]) (st := []) dX12_readsRule_54 tb_1224 ok_X12_wrongAt ⟨_, e_2⟩ (by omega) rfl rfl (r_wrongAt l D b N V hN cl hJ0.1 4 (nI pl0_2) pl0_2 le0_2 (FG.of e_2 rfl rfl) (FG.of e_2 rfl rfl) ⟨by omega, by omega⟩) rfl (Nat.le_of_ble_eq_true rfl) ⟨Nat.le_of_ble_eq_true rfl, Nat.le_of_ble_eq_true rfl, Nat.le_of_ble_eq_true rfl, Nat.le_of_ble_eq_true rfl⟩ (fun r_116 N_117 V_107 q_118 => ?_)
        obtain ⟨⟨z_105, h_104⟩, rfl, q_103⟩ := q_118
        have j_106 := JR.trans hJ0 (JR.weak q_103 (Sub.cons (LMs (LMs (LMs (LMs (LMs LM0))))) (by decide) (by decide) (by decide) (Or.inr ⟨by decide, by decide⟩) Sub.nil))
        obtain ⟨a_108, ha_109, hA_110, hF_111, hL_112, hz_113, hX_114⟩ := h_104
        obtain ⟨ftoldPeople_k115, ftoldDoors_k115, fwasDoors_k115, ffault_k115, fopen_k115, flines_k115, fmeantSet_k115, fopenedNow_k115, fvainNow_k115, flowNow_k115, fhighNow_k115, fisKept_k115, tad_k115, pl0_k115, le0_k115, nu0_k115, coy_k115, wag_k115, say_k115, e_k115, hntad_k115, hnpl0_k115, hnle0_k115, hnnu0_k115, hncoy_k115, hnwag_k115, hnsay_k115⟩ := JR.get j_106 cm_100
        have hqp_k115 := FG.eq hF_111 e_k115 rfl (by omega) (by omega)
        have hql_k115 := FG.eq hL_112 e_k115 rfl (by omega) (by omega)
        obtain rfl := hX_114
        refine aw_zreti dX12_readsRule_57 rfl (by first | exact Or.inl rfl | exact Or.inr rfl | assumption) (Nat.le_of_ble_eq_true rfl) (Nat.le_of_ble_eq_true rfl) ?_
        exact ⟨⟨(by first | exact Or.inl rfl | exact Or.inr rfl | assumption), Or.inl rfl⟩, rfl, j_106⟩
    · skip
      refine aw_iload_n dX12_readsRule_17 rfl ?_
      refine aw_bipush (v := 115) dX12_readsRule_18 (by decide) ?_
      refine aw_icmp_eq (tgt := 39) dX12_readsRule_20 (by decide) (fun c_119 => ?_) (fun c_119 => ?_)
      · skip
        have hlc_119 := here_lt h_4 c_119 (by decide)
        subst c_119
        refine aw_aload_n dX12_readsRule_39 rfl ?_
        refine aw_get dX12_readsRule_40 fl_X12_236 e_2 (by omega) rfl ?_
        refine aw_bipush (v := 16) dX12_readsRule_43 (by decide) ?_
        refine aw_icmp_ne (tgt := 58) dX12_readsRule_45 (by decide) (fun c_120 => ?_) (fun c_120 => ?_)
        · skip
          have nc_120 : ¬ (say_2 = 16) := fun z => c_120 ((nI_eq (a := say_2) (b := 16) (by omega) (by omega)).mpr z)
          refine aw_aload_n dX12_readsRule_58 rfl ?_
          refine aw_get dX12_readsRule_59 fl_X12_47 e_2 (by omega) rfl ?_
          refine aw_aload_n dX12_readsRule_62 rfl ?_
          refine aw_get dX12_readsRule_63 fl_X12_236 e_2 (by omega) rfl ?_
          refine aw_iload_n dX12_readsRule_66 rfl ?_
          refine aw_iast dX12_readsRule_67 xa_r1 (by omega) (vp_in_nI (n := say_2) (by omega) (by omega)) ?_
          refine aw_upR hJ0 cm_113 ⟨_, rfl⟩ (by decide) (WA LM0 (by decide) (by decide)) (fun V_121 j_121 k_121 e_121 => ?_)
          have e_122 : V_121 113 = cI D 16 (upd sl say_2 115) := by rw [e_121, nI_clamp (n := say_2) (by omega)]
          refine aw_aload_n dX12_readsRule_68 rfl ?_
          refine aw_aload_n dX12_readsRule_69 rfl ?_
          refine aw_get dX12_readsRule_70 fl_X12_159 ((k_121 _ (by decide)).trans e_2) (by omega) rfl ?_
          refine aw_iconst (v := 1) dX12_readsRule_73 (by decide) ?_
          refine aw_iadd dX12_readsRule_74 ?_
          refine aw_eqi (y := nI (pl0_2 + 1)) (nI_add _ _) ?_
          refine aw_put dX12_readsRule_75 fp_X12_159 ((k_121 _ (by decide)).trans e_2) (by omega) rfl rfl (Nat.le_of_ble_eq_true rfl) rfl ?_
          refine aw_upR j_121 cm_100 ⟨_, _, _, _, _, _, _, _, _, _, _, _, tad_2, (pl0_2 + 1), le0_2, nu0_2, coy_2, wag_2, say_2, rfl, by omega, by omega, by omega, by omega, by omega, by omega, by omega⟩ (by decide) (WO (s := 14) (x := .int (nI (pl0_2 + 1))) ((k_121 _ (by decide)).trans e_2) rfl (LMs LM0) (by decide) (by decide) (by decide) (Or.inl (by decide))) (fun V_123 j_123 k_123 e_123 => ?_)
          refine aw_aload_n dX12_readsRule_78 rfl ?_
          refine aw_get dX12_readsRule_79 fl_X12_50 e_123 (by omega) rfl ?_
          refine aw_aload_n dX12_readsRule_82 rfl ?_
          refine aw_get dX12_readsRule_83 fl_X12_236 e_123 (by omega) rfl ?_
          refine aw_aload_n dX12_readsRule_86 rfl ?_
          refine aw_get dX12_readsRule_87 fl_X12_182 e_123 (by omega) rfl ?_
          refine aw_iast dX12_readsRule_90 ((k_123 _ (by decide)).trans ((k_121 _ (by decide)).trans xb_r1)) (by omega) (vp_in_nI (n := say_2) (by omega) (by omega)) ?_
          refine aw_upR j_123 cm_114 ⟨_, rfl⟩ (by decide) (WA LM0 (by decide) (by decide)) (fun V_124 j_124 k_124 e_124 => ?_)
          have e_125 : V_124 114 = cI D 16 (upd sf say_2 (nI coy_2)) := by rw [e_124, nI_clamp (n := say_2) (by omega)]
          refine aw_aload_n dX12_readsRule_91 rfl ?_
          refine aw_iconst (v := 0) dX12_readsRule_92 (by decide) ?_
          refine aw_put dX12_readsRule_93 fp_X12_186 ((k_124 _ (by decide)).trans e_123) (by omega) rfl rfl (Nat.le_of_ble_eq_true rfl) rfl ?_
          refine aw_upR j_124 cm_100 ⟨_, _, _, _, _, _, _, _, _, _, _, _, tad_2, (pl0_2 + 1), le0_2, nu0_2, coy_2, wag_2, say_2, rfl, by omega, by omega, by omega, by omega, by omega, by omega, by omega⟩ (by decide) (WO (s := 18) (x := .int 0) ((k_124 _ (by decide)).trans e_123) rfl (LMs (LMs LM0)) (by decide) (by decide) (by decide) (Or.inl (by decide))) (fun V_126 j_126 k_126 e_126 => ?_)
          refine aw_aload_n dX12_readsRule_96 rfl ?_
          refine aw_iconst (v := 0) dX12_readsRule_97 (by decide) ?_
          refine aw_put dX12_readsRule_98 fp_X12_189 e_126 (by omega) rfl rfl (Nat.le_of_ble_eq_true rfl) rfl ?_
          refine aw_upR j_126 cm_100 ⟨_, _, _, _, _, _, _, _, _, _, _, _, tad_2, (pl0_2 + 1), le0_2, nu0_2, coy_2, 0, say_2, rfl, by omega, by omega, by omega, by omega, by omega, by omega, by omega⟩ (by decide) (WO (s := 20) (x := .int 0) e_126 rfl (LMs (LMs (LMs LM0))) (by decide) (by decide) (by decide) (Or.inl (by decide))) (fun V_127 j_127 k_127 e_127 => ?_)
          refine aw_iload_n dX12_readsRule_101 rfl ?_
          refine aw_bipush (v := 120) dX12_readsRule_102 (by decide) ?_
          refine aw_icmp_eq (tgt := 116) dX12_readsRule_104 (by decide) (fun c_128 => ?_) (fun c_128 => ?_)
          · exact absurd c_128 (by decide)
          have hP1 := PS.start sd wa (cm := coy_2) (by omega)
          have hz1 := hz0 wa
          refine aw_aload_n dX12_readsRule_107 rfl ?_
          refine aw_callVi (J' := jX12_readsSum) (As := []) (st := []) dX12_readsRule_108 tb_1228 ok_X12_readsSum ⟨_, e_127⟩ (by omega) rfl rfl (r_readsSum l D b N V_127 hN cl j_127.1 g sd wa (pl0_2 + 1) ln coy_2 0 coy_2 (fun _ => 0) (upd sl say_2 115) (upd sf say_2 (nI coy_2)) sh st say_2 0 ⟨((k_127 _ (by decide)).trans ((k_126 _ (by decide)).trans ((k_124 _ (by decide)).trans ((k_123 _ (by decide)).trans ((k_121 _ (by decide)).trans xg_r1))))), ((k_127 _ (by decide)).trans ((k_126 _ (by decide)).trans ((k_124 _ (by decide)).trans ((k_123 _ (by decide)).trans ((k_121 _ (by decide)).trans xs_r1))))), ((k_127 _ (by decide)).trans ((k_126 _ (by decide)).trans ((k_124 _ (by decide)).trans ((k_123 _ (by decide)).trans ((k_121 _ (by decide)).trans xw_r1))))), (FG.of e_127 rfl rfl), (FG.of e_127 rfl (by omega : le0_2 = ln)), (FG.of e_127 rfl rfl), (FG.of e_127 rfl rfl), hP1, ⟨by omega, by omega, by omega, by omega⟩, ((k_127 _ (by decide)).trans ((k_126 _ (by decide)).trans ((k_124 _ (by decide)).trans ((k_123 _ (by decide)).trans e_122)))), ((k_127 _ (by decide)).trans ((k_126 _ (by decide)).trans e_125)), ((k_127 _ (by decide)).trans ((k_126 _ (by decide)).trans ((k_124 _ (by decide)).trans ((k_123 _ (by decide)).trans ((k_121 _ (by decide)).trans xd_r1))))), ((k_127 _ (by decide)).trans ((k_126 _ (by decide)).trans ((k_124 _ (by decide)).trans ((k_123 _ (by decide)).trans ((k_121 _ (by decide)).trans xe_r1))))), (FG.of e_127 rfl (by omega : say_2 = say_2)), by omega⟩ (Or.inl rfl)) rfl (Nat.le_of_ble_eq_true rfl) ⟨Nat.le_of_ble_eq_true rfl, Nat.le_of_ble_eq_true rfl, Nat.le_of_ble_eq_true rfl, Nat.le_of_ble_eq_true rfl⟩ (fun r_134 N_135 V_133 q_136 => ?_)
          obtain ⟨⟨z_131, h_130⟩, rfl, q_129⟩ := q_136
          have j_132 := JR.trans j_127 (JR.weak q_129 (Sub.cons LM0 (by decide) (by decide) (by decide) (Or.inl rfl) (Sub.cons (LMs (LMs (LMs (LMs LM0)))) (by decide) (by decide) (by decide) (Or.inr ⟨by decide, by decide⟩) (Sub.cons (LMs LM0) (by decide) (by decide) (by decide) (Or.inr ⟨by decide, by decide⟩) (Sub.cons (LMs (LMs (LMs (LMs (LMs LM0))))) (by decide) (by decide) (by decide) (Or.inr ⟨by decide, by decide⟩) (Sub.cons (LMs (LMs (LMs (LMs (LMs (LMs LM0)))))) (by decide) (by decide) (by decide) (Or.inr ⟨by decide, by decide⟩) (Sub.cons (LMs (LMs LM0)) (by decide) (by decide) (by decide) (Or.inr ⟨by decide, by decide⟩) (Sub.cons (LMs (LMs (LMs LM0))) (by decide) (by decide) (by decide) (Or.inr ⟨by decide, by decide⟩) Sub.nil))))))))
          refine aw_if_ne (tgt := 116) dX12_readsRule_111 (by decide) (fun c_137 => ?_) (fun c_137 => ?_)
          · skip
            obtain ⟨sd_y138, wa_y138, pl_y138, cm_y138, wt_y138, dp_y138, hX_y138, sw_y138, sa_y138, ss_y138, sd9_y138, sp_y138⟩ := (h_130.resolve_left c_137)
            obtain ⟨xg_x139, xs_x139, xw_x139, xp_x139, xl_x139, xc_x139, xt_x139, hP_x139, ⟨hB1_x139, hB2_x139, hB3_x139, hB4_x139⟩, xa_x139, xb_x139, xd_x139, xe_x139, xm_x139, hB5_x139⟩ := hX_y138
            obtain ⟨ftoldPeople_140, ftoldDoors_140, fwasDoors_140, ffault_140, fopen_140, flines_140, fmeantSet_140, fopenedNow_140, fvainNow_140, flowNow_140, fhighNow_140, fisKept_140, tad_140, pl0_140, le0_140, nu0_140, coy_140, wag_140, say_140, e_140, hntad_140, hnpl0_140, hnle0_140, hnnu0_140, hncoy_140, hnwag_140, hnsay_140⟩ := JR.get j_132 cm_100
            have sb_x139pl := FG.eq xp_x139 e_140 rfl (by omega) (by omega)
            subst sb_x139pl
            have sb_x139cm := FG.eq xc_x139 e_140 rfl (by omega) (by omega)
            subst sb_x139cm
            have sb_x139wt := FG.eq xt_x139 e_140 rfl (by omega) (by omega)
            subst sb_x139wt
            have sb_x139ln := FG.eq xl_x139 e_140 rfl (by omega) (by omega)
            have hsg_x139 := hP_x139.2.1
            have sb_x139sm := FG.eq xm_x139 e_140 rfl (by omega) (by omega)
            have hSeg1 : SegOK sd_y138 coy_2 coy_140 := PS.done (wa := wa_y138) (dep := dp_y138) (sw_y138 ▸ hP_x139)
            refine aw_aload_n dX12_readsRule_116 rfl ?_
            refine aw_get dX12_readsRule_117 fl_X12_53 e_140 (by omega) rfl ?_
            refine aw_aload_n dX12_readsRule_120 rfl ?_
            refine aw_get dX12_readsRule_121 fl_X12_236 e_140 (by omega) rfl ?_
            refine aw_aload_n dX12_readsRule_124 rfl ?_
            refine aw_get dX12_readsRule_125 fl_X12_182 e_140 (by omega) rfl ?_
            refine aw_iast dX12_readsRule_128 xd_x139 (by omega) (vp_in_nI (n := say_140) (by omega) (by omega)) ?_
            refine aw_upR j_132 cm_115 ⟨_, rfl⟩ (by decide) (WA LM0 (by decide) (by decide)) (fun V_141 j_141 k_141 e_141 => ?_)
            have e_142 : V_141 115 = cI D 16 (upd sh say_140 (nI coy_140)) := by rw [e_141, nI_clamp (n := say_140) (by omega)]
            have hP3 := PS.start sd_y138 wa_y138 (cm := coy_140) (by omega)
            have hP2 : PS sd_y138 wa_y138 coy_140 coy_140 wag_140 (fun _ => 0) := by rw [sw_y138]; exact hP3
            refine aw_aload_n dX12_readsRule_129 rfl ?_
            refine aw_callVi (J' := jX12_readsCondition) (As := []) (st := []) dX12_readsRule_130 tb_1271 ok_X12_readsCondition ⟨_, ((k_141 _ (by decide)).trans e_140)⟩ (by omega) rfl rfl (r_readsCondition l D b N V_141 hN cl j_141.1 g sd_y138 wa_y138 pl0_140 ln coy_140 wag_140 coy_140 (fun _ => 0) (upd sl say_2 115) (upd sf say_2 (nI coy_2)) (upd sh say_140 (nI coy_140)) st say_2 0 ⟨((k_141 _ (by decide)).trans xg_x139), ((k_141 _ (by decide)).trans xs_x139), ((k_141 _ (by decide)).trans xw_x139), (FG.of ((k_141 _ (by decide)).trans e_140) rfl rfl), (FG.of ((k_141 _ (by decide)).trans e_140) rfl (by omega : le0_140 = ln)), (FG.of ((k_141 _ (by decide)).trans e_140) rfl rfl), (FG.of ((k_141 _ (by decide)).trans e_140) rfl rfl), hP2, ⟨by omega, by omega, by omega, by omega⟩, ((k_141 _ (by decide)).trans xa_x139), ((k_141 _ (by decide)).trans xb_x139), e_142, ((k_141 _ (by decide)).trans xe_x139), (FG.of ((k_141 _ (by decide)).trans e_140) rfl (by omega : say_140 = say_2)), by omega⟩ (by omega) (by omega)) rfl (Nat.le_of_ble_eq_true rfl) ⟨Nat.le_of_ble_eq_true rfl, Nat.le_of_ble_eq_true rfl, Nat.le_of_ble_eq_true rfl, Nat.le_of_ble_eq_true rfl⟩ (fun r_148 N_149 V_147 q_150 => ?_)
            obtain ⟨⟨z_145, h_144⟩, rfl, q_143⟩ := q_150
            have j_146 := JR.trans j_141 (JR.weak q_143 (Sub.cons LM0 (by decide) (by decide) (by decide) (Or.inl rfl) (Sub.cons (LMs (LMs LM0)) (by decide) (by decide) (by decide) (Or.inr ⟨by decide, by decide⟩) (Sub.cons (LMs (LMs (LMs LM0))) (by decide) (by decide) (by decide) (Or.inr ⟨by decide, by decide⟩) (Sub.cons (LMs LM0) (by decide) (by decide) (by decide) (Or.inr ⟨by decide, by decide⟩) (Sub.cons (LMs (LMs (LMs (LMs (LMs LM0))))) (by decide) (by decide) (by decide) (Or.inr ⟨by decide, by decide⟩) (Sub.cons (LMs (LMs (LMs (LMs LM0)))) (by decide) (by decide) (by decide) (Or.inr ⟨by decide, by decide⟩) (Sub.cons (LMs (LMs (LMs (LMs (LMs (LMs LM0)))))) (by decide) (by decide) (by decide) (Or.inr ⟨by decide, by decide⟩) Sub.nil))))))))
            refine aw_if_ne (tgt := 138) dX12_readsRule_133 (by decide) (fun c_151 => ?_) (fun c_151 => ?_)
            · skip
              obtain ⟨sd_y152, wa_y152, pl_y152, cm_y152, wt_y152, dp_y152, hX_y152, nw_y152, ns_y152, nd_y152, np_y152⟩ := (h_144.resolve_left c_151)
              obtain ⟨xg_x153, xs_x153, xw_x153, xp_x153, xl_x153, xc_x153, xt_x153, hP_x153, ⟨hB1_x153, hB2_x153, hB3_x153, hB4_x153⟩, xa_x153, xb_x153, xd_x153, xe_x153, xm_x153, hB5_x153⟩ := hX_y152
              obtain ⟨ftoldPeople_154, ftoldDoors_154, fwasDoors_154, ffault_154, fopen_154, flines_154, fmeantSet_154, fopenedNow_154, fvainNow_154, flowNow_154, fhighNow_154, fisKept_154, tad_154, pl0_154, le0_154, nu0_154, coy_154, wag_154, say_154, e_154, hntad_154, hnpl0_154, hnle0_154, hnnu0_154, hncoy_154, hnwag_154, hnsay_154⟩ := JR.get j_146 cm_100
              clear hntad_140 hnpl0_140 hnle0_140 hnnu0_140 hncoy_140 hnwag_140 hnsay_140
              have sb_x153pl := FG.eq xp_x153 e_154 rfl (by omega) (by omega)
              subst sb_x153pl
              have sb_x153cm := FG.eq xc_x153 e_154 rfl (by omega) (by omega)
              subst sb_x153cm
              have sb_x153wt := FG.eq xt_x153 e_154 rfl (by omega) (by omega)
              subst sb_x153wt
              have sb_x153ln := FG.eq xl_x153 e_154 rfl (by omega) (by omega)
              have hsg_x153 := hP_x153.2.1
              have sb_x153sm := FG.eq xm_x153 e_154 rfl (by omega) (by omega)
              refine aw_aload_n dX12_readsRule_138 rfl ?_
              refine aw_get dX12_readsRule_139 fl_X12_56 e_154 (by omega) rfl ?_
              refine aw_aload_n dX12_readsRule_142 rfl ?_
              refine aw_get dX12_readsRule_143 fl_X12_236 e_154 (by omega) rfl ?_
              refine aw_aload_n dX12_readsRule_146 rfl ?_
              refine aw_get dX12_readsRule_147 fl_X12_182 e_154 (by omega) rfl ?_
              refine aw_iast dX12_readsRule_150 xe_x153 (by omega) (vp_in_nI (n := say_154) (by omega) (by omega)) ?_
              refine aw_upR j_146 cm_116 ⟨_, rfl⟩ (by decide) (WA LM0 (by decide) (by decide)) (fun V_155 j_155 k_155 e_155 => ?_)
              have e_156 : V_155 116 = cI D 16 (upd st say_154 (nI coy_154)) := by rw [e_155, nI_clamp (n := say_154) (by omega)]
              refine aw_aload_n dX12_readsRule_151 rfl ?_
              refine aw_aload_n dX12_readsRule_152 rfl ?_
              refine aw_get dX12_readsRule_153 fl_X12_236 ((k_155 _ (by decide)).trans e_154) (by omega) rfl ?_
              refine aw_iconst (v := 1) dX12_readsRule_156 (by decide) ?_
              refine aw_iadd dX12_readsRule_157 ?_
              refine aw_eqi (y := nI (say_154 + 1)) (nI_add _ _) ?_
              refine aw_put dX12_readsRule_158 fp_X12_236 ((k_155 _ (by decide)).trans e_154) (by omega) rfl rfl (Nat.le_of_ble_eq_true rfl) rfl ?_
              refine aw_upR j_155 cm_100 ⟨_, _, _, _, _, _, _, _, _, _, _, _, tad_154, pl0_154, le0_154, nu0_154, coy_154, wag_154, (say_154 + 1), rfl, by omega, by omega, by omega, by omega, by omega, by omega, by omega⟩ (by decide) (WO (s := 21) (x := .int (nI (say_154 + 1))) ((k_155 _ (by decide)).trans e_154) rfl (LMs (LMs (LMs (LMs (LMs (LMs (LMs LM0))))))) (by decide) (by decide) (by decide) (Or.inl (by decide))) (fun V_157 j_157 k_157 e_157 => ?_)
              refine aw_iconst (v := 1) dX12_readsRule_161 (by decide) ?_
              have hSeg2 : SegOK sd_y152 coy_140 coy_154 := PS.done (wa := wa_y152) (dep := dp_y152) (nw_y152 ▸ hP_x153)
              refine aw_zreti dX12_readsRule_162 rfl (by first | exact Or.inl rfl | exact Or.inr rfl | assumption) (Nat.le_of_ble_eq_true rfl) (Nat.le_of_ble_eq_true rfl) ?_
              exact ⟨⟨(by first | exact Or.inl rfl | exact Or.inr rfl | assumption), Or.inr ⟨sd_y152, wa_y152, pl0_154, coy_154, (upd sl say_2 115), (upd sf say_2 (nI coy_2)), (upd sh say_140 (nI coy_140)), (upd st say_154 (nI coy_154)), ⟨((k_157 _ (by decide)).trans ((k_155 _ (by decide)).trans xg_x153)), ((k_157 _ (by decide)).trans ((k_155 _ (by decide)).trans xs_x153)), ((k_157 _ (by decide)).trans ((k_155 _ (by decide)).trans xw_x153)), ((k_157 _ (by decide)).trans ((k_155 _ (by decide)).trans xa_x153)), ((k_157 _ (by decide)).trans ((k_155 _ (by decide)).trans xb_x153)), ((k_157 _ (by decide)).trans ((k_155 _ (by decide)).trans xd_x153)), ((k_157 _ (by decide)).trans e_156), (FG.of e_157 rfl rfl), (FG.of e_157 rfl (by omega : le0_154 = ln)), (FG.of e_157 rfl rfl), (FG.of e_157 rfl (by omega : (say_154 + 1) = say_2 + 1)), ⟨by omega, by omega, by omega, by omega⟩, (RI.step hR_r1 (fun k hk => (ns_y152 k (by omega)).trans (ss_y138 k hk)) (by omega) (by omega) (hSeg1.congr ns_y152) hSeg2 (by omega) (by omega) (by omega))⟩, by omega⟩⟩, rfl, j_157⟩
            · skip
              refine aw_iconst (v := 0) dX12_readsRule_136 (by decide) ?_
              refine aw_zreti dX12_readsRule_137 rfl (by first | exact Or.inl rfl | exact Or.inr rfl | assumption) (Nat.le_of_ble_eq_true rfl) (Nat.le_of_ble_eq_true rfl) ?_
              exact ⟨⟨(by first | exact Or.inl rfl | exact Or.inr rfl | assumption), Or.inl rfl⟩, rfl, j_146⟩
          · skip
            refine aw_iconst (v := 0) dX12_readsRule_114 (by decide) ?_
            refine aw_zreti dX12_readsRule_115 rfl (by first | exact Or.inl rfl | exact Or.inr rfl | assumption) (Nat.le_of_ble_eq_true rfl) (Nat.le_of_ble_eq_true rfl) ?_
            exact ⟨⟨(by first | exact Or.inl rfl | exact Or.inr rfl | assumption), Or.inl rfl⟩, rfl, j_132⟩
        · skip
          have nc_120 : say_2 = 16 := (nI_eq (a := say_2) (b := 16) (by omega) (by omega)).mp c_120
          refine aw_aload_n dX12_readsRule_48 rfl ?_
          refine aw_iconst (v := 4) dX12_readsRule_49 (by decide) ?_
          refine aw_aload_n dX12_readsRule_50 rfl ?_
          refine aw_get dX12_readsRule_51 fl_X12_159 e_2 (by omega) rfl ?_
          refine aw_callVi (J' := jX12_wrongAt) (As := [.int 4, .int (nI pl0_2)]) (st := []) dX12_readsRule_54 tb_1224 ok_X12_wrongAt ⟨_, e_2⟩ (by omega) rfl rfl (r_wrongAt l D b N V hN cl hJ0.1 4 (nI pl0_2) pl0_2 le0_2 (FG.of e_2 rfl rfl) (FG.of e_2 rfl rfl) ⟨by omega, by omega⟩) rfl (Nat.le_of_ble_eq_true rfl) ⟨Nat.le_of_ble_eq_true rfl, Nat.le_of_ble_eq_true rfl, Nat.le_of_ble_eq_true rfl, Nat.le_of_ble_eq_true rfl⟩ (fun r_171 N_172 V_162 q_173 => ?_)
          obtain ⟨⟨z_160, h_159⟩, rfl, q_158⟩ := q_173
          have j_161 := JR.trans hJ0 (JR.weak q_158 (Sub.cons (LMs (LMs (LMs (LMs (LMs LM0))))) (by decide) (by decide) (by decide) (Or.inr ⟨by decide, by decide⟩) Sub.nil))
          obtain ⟨a_163, ha_164, hA_165, hF_166, hL_167, hz_168, hX_169⟩ := h_159
          obtain ⟨ftoldPeople_k170, ftoldDoors_k170, fwasDoors_k170, ffault_k170, fopen_k170, flines_k170, fmeantSet_k170, fopenedNow_k170, fvainNow_k170, flowNow_k170, fhighNow_k170, fisKept_k170, tad_k170, pl0_k170, le0_k170, nu0_k170, coy_k170, wag_k170, say_k170, e_k170, hntad_k170, hnpl0_k170, hnle0_k170, hnnu0_k170, hncoy_k170, hnwag_k170, hnsay_k170⟩ := JR.get j_161 cm_100
          have hqp_k170 := FG.eq hF_166 e_k170 rfl (by omega) (by omega)
          have hql_k170 := FG.eq hL_167 e_k170 rfl (by omega) (by omega)
          obtain rfl := hX_169
          refine aw_zreti dX12_readsRule_57 rfl (by first | exact Or.inl rfl | exact Or.inr rfl | assumption) (Nat.le_of_ble_eq_true rfl) (Nat.le_of_ble_eq_true rfl) ?_
          exact ⟨⟨(by first | exact Or.inl rfl | exact Or.inr rfl | assumption), Or.inl rfl⟩, rfl, j_161⟩
      · skip
        refine aw_iload_n dX12_readsRule_23 rfl ?_
        refine aw_bipush (v := 120) dX12_readsRule_24 (by decide) ?_
        refine aw_icmp_eq (tgt := 39) dX12_readsRule_26 (by decide) (fun c_174 => ?_) (fun c_174 => ?_)
        · skip
          have hlc_174 := here_lt h_4 c_174 (by decide)
          subst c_174
          refine aw_aload_n dX12_readsRule_39 rfl ?_
          refine aw_get dX12_readsRule_40 fl_X12_236 e_2 (by omega) rfl ?_
          refine aw_bipush (v := 16) dX12_readsRule_43 (by decide) ?_
          refine aw_icmp_ne (tgt := 58) dX12_readsRule_45 (by decide) (fun c_175 => ?_) (fun c_175 => ?_)
          · skip
            have nc_175 : ¬ (say_2 = 16) := fun z => c_175 ((nI_eq (a := say_2) (b := 16) (by omega) (by omega)).mpr z)
            refine aw_aload_n dX12_readsRule_58 rfl ?_
            refine aw_get dX12_readsRule_59 fl_X12_47 e_2 (by omega) rfl ?_
            refine aw_aload_n dX12_readsRule_62 rfl ?_
            refine aw_get dX12_readsRule_63 fl_X12_236 e_2 (by omega) rfl ?_
            refine aw_iload_n dX12_readsRule_66 rfl ?_
            refine aw_iast dX12_readsRule_67 xa_r1 (by omega) (vp_in_nI (n := say_2) (by omega) (by omega)) ?_
            refine aw_upR hJ0 cm_113 ⟨_, rfl⟩ (by decide) (WA LM0 (by decide) (by decide)) (fun V_176 j_176 k_176 e_176 => ?_)
            have e_177 : V_176 113 = cI D 16 (upd sl say_2 120) := by rw [e_176, nI_clamp (n := say_2) (by omega)]
            refine aw_aload_n dX12_readsRule_68 rfl ?_
            refine aw_aload_n dX12_readsRule_69 rfl ?_
            refine aw_get dX12_readsRule_70 fl_X12_159 ((k_176 _ (by decide)).trans e_2) (by omega) rfl ?_
            refine aw_iconst (v := 1) dX12_readsRule_73 (by decide) ?_
            refine aw_iadd dX12_readsRule_74 ?_
            refine aw_eqi (y := nI (pl0_2 + 1)) (nI_add _ _) ?_
            refine aw_put dX12_readsRule_75 fp_X12_159 ((k_176 _ (by decide)).trans e_2) (by omega) rfl rfl (Nat.le_of_ble_eq_true rfl) rfl ?_
            refine aw_upR j_176 cm_100 ⟨_, _, _, _, _, _, _, _, _, _, _, _, tad_2, (pl0_2 + 1), le0_2, nu0_2, coy_2, wag_2, say_2, rfl, by omega, by omega, by omega, by omega, by omega, by omega, by omega⟩ (by decide) (WO (s := 14) (x := .int (nI (pl0_2 + 1))) ((k_176 _ (by decide)).trans e_2) rfl (LMs LM0) (by decide) (by decide) (by decide) (Or.inl (by decide))) (fun V_178 j_178 k_178 e_178 => ?_)
            refine aw_aload_n dX12_readsRule_78 rfl ?_
            refine aw_get dX12_readsRule_79 fl_X12_50 e_178 (by omega) rfl ?_
            refine aw_aload_n dX12_readsRule_82 rfl ?_
            refine aw_get dX12_readsRule_83 fl_X12_236 e_178 (by omega) rfl ?_
            refine aw_aload_n dX12_readsRule_86 rfl ?_
            refine aw_get dX12_readsRule_87 fl_X12_182 e_178 (by omega) rfl ?_
            refine aw_iast dX12_readsRule_90 ((k_178 _ (by decide)).trans ((k_176 _ (by decide)).trans xb_r1)) (by omega) (vp_in_nI (n := say_2) (by omega) (by omega)) ?_
            refine aw_upR j_178 cm_114 ⟨_, rfl⟩ (by decide) (WA LM0 (by decide) (by decide)) (fun V_179 j_179 k_179 e_179 => ?_)
            have e_180 : V_179 114 = cI D 16 (upd sf say_2 (nI coy_2)) := by rw [e_179, nI_clamp (n := say_2) (by omega)]
            refine aw_aload_n dX12_readsRule_91 rfl ?_
            refine aw_iconst (v := 0) dX12_readsRule_92 (by decide) ?_
            refine aw_put dX12_readsRule_93 fp_X12_186 ((k_179 _ (by decide)).trans e_178) (by omega) rfl rfl (Nat.le_of_ble_eq_true rfl) rfl ?_
            refine aw_upR j_179 cm_100 ⟨_, _, _, _, _, _, _, _, _, _, _, _, tad_2, (pl0_2 + 1), le0_2, nu0_2, coy_2, wag_2, say_2, rfl, by omega, by omega, by omega, by omega, by omega, by omega, by omega⟩ (by decide) (WO (s := 18) (x := .int 0) ((k_179 _ (by decide)).trans e_178) rfl (LMs (LMs LM0)) (by decide) (by decide) (by decide) (Or.inl (by decide))) (fun V_181 j_181 k_181 e_181 => ?_)
            refine aw_aload_n dX12_readsRule_96 rfl ?_
            refine aw_iconst (v := 0) dX12_readsRule_97 (by decide) ?_
            refine aw_put dX12_readsRule_98 fp_X12_189 e_181 (by omega) rfl rfl (Nat.le_of_ble_eq_true rfl) rfl ?_
            refine aw_upR j_181 cm_100 ⟨_, _, _, _, _, _, _, _, _, _, _, _, tad_2, (pl0_2 + 1), le0_2, nu0_2, coy_2, 0, say_2, rfl, by omega, by omega, by omega, by omega, by omega, by omega, by omega⟩ (by decide) (WO (s := 20) (x := .int 0) e_181 rfl (LMs (LMs (LMs LM0))) (by decide) (by decide) (by decide) (Or.inl (by decide))) (fun V_182 j_182 k_182 e_182 => ?_)
            refine aw_iload_n dX12_readsRule_101 rfl ?_
            refine aw_bipush (v := 120) dX12_readsRule_102 (by decide) ?_
            refine aw_icmp_eq (tgt := 116) dX12_readsRule_104 (by decide) (fun c_183 => ?_) (fun c_183 => ?_)
            rotate_left
            · exact absurd (by decide) c_183
            refine aw_aload_n dX12_readsRule_116 rfl ?_
            refine aw_get dX12_readsRule_117 fl_X12_53 e_182 (by omega) rfl ?_
            refine aw_aload_n dX12_readsRule_120 rfl ?_
            refine aw_get dX12_readsRule_121 fl_X12_236 e_182 (by omega) rfl ?_
            refine aw_aload_n dX12_readsRule_124 rfl ?_
            refine aw_get dX12_readsRule_125 fl_X12_182 e_182 (by omega) rfl ?_
            refine aw_iast dX12_readsRule_128 ((k_182 _ (by decide)).trans ((k_181 _ (by decide)).trans ((k_179 _ (by decide)).trans ((k_178 _ (by decide)).trans ((k_176 _ (by decide)).trans xd_r1))))) (by omega) (vp_in_nI (n := say_2) (by omega) (by omega)) ?_
            refine aw_upR j_182 cm_115 ⟨_, rfl⟩ (by decide) (WA LM0 (by decide) (by decide)) (fun V_184 j_184 k_184 e_184 => ?_)
            have e_185 : V_184 115 = cI D 16 (upd sh say_2 (nI coy_2)) := by rw [e_184, nI_clamp (n := say_2) (by omega)]
            have hP3 := PS.start sd wa (cm := coy_2) (by omega)
            have hz1 := hz0 wa
            refine aw_aload_n dX12_readsRule_129 rfl ?_
            refine aw_callVi (J' := jX12_readsCondition) (As := []) (st := []) dX12_readsRule_130 tb_1271 ok_X12_readsCondition ⟨_, ((k_184 _ (by decide)).trans e_182)⟩ (by omega) rfl rfl (r_readsCondition l D b N V_184 hN cl j_184.1 g sd wa (pl0_2 + 1) ln coy_2 0 coy_2 (fun _ => 0) (upd sl say_2 120) (upd sf say_2 (nI coy_2)) (upd sh say_2 (nI coy_2)) st say_2 0 ⟨((k_184 _ (by decide)).trans ((k_182 _ (by decide)).trans ((k_181 _ (by decide)).trans ((k_179 _ (by decide)).trans ((k_178 _ (by decide)).trans ((k_176 _ (by decide)).trans xg_r1)))))), ((k_184 _ (by decide)).trans ((k_182 _ (by decide)).trans ((k_181 _ (by decide)).trans ((k_179 _ (by decide)).trans ((k_178 _ (by decide)).trans ((k_176 _ (by decide)).trans xs_r1)))))), ((k_184 _ (by decide)).trans ((k_182 _ (by decide)).trans ((k_181 _ (by decide)).trans ((k_179 _ (by decide)).trans ((k_178 _ (by decide)).trans ((k_176 _ (by decide)).trans xw_r1)))))), (FG.of ((k_184 _ (by decide)).trans e_182) rfl rfl), (FG.of ((k_184 _ (by decide)).trans e_182) rfl (by omega : le0_2 = ln)), (FG.of ((k_184 _ (by decide)).trans e_182) rfl rfl), (FG.of ((k_184 _ (by decide)).trans e_182) rfl rfl), hP3, ⟨by omega, by omega, by omega, by omega⟩, ((k_184 _ (by decide)).trans ((k_182 _ (by decide)).trans ((k_181 _ (by decide)).trans ((k_179 _ (by decide)).trans ((k_178 _ (by decide)).trans e_177))))), ((k_184 _ (by decide)).trans ((k_182 _ (by decide)).trans ((k_181 _ (by decide)).trans e_180))), e_185, ((k_184 _ (by decide)).trans ((k_182 _ (by decide)).trans ((k_181 _ (by decide)).trans ((k_179 _ (by decide)).trans ((k_178 _ (by decide)).trans ((k_176 _ (by decide)).trans xe_r1)))))), (FG.of ((k_184 _ (by decide)).trans e_182) rfl (by omega : say_2 = say_2)), by omega⟩ (by omega) (by omega)) rfl (Nat.le_of_ble_eq_true rfl) ⟨Nat.le_of_ble_eq_true rfl, Nat.le_of_ble_eq_true rfl, Nat.le_of_ble_eq_true rfl, Nat.le_of_ble_eq_true rfl⟩ (fun r_191 N_192 V_190 q_193 => ?_)
            obtain ⟨⟨z_188, h_187⟩, rfl, q_186⟩ := q_193
            have j_189 := JR.trans j_184 (JR.weak q_186 (Sub.cons LM0 (by decide) (by decide) (by decide) (Or.inl rfl) (Sub.cons (LMs (LMs LM0)) (by decide) (by decide) (by decide) (Or.inr ⟨by decide, by decide⟩) (Sub.cons (LMs (LMs (LMs LM0))) (by decide) (by decide) (by decide) (Or.inr ⟨by decide, by decide⟩) (Sub.cons (LMs LM0) (by decide) (by decide) (by decide) (Or.inr ⟨by decide, by decide⟩) (Sub.cons (LMs (LMs (LMs (LMs (LMs LM0))))) (by decide) (by decide) (by decide) (Or.inr ⟨by decide, by decide⟩) (Sub.cons (LMs (LMs (LMs (LMs LM0)))) (by decide) (by decide) (by decide) (Or.inr ⟨by decide, by decide⟩) (Sub.cons (LMs (LMs (LMs (LMs (LMs (LMs LM0)))))) (by decide) (by decide) (by decide) (Or.inr ⟨by decide, by decide⟩) Sub.nil))))))))
            refine aw_if_ne (tgt := 138) dX12_readsRule_133 (by decide) (fun c_194 => ?_) (fun c_194 => ?_)
            · skip
              obtain ⟨sd_y195, wa_y195, pl_y195, cm_y195, wt_y195, dp_y195, hX_y195, nw_y195, ns_y195, nd_y195, np_y195⟩ := (h_187.resolve_left c_194)
              obtain ⟨xg_x196, xs_x196, xw_x196, xp_x196, xl_x196, xc_x196, xt_x196, hP_x196, ⟨hB1_x196, hB2_x196, hB3_x196, hB4_x196⟩, xa_x196, xb_x196, xd_x196, xe_x196, xm_x196, hB5_x196⟩ := hX_y195
              obtain ⟨ftoldPeople_197, ftoldDoors_197, fwasDoors_197, ffault_197, fopen_197, flines_197, fmeantSet_197, fopenedNow_197, fvainNow_197, flowNow_197, fhighNow_197, fisKept_197, tad_197, pl0_197, le0_197, nu0_197, coy_197, wag_197, say_197, e_197, hntad_197, hnpl0_197, hnle0_197, hnnu0_197, hncoy_197, hnwag_197, hnsay_197⟩ := JR.get j_189 cm_100
              have sb_x196pl := FG.eq xp_x196 e_197 rfl (by omega) (by omega)
              subst sb_x196pl
              have sb_x196cm := FG.eq xc_x196 e_197 rfl (by omega) (by omega)
              subst sb_x196cm
              have sb_x196wt := FG.eq xt_x196 e_197 rfl (by omega) (by omega)
              subst sb_x196wt
              have sb_x196ln := FG.eq xl_x196 e_197 rfl (by omega) (by omega)
              have hsg_x196 := hP_x196.2.1
              have sb_x196sm := FG.eq xm_x196 e_197 rfl (by omega) (by omega)
              refine aw_aload_n dX12_readsRule_138 rfl ?_
              refine aw_get dX12_readsRule_139 fl_X12_56 e_197 (by omega) rfl ?_
              refine aw_aload_n dX12_readsRule_142 rfl ?_
              refine aw_get dX12_readsRule_143 fl_X12_236 e_197 (by omega) rfl ?_
              refine aw_aload_n dX12_readsRule_146 rfl ?_
              refine aw_get dX12_readsRule_147 fl_X12_182 e_197 (by omega) rfl ?_
              refine aw_iast dX12_readsRule_150 xe_x196 (by omega) (vp_in_nI (n := say_197) (by omega) (by omega)) ?_
              refine aw_upR j_189 cm_116 ⟨_, rfl⟩ (by decide) (WA LM0 (by decide) (by decide)) (fun V_198 j_198 k_198 e_198 => ?_)
              have e_199 : V_198 116 = cI D 16 (upd st say_197 (nI coy_197)) := by rw [e_198, nI_clamp (n := say_197) (by omega)]
              refine aw_aload_n dX12_readsRule_151 rfl ?_
              refine aw_aload_n dX12_readsRule_152 rfl ?_
              refine aw_get dX12_readsRule_153 fl_X12_236 ((k_198 _ (by decide)).trans e_197) (by omega) rfl ?_
              refine aw_iconst (v := 1) dX12_readsRule_156 (by decide) ?_
              refine aw_iadd dX12_readsRule_157 ?_
              refine aw_eqi (y := nI (say_197 + 1)) (nI_add _ _) ?_
              refine aw_put dX12_readsRule_158 fp_X12_236 ((k_198 _ (by decide)).trans e_197) (by omega) rfl rfl (Nat.le_of_ble_eq_true rfl) rfl ?_
              refine aw_upR j_198 cm_100 ⟨_, _, _, _, _, _, _, _, _, _, _, _, tad_197, pl0_197, le0_197, nu0_197, coy_197, wag_197, (say_197 + 1), rfl, by omega, by omega, by omega, by omega, by omega, by omega, by omega⟩ (by decide) (WO (s := 21) (x := .int (nI (say_197 + 1))) ((k_198 _ (by decide)).trans e_197) rfl (LMs (LMs (LMs (LMs (LMs (LMs (LMs LM0))))))) (by decide) (by decide) (by decide) (Or.inl (by decide))) (fun V_200 j_200 k_200 e_200 => ?_)
              refine aw_iconst (v := 1) dX12_readsRule_161 (by decide) ?_
              have hSeg2 : SegOK sd_y195 coy_2 coy_197 := PS.done (wa := wa_y195) (dep := dp_y195) (nw_y195 ▸ hP_x196)
              refine aw_zreti dX12_readsRule_162 rfl (by first | exact Or.inl rfl | exact Or.inr rfl | assumption) (Nat.le_of_ble_eq_true rfl) (Nat.le_of_ble_eq_true rfl) ?_
              exact ⟨⟨(by first | exact Or.inl rfl | exact Or.inr rfl | assumption), Or.inr ⟨sd_y195, wa_y195, pl0_197, coy_197, (upd sl say_2 120), (upd sf say_2 (nI coy_2)), (upd sh say_2 (nI coy_2)), (upd st say_197 (nI coy_197)), ⟨((k_200 _ (by decide)).trans ((k_198 _ (by decide)).trans xg_x196)), ((k_200 _ (by decide)).trans ((k_198 _ (by decide)).trans xs_x196)), ((k_200 _ (by decide)).trans ((k_198 _ (by decide)).trans xw_x196)), ((k_200 _ (by decide)).trans ((k_198 _ (by decide)).trans xa_x196)), ((k_200 _ (by decide)).trans ((k_198 _ (by decide)).trans xb_x196)), ((k_200 _ (by decide)).trans ((k_198 _ (by decide)).trans xd_x196)), ((k_200 _ (by decide)).trans e_199), (FG.of e_200 rfl rfl), (FG.of e_200 rfl (by omega : le0_197 = ln)), (FG.of e_200 rfl rfl), (FG.of e_200 rfl (by omega : (say_197 + 1) = say_2 + 1)), ⟨by omega, by omega, by omega, by omega⟩, (RI.step hR_r1 ns_y195 (by omega) (by omega) (SegOK.nil _ _) hSeg2 (by omega) (by omega) (by omega))⟩, by omega⟩⟩, rfl, j_200⟩
            · skip
              refine aw_iconst (v := 0) dX12_readsRule_136 (by decide) ?_
              refine aw_zreti dX12_readsRule_137 rfl (by first | exact Or.inl rfl | exact Or.inr rfl | assumption) (Nat.le_of_ble_eq_true rfl) (Nat.le_of_ble_eq_true rfl) ?_
              exact ⟨⟨(by first | exact Or.inl rfl | exact Or.inr rfl | assumption), Or.inl rfl⟩, rfl, j_189⟩
          · skip
            have nc_175 : say_2 = 16 := (nI_eq (a := say_2) (b := 16) (by omega) (by omega)).mp c_175
            refine aw_aload_n dX12_readsRule_48 rfl ?_
            refine aw_iconst (v := 4) dX12_readsRule_49 (by decide) ?_
            refine aw_aload_n dX12_readsRule_50 rfl ?_
            refine aw_get dX12_readsRule_51 fl_X12_159 e_2 (by omega) rfl ?_
            refine aw_callVi (J' := jX12_wrongAt) (As := [.int 4, .int (nI pl0_2)]) (st := []) dX12_readsRule_54 tb_1224 ok_X12_wrongAt ⟨_, e_2⟩ (by omega) rfl rfl (r_wrongAt l D b N V hN cl hJ0.1 4 (nI pl0_2) pl0_2 le0_2 (FG.of e_2 rfl rfl) (FG.of e_2 rfl rfl) ⟨by omega, by omega⟩) rfl (Nat.le_of_ble_eq_true rfl) ⟨Nat.le_of_ble_eq_true rfl, Nat.le_of_ble_eq_true rfl, Nat.le_of_ble_eq_true rfl, Nat.le_of_ble_eq_true rfl⟩ (fun r_214 N_215 V_205 q_216 => ?_)
            obtain ⟨⟨z_203, h_202⟩, rfl, q_201⟩ := q_216
            have j_204 := JR.trans hJ0 (JR.weak q_201 (Sub.cons (LMs (LMs (LMs (LMs (LMs LM0))))) (by decide) (by decide) (by decide) (Or.inr ⟨by decide, by decide⟩) Sub.nil))
            obtain ⟨a_206, ha_207, hA_208, hF_209, hL_210, hz_211, hX_212⟩ := h_202
            obtain ⟨ftoldPeople_k213, ftoldDoors_k213, fwasDoors_k213, ffault_k213, fopen_k213, flines_k213, fmeantSet_k213, fopenedNow_k213, fvainNow_k213, flowNow_k213, fhighNow_k213, fisKept_k213, tad_k213, pl0_k213, le0_k213, nu0_k213, coy_k213, wag_k213, say_k213, e_k213, hntad_k213, hnpl0_k213, hnle0_k213, hnnu0_k213, hncoy_k213, hnwag_k213, hnsay_k213⟩ := JR.get j_204 cm_100
            have hqp_k213 := FG.eq hF_209 e_k213 rfl (by omega) (by omega)
            have hql_k213 := FG.eq hL_210 e_k213 rfl (by omega) (by omega)
            obtain rfl := hX_212
            refine aw_zreti dX12_readsRule_57 rfl (by first | exact Or.inl rfl | exact Or.inr rfl | assumption) (Nat.le_of_ble_eq_true rfl) (Nat.le_of_ble_eq_true rfl) ?_
            exact ⟨⟨(by first | exact Or.inl rfl | exact Or.inr rfl | assumption), Or.inl rfl⟩, rfl, j_204⟩
        · skip
          refine aw_aload_n dX12_readsRule_29 rfl ?_
          refine aw_iconst (v := 1) dX12_readsRule_30 (by decide) ?_
          refine aw_aload_n dX12_readsRule_31 rfl ?_
          refine aw_get dX12_readsRule_32 fl_X12_159 e_2 (by omega) rfl ?_
          refine aw_callVi (J' := jX12_wrongAt) (As := [.int 1, .int (nI pl0_2)]) (st := []) dX12_readsRule_35 tb_1224 ok_X12_wrongAt ⟨_, e_2⟩ (by omega) rfl rfl (r_wrongAt l D b N V hN cl hJ0.1 1 (nI pl0_2) pl0_2 le0_2 (FG.of e_2 rfl rfl) (FG.of e_2 rfl rfl) ⟨by omega, by omega⟩) rfl (Nat.le_of_ble_eq_true rfl) ⟨Nat.le_of_ble_eq_true rfl, Nat.le_of_ble_eq_true rfl, Nat.le_of_ble_eq_true rfl, Nat.le_of_ble_eq_true rfl⟩ (fun r_230 N_231 V_221 q_232 => ?_)
          obtain ⟨⟨z_219, h_218⟩, rfl, q_217⟩ := q_232
          have j_220 := JR.trans hJ0 (JR.weak q_217 (Sub.cons (LMs (LMs (LMs (LMs (LMs LM0))))) (by decide) (by decide) (by decide) (Or.inr ⟨by decide, by decide⟩) Sub.nil))
          obtain ⟨a_222, ha_223, hA_224, hF_225, hL_226, hz_227, hX_228⟩ := h_218
          obtain ⟨ftoldPeople_k229, ftoldDoors_k229, fwasDoors_k229, ffault_k229, fopen_k229, flines_k229, fmeantSet_k229, fopenedNow_k229, fvainNow_k229, flowNow_k229, fhighNow_k229, fisKept_k229, tad_k229, pl0_k229, le0_k229, nu0_k229, coy_k229, wag_k229, say_k229, e_k229, hntad_k229, hnpl0_k229, hnle0_k229, hnnu0_k229, hncoy_k229, hnwag_k229, hnsay_k229⟩ := JR.get j_220 cm_100
          have hqp_k229 := FG.eq hF_225 e_k229 rfl (by omega) (by omega)
          have hql_k229 := FG.eq hL_226 e_k229 rfl (by omega) (by omega)
          obtain rfl := hX_228
          refine aw_zreti dX12_readsRule_38 rfl (by first | exact Or.inl rfl | exact Or.inr rfl | assumption) (Nat.le_of_ble_eq_true rfl) (Nat.le_of_ble_eq_true rfl) ?_
          exact ⟨⟨(by first | exact Or.inl rfl | exact Or.inr rfl | assumption), Or.inl rfl⟩, rfl, j_220⟩
