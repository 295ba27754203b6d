set_option maxHeartbeats 20000000 in
set_option maxRecDepth 100000 in
theorem r_readsRule3 (l : Launch) (D : va_G) (b : Nat) (N : Nat) (V : Wd) (hN : 133 ≤ N) (cl : Nat) (hW : CR D b cl V)  (g sd wa sl sf sh st : Nat → Int32) (pl ln cm sm : Nat) (hX : RX D b V g pl ln cm sd wa sl sf sh st sm) : MI l D b 7 jX12_readsRule [.ref (b + 100)] N V 0 0 (fun r N9 V9 => ((r = 0 ∨ r = 1) ∧ ((r = 0 ∧ ∃ f, fI (V9 100) 16 = f ∧ txL (gb g) ln (16 - sm) pl = .inl f) ∨ (r = 1 ∧ (stL (hd (gb g) ln pl) = true ∧ sm < 16 ∧ ∃ (sd9 wa9 : Nat → Int32) (pl9 cm9 : Nat) (sl9 sf9 sh9 st9 : Nat → Int32), RX D b V9 g pl9 ln cm9 sd9 wa9 sl9 sf9 sh9 st9 (sm + 1) ∧ pl < pl9 ∧ lnL (gb g) ln pl = .inr (pl9, ()))))) ∧ N = N9 ∧ JR D b N cl [(111, 116, 0, 1000000), (100, 100, 14, 14), (100, 100, 18, 18), (100, 100, 20, 20), (100, 100, 19, 19), (100, 100, 16, 16), (100, 100, 17, 17), (100, 100, 21, 21)] V V9) := by
  have hJ0 : JR D b N cl [(111, 116, 0, 1000000), (100, 100, 14, 14), (100, 100, 18, 18), (100, 100, 20, 20), (100, 100, 19, 19), (100, 100, 16, 16), (100, 100, 17, 17), (100, 100, 21, 21)] V V := JR.rf hW
  refine mw_of (by decide) (by simp [Value.category]) (Nat.le_of_ble_eq_true rfl) ?_
  show AW l D b jX12_readsRule (fx_rm 7 0 0) none (fx_MQ D b 0 0 (fx_qi (fun r N9 V9 => ((r = 0 ∨ r = 1) ∧ ((r = 0 ∧ ∃ f, fI (V9 100) 16 = f ∧ txL (gb g) ln (16 - sm) pl = .inl f) ∨ (r = 1 ∧ (stL (hd (gb g) ln pl) = true ∧ sm < 16 ∧ ∃ (sd9 wa9 : Nat → Int32) (pl9 cm9 : Nat) (sl9 sf9 sh9 st9 : Nat → Int32), RX D b V9 g pl9 ln cm9 sd9 wa9 sl9 sf9 sh9 st9 (sm + 1) ∧ pl < pl9 ∧ lnL (gb g) ln pl = .inr (pl9, ()))))) ∧ N = N9 ∧ JR D b N cl [(111, 116, 0, 1000000), (100, 100, 14, 14), (100, 100, 18, 18), (100, 100, 20, 20), (100, 100, 19, 19), (100, 100, 16, 16), (100, 100, 17, 17), (100, 100, 21, 21)] V V9))) 0 [some (.ref (b + 100)), none] [] N V 0 0
  obtain ⟨xg_r1, xs_r1, xw_r1, xa_r1, xb_r1, xd_r1, xe_r1, xp_r1, xl_r1, xc_r1, xm_r1, ⟨hB1_r1, hB2_r1, hB3_r1, hB4_r1⟩, hR_r1⟩ := id hX
  obtain ⟨ftoldPeople_2, ftoldDoors_2, fwasDoors_2, ffault_2, fopen_2, flines_2, fmeantSet_2, fopenedNow_2, fvainNow_2, flowNow_2, fhighNow_2, fisKept_2, tad_2, pl0_2, le0_2, nu0_2, coy_2, wag_2, say_2, e_2, hntad_2, hnpl0_2, hnle0_2, hnnu0_2, hncoy_2, hnwag_2, hnsay_2⟩ := JR.get hJ0 cm_100
  have sb_r1pl := FG.eq xp_r1 e_2 rfl (by omega) (by omega)
  subst sb_r1pl
  have sb_r1cm := FG.eq xc_r1 e_2 rfl (by omega) (by omega)
  subst sb_r1cm
  have sb_r1sm := FG.eq xm_r1 e_2 rfl (by omega) (by omega)
  subst sb_r1sm
  have sb_r1ln := FG.eq xl_r1 e_2 rfl (by omega) (by omega)
  have hz0 : ∀ wa : Nat → Int32, wgt wa 0 = 0 := fun _ => rfl
  refine aw_aload_n dX12_readsRule_0 rfl ?_
  refine aw_callVi (J' := jX12_here) (As := []) (st := []) dX12_readsRule_1 tb_1220 ok_X12_here ⟨_, e_2⟩ (by omega) rfl rfl (r_here l D b N V hN cl hJ0.1 g xg_r1 pl0_2 le0_2 (FG.of e_2 rfl rfl) (FG.of e_2 rfl rfl) ⟨by omega, by omega⟩) rfl (Nat.le_of_ble_eq_true rfl) ⟨Nat.le_of_ble_eq_true rfl, Nat.le_of_ble_eq_true rfl, Nat.le_of_ble_eq_true rfl, Nat.le_of_ble_eq_true rfl⟩ (fun r_5 N_6 V_7 q_8 => ?_)
  obtain ⟨h_4, rfl, rfl⟩ := q_8
  refine aw_istore_n (ls' := [some (.ref (b + 100)), some (.int r_5)]) dX12_readsRule_4 (Nat.le_of_ble_eq_true rfl) rfl ?_
  refine aw_iload_n dX12_readsRule_5 rfl ?_
  refine aw_bipush (v := 101) dX12_readsRule_6 (by decide) ?_
  refine aw_icmp_eq (tgt := 39) dX12_readsRule_8 (by decide) (fun c_9 => ?_) (fun c_9 => ?_)
  · skip
    have hlc_9 := here_lt h_4 c_9 (by decide)
    subst c_9
    have hsg9 : hd (gb g) ln pl0_2 = 101 := (hd_is sb_r1ln rfl h_4 rfl)
    have hst9 : stL (hd (gb g) ln pl0_2) = true := stL_t (Or.inl hsg9)
    refine aw_aload_n dX12_readsRule_39 rfl ?_
    refine aw_get dX12_readsRule_40 fl_X12_236 e_2 (by omega) rfl ?_
    refine aw_bipush (v := 16) dX12_readsRule_43 (by decide) ?_
    refine aw_icmp_ne (tgt := 58) dX12_readsRule_45 (by decide) (fun c_10 => ?_) (fun c_10 => ?_)
    · skip
      have nc_10 : ¬ (say_2 = 16) := fun z => c_10 ((nI_eq (a := say_2) (b := 16) (by omega) (by omega)).mpr z)
      refine aw_aload_n dX12_readsRule_58 rfl ?_
      refine aw_get dX12_readsRule_59 fl_X12_47 e_2 (by omega) rfl ?_
      refine aw_aload_n dX12_readsRule_62 rfl ?_
      refine aw_get dX12_readsRule_63 fl_X12_236 e_2 (by omega) rfl ?_
      refine aw_iload_n dX12_readsRule_66 rfl ?_
      refine aw_iast dX12_readsRule_67 xa_r1 (by omega) (vp_in_nI (n := say_2) (by omega) (by omega)) ?_
      refine aw_upR hJ0 cm_113 ⟨_, rfl⟩ (by decide) (WA LM0 (by decide) (by decide)) (fun V_11 j_11 k_11 e_11 => ?_)
      have e_12 : V_11 113 = cI D 16 (upd sl say_2 101) := by rw [e_11, nI_clamp (n := say_2) (by omega)]
      refine aw_aload_n dX12_readsRule_68 rfl ?_
      refine aw_aload_n dX12_readsRule_69 rfl ?_
      refine aw_get dX12_readsRule_70 fl_X12_159 ((k_11 _ (by decide)).trans e_2) (by omega) rfl ?_
      refine aw_iconst (v := 1) dX12_readsRule_73 (by decide) ?_
      refine aw_iadd dX12_readsRule_74 ?_
      refine aw_eqi (y := nI (pl0_2 + 1)) (nI_add _ _) ?_
      refine aw_put dX12_readsRule_75 fp_X12_159 ((k_11 _ (by decide)).trans e_2) (by omega) rfl rfl (Nat.le_of_ble_eq_true rfl) rfl ?_
      refine aw_upR j_11 cm_100 ⟨_, _, _, _, _, _, _, _, _, _, _, _, tad_2, (pl0_2 + 1), le0_2, nu0_2, coy_2, wag_2, say_2, rfl, by omega, by omega, by omega, by omega, by omega, by omega, by omega⟩ (by decide) (WO (s := 14) (x := .int (nI (pl0_2 + 1))) ((k_11 _ (by decide)).trans e_2) rfl (LMs LM0) (by decide) (by decide) (by decide) (Or.inl (by decide))) (fun V_13 j_13 k_13 e_13 => ?_)
      refine aw_aload_n dX12_readsRule_78 rfl ?_
      refine aw_get dX12_readsRule_79 fl_X12_50 e_13 (by omega) rfl ?_
      refine aw_aload_n dX12_readsRule_82 rfl ?_
      refine aw_get dX12_readsRule_83 fl_X12_236 e_13 (by omega) rfl ?_
      refine aw_aload_n dX12_readsRule_86 rfl ?_
      refine aw_get dX12_readsRule_87 fl_X12_182 e_13 (by omega) rfl ?_
      refine aw_iast dX12_readsRule_90 ((k_13 _ (by decide)).trans ((k_11 _ (by decide)).trans xb_r1)) (by omega) (vp_in_nI (n := say_2) (by omega) (by omega)) ?_
      refine aw_upR j_13 cm_114 ⟨_, rfl⟩ (by decide) (WA LM0 (by decide) (by decide)) (fun V_14 j_14 k_14 e_14 => ?_)
      have e_15 : V_14 114 = cI D 16 (upd sf say_2 (nI coy_2)) := by rw [e_14, nI_clamp (n := say_2) (by omega)]
      refine aw_aload_n dX12_readsRule_91 rfl ?_
      refine aw_iconst (v := 0) dX12_readsRule_92 (by decide) ?_
      refine aw_put dX12_readsRule_93 fp_X12_186 ((k_14 _ (by decide)).trans e_13) (by omega) rfl rfl (Nat.le_of_ble_eq_true rfl) rfl ?_
      refine aw_upR j_14 cm_100 ⟨_, _, _, _, _, _, _, _, _, _, _, _, tad_2, (pl0_2 + 1), le0_2, nu0_2, coy_2, wag_2, say_2, rfl, by omega, by omega, by omega, by omega, by omega, by omega, by omega⟩ (by decide) (WO (s := 18) (x := .int 0) ((k_14 _ (by decide)).trans e_13) rfl (LMs (LMs LM0)) (by decide) (by decide) (by decide) (Or.inl (by decide))) (fun V_16 j_16 k_16 e_16 => ?_)
      refine aw_aload_n dX12_readsRule_96 rfl ?_
      refine aw_iconst (v := 0) dX12_readsRule_97 (by decide) ?_
      refine aw_put dX12_readsRule_98 fp_X12_189 e_16 (by omega) rfl rfl (Nat.le_of_ble_eq_true rfl) rfl ?_
      refine aw_upR j_16 cm_100 ⟨_, _, _, _, _, _, _, _, _, _, _, _, tad_2, (pl0_2 + 1), le0_2, nu0_2, coy_2, 0, say_2, rfl, by omega, by omega, by omega, by omega, by omega, by omega, by omega⟩ (by decide) (WO (s := 20) (x := .int 0) e_16 rfl (LMs (LMs (LMs LM0))) (by decide) (by decide) (by decide) (Or.inl (by decide))) (fun V_17 j_17 k_17 e_17 => ?_)
      refine aw_iload_n dX12_readsRule_101 rfl ?_
      refine aw_bipush (v := 120) dX12_readsRule_102 (by decide) ?_
      refine aw_icmp_eq (tgt := 116) dX12_readsRule_104 (by decide) (fun c_18 => ?_) (fun c_18 => ?_)
      · exact absurd c_18 (by decide)
      have hP1 := PS.start sd wa (cm := coy_2) (by omega)
      have hz1 := hz0 wa
      refine aw_aload_n dX12_readsRule_107 rfl ?_
      refine aw_callVi (J' := jX12_readsSum) (As := []) (st := []) dX12_readsRule_108 tb_1228 ok_X12_readsSum ⟨_, e_17⟩ (by omega) rfl rfl (r_readsSum3 l D b N V_17 hN cl j_17.1 g sd wa (pl0_2 + 1) ln coy_2 0 coy_2 (fun _ => 0) (upd sl say_2 101) (upd sf say_2 (nI coy_2)) sh st say_2 0 ⟨((k_17 _ (by decide)).trans ((k_16 _ (by decide)).trans ((k_14 _ (by decide)).trans ((k_13 _ (by decide)).trans ((k_11 _ (by decide)).trans xg_r1))))), ((k_17 _ (by decide)).trans ((k_16 _ (by decide)).trans ((k_14 _ (by decide)).trans ((k_13 _ (by decide)).trans ((k_11 _ (by decide)).trans xs_r1))))), ((k_17 _ (by decide)).trans ((k_16 _ (by decide)).trans ((k_14 _ (by decide)).trans ((k_13 _ (by decide)).trans ((k_11 _ (by decide)).trans xw_r1))))), (FG.of e_17 rfl rfl), (FG.of e_17 rfl (by omega : le0_2 = ln)), (FG.of e_17 rfl rfl), (FG.of e_17 rfl rfl), hP1, ⟨by omega, by omega, by omega, by omega⟩, ((k_17 _ (by decide)).trans ((k_16 _ (by decide)).trans ((k_14 _ (by decide)).trans ((k_13 _ (by decide)).trans e_12)))), ((k_17 _ (by decide)).trans ((k_16 _ (by decide)).trans e_15)), ((k_17 _ (by decide)).trans ((k_16 _ (by decide)).trans ((k_14 _ (by decide)).trans ((k_13 _ (by decide)).trans ((k_11 _ (by decide)).trans xd_r1))))), ((k_17 _ (by decide)).trans ((k_16 _ (by decide)).trans ((k_14 _ (by decide)).trans ((k_13 _ (by decide)).trans ((k_11 _ (by decide)).trans xe_r1))))), (FG.of e_17 rfl (by omega : say_2 = say_2)), by omega⟩ [0] (((congrArg (fun z => fI z 18) e_17).trans rfl).trans (congrArg nI rfl)) (by have h9 : 0 = (dpt [0]) := rfl; omega) (Or.inl rfl)) rfl (Nat.le_of_ble_eq_true rfl) ⟨Nat.le_of_ble_eq_true rfl, Nat.le_of_ble_eq_true rfl, Nat.le_of_ble_eq_true rfl, Nat.le_of_ble_eq_true rfl⟩ (fun r_24 N_25 V_23 q_26 => ?_)
      obtain ⟨⟨z_21, h_20⟩, rfl, q_19⟩ := q_26
      have j_22 := JR.trans j_17 (JR.weak q_19 (Sub.cons LM0 (by decide) (by decide) (by decide) (Or.inl rfl) (Sub.cons (LMs (LMs (LMs (LMs LM0)))) (by decide) (by decide) (by decide) (Or.inr ⟨by decide, by decide⟩) (Sub.cons (LMs LM0) (by decide) (by decide) (by decide) (Or.inr ⟨by decide, by decide⟩) (Sub.cons (LMs (LMs (LMs (LMs (LMs LM0))))) (by decide) (by decide) (by decide) (Or.inr ⟨by decide, by decide⟩) (Sub.cons (LMs (LMs (LMs (LMs (LMs (LMs LM0)))))) (by decide) (by decide) (by decide) (Or.inr ⟨by decide, by decide⟩) (Sub.cons (LMs (LMs LM0)) (by decide) (by decide) (by decide) (Or.inr ⟨by decide, by decide⟩) (Sub.cons (LMs (LMs (LMs LM0))) (by decide) (by decide) (by decide) (Or.inr ⟨by decide, by decide⟩) Sub.nil))))))))
      refine aw_if_ne (tgt := 116) dX12_readsRule_111 (by decide) (fun c_27 => ?_) (fun c_27 => ?_)
      · skip
        obtain ⟨sd_y28, wa_y28, pl_y28, cm_y28, wt_y28, dp_y28, hX_y28, sw_y28, sa_y28, ss_y28, sd9_y28, sp_y28, oo_y28, sr_y28, so_y28⟩ := ((h_20.imp And.left And.right).resolve_left c_27)
        obtain ⟨xg_x29, xs_x29, xw_x29, xp_x29, xl_x29, xc_x29, xt_x29, hP_x29, ⟨hB1_x29, hB2_x29, hB3_x29, hB4_x29⟩, xa_x29, xb_x29, xd_x29, xe_x29, xm_x29, hB5_x29⟩ := hX_y28
        obtain ⟨ftoldPeople_30, ftoldDoors_30, fwasDoors_30, ffault_30, fopen_30, flines_30, fmeantSet_30, fopenedNow_30, fvainNow_30, flowNow_30, fhighNow_30, fisKept_30, tad_30, pl0_30, le0_30, nu0_30, coy_30, wag_30, say_30, e_30, hntad_30, hnpl0_30, hnle0_30, hnnu0_30, hncoy_30, hnwag_30, hnsay_30⟩ := JR.get j_22 cm_100
        have sb_x29pl := FG.eq xp_x29 e_30 rfl (by omega) (by omega)
        subst sb_x29pl
        have sb_x29cm := FG.eq xc_x29 e_30 rfl (by omega) (by omega)
        subst sb_x29cm
        have sb_x29wt := FG.eq xt_x29 e_30 rfl (by omega) (by omega)
        subst sb_x29wt
        have sb_x29ln := FG.eq xl_x29 e_30 rfl (by omega) (by omega)
        have hsg_x29 := hP_x29.2.1
        have sb_x29sm := FG.eq xm_x29 e_30 rfl (by omega) (by omega)
        have hof_31 : fopen_30 = nI (dpt [0]) := ((congrArg (fun z => fI z 18) e_30).trans rfl).symm.trans oo_y28
        subst hof_31
        have hSeg1 : SegOK sd_y28 coy_2 coy_30 := PS.done (wa := wa_y28) (dep := dp_y28) (sw_y28 ▸ hP_x29)
        refine aw_aload_n dX12_readsRule_116 rfl ?_
        refine aw_get dX12_readsRule_117 fl_X12_53 e_30 (by omega) rfl ?_
        refine aw_aload_n dX12_readsRule_120 rfl ?_
        refine aw_get dX12_readsRule_121 fl_X12_236 e_30 (by omega) rfl ?_
        refine aw_aload_n dX12_readsRule_124 rfl ?_
        refine aw_get dX12_readsRule_125 fl_X12_182 e_30 (by omega) rfl ?_
        refine aw_iast dX12_readsRule_128 xd_x29 (by omega) (vp_in_nI (n := say_30) (by omega) (by omega)) ?_
        refine aw_upR j_22 cm_115 ⟨_, rfl⟩ (by decide) (WA LM0 (by decide) (by decide)) (fun V_32 j_32 k_32 e_32 => ?_)
        have e_33 : V_32 115 = cI D 16 (upd sh say_30 (nI coy_30)) := by rw [e_32, nI_clamp (n := say_30) (by omega)]
        have hP3 := PS.start sd_y28 wa_y28 (cm := coy_30) (by omega)
        have hP2 : PS sd_y28 wa_y28 coy_30 coy_30 wag_30 (fun _ => 0) := by rw [sw_y28]; exact hP3
        refine aw_aload_n dX12_readsRule_129 rfl ?_
        refine aw_callVi (J' := jX12_readsCondition) (As := []) (st := []) dX12_readsRule_130 tb_1271 ok_X12_readsCondition ⟨_, ((k_32 _ (by decide)).trans e_30)⟩ (by omega) rfl rfl (r_readsCondition3 l D b N V_32 hN cl j_32.1 g sd_y28 wa_y28 pl0_30 ln coy_30 wag_30 coy_30 (fun _ => 0) (upd sl say_2 101) (upd sf say_2 (nI coy_2)) (upd sh say_30 (nI coy_30)) st say_2 0 ⟨((k_32 _ (by decide)).trans xg_x29), ((k_32 _ (by decide)).trans xs_x29), ((k_32 _ (by decide)).trans xw_x29), (FG.of ((k_32 _ (by decide)).trans e_30) rfl rfl), (FG.of ((k_32 _ (by decide)).trans e_30) rfl (by omega : le0_30 = ln)), (FG.of ((k_32 _ (by decide)).trans e_30) rfl rfl), (FG.of ((k_32 _ (by decide)).trans e_30) rfl rfl), hP2, ⟨by omega, by omega, by omega, by omega⟩, ((k_32 _ (by decide)).trans xa_x29), ((k_32 _ (by decide)).trans xb_x29), e_33, ((k_32 _ (by decide)).trans xe_x29), (FG.of ((k_32 _ (by decide)).trans e_30) rfl (by omega : say_30 = say_2)), by omega⟩  (((congrArg (fun z => fI z 18) ((k_32 _ (by decide)).trans e_30)).trans rfl).trans (congrArg nI rfl)) (by have h9 : (dpt [0]) = 0 := rfl; omega) (by omega) (by omega)) rfl (Nat.le_of_ble_eq_true rfl) ⟨Nat.le_of_ble_eq_true rfl, Nat.le_of_ble_eq_true rfl, Nat.le_of_ble_eq_true rfl, Nat.le_of_ble_eq_true rfl⟩ (fun r_39 N_40 V_38 q_41 => ?_)
        obtain ⟨⟨z_36, h_35⟩, rfl, q_34⟩ := q_41
        have j_37 := JR.trans j_32 (JR.weak q_34 (Sub.cons LM0 (by decide) (by decide) (by decide) (Or.inl rfl) (Sub.cons (LMs (LMs LM0)) (by decide) (by decide) (by decide) (Or.inr ⟨by decide, by decide⟩) (Sub.cons (LMs (LMs (LMs LM0))) (by decide) (by decide) (by decide) (Or.inr ⟨by decide, by decide⟩) (Sub.cons (LMs LM0) (by decide) (by decide) (by decide) (Or.inr ⟨by decide, by decide⟩) (Sub.cons (LMs (LMs (LMs (LMs (LMs LM0))))) (by decide) (by decide) (by decide) (Or.inr ⟨by decide, by decide⟩) (Sub.cons (LMs (LMs (LMs (LMs LM0)))) (by decide) (by decide) (by decide) (Or.inr ⟨by decide, by decide⟩) (Sub.cons (LMs (LMs (LMs (LMs (LMs (LMs LM0)))))) (by decide) (by decide) (by decide) (Or.inr ⟨by decide, by decide⟩) Sub.nil))))))))
        refine aw_if_ne (tgt := 138) dX12_readsRule_133 (by decide) (fun c_42 => ?_) (fun c_42 => ?_)
        · skip
          obtain ⟨sd_y43, wa_y43, pl_y43, cm_y43, wt_y43, dp_y43, hX_y43, nw_y43, ns_y43, nd_y43, np_y43, nr_y43⟩ := ((h_35.imp And.left And.right).resolve_left c_42)
          obtain ⟨xg_x44, xs_x44, xw_x44, xp_x44, xl_x44, xc_x44, xt_x44, hP_x44, ⟨hB1_x44, hB2_x44, hB3_x44, hB4_x44⟩, xa_x44, xb_x44, xd_x44, xe_x44, xm_x44, hB5_x44⟩ := hX_y43
          obtain ⟨ftoldPeople_45, ftoldDoors_45, fwasDoors_45, ffault_45, fopen_45, flines_45, fmeantSet_45, fopenedNow_45, fvainNow_45, flowNow_45, fhighNow_45, fisKept_45, tad_45, pl0_45, le0_45, nu0_45, coy_45, wag_45, say_45, e_45, hntad_45, hnpl0_45, hnle0_45, hnnu0_45, hncoy_45, hnwag_45, hnsay_45⟩ := JR.get j_37 cm_100
          clear hntad_30 hnpl0_30 hnle0_30 hnnu0_30 hncoy_30 hnwag_30 hnsay_30
          have sb_x44pl := FG.eq xp_x44 e_45 rfl (by omega) (by omega)
          subst sb_x44pl
          have sb_x44cm := FG.eq xc_x44 e_45 rfl (by omega) (by omega)
          subst sb_x44cm
          have sb_x44wt := FG.eq xt_x44 e_45 rfl (by omega) (by omega)
          subst sb_x44wt
          have sb_x44ln := FG.eq xl_x44 e_45 rfl (by omega) (by omega)
          have hsg_x44 := hP_x44.2.1
          have sb_x44sm := FG.eq xm_x44 e_45 rfl (by omega) (by omega)
          refine aw_aload_n dX12_readsRule_138 rfl ?_
          refine aw_get dX12_readsRule_139 fl_X12_56 e_45 (by omega) rfl ?_
          refine aw_aload_n dX12_readsRule_142 rfl ?_
          refine aw_get dX12_readsRule_143 fl_X12_236 e_45 (by omega) rfl ?_
          refine aw_aload_n dX12_readsRule_146 rfl ?_
          refine aw_get dX12_readsRule_147 fl_X12_182 e_45 (by omega) rfl ?_
          refine aw_iast dX12_readsRule_150 xe_x44 (by omega) (vp_in_nI (n := say_45) (by omega) (by omega)) ?_
          refine aw_upR j_37 cm_116 ⟨_, rfl⟩ (by decide) (WA LM0 (by decide) (by decide)) (fun V_46 j_46 k_46 e_46 => ?_)
          have e_47 : V_46 116 = cI D 16 (upd st say_45 (nI coy_45)) := by rw [e_46, nI_clamp (n := say_45) (by omega)]
          refine aw_aload_n dX12_readsRule_151 rfl ?_
          refine aw_aload_n dX12_readsRule_152 rfl ?_
          refine aw_get dX12_readsRule_153 fl_X12_236 ((k_46 _ (by decide)).trans e_45) (by omega) rfl ?_
          refine aw_iconst (v := 1) dX12_readsRule_156 (by decide) ?_
          refine aw_iadd dX12_readsRule_157 ?_
          refine aw_eqi (y := nI (say_45 + 1)) (nI_add _ _) ?_
          refine aw_put dX12_readsRule_158 fp_X12_236 ((k_46 _ (by decide)).trans e_45) (by omega) rfl rfl (Nat.le_of_ble_eq_true rfl) rfl ?_
          refine aw_upR j_46 cm_100 ⟨_, _, _, _, _, _, _, _, _, _, _, _, tad_45, pl0_45, le0_45, nu0_45, coy_45, wag_45, (say_45 + 1), rfl, by omega, by omega, by omega, by omega, by omega, by omega, by omega⟩ (by decide) (WO (s := 21) (x := .int (nI (say_45 + 1))) ((k_46 _ (by decide)).trans e_45) rfl (LMs (LMs (LMs (LMs (LMs (LMs (LMs LM0))))))) (by decide) (by decide) (by decide) (Or.inl (by decide))) (fun V_48 j_48 k_48 e_48 => ?_)
          refine aw_iconst (v := 1) dX12_readsRule_161 (by decide) ?_
          have hSeg2 : SegOK sd_y43 coy_30 coy_45 := PS.done (wa := wa_y43) (dep := dp_y43) (nw_y43 ▸ hP_x44)
          refine aw_zreti dX12_readsRule_162 rfl (by first | exact Or.inl rfl | exact Or.inr rfl | assumption) (Nat.le_of_ble_eq_true rfl) (Nat.le_of_ble_eq_true rfl) ?_
          exact ⟨⟨(by first | exact Or.inl rfl | exact Or.inr rfl | assumption), Or.inr ⟨rfl, hst9, by omega, sd_y43, wa_y43, pl0_45, coy_45, (upd sl say_2 101), (upd sf say_2 (nI coy_2)), (upd sh say_30 (nI coy_30)), (upd st say_45 (nI coy_45)), ⟨((k_48 _ (by decide)).trans ((k_46 _ (by decide)).trans xg_x44)), ((k_48 _ (by decide)).trans ((k_46 _ (by decide)).trans xs_x44)), ((k_48 _ (by decide)).trans ((k_46 _ (by decide)).trans xw_x44)), ((k_48 _ (by decide)).trans ((k_46 _ (by decide)).trans xa_x44)), ((k_48 _ (by decide)).trans ((k_46 _ (by decide)).trans xb_x44)), ((k_48 _ (by decide)).trans ((k_46 _ (by decide)).trans xd_x44)), ((k_48 _ (by decide)).trans e_47), (FG.of e_48 rfl rfl), (FG.of e_48 rfl (by omega : le0_45 = ln)), (FG.of e_48 rfl rfl), (FG.of e_48 rfl (by omega : (say_45 + 1) = say_2 + 1)), ⟨by omega, by omega, by omega, by omega⟩, (RI.step hR_r1 (fun k hk => (ns_y43 k (by omega)).trans (ss_y28 k hk)) (by omega) (by omega) (hSeg1.congr ns_y43) hSeg2 (by omega) (by omega) (by omega))⟩, by omega, lnL_of (by rw [(sta_n (by rw [hsg9]; decide))]; exact sr_y28 _ (O_e so_y28 (nr_y43)))⟩⟩, rfl, j_48⟩
        · skip
          refine aw_iconst (v := 0) dX12_readsRule_136 (by decide) ?_
          refine aw_zreti dX12_readsRule_137 rfl (by first | exact Or.inl rfl | exact Or.inr rfl | assumption) (Nat.le_of_ble_eq_true rfl) (Nat.le_of_ble_eq_true rfl) ?_
          exact ⟨⟨(by first | exact Or.inl rfl | exact Or.inr rfl | assumption), Or.inl ⟨rfl, (Exists.imp (fun f z => ⟨z.1, tx_bad hst9 (lnL_of (by rw [(sta_n (by rw [hsg9]; decide))]; exact sr_y28 _ (O_e so_y28 (z.2)))) (by omega)⟩) ((h_35.resolve_right (fun z => absurd (z.1.symm.trans c_42) (by decide))).2))⟩⟩, rfl, j_37⟩
      · skip
        refine aw_iconst (v := 0) dX12_readsRule_114 (by decide) ?_
        refine aw_zreti dX12_readsRule_115 rfl (by first | exact Or.inl rfl | exact Or.inr rfl | assumption) (Nat.le_of_ble_eq_true rfl) (Nat.le_of_ble_eq_true rfl) ?_
        exact ⟨⟨(by first | exact Or.inl rfl | exact Or.inr rfl | assumption), Or.inl ⟨rfl, (Exists.imp (fun f z => ⟨z.1, tx_bad hst9 (lnL_of (by rw [(sta_n (by rw [hsg9]; decide))]; exact z.2)) (by omega)⟩) ((h_20.resolve_right (fun z => absurd (z.1.symm.trans c_27) (by decide))).2))⟩⟩, rfl, j_22⟩
    · skip
      have nc_10 : say_2 = 16 := (nI_eq (a := say_2) (b := 16) (by omega) (by omega)).mp c_10
      refine aw_aload_n dX12_readsRule_48 rfl ?_
      refine aw_iconst (v := 4) dX12_readsRule_49 (by decide) ?_
      refine aw_aload_n dX12_readsRule_50 rfl ?_
      refine aw_get dX12_readsRule_51 fl_X12_159 e_2 (by omega) rfl ?_
      refine aw_callVi (J' := jX12_wrongAt) (As := [.int 4, .int (nI pl0_2)]) (st := []) dX12_readsRule_54 tb_1224 ok_X12_wrongAt ⟨_, e_2⟩ (by omega) rfl rfl (r_wrongAt3 l D b N V hN cl hJ0.1 4 (nI pl0_2) pl0_2 le0_2 (FG.of e_2 rfl rfl) (FG.of e_2 rfl rfl) ⟨by omega, by omega⟩) rfl (Nat.le_of_ble_eq_true rfl) ⟨Nat.le_of_ble_eq_true rfl, Nat.le_of_ble_eq_true rfl, Nat.le_of_ble_eq_true rfl, Nat.le_of_ble_eq_true rfl⟩ (fun r_63 N_64 V_53 q_65 => ?_)
      obtain ⟨⟨z_51, h_50⟩, rfl, q_49⟩ := q_65
      have j_52 := JR.trans hJ0 (JR.weak q_49 (Sub.cons (LMs (LMs (LMs (LMs (LMs LM0))))) (by decide) (by decide) (by decide) (Or.inr ⟨by decide, by decide⟩) Sub.nil))
      obtain ⟨a_54, ha_55, hA_56, hF_57, hL_58, hz_59, hX_60⟩ := h_50
      obtain ⟨ftoldPeople_k61, ftoldDoors_k61, fwasDoors_k61, ffault_k61, fopen_k61, flines_k61, fmeantSet_k61, fopenedNow_k61, fvainNow_k61, flowNow_k61, fhighNow_k61, fisKept_k61, tad_k61, pl0_k61, le0_k61, nu0_k61, coy_k61, wag_k61, say_k61, e_k61, hntad_k61, hnpl0_k61, hnle0_k61, hnnu0_k61, hncoy_k61, hnwag_k61, hnsay_k61⟩ := JR.get j_52 cm_100
      have hqp_k61 := FG.eq hF_57 e_k61 rfl (by omega) (by omega)
      have hql_k61 := FG.eq hL_58 e_k61 rfl (by omega) (by omega)
      obtain ⟨rfl, hw_62⟩ := hX_60
      refine aw_zreti dX12_readsRule_57 rfl (by first | exact Or.inl rfl | exact Or.inr rfl | assumption) (Nat.le_of_ble_eq_true rfl) (Nat.le_of_ble_eq_true rfl) ?_
      exact ⟨⟨(by first | exact Or.inl rfl | exact Or.inr rfl | assumption), Or.inl ⟨rfl, ⟨_, hw_62, (congrArg (fun q => txL (gb g) ln q pl0_2) (by omega : 16 - say_2 = 0)).trans (tx_many hst9)⟩⟩⟩, rfl, j_52⟩
  · skip
    refine aw_iload_n dX12_readsRule_11 rfl ?_
    refine aw_bipush (v := 99) dX12_readsRule_12 (by decide) ?_
    refine aw_icmp_eq (tgt := 39) dX12_readsRule_14 (by decide) (fun c_66 => ?_) (fun c_66 => ?_)
    · skip
      have hlc_66 := here_lt h_4 c_66 (by decide)
      subst c_66
      have hsg9 : hd (gb g) ln pl0_2 = 99 := (hd_is sb_r1ln rfl h_4 rfl)
      have hst9 : stL (hd (gb g) ln pl0_2) = true := stL_t (Or.inr (Or.inl hsg9))
      refine aw_aload_n dX12_readsRule_39 rfl ?_
      refine aw_get dX12_readsRule_40 fl_X12_236 e_2 (by omega) rfl ?_
      refine aw_bipush (v := 16) dX12_readsRule_43 (by decide) ?_
      refine aw_icmp_ne (tgt := 58) dX12_readsRule_45 (by decide) (fun c_67 => ?_) (fun c_67 => ?_)
      · skip
        have nc_67 : ¬ (say_2 = 16) := fun z => c_67 ((nI_eq (a := say_2) (b := 16) (by omega) (by omega)).mpr z)
        refine aw_aload_n dX12_readsRule_58 rfl ?_
        refine aw_get dX12_readsRule_59 fl_X12_47 e_2 (by omega) rfl ?_
        refine aw_aload_n dX12_readsRule_62 rfl ?_
        refine aw_get dX12_readsRule_63 fl_X12_236 e_2 (by omega) rfl ?_
        refine aw_iload_n dX12_readsRule_66 rfl ?_
        refine aw_iast dX12_readsRule_67 xa_r1 (by omega) (vp_in_nI (n := say_2) (by omega) (by omega)) ?_
        refine aw_upR hJ0 cm_113 ⟨_, rfl⟩ (by decide) (WA LM0 (by decide) (by decide)) (fun V_68 j_68 k_68 e_68 => ?_)
        have e_69 : V_68 113 = cI D 16 (upd sl say_2 99) := by rw [e_68, nI_clamp (n := say_2) (by omega)]
        refine aw_aload_n dX12_readsRule_68 rfl ?_
        refine aw_aload_n dX12_readsRule_69 rfl ?_
        refine aw_get dX12_readsRule_70 fl_X12_159 ((k_68 _ (by decide)).trans e_2) (by omega) rfl ?_
        refine aw_iconst (v := 1) dX12_readsRule_73 (by decide) ?_
        refine aw_iadd dX12_readsRule_74 ?_
        refine aw_eqi (y := nI (pl0_2 + 1)) (nI_add _ _) ?_
        refine aw_put dX12_readsRule_75 fp_X12_159 ((k_68 _ (by decide)).trans e_2) (by omega) rfl rfl (Nat.le_of_ble_eq_true rfl) rfl ?_
        refine aw_upR j_68 cm_100 ⟨_, _, _, _, _, _, _, _, _, _, _, _, tad_2, (pl0_2 + 1), le0_2, nu0_2, coy_2, wag_2, say_2, rfl, by omega, by omega, by omega, by omega, by omega, by omega, by omega⟩ (by decide) (WO (s := 14) (x := .int (nI (pl0_2 + 1))) ((k_68 _ (by decide)).trans e_2) rfl (LMs LM0) (by decide) (by decide) (by decide) (Or.inl (by decide))) (fun V_70 j_70 k_70 e_70 => ?_)
        refine aw_aload_n dX12_readsRule_78 rfl ?_
        refine aw_get dX12_readsRule_79 fl_X12_50 e_70 (by omega) rfl ?_
        refine aw_aload_n dX12_readsRule_82 rfl ?_
        refine aw_get dX12_readsRule_83 fl_X12_236 e_70 (by omega) rfl ?_
        refine aw_aload_n dX12_readsRule_86 rfl ?_
        refine aw_get dX12_readsRule_87 fl_X12_182 e_70 (by omega) rfl ?_
        refine aw_iast dX12_readsRule_90 ((k_70 _ (by decide)).trans ((k_68 _ (by decide)).trans xb_r1)) (by omega) (vp_in_nI (n := say_2) (by omega) (by omega)) ?_
        refine aw_upR j_70 cm_114 ⟨_, rfl⟩ (by decide) (WA LM0 (by decide) (by decide)) (fun V_71 j_71 k_71 e_71 => ?_)
        have e_72 : V_71 114 = cI D 16 (upd sf say_2 (nI coy_2)) := by rw [e_71, nI_clamp (n := say_2) (by omega)]
        refine aw_aload_n dX12_readsRule_91 rfl ?_
        refine aw_iconst (v := 0) dX12_readsRule_92 (by decide) ?_
        refine aw_put dX12_readsRule_93 fp_X12_186 ((k_71 _ (by decide)).trans e_70) (by omega) rfl rfl (Nat.le_of_ble_eq_true rfl) rfl ?_
        refine aw_upR j_71 cm_100 ⟨_, _, _, _, _, _, _, _, _, _, _, _, tad_2, (pl0_2 + 1), le0_2, nu0_2, coy_2, wag_2, say_2, rfl, by omega, by omega, by omega, by omega, by omega, by omega, by omega⟩ (by decide) (WO (s := 18) (x := .int 0) ((k_71 _ (by decide)).trans e_70) rfl (LMs (LMs LM0)) (by decide) (by decide) (by decide) (Or.inl (by decide))) (fun V_73 j_73 k_73 e_73 => ?_)
        refine aw_aload_n dX12_readsRule_96 rfl ?_
        refine aw_iconst (v := 0) dX12_readsRule_97 (by decide) ?_
        refine aw_put dX12_readsRule_98 fp_X12_189 e_73 (by omega) rfl rfl (Nat.le_of_ble_eq_true rfl) rfl ?_
        refine aw_upR j_73 cm_100 ⟨_, _, _, _, _, _, _, _, _, _, _, _, tad_2, (pl0_2 + 1), le0_2, nu0_2, coy_2, 0, say_2, rfl, by omega, by omega, by omega, by omega, by omega, by omega, by omega⟩ (by decide) (WO (s := 20) (x := .int 0) e_73 rfl (LMs (LMs (LMs LM0))) (by decide) (by decide) (by decide) (Or.inl (by decide))) (fun V_74 j_74 k_74 e_74 => ?_)
        refine aw_iload_n dX12_readsRule_101 rfl ?_
        refine aw_bipush (v := 120) dX12_readsRule_102 (by decide) ?_
        refine aw_icmp_eq (tgt := 116) dX12_readsRule_104 (by decide) (fun c_75 => ?_) (fun c_75 => ?_)
        · exact absurd c_75 (by decide)
        have hP1 := PS.start sd wa (cm := coy_2) (by omega)
        have hz1 := hz0 wa
        refine aw_aload_n dX12_readsRule_107 rfl ?_
        refine aw_callVi (J' := jX12_readsSum) (As := []) (st := []) dX12_readsRule_108 tb_1228 ok_X12_readsSum ⟨_, e_74⟩ (by omega) rfl rfl (r_readsSum3 l D b N V_74 hN cl j_74.1 g sd wa (pl0_2 + 1) ln coy_2 0 coy_2 (fun _ => 0) (upd sl say_2 99) (upd sf say_2 (nI coy_2)) sh st say_2 0 ⟨((k_74 _ (by decide)).trans ((k_73 _ (by decide)).trans ((k_71 _ (by decide)).trans ((k_70 _ (by decide)).trans ((k_68 _ (by decide)).trans xg_r1))))), ((k_74 _ (by decide)).trans ((k_73 _ (by decide)).trans ((k_71 _ (by decide)).trans ((k_70 _ (by decide)).trans ((k_68 _ (by decide)).trans xs_r1))))), ((k_74 _ (by decide)).trans ((k_73 _ (by decide)).trans ((k_71 _ (by decide)).trans ((k_70 _ (by decide)).trans ((k_68 _ (by decide)).trans xw_r1))))), (FG.of e_74 rfl rfl), (FG.of e_74 rfl (by omega : le0_2 = ln)), (FG.of e_74 rfl rfl), (FG.of e_74 rfl rfl), hP1, ⟨by omega, by omega, by omega, by omega⟩, ((k_74 _ (by decide)).trans ((k_73 _ (by decide)).trans ((k_71 _ (by decide)).trans ((k_70 _ (by decide)).trans e_69)))), ((k_74 _ (by decide)).trans ((k_73 _ (by decide)).trans e_72)), ((k_74 _ (by decide)).trans ((k_73 _ (by decide)).trans ((k_71 _ (by decide)).trans ((k_70 _ (by decide)).trans ((k_68 _ (by decide)).trans xd_r1))))), ((k_74 _ (by decide)).trans ((k_73 _ (by decide)).trans ((k_71 _ (by decide)).trans ((k_70 _ (by decide)).trans ((k_68 _ (by decide)).trans xe_r1))))), (FG.of e_74 rfl (by omega : say_2 = say_2)), by omega⟩ [0] (((congrArg (fun z => fI z 18) e_74).trans rfl).trans (congrArg nI rfl)) (by have h9 : 0 = (dpt [0]) := rfl; omega) (Or.inl rfl)) rfl (Nat.le_of_ble_eq_true rfl) ⟨Nat.le_of_ble_eq_true rfl, Nat.le_of_ble_eq_true rfl, Nat.le_of_ble_eq_true rfl, Nat.le_of_ble_eq_true rfl⟩ (fun r_81 N_82 V_80 q_83 => ?_)
        obtain ⟨⟨z_78, h_77⟩, rfl, q_76⟩ := q_83
        have j_79 := JR.trans j_74 (JR.weak q_76 (Sub.cons LM0 (by decide) (by decide) (by decide) (Or.inl rfl) (Sub.cons (LMs (LMs (LMs (LMs LM0)))) (by decide) (by decide) (by decide) (Or.inr ⟨by decide, by decide⟩) (Sub.cons (LMs LM0) (by decide) (by decide) (by decide) (Or.inr ⟨by decide, by decide⟩) (Sub.cons (LMs (LMs (LMs (LMs (LMs LM0))))) (by decide) (by decide) (by decide) (Or.inr ⟨by decide, by decide⟩) (Sub.cons (LMs (LMs (LMs (LMs (LMs (LMs LM0)))))) (by decide) (by decide) (by decide) (Or.inr ⟨by decide, by decide⟩) (Sub.cons (LMs (LMs LM0)) (by decide) (by decide) (by decide) (Or.inr ⟨by decide, by decide⟩) (Sub.cons (LMs (LMs (LMs LM0))) (by decide) (by decide) (by decide) (Or.inr ⟨by decide, by decide⟩) Sub.nil))))))))
        refine aw_if_ne (tgt := 116) dX12_readsRule_111 (by decide) (fun c_84 => ?_) (fun c_84 => ?_)
        · skip
          obtain ⟨sd_y85, wa_y85, pl_y85, cm_y85, wt_y85, dp_y85, hX_y85, sw_y85, sa_y85, ss_y85, sd9_y85, sp_y85, oo_y85, sr_y85, so_y85⟩ := ((h_77.imp And.left And.right).resolve_left c_84)
          obtain ⟨xg_x86, xs_x86, xw_x86, xp_x86, xl_x86, xc_x86, xt_x86, hP_x86, ⟨hB1_x86, hB2_x86, hB3_x86, hB4_x86⟩, xa_x86, xb_x86, xd_x86, xe_x86, xm_x86, hB5_x86⟩ := hX_y85
          obtain ⟨ftoldPeople_87, ftoldDoors_87, fwasDoors_87, ffault_87, fopen_87, flines_87, fmeantSet_87, fopenedNow_87, fvainNow_87, flowNow_87, fhighNow_87, fisKept_87, tad_87, pl0_87, le0_87, nu0_87, coy_87, wag_87, say_87, e_87, hntad_87, hnpl0_87, hnle0_87, hnnu0_87, hncoy_87, hnwag_87, hnsay_87⟩ := JR.get j_79 cm_100
          have sb_x86pl := FG.eq xp_x86 e_87 rfl (by omega) (by omega)
          subst sb_x86pl
          have sb_x86cm := FG.eq xc_x86 e_87 rfl (by omega) (by omega)
          subst sb_x86cm
          have sb_x86wt := FG.eq xt_x86 e_87 rfl (by omega) (by omega)
          subst sb_x86wt
          have sb_x86ln := FG.eq xl_x86 e_87 rfl (by omega) (by omega)
          have hsg_x86 := hP_x86.2.1
          have sb_x86sm := FG.eq xm_x86 e_87 rfl (by omega) (by omega)
          have hof_88 : fopen_87 = nI (dpt [0]) := ((congrArg (fun z => fI z 18) e_87).trans rfl).symm.trans oo_y85
          subst hof_88
          have hSeg1 : SegOK sd_y85 coy_2 coy_87 := PS.done (wa := wa_y85) (dep := dp_y85) (sw_y85 ▸ hP_x86)
          refine aw_aload_n dX12_readsRule_116 rfl ?_
          refine aw_get dX12_readsRule_117 fl_X12_53 e_87 (by omega) rfl ?_
          refine aw_aload_n dX12_readsRule_120 rfl ?_
          refine aw_get dX12_readsRule_121 fl_X12_236 e_87 (by omega) rfl ?_
          refine aw_aload_n dX12_readsRule_124 rfl ?_
          refine aw_get dX12_readsRule_125 fl_X12_182 e_87 (by omega) rfl ?_
          refine aw_iast dX12_readsRule_128 xd_x86 (by omega) (vp_in_nI (n := say_87) (by omega) (by omega)) ?_
          refine aw_upR j_79 cm_115 ⟨_, rfl⟩ (by decide) (WA LM0 (by decide) (by decide)) (fun V_89 j_89 k_89 e_89 => ?_)
          have e_90 : V_89 115 = cI D 16 (upd sh say_87 (nI coy_87)) := by rw [e_89, nI_clamp (n := say_87) (by omega)]
          have hP3 := PS.start sd_y85 wa_y85 (cm := coy_87) (by omega)
          have hP2 : PS sd_y85 wa_y85 coy_87 coy_87 wag_87 (fun _ => 0) := by rw [sw_y85]; exact hP3
          refine aw_aload_n dX12_readsRule_129 rfl ?_
          refine aw_callVi (J' := jX12_readsCondition) (As := []) (st := []) dX12_readsRule_130 tb_1271 ok_X12_readsCondition ⟨_, ((k_89 _ (by decide)).trans e_87)⟩ (by omega) rfl rfl (r_readsCondition3 l D b N V_89 hN cl j_89.1 g sd_y85 wa_y85 pl0_87 ln coy_87 wag_87 coy_87 (fun _ => 0) (upd sl say_2 99) (upd sf say_2 (nI coy_2)) (upd sh say_87 (nI coy_87)) st say_2 0 ⟨((k_89 _ (by decide)).trans xg_x86), ((k_89 _ (by decide)).trans xs_x86), ((k_89 _ (by decide)).trans xw_x86), (FG.of ((k_89 _ (by decide)).trans e_87) rfl rfl), (FG.of ((k_89 _ (by decide)).trans e_87) rfl (by omega : le0_87 = ln)), (FG.of ((k_89 _ (by decide)).trans e_87) rfl rfl), (FG.of ((k_89 _ (by decide)).trans e_87) rfl rfl), hP2, ⟨by omega, by omega, by omega, by omega⟩, ((k_89 _ (by decide)).trans xa_x86), ((k_89 _ (by decide)).trans xb_x86), e_90, ((k_89 _ (by decide)).trans xe_x86), (FG.of ((k_89 _ (by decide)).trans e_87) rfl (by omega : say_87 = say_2)), by omega⟩  (((congrArg (fun z => fI z 18) ((k_89 _ (by decide)).trans e_87)).trans rfl).trans (congrArg nI rfl)) (by have h9 : (dpt [0]) = 0 := rfl; omega) (by omega) (by omega)) rfl (Nat.le_of_ble_eq_true rfl) ⟨Nat.le_of_ble_eq_true rfl, Nat.le_of_ble_eq_true rfl, Nat.le_of_ble_eq_true rfl, Nat.le_of_ble_eq_true rfl⟩ (fun r_96 N_97 V_95 q_98 => ?_)
          obtain ⟨⟨z_93, h_92⟩, rfl, q_91⟩ := q_98
          have j_94 := JR.trans j_89 (JR.weak q_91 (Sub.cons LM0 (by decide) (by decide) (by decide) (Or.inl rfl) (Sub.cons (LMs (LMs LM0)) (by decide) (by decide) (by decide) (Or.inr ⟨by decide, by decide⟩) (Sub.cons (LMs (LMs (LMs LM0))) (by decide) (by decide) (by decide) (Or.inr ⟨by decide, by decide⟩) (Sub.cons (LMs LM0) (by decide) (by decide) (by decide) (Or.inr ⟨by decide, by decide⟩) (Sub.cons (LMs (LMs (LMs (LMs (LMs LM0))))) (by decide) (by decide) (by decide) (Or.inr ⟨by decide, by decide⟩) (Sub.cons (LMs (LMs (LMs (LMs LM0)))) (by decide) (by decide) (by decide) (Or.inr ⟨by decide, by decide⟩) (Sub.cons (LMs (LMs (LMs (LMs (LMs (LMs LM0)))))) (by decide) (by decide) (by decide) (Or.inr ⟨by decide, by decide⟩) Sub.nil))))))))
          refine aw_if_ne (tgt := 138) dX12_readsRule_133 (by decide) (fun c_99 => ?_) (fun c_99 => ?_)
          · skip
            obtain ⟨sd_y100, wa_y100, pl_y100, cm_y100, wt_y100, dp_y100, hX_y100, nw_y100, ns_y100, nd_y100, np_y100, nr_y100⟩ := ((h_92.imp And.left And.right).resolve_left c_99)
            obtain ⟨xg_x101, xs_x101, xw_x101, xp_x101, xl_x101, xc_x101, xt_x101, hP_x101, ⟨hB1_x101, hB2_x101, hB3_x101, hB4_x101⟩, xa_x101, xb_x101, xd_x101, xe_x101, xm_x101, hB5_x101⟩ := hX_y100
            obtain ⟨ftoldPeople_102, ftoldDoors_102, fwasDoors_102, ffault_102, fopen_102, flines_102, fmeantSet_102, fopenedNow_102, fvainNow_102, flowNow_102, fhighNow_102, fisKept_102, tad_102, pl0_102, le0_102, nu0_102, coy_102, wag_102, say_102, e_102, hntad_102, hnpl0_102, hnle0_102, hnnu0_102, hncoy_102, hnwag_102, hnsay_102⟩ := JR.get j_94 cm_100
            clear hntad_87 hnpl0_87 hnle0_87 hnnu0_87 hncoy_87 hnwag_87 hnsay_87
            have sb_x101pl := FG.eq xp_x101 e_102 rfl (by omega) (by omega)
            subst sb_x101pl
            have sb_x101cm := FG.eq xc_x101 e_102 rfl (by omega) (by omega)
            subst sb_x101cm
            have sb_x101wt := FG.eq xt_x101 e_102 rfl (by omega) (by omega)
            subst sb_x101wt
            have sb_x101ln := FG.eq xl_x101 e_102 rfl (by omega) (by omega)
            have hsg_x101 := hP_x101.2.1
            have sb_x101sm := FG.eq xm_x101 e_102 rfl (by omega) (by omega)
            refine aw_aload_n dX12_readsRule_138 rfl ?_
            refine aw_get dX12_readsRule_139 fl_X12_56 e_102 (by omega) rfl ?_
            refine aw_aload_n dX12_readsRule_142 rfl ?_
            refine aw_get dX12_readsRule_143 fl_X12_236 e_102 (by omega) rfl ?_
            refine aw_aload_n dX12_readsRule_146 rfl ?_
            refine aw_get dX12_readsRule_147 fl_X12_182 e_102 (by omega) rfl ?_
            refine aw_iast dX12_readsRule_150 xe_x101 (by omega) (vp_in_nI (n := say_102) (by omega) (by omega)) ?_
            refine aw_upR j_94 cm_116 ⟨_, rfl⟩ (by decide) (WA LM0 (by decide) (by decide)) (fun V_103 j_103 k_103 e_103 => ?_)
            have e_104 : V_103 116 = cI D 16 (upd st say_102 (nI coy_102)) := by rw [e_103, nI_clamp (n := say_102) (by omega)]
            refine aw_aload_n dX12_readsRule_151 rfl ?_
            refine aw_aload_n dX12_readsRule_152 rfl ?_
            refine aw_get dX12_readsRule_153 fl_X12_236 ((k_103 _ (by decide)).trans e_102) (by omega) rfl ?_
            refine aw_iconst (v := 1) dX12_readsRule_156 (by decide) ?_
            refine aw_iadd dX12_readsRule_157 ?_
            refine aw_eqi (y := nI (say_102 + 1)) (nI_add _ _) ?_
            refine aw_put dX12_readsRule_158 fp_X12_236 ((k_103 _ (by decide)).trans e_102) (by omega) rfl rfl (Nat.le_of_ble_eq_true rfl) rfl ?_
            refine aw_upR j_103 cm_100 ⟨_, _, _, _, _, _, _, _, _, _, _, _, tad_102, pl0_102, le0_102, nu0_102, coy_102, wag_102, (say_102 + 1), rfl, by omega, by omega, by omega, by omega, by omega, by omega, by omega⟩ (by decide) (WO (s := 21) (x := .int (nI (say_102 + 1))) ((k_103 _ (by decide)).trans e_102) rfl (LMs (LMs (LMs (LMs (LMs (LMs (LMs LM0))))))) (by decide) (by decide) (by decide) (Or.inl (by decide))) (fun V_105 j_105 k_105 e_105 => ?_)
            refine aw_iconst (v := 1) dX12_readsRule_161 (by decide) ?_
            have hSeg2 : SegOK sd_y100 coy_87 coy_102 := PS.done (wa := wa_y100) (dep := dp_y100) (nw_y100 ▸ hP_x101)
            refine aw_zreti dX12_readsRule_162 rfl (by first | exact Or.inl rfl | exact Or.inr rfl | assumption) (Nat.le_of_ble_eq_true rfl) (Nat.le_of_ble_eq_true rfl) ?_
            exact ⟨⟨(by first | exact Or.inl rfl | exact Or.inr rfl | assumption), Or.inr ⟨rfl, hst9, by omega, sd_y100, wa_y100, pl0_102, coy_102, (upd sl say_2 99), (upd sf say_2 (nI coy_2)), (upd sh say_87 (nI coy_87)), (upd st say_102 (nI coy_102)), ⟨((k_105 _ (by decide)).trans ((k_103 _ (by decide)).trans xg_x101)), ((k_105 _ (by decide)).trans ((k_103 _ (by decide)).trans xs_x101)), ((k_105 _ (by decide)).trans ((k_103 _ (by decide)).trans xw_x101)), ((k_105 _ (by decide)).trans ((k_103 _ (by decide)).trans xa_x101)), ((k_105 _ (by decide)).trans ((k_103 _ (by decide)).trans xb_x101)), ((k_105 _ (by decide)).trans ((k_103 _ (by decide)).trans xd_x101)), ((k_105 _ (by decide)).trans e_104), (FG.of e_105 rfl rfl), (FG.of e_105 rfl (by omega : le0_102 = ln)), (FG.of e_105 rfl rfl), (FG.of e_105 rfl (by omega : (say_102 + 1) = say_2 + 1)), ⟨by omega, by omega, by omega, by omega⟩, (RI.step hR_r1 (fun k hk => (ns_y100 k (by omega)).trans (ss_y85 k hk)) (by omega) (by omega) (hSeg1.congr ns_y100) hSeg2 (by omega) (by omega) (by omega))⟩, by omega, lnL_of (by rw [(sta_n (by rw [hsg9]; decide))]; exact sr_y85 _ (O_e so_y85 (nr_y100)))⟩⟩, rfl, j_105⟩
          · skip
            refine aw_iconst (v := 0) dX12_readsRule_136 (by decide) ?_
            refine aw_zreti dX12_readsRule_137 rfl (by first | exact Or.inl rfl | exact Or.inr rfl | assumption) (Nat.le_of_ble_eq_true rfl) (Nat.le_of_ble_eq_true rfl) ?_
            exact ⟨⟨(by first | exact Or.inl rfl | exact Or.inr rfl | assumption), Or.inl ⟨rfl, (Exists.imp (fun f z => ⟨z.1, tx_bad hst9 (lnL_of (by rw [(sta_n (by rw [hsg9]; decide))]; exact sr_y85 _ (O_e so_y85 (z.2)))) (by omega)⟩) ((h_92.resolve_right (fun z => absurd (z.1.symm.trans c_99) (by decide))).2))⟩⟩, rfl, j_94⟩
        · skip
          refine aw_iconst (v := 0) dX12_readsRule_114 (by decide) ?_
          refine aw_zreti dX12_readsRule_115 rfl (by first | exact Or.inl rfl | exact Or.inr rfl | assumption) (Nat.le_of_ble_eq_true rfl) (Nat.le_of_ble_eq_true rfl) ?_
          exact ⟨⟨(by first | exact Or.inl rfl | exact Or.inr rfl | assumption), Or.inl ⟨rfl, (Exists.imp (fun f z => ⟨z.1, tx_bad hst9 (lnL_of (by rw [(sta_n (by rw [hsg9]; decide))]; exact z.2)) (by omega)⟩) ((h_77.resolve_right (fun z => absurd (z.1.symm.trans c_84) (by decide))).2))⟩⟩, rfl, j_79⟩
      · skip
        have nc_67 : say_2 = 16 := (nI_eq (a := say_2) (b := 16) (by omega) (by omega)).mp c_67
        refine aw_aload_n dX12_readsRule_48 rfl ?_
        refine aw_iconst (v := 4) dX12_readsRule_49 (by decide) ?_
        refine aw_aload_n dX12_readsRule_50 rfl ?_
        refine aw_get dX12_readsRule_51 fl_X12_159 e_2 (by omega) rfl ?_
        refine aw_callVi (J' := jX12_wrongAt) (As := [.int 4, .int (nI pl0_2)]) (st := []) dX12_readsRule_54 tb_1224 ok_X12_wrongAt ⟨_, e_2⟩ (by omega) rfl rfl (r_wrongAt3 l D b N V hN cl hJ0.1 4 (nI pl0_2) pl0_2 le0_2 (FG.of e_2 rfl rfl) (FG.of e_2 rfl rfl) ⟨by omega, by omega⟩) rfl (Nat.le_of_ble_eq_true rfl) ⟨Nat.le_of_ble_eq_true rfl, Nat.le_of_ble_eq_true rfl, Nat.le_of_ble_eq_true rfl, Nat.le_of_ble_eq_true rfl⟩ (fun r_120 N_121 V_110 q_122 => ?_)
        obtain ⟨⟨z_108, h_107⟩, rfl, q_106⟩ := q_122
        have j_109 := JR.trans hJ0 (JR.weak q_106 (Sub.cons (LMs (LMs (LMs (LMs (LMs LM0))))) (by decide) (by decide) (by decide) (Or.inr ⟨by decide, by decide⟩) Sub.nil))
        obtain ⟨a_111, ha_112, hA_113, hF_114, hL_115, hz_116, hX_117⟩ := h_107
        obtain ⟨ftoldPeople_k118, ftoldDoors_k118, fwasDoors_k118, ffault_k118, fopen_k118, flines_k118, fmeantSet_k118, fopenedNow_k118, fvainNow_k118, flowNow_k118, fhighNow_k118, fisKept_k118, tad_k118, pl0_k118, le0_k118, nu0_k118, coy_k118, wag_k118, say_k118, e_k118, hntad_k118, hnpl0_k118, hnle0_k118, hnnu0_k118, hncoy_k118, hnwag_k118, hnsay_k118⟩ := JR.get j_109 cm_100
        have hqp_k118 := FG.eq hF_114 e_k118 rfl (by omega) (by omega)
        have hql_k118 := FG.eq hL_115 e_k118 rfl (by omega) (by omega)
        obtain ⟨rfl, hw_119⟩ := hX_117
        refine aw_zreti dX12_readsRule_57 rfl (by first | exact Or.inl rfl | exact Or.inr rfl | assumption) (Nat.le_of_ble_eq_true rfl) (Nat.le_of_ble_eq_true rfl) ?_
        exact ⟨⟨(by first | exact Or.inl rfl | exact Or.inr rfl | assumption), Or.inl ⟨rfl, ⟨_, hw_119, (congrArg (fun q => txL (gb g) ln q pl0_2) (by omega : 16 - say_2 = 0)).trans (tx_many hst9)⟩⟩⟩, rfl, j_109⟩
    · skip
      refine aw_iload_n dX12_readsRule_17 rfl ?_
      refine aw_bipush (v := 115) dX12_readsRule_18 (by decide) ?_
      refine aw_icmp_eq (tgt := 39) dX12_readsRule_20 (by decide) (fun c_123 => ?_) (fun c_123 => ?_)
      · skip
        have hlc_123 := here_lt h_4 c_123 (by decide)
        subst c_123
        have hsg9 : hd (gb g) ln pl0_2 = 115 := (hd_is sb_r1ln rfl h_4 rfl)
        have hst9 : stL (hd (gb g) ln pl0_2) = true := stL_t (Or.inr (Or.inr (Or.inl hsg9)))
        refine aw_aload_n dX12_readsRule_39 rfl ?_
        refine aw_get dX12_readsRule_40 fl_X12_236 e_2 (by omega) rfl ?_
        refine aw_bipush (v := 16) dX12_readsRule_43 (by decide) ?_
        refine aw_icmp_ne (tgt := 58) dX12_readsRule_45 (by decide) (fun c_124 => ?_) (fun c_124 => ?_)
        · skip
          have nc_124 : ¬ (say_2 = 16) := fun z => c_124 ((nI_eq (a := say_2) (b := 16) (by omega) (by omega)).mpr z)
          refine aw_aload_n dX12_readsRule_58 rfl ?_
          refine aw_get dX12_readsRule_59 fl_X12_47 e_2 (by omega) rfl ?_
          refine aw_aload_n dX12_readsRule_62 rfl ?_
          refine aw_get dX12_readsRule_63 fl_X12_236 e_2 (by omega) rfl ?_
          refine aw_iload_n dX12_readsRule_66 rfl ?_
          refine aw_iast dX12_readsRule_67 xa_r1 (by omega) (vp_in_nI (n := say_2) (by omega) (by omega)) ?_
          refine aw_upR hJ0 cm_113 ⟨_, rfl⟩ (by decide) (WA LM0 (by decide) (by decide)) (fun V_125 j_125 k_125 e_125 => ?_)
          have e_126 : V_125 113 = cI D 16 (upd sl say_2 115) := by rw [e_125, nI_clamp (n := say_2) (by omega)]
          refine aw_aload_n dX12_readsRule_68 rfl ?_
          refine aw_aload_n dX12_readsRule_69 rfl ?_
          refine aw_get dX12_readsRule_70 fl_X12_159 ((k_125 _ (by decide)).trans e_2) (by omega) rfl ?_
          refine aw_iconst (v := 1) dX12_readsRule_73 (by decide) ?_
          refine aw_iadd dX12_readsRule_74 ?_
          refine aw_eqi (y := nI (pl0_2 + 1)) (nI_add _ _) ?_
          refine aw_put dX12_readsRule_75 fp_X12_159 ((k_125 _ (by decide)).trans e_2) (by omega) rfl rfl (Nat.le_of_ble_eq_true rfl) rfl ?_
          refine aw_upR j_125 cm_100 ⟨_, _, _, _, _, _, _, _, _, _, _, _, tad_2, (pl0_2 + 1), le0_2, nu0_2, coy_2, wag_2, say_2, rfl, by omega, by omega, by omega, by omega, by omega, by omega, by omega⟩ (by decide) (WO (s := 14) (x := .int (nI (pl0_2 + 1))) ((k_125 _ (by decide)).trans e_2) rfl (LMs LM0) (by decide) (by decide) (by decide) (Or.inl (by decide))) (fun V_127 j_127 k_127 e_127 => ?_)
          refine aw_aload_n dX12_readsRule_78 rfl ?_
          refine aw_get dX12_readsRule_79 fl_X12_50 e_127 (by omega) rfl ?_
          refine aw_aload_n dX12_readsRule_82 rfl ?_
          refine aw_get dX12_readsRule_83 fl_X12_236 e_127 (by omega) rfl ?_
          refine aw_aload_n dX12_readsRule_86 rfl ?_
          refine aw_get dX12_readsRule_87 fl_X12_182 e_127 (by omega) rfl ?_
          refine aw_iast dX12_readsRule_90 ((k_127 _ (by decide)).trans ((k_125 _ (by decide)).trans xb_r1)) (by omega) (vp_in_nI (n := say_2) (by omega) (by omega)) ?_
          refine aw_upR j_127 cm_114 ⟨_, rfl⟩ (by decide) (WA LM0 (by decide) (by decide)) (fun V_128 j_128 k_128 e_128 => ?_)
          have e_129 : V_128 114 = cI D 16 (upd sf say_2 (nI coy_2)) := by rw [e_128, nI_clamp (n := say_2) (by omega)]
          refine aw_aload_n dX12_readsRule_91 rfl ?_
          refine aw_iconst (v := 0) dX12_readsRule_92 (by decide) ?_
          refine aw_put dX12_readsRule_93 fp_X12_186 ((k_128 _ (by decide)).trans e_127) (by omega) rfl rfl (Nat.le_of_ble_eq_true rfl) rfl ?_
          refine aw_upR j_128 cm_100 ⟨_, _, _, _, _, _, _, _, _, _, _, _, tad_2, (pl0_2 + 1), le0_2, nu0_2, coy_2, wag_2, say_2, rfl, by omega, by omega, by omega, by omega, by omega, by omega, by omega⟩ (by decide) (WO (s := 18) (x := .int 0) ((k_128 _ (by decide)).trans e_127) rfl (LMs (LMs LM0)) (by decide) (by decide) (by decide) (Or.inl (by decide))) (fun V_130 j_130 k_130 e_130 => ?_)
          refine aw_aload_n dX12_readsRule_96 rfl ?_
          refine aw_iconst (v := 0) dX12_readsRule_97 (by decide) ?_
          refine aw_put dX12_readsRule_98 fp_X12_189 e_130 (by omega) rfl rfl (Nat.le_of_ble_eq_true rfl) rfl ?_
          refine aw_upR j_130 cm_100 ⟨_, _, _, _, _, _, _, _, _, _, _, _, tad_2, (pl0_2 + 1), le0_2, nu0_2, coy_2, 0, say_2, rfl, by omega, by omega, by omega, by omega, by omega, by omega, by omega⟩ (by decide) (WO (s := 20) (x := .int 0) e_130 rfl (LMs (LMs (LMs LM0))) (by decide) (by decide) (by decide) (Or.inl (by decide))) (fun V_131 j_131 k_131 e_131 => ?_)
          refine aw_iload_n dX12_readsRule_101 rfl ?_
          refine aw_bipush (v := 120) dX12_readsRule_102 (by decide) ?_
          refine aw_icmp_eq (tgt := 116) dX12_readsRule_104 (by decide) (fun c_132 => ?_) (fun c_132 => ?_)
          · exact absurd c_132 (by decide)
          have hP1 := PS.start sd wa (cm := coy_2) (by omega)
          have hz1 := hz0 wa
          refine aw_aload_n dX12_readsRule_107 rfl ?_
          refine aw_callVi (J' := jX12_readsSum) (As := []) (st := []) dX12_readsRule_108 tb_1228 ok_X12_readsSum ⟨_, e_131⟩ (by omega) rfl rfl (r_readsSum3 l D b N V_131 hN cl j_131.1 g sd wa (pl0_2 + 1) ln coy_2 0 coy_2 (fun _ => 0) (upd sl say_2 115) (upd sf say_2 (nI coy_2)) sh st say_2 0 ⟨((k_131 _ (by decide)).trans ((k_130 _ (by decide)).trans ((k_128 _ (by decide)).trans ((k_127 _ (by decide)).trans ((k_125 _ (by decide)).trans xg_r1))))), ((k_131 _ (by decide)).trans ((k_130 _ (by decide)).trans ((k_128 _ (by decide)).trans ((k_127 _ (by decide)).trans ((k_125 _ (by decide)).trans xs_r1))))), ((k_131 _ (by decide)).trans ((k_130 _ (by decide)).trans ((k_128 _ (by decide)).trans ((k_127 _ (by decide)).trans ((k_125 _ (by decide)).trans xw_r1))))), (FG.of e_131 rfl rfl), (FG.of e_131 rfl (by omega : le0_2 = ln)), (FG.of e_131 rfl rfl), (FG.of e_131 rfl rfl), hP1, ⟨by omega, by omega, by omega, by omega⟩, ((k_131 _ (by decide)).trans ((k_130 _ (by decide)).trans ((k_128 _ (by decide)).trans ((k_127 _ (by decide)).trans e_126)))), ((k_131 _ (by decide)).trans ((k_130 _ (by decide)).trans e_129)), ((k_131 _ (by decide)).trans ((k_130 _ (by decide)).trans ((k_128 _ (by decide)).trans ((k_127 _ (by decide)).trans ((k_125 _ (by decide)).trans xd_r1))))), ((k_131 _ (by decide)).trans ((k_130 _ (by decide)).trans ((k_128 _ (by decide)).trans ((k_127 _ (by decide)).trans ((k_125 _ (by decide)).trans xe_r1))))), (FG.of e_131 rfl (by omega : say_2 = say_2)), by omega⟩ [0] (((congrArg (fun z => fI z 18) e_131).trans rfl).trans (congrArg nI rfl)) (by have h9 : 0 = (dpt [0]) := rfl; omega) (Or.inl rfl)) rfl (Nat.le_of_ble_eq_true rfl) ⟨Nat.le_of_ble_eq_true rfl, Nat.le_of_ble_eq_true rfl, Nat.le_of_ble_eq_true rfl, Nat.le_of_ble_eq_true rfl⟩ (fun r_138 N_139 V_137 q_140 => ?_)
          obtain ⟨⟨z_135, h_134⟩, rfl, q_133⟩ := q_140
          have j_136 := JR.trans j_131 (JR.weak q_133 (Sub.cons LM0 (by decide) (by decide) (by decide) (Or.inl rfl) (Sub.cons (LMs (LMs (LMs (LMs LM0)))) (by decide) (by decide) (by decide) (Or.inr ⟨by decide, by decide⟩) (Sub.cons (LMs LM0) (by decide) (by decide) (by decide) (Or.inr ⟨by decide, by decide⟩) (Sub.cons (LMs (LMs (LMs (LMs (LMs LM0))))) (by decide) (by decide) (by decide) (Or.inr ⟨by decide, by decide⟩) (Sub.cons (LMs (LMs (LMs (LMs (LMs (LMs LM0)))))) (by decide) (by decide) (by decide) (Or.inr ⟨by decide, by decide⟩) (Sub.cons (LMs (LMs LM0)) (by decide) (by decide) (by decide) (Or.inr ⟨by decide, by decide⟩) (Sub.cons (LMs (LMs (LMs LM0))) (by decide) (by decide) (by decide) (Or.inr ⟨by decide, by decide⟩) Sub.nil))))))))
          refine aw_if_ne (tgt := 116) dX12_readsRule_111 (by decide) (fun c_141 => ?_) (fun c_141 => ?_)
          · skip
            obtain ⟨sd_y142, wa_y142, pl_y142, cm_y142, wt_y142, dp_y142, hX_y142, sw_y142, sa_y142, ss_y142, sd9_y142, sp_y142, oo_y142, sr_y142, so_y142⟩ := ((h_134.imp And.left And.right).resolve_left c_141)
            obtain ⟨xg_x143, xs_x143, xw_x143, xp_x143, xl_x143, xc_x143, xt_x143, hP_x143, ⟨hB1_x143, hB2_x143, hB3_x143, hB4_x143⟩, xa_x143, xb_x143, xd_x143, xe_x143, xm_x143, hB5_x143⟩ := hX_y142
            obtain ⟨ftoldPeople_144, ftoldDoors_144, fwasDoors_144, ffault_144, fopen_144, flines_144, fmeantSet_144, fopenedNow_144, fvainNow_144, flowNow_144, fhighNow_144, fisKept_144, tad_144, pl0_144, le0_144, nu0_144, coy_144, wag_144, say_144, e_144, hntad_144, hnpl0_144, hnle0_144, hnnu0_144, hncoy_144, hnwag_144, hnsay_144⟩ := JR.get j_136 cm_100
            have sb_x143pl := FG.eq xp_x143 e_144 rfl (by omega) (by omega)
            subst sb_x143pl
            have sb_x143cm := FG.eq xc_x143 e_144 rfl (by omega) (by omega)
            subst sb_x143cm
            have sb_x143wt := FG.eq xt_x143 e_144 rfl (by omega) (by omega)
            subst sb_x143wt
            have sb_x143ln := FG.eq xl_x143 e_144 rfl (by omega) (by omega)
            have hsg_x143 := hP_x143.2.1
            have sb_x143sm := FG.eq xm_x143 e_144 rfl (by omega) (by omega)
            have hof_145 : fopen_144 = nI (dpt [0]) := ((congrArg (fun z => fI z 18) e_144).trans rfl).symm.trans oo_y142
            subst hof_145
            have hSeg1 : SegOK sd_y142 coy_2 coy_144 := PS.done (wa := wa_y142) (dep := dp_y142) (sw_y142 ▸ hP_x143)
            refine aw_aload_n dX12_readsRule_116 rfl ?_
            refine aw_get dX12_readsRule_117 fl_X12_53 e_144 (by omega) rfl ?_
            refine aw_aload_n dX12_readsRule_120 rfl ?_
            refine aw_get dX12_readsRule_121 fl_X12_236 e_144 (by omega) rfl ?_
            refine aw_aload_n dX12_readsRule_124 rfl ?_
            refine aw_get dX12_readsRule_125 fl_X12_182 e_144 (by omega) rfl ?_
            refine aw_iast dX12_readsRule_128 xd_x143 (by omega) (vp_in_nI (n := say_144) (by omega) (by omega)) ?_
            refine aw_upR j_136 cm_115 ⟨_, rfl⟩ (by decide) (WA LM0 (by decide) (by decide)) (fun V_146 j_146 k_146 e_146 => ?_)
            have e_147 : V_146 115 = cI D 16 (upd sh say_144 (nI coy_144)) := by rw [e_146, nI_clamp (n := say_144) (by omega)]
            have hP3 := PS.start sd_y142 wa_y142 (cm := coy_144) (by omega)
            have hP2 : PS sd_y142 wa_y142 coy_144 coy_144 wag_144 (fun _ => 0) := by rw [sw_y142]; exact hP3
            refine aw_aload_n dX12_readsRule_129 rfl ?_
            refine aw_callVi (J' := jX12_readsCondition) (As := []) (st := []) dX12_readsRule_130 tb_1271 ok_X12_readsCondition ⟨_, ((k_146 _ (by decide)).trans e_144)⟩ (by omega) rfl rfl (r_readsCondition3 l D b N V_146 hN cl j_146.1 g sd_y142 wa_y142 pl0_144 ln coy_144 wag_144 coy_144 (fun _ => 0) (upd sl say_2 115) (upd sf say_2 (nI coy_2)) (upd sh say_144 (nI coy_144)) st say_2 0 ⟨((k_146 _ (by decide)).trans xg_x143), ((k_146 _ (by decide)).trans xs_x143), ((k_146 _ (by decide)).trans xw_x143), (FG.of ((k_146 _ (by decide)).trans e_144) rfl rfl), (FG.of ((k_146 _ (by decide)).trans e_144) rfl (by omega : le0_144 = ln)), (FG.of ((k_146 _ (by decide)).trans e_144) rfl rfl), (FG.of ((k_146 _ (by decide)).trans e_144) rfl rfl), hP2, ⟨by omega, by omega, by omega, by omega⟩, ((k_146 _ (by decide)).trans xa_x143), ((k_146 _ (by decide)).trans xb_x143), e_147, ((k_146 _ (by decide)).trans xe_x143), (FG.of ((k_146 _ (by decide)).trans e_144) rfl (by omega : say_144 = say_2)), by omega⟩  (((congrArg (fun z => fI z 18) ((k_146 _ (by decide)).trans e_144)).trans rfl).trans (congrArg nI rfl)) (by have h9 : (dpt [0]) = 0 := rfl; omega) (by omega) (by omega)) rfl (Nat.le_of_ble_eq_true rfl) ⟨Nat.le_of_ble_eq_true rfl, Nat.le_of_ble_eq_true rfl, Nat.le_of_ble_eq_true rfl, Nat.le_of_ble_eq_true rfl⟩ (fun r_153 N_154 V_152 q_155 => ?_)
            obtain ⟨⟨z_150, h_149⟩, rfl, q_148⟩ := q_155
            have j_151 := JR.trans j_146 (JR.weak q_148 (Sub.cons LM0 (by decide) (by decide) (by decide) (Or.inl rfl) (Sub.cons (LMs (LMs LM0)) (by decide) (by decide) (by decide) (Or.inr ⟨by decide, by decide⟩) (Sub.cons (LMs (LMs (LMs LM0))) (by decide) (by decide) (by decide) (Or.inr ⟨by decide, by decide⟩) (Sub.cons (LMs LM0) (by decide) (by decide) (by decide) (Or.inr ⟨by decide, by decide⟩) (Sub.cons (LMs (LMs (LMs (LMs (LMs LM0))))) (by decide) (by decide) (by decide) (Or.inr ⟨by decide, by decide⟩) (Sub.cons (LMs (LMs (LMs (LMs LM0)))) (by decide) (by decide) (by decide) (Or.inr ⟨by decide, by decide⟩) (Sub.cons (LMs (LMs (LMs (LMs (LMs (LMs LM0)))))) (by decide) (by decide) (by decide) (Or.inr ⟨by decide, by decide⟩) Sub.nil))))))))
            refine aw_if_ne (tgt := 138) dX12_readsRule_133 (by decide) (fun c_156 => ?_) (fun c_156 => ?_)
            · skip
              obtain ⟨sd_y157, wa_y157, pl_y157, cm_y157, wt_y157, dp_y157, hX_y157, nw_y157, ns_y157, nd_y157, np_y157, nr_y157⟩ := ((h_149.imp And.left And.right).resolve_left c_156)
              obtain ⟨xg_x158, xs_x158, xw_x158, xp_x158, xl_x158, xc_x158, xt_x158, hP_x158, ⟨hB1_x158, hB2_x158, hB3_x158, hB4_x158⟩, xa_x158, xb_x158, xd_x158, xe_x158, xm_x158, hB5_x158⟩ := hX_y157
              obtain ⟨ftoldPeople_159, ftoldDoors_159, fwasDoors_159, ffault_159, fopen_159, flines_159, fmeantSet_159, fopenedNow_159, fvainNow_159, flowNow_159, fhighNow_159, fisKept_159, tad_159, pl0_159, le0_159, nu0_159, coy_159, wag_159, say_159, e_159, hntad_159, hnpl0_159, hnle0_159, hnnu0_159, hncoy_159, hnwag_159, hnsay_159⟩ := JR.get j_151 cm_100
              clear hntad_144 hnpl0_144 hnle0_144 hnnu0_144 hncoy_144 hnwag_144 hnsay_144
              have sb_x158pl := FG.eq xp_x158 e_159 rfl (by omega) (by omega)
              subst sb_x158pl
              have sb_x158cm := FG.eq xc_x158 e_159 rfl (by omega) (by omega)
              subst sb_x158cm
              have sb_x158wt := FG.eq xt_x158 e_159 rfl (by omega) (by omega)
              subst sb_x158wt
              have sb_x158ln := FG.eq xl_x158 e_159 rfl (by omega) (by omega)
              have hsg_x158 := hP_x158.2.1
              have sb_x158sm := FG.eq xm_x158 e_159 rfl (by omega) (by omega)
              refine aw_aload_n dX12_readsRule_138 rfl ?_
              refine aw_get dX12_readsRule_139 fl_X12_56 e_159 (by omega) rfl ?_
              refine aw_aload_n dX12_readsRule_142 rfl ?_
              refine aw_get dX12_readsRule_143 fl_X12_236 e_159 (by omega) rfl ?_
              refine aw_aload_n dX12_readsRule_146 rfl ?_
              refine aw_get dX12_readsRule_147 fl_X12_182 e_159 (by omega) rfl ?_
              refine aw_iast dX12_readsRule_150 xe_x158 (by omega) (vp_in_nI (n := say_159) (by omega) (by omega)) ?_
              refine aw_upR j_151 cm_116 ⟨_, rfl⟩ (by decide) (WA LM0 (by decide) (by decide)) (fun V_160 j_160 k_160 e_160 => ?_)
              have e_161 : V_160 116 = cI D 16 (upd st say_159 (nI coy_159)) := by rw [e_160, nI_clamp (n := say_159) (by omega)]
              refine aw_aload_n dX12_readsRule_151 rfl ?_
              refine aw_aload_n dX12_readsRule_152 rfl ?_
              refine aw_get dX12_readsRule_153 fl_X12_236 ((k_160 _ (by decide)).trans e_159) (by omega) rfl ?_
              refine aw_iconst (v := 1) dX12_readsRule_156 (by decide) ?_
              refine aw_iadd dX12_readsRule_157 ?_
              refine aw_eqi (y := nI (say_159 + 1)) (nI_add _ _) ?_
              refine aw_put dX12_readsRule_158 fp_X12_236 ((k_160 _ (by decide)).trans e_159) (by omega) rfl rfl (Nat.le_of_ble_eq_true rfl) rfl ?_
              refine aw_upR j_160 cm_100 ⟨_, _, _, _, _, _, _, _, _, _, _, _, tad_159, pl0_159, le0_159, nu0_159, coy_159, wag_159, (say_159 + 1), rfl, by omega, by omega, by omega, by omega, by omega, by omega, by omega⟩ (by decide) (WO (s := 21) (x := .int (nI (say_159 + 1))) ((k_160 _ (by decide)).trans e_159) rfl (LMs (LMs (LMs (LMs (LMs (LMs (LMs LM0))))))) (by decide) (by decide) (by decide) (Or.inl (by decide))) (fun V_162 j_162 k_162 e_162 => ?_)
              refine aw_iconst (v := 1) dX12_readsRule_161 (by decide) ?_
              have hSeg2 : SegOK sd_y157 coy_144 coy_159 := PS.done (wa := wa_y157) (dep := dp_y157) (nw_y157 ▸ hP_x158)
              refine aw_zreti dX12_readsRule_162 rfl (by first | exact Or.inl rfl | exact Or.inr rfl | assumption) (Nat.le_of_ble_eq_true rfl) (Nat.le_of_ble_eq_true rfl) ?_
              exact ⟨⟨(by first | exact Or.inl rfl | exact Or.inr rfl | assumption), Or.inr ⟨rfl, hst9, by omega, sd_y157, wa_y157, pl0_159, coy_159, (upd sl say_2 115), (upd sf say_2 (nI coy_2)), (upd sh say_144 (nI coy_144)), (upd st say_159 (nI coy_159)), ⟨((k_162 _ (by decide)).trans ((k_160 _ (by decide)).trans xg_x158)), ((k_162 _ (by decide)).trans ((k_160 _ (by decide)).trans xs_x158)), ((k_162 _ (by decide)).trans ((k_160 _ (by decide)).trans xw_x158)), ((k_162 _ (by decide)).trans ((k_160 _ (by decide)).trans xa_x158)), ((k_162 _ (by decide)).trans ((k_160 _ (by decide)).trans xb_x158)), ((k_162 _ (by decide)).trans ((k_160 _ (by decide)).trans xd_x158)), ((k_162 _ (by decide)).trans e_161), (FG.of e_162 rfl rfl), (FG.of e_162 rfl (by omega : le0_159 = ln)), (FG.of e_162 rfl rfl), (FG.of e_162 rfl (by omega : (say_159 + 1) = say_2 + 1)), ⟨by omega, by omega, by omega, by omega⟩, (RI.step hR_r1 (fun k hk => (ns_y157 k (by omega)).trans (ss_y142 k hk)) (by omega) (by omega) (hSeg1.congr ns_y157) hSeg2 (by omega) (by omega) (by omega))⟩, by omega, lnL_of (by rw [(sta_n (by rw [hsg9]; decide))]; exact sr_y142 _ (O_e so_y142 (nr_y157)))⟩⟩, rfl, j_162⟩
            · skip
              refine aw_iconst (v := 0) dX12_readsRule_136 (by decide) ?_
              refine aw_zreti dX12_readsRule_137 rfl (by first | exact Or.inl rfl | exact Or.inr rfl | assumption) (Nat.le_of_ble_eq_true rfl) (Nat.le_of_ble_eq_true rfl) ?_
              exact ⟨⟨(by first | exact Or.inl rfl | exact Or.inr rfl | assumption), Or.inl ⟨rfl, (Exists.imp (fun f z => ⟨z.1, tx_bad hst9 (lnL_of (by rw [(sta_n (by rw [hsg9]; decide))]; exact sr_y142 _ (O_e so_y142 (z.2)))) (by omega)⟩) ((h_149.resolve_right (fun z => absurd (z.1.symm.trans c_156) (by decide))).2))⟩⟩, rfl, j_151⟩
          · skip
            refine aw_iconst (v := 0) dX12_readsRule_114 (by decide) ?_
            refine aw_zreti dX12_readsRule_115 rfl (by first | exact Or.inl rfl | exact Or.inr rfl | assumption) (Nat.le_of_ble_eq_true rfl) (Nat.le_of_ble_eq_true rfl) ?_
            exact ⟨⟨(by first | exact Or.inl rfl | exact Or.inr rfl | assumption), Or.inl ⟨rfl, (Exists.imp (fun f z => ⟨z.1, tx_bad hst9 (lnL_of (by rw [(sta_n (by rw [hsg9]; decide))]; exact z.2)) (by omega)⟩) ((h_134.resolve_right (fun z => absurd (z.1.symm.trans c_141) (by decide))).2))⟩⟩, rfl, j_136⟩
        · skip
          have nc_124 : say_2 = 16 := (nI_eq (a := say_2) (b := 16) (by omega) (by omega)).mp c_124
          refine aw_aload_n dX12_readsRule_48 rfl ?_
          refine aw_iconst (v := 4) dX12_readsRule_49 (by decide) ?_
          refine aw_aload_n dX12_readsRule_50 rfl ?_
          refine aw_get dX12_readsRule_51 fl_X12_159 e_2 (by omega) rfl ?_
          refine aw_callVi (J' := jX12_wrongAt) (As := [.int 4, .int (nI pl0_2)]) (st := []) dX12_readsRule_54 tb_1224 ok_X12_wrongAt ⟨_, e_2⟩ (by omega) rfl rfl (r_wrongAt3 l D b N V hN cl hJ0.1 4 (nI pl0_2) pl0_2 le0_2 (FG.of e_2 rfl rfl) (FG.of e_2 rfl rfl) ⟨by omega, by omega⟩) rfl (Nat.le_of_ble_eq_true rfl) ⟨Nat.le_of_ble_eq_true rfl, Nat.le_of_ble_eq_true rfl, Nat.le_of_ble_eq_true rfl, Nat.le_of_ble_eq_true rfl⟩ (fun r_177 N_178 V_167 q_179 => ?_)
          obtain ⟨⟨z_165, h_164⟩, rfl, q_163⟩ := q_179
          have j_166 := JR.trans hJ0 (JR.weak q_163 (Sub.cons (LMs (LMs (LMs (LMs (LMs LM0))))) (by decide) (by decide) (by decide) (Or.inr ⟨by decide, by decide⟩) Sub.nil))
          obtain ⟨a_168, ha_169, hA_170, hF_171, hL_172, hz_173, hX_174⟩ := h_164
          obtain ⟨ftoldPeople_k175, ftoldDoors_k175, fwasDoors_k175, ffault_k175, fopen_k175, flines_k175, fmeantSet_k175, fopenedNow_k175, fvainNow_k175, flowNow_k175, fhighNow_k175, fisKept_k175, tad_k175, pl0_k175, le0_k175, nu0_k175, coy_k175, wag_k175, say_k175, e_k175, hntad_k175, hnpl0_k175, hnle0_k175, hnnu0_k175, hncoy_k175, hnwag_k175, hnsay_k175⟩ := JR.get j_166 cm_100
          have hqp_k175 := FG.eq hF_171 e_k175 rfl (by omega) (by omega)
          have hql_k175 := FG.eq hL_172 e_k175 rfl (by omega) (by omega)
          obtain ⟨rfl, hw_176⟩ := hX_174
          refine aw_zreti dX12_readsRule_57 rfl (by first | exact Or.inl rfl | exact Or.inr rfl | assumption) (Nat.le_of_ble_eq_true rfl) (Nat.le_of_ble_eq_true rfl) ?_
          exact ⟨⟨(by first | exact Or.inl rfl | exact Or.inr rfl | assumption), Or.inl ⟨rfl, ⟨_, hw_176, (congrArg (fun q => txL (gb g) ln q pl0_2) (by omega : 16 - say_2 = 0)).trans (tx_many hst9)⟩⟩⟩, rfl, j_166⟩
      · skip
        refine aw_iload_n dX12_readsRule_23 rfl ?_
        refine aw_bipush (v := 120) dX12_readsRule_24 (by decide) ?_
        refine aw_icmp_eq (tgt := 39) dX12_readsRule_26 (by decide) (fun c_180 => ?_) (fun c_180 => ?_)
        · skip
          have hlc_180 := here_lt h_4 c_180 (by decide)
          subst c_180
          have hsg9 : hd (gb g) ln pl0_2 = 120 := (hd_is sb_r1ln rfl h_4 rfl)
          have hst9 : stL (hd (gb g) ln pl0_2) = true := stL_t (Or.inr (Or.inr (Or.inr hsg9)))
          refine aw_aload_n dX12_readsRule_39 rfl ?_
          refine aw_get dX12_readsRule_40 fl_X12_236 e_2 (by omega) rfl ?_
          refine aw_bipush (v := 16) dX12_readsRule_43 (by decide) ?_
          refine aw_icmp_ne (tgt := 58) dX12_readsRule_45 (by decide) (fun c_181 => ?_) (fun c_181 => ?_)
          · skip
            have nc_181 : ¬ (say_2 = 16) := fun z => c_181 ((nI_eq (a := say_2) (b := 16) (by omega) (by omega)).mpr z)
            refine aw_aload_n dX12_readsRule_58 rfl ?_
            refine aw_get dX12_readsRule_59 fl_X12_47 e_2 (by omega) rfl ?_
            refine aw_aload_n dX12_readsRule_62 rfl ?_
            refine aw_get dX12_readsRule_63 fl_X12_236 e_2 (by omega) rfl ?_
            refine aw_iload_n dX12_readsRule_66 rfl ?_
            refine aw_iast dX12_readsRule_67 xa_r1 (by omega) (vp_in_nI (n := say_2) (by omega) (by omega)) ?_
            refine aw_upR hJ0 cm_113 ⟨_, rfl⟩ (by decide) (WA LM0 (by decide) (by decide)) (fun V_182 j_182 k_182 e_182 => ?_)
            have e_183 : V_182 113 = cI D 16 (upd sl say_2 120) := by rw [e_182, nI_clamp (n := say_2) (by omega)]
            refine aw_aload_n dX12_readsRule_68 rfl ?_
            refine aw_aload_n dX12_readsRule_69 rfl ?_
            refine aw_get dX12_readsRule_70 fl_X12_159 ((k_182 _ (by decide)).trans e_2) (by omega) rfl ?_
            refine aw_iconst (v := 1) dX12_readsRule_73 (by decide) ?_
            refine aw_iadd dX12_readsRule_74 ?_
            refine aw_eqi (y := nI (pl0_2 + 1)) (nI_add _ _) ?_
            refine aw_put dX12_readsRule_75 fp_X12_159 ((k_182 _ (by decide)).trans e_2) (by omega) rfl rfl (Nat.le_of_ble_eq_true rfl) rfl ?_
            refine aw_upR j_182 cm_100 ⟨_, _, _, _, _, _, _, _, _, _, _, _, tad_2, (pl0_2 + 1), le0_2, nu0_2, coy_2, wag_2, say_2, rfl, by omega, by omega, by omega, by omega, by omega, by omega, by omega⟩ (by decide) (WO (s := 14) (x := .int (nI (pl0_2 + 1))) ((k_182 _ (by decide)).trans e_2) rfl (LMs LM0) (by decide) (by decide) (by decide) (Or.inl (by decide))) (fun V_184 j_184 k_184 e_184 => ?_)
            refine aw_aload_n dX12_readsRule_78 rfl ?_
            refine aw_get dX12_readsRule_79 fl_X12_50 e_184 (by omega) rfl ?_
            refine aw_aload_n dX12_readsRule_82 rfl ?_
            refine aw_get dX12_readsRule_83 fl_X12_236 e_184 (by omega) rfl ?_
            refine aw_aload_n dX12_readsRule_86 rfl ?_
            refine aw_get dX12_readsRule_87 fl_X12_182 e_184 (by omega) rfl ?_
            refine aw_iast dX12_readsRule_90 ((k_184 _ (by decide)).trans ((k_182 _ (by decide)).trans xb_r1)) (by omega) (vp_in_nI (n := say_2) (by omega) (by omega)) ?_
            refine aw_upR j_184 cm_114 ⟨_, rfl⟩ (by decide) (WA LM0 (by decide) (by decide)) (fun V_185 j_185 k_185 e_185 => ?_)
            have e_186 : V_185 114 = cI D 16 (upd sf say_2 (nI coy_2)) := by rw [e_185, nI_clamp (n := say_2) (by omega)]
            refine aw_aload_n dX12_readsRule_91 rfl ?_
            refine aw_iconst (v := 0) dX12_readsRule_92 (by decide) ?_
            refine aw_put dX12_readsRule_93 fp_X12_186 ((k_185 _ (by decide)).trans e_184) (by omega) rfl rfl (Nat.le_of_ble_eq_true rfl) rfl ?_
            refine aw_upR j_185 cm_100 ⟨_, _, _, _, _, _, _, _, _, _, _, _, tad_2, (pl0_2 + 1), le0_2, nu0_2, coy_2, wag_2, say_2, rfl, by omega, by omega, by omega, by omega, by omega, by omega, by omega⟩ (by decide) (WO (s := 18) (x := .int 0) ((k_185 _ (by decide)).trans e_184) rfl (LMs (LMs LM0)) (by decide) (by decide) (by decide) (Or.inl (by decide))) (fun V_187 j_187 k_187 e_187 => ?_)
            refine aw_aload_n dX12_readsRule_96 rfl ?_
            refine aw_iconst (v := 0) dX12_readsRule_97 (by decide) ?_
            refine aw_put dX12_readsRule_98 fp_X12_189 e_187 (by omega) rfl rfl (Nat.le_of_ble_eq_true rfl) rfl ?_
            refine aw_upR j_187 cm_100 ⟨_, _, _, _, _, _, _, _, _, _, _, _, tad_2, (pl0_2 + 1), le0_2, nu0_2, coy_2, 0, say_2, rfl, by omega, by omega, by omega, by omega, by omega, by omega, by omega⟩ (by decide) (WO (s := 20) (x := .int 0) e_187 rfl (LMs (LMs (LMs LM0))) (by decide) (by decide) (by decide) (Or.inl (by decide))) (fun V_188 j_188 k_188 e_188 => ?_)
            refine aw_iload_n dX12_readsRule_101 rfl ?_
            refine aw_bipush (v := 120) dX12_readsRule_102 (by decide) ?_
            refine aw_icmp_eq (tgt := 116) dX12_readsRule_104 (by decide) (fun c_189 => ?_) (fun c_189 => ?_)
            rotate_left
            · exact absurd (by decide) c_189
            refine aw_aload_n dX12_readsRule_116 rfl ?_
            refine aw_get dX12_readsRule_117 fl_X12_53 e_188 (by omega) rfl ?_
            refine aw_aload_n dX12_readsRule_120 rfl ?_
            refine aw_get dX12_readsRule_121 fl_X12_236 e_188 (by omega) rfl ?_
            refine aw_aload_n dX12_readsRule_124 rfl ?_
            refine aw_get dX12_readsRule_125 fl_X12_182 e_188 (by omega) rfl ?_
            refine aw_iast dX12_readsRule_128 ((k_188 _ (by decide)).trans ((k_187 _ (by decide)).trans ((k_185 _ (by decide)).trans ((k_184 _ (by decide)).trans ((k_182 _ (by decide)).trans xd_r1))))) (by omega) (vp_in_nI (n := say_2) (by omega) (by omega)) ?_
            refine aw_upR j_188 cm_115 ⟨_, rfl⟩ (by decide) (WA LM0 (by decide) (by decide)) (fun V_190 j_190 k_190 e_190 => ?_)
            have e_191 : V_190 115 = cI D 16 (upd sh say_2 (nI coy_2)) := by rw [e_190, nI_clamp (n := say_2) (by omega)]
            have hP3 := PS.start sd wa (cm := coy_2) (by omega)
            have hz1 := hz0 wa
            refine aw_aload_n dX12_readsRule_129 rfl ?_
            refine aw_callVi (J' := jX12_readsCondition) (As := []) (st := []) dX12_readsRule_130 tb_1271 ok_X12_readsCondition ⟨_, ((k_190 _ (by decide)).trans e_188)⟩ (by omega) rfl rfl (r_readsCondition3 l D b N V_190 hN cl j_190.1 g sd wa (pl0_2 + 1) ln coy_2 0 coy_2 (fun _ => 0) (upd sl say_2 120) (upd sf say_2 (nI coy_2)) (upd sh say_2 (nI coy_2)) st say_2 0 ⟨((k_190 _ (by decide)).trans ((k_188 _ (by decide)).trans ((k_187 _ (by decide)).trans ((k_185 _ (by decide)).trans ((k_184 _ (by decide)).trans ((k_182 _ (by decide)).trans xg_r1)))))), ((k_190 _ (by decide)).trans ((k_188 _ (by decide)).trans ((k_187 _ (by decide)).trans ((k_185 _ (by decide)).trans ((k_184 _ (by decide)).trans ((k_182 _ (by decide)).trans xs_r1)))))), ((k_190 _ (by decide)).trans ((k_188 _ (by decide)).trans ((k_187 _ (by decide)).trans ((k_185 _ (by decide)).trans ((k_184 _ (by decide)).trans ((k_182 _ (by decide)).trans xw_r1)))))), (FG.of ((k_190 _ (by decide)).trans e_188) rfl rfl), (FG.of ((k_190 _ (by decide)).trans e_188) rfl (by omega : le0_2 = ln)), (FG.of ((k_190 _ (by decide)).trans e_188) rfl rfl), (FG.of ((k_190 _ (by decide)).trans e_188) rfl rfl), hP3, ⟨by omega, by omega, by omega, by omega⟩, ((k_190 _ (by decide)).trans ((k_188 _ (by decide)).trans ((k_187 _ (by decide)).trans ((k_185 _ (by decide)).trans ((k_184 _ (by decide)).trans e_183))))), ((k_190 _ (by decide)).trans ((k_188 _ (by decide)).trans ((k_187 _ (by decide)).trans e_186))), e_191, ((k_190 _ (by decide)).trans ((k_188 _ (by decide)).trans ((k_187 _ (by decide)).trans ((k_185 _ (by decide)).trans ((k_184 _ (by decide)).trans ((k_182 _ (by decide)).trans xe_r1)))))), (FG.of ((k_190 _ (by decide)).trans e_188) rfl (by omega : say_2 = say_2)), by omega⟩  (((congrArg (fun z => fI z 18) ((k_190 _ (by decide)).trans e_188)).trans rfl).trans (congrArg nI rfl)) (by have h9 : 0 = 0 := rfl; omega) (by omega) (by omega)) rfl (Nat.le_of_ble_eq_true rfl) ⟨Nat.le_of_ble_eq_true rfl, Nat.le_of_ble_eq_true rfl, Nat.le_of_ble_eq_true rfl, Nat.le_of_ble_eq_true rfl⟩ (fun r_197 N_198 V_196 q_199 => ?_)
            obtain ⟨⟨z_194, h_193⟩, rfl, q_192⟩ := q_199
            have j_195 := JR.trans j_190 (JR.weak q_192 (Sub.cons LM0 (by decide) (by decide) (by decide) (Or.inl rfl) (Sub.cons (LMs (LMs LM0)) (by decide) (by decide) (by decide) (Or.inr ⟨by decide, by decide⟩) (Sub.cons (LMs (LMs (LMs LM0))) (by decide) (by decide) (by decide) (Or.inr ⟨by decide, by decide⟩) (Sub.cons (LMs LM0) (by decide) (by decide) (by decide) (Or.inr ⟨by decide, by decide⟩) (Sub.cons (LMs (LMs (LMs (LMs (LMs LM0))))) (by decide) (by decide) (by decide) (Or.inr ⟨by decide, by decide⟩) (Sub.cons (LMs (LMs (LMs (LMs LM0)))) (by decide) (by decide) (by decide) (Or.inr ⟨by decide, by decide⟩) (Sub.cons (LMs (LMs (LMs (LMs (LMs (LMs LM0)))))) (by decide) (by decide) (by decide) (Or.inr ⟨by decide, by decide⟩) Sub.nil))))))))
            refine aw_if_ne (tgt := 138) dX12_readsRule_133 (by decide) (fun c_200 => ?_) (fun c_200 => ?_)
            · skip
              obtain ⟨sd_y201, wa_y201, pl_y201, cm_y201, wt_y201, dp_y201, hX_y201, nw_y201, ns_y201, nd_y201, np_y201, nr_y201⟩ := ((h_193.imp And.left And.right).resolve_left c_200)
              obtain ⟨xg_x202, xs_x202, xw_x202, xp_x202, xl_x202, xc_x202, xt_x202, hP_x202, ⟨hB1_x202, hB2_x202, hB3_x202, hB4_x202⟩, xa_x202, xb_x202, xd_x202, xe_x202, xm_x202, hB5_x202⟩ := hX_y201
              obtain ⟨ftoldPeople_203, ftoldDoors_203, fwasDoors_203, ffault_203, fopen_203, flines_203, fmeantSet_203, fopenedNow_203, fvainNow_203, flowNow_203, fhighNow_203, fisKept_203, tad_203, pl0_203, le0_203, nu0_203, coy_203, wag_203, say_203, e_203, hntad_203, hnpl0_203, hnle0_203, hnnu0_203, hncoy_203, hnwag_203, hnsay_203⟩ := JR.get j_195 cm_100
              have sb_x202pl := FG.eq xp_x202 e_203 rfl (by omega) (by omega)
              subst sb_x202pl
              have sb_x202cm := FG.eq xc_x202 e_203 rfl (by omega) (by omega)
              subst sb_x202cm
              have sb_x202wt := FG.eq xt_x202 e_203 rfl (by omega) (by omega)
              subst sb_x202wt
              have sb_x202ln := FG.eq xl_x202 e_203 rfl (by omega) (by omega)
              have hsg_x202 := hP_x202.2.1
              have sb_x202sm := FG.eq xm_x202 e_203 rfl (by omega) (by omega)
              refine aw_aload_n dX12_readsRule_138 rfl ?_
              refine aw_get dX12_readsRule_139 fl_X12_56 e_203 (by omega) rfl ?_
              refine aw_aload_n dX12_readsRule_142 rfl ?_
              refine aw_get dX12_readsRule_143 fl_X12_236 e_203 (by omega) rfl ?_
              refine aw_aload_n dX12_readsRule_146 rfl ?_
              refine aw_get dX12_readsRule_147 fl_X12_182 e_203 (by omega) rfl ?_
              refine aw_iast dX12_readsRule_150 xe_x202 (by omega) (vp_in_nI (n := say_203) (by omega) (by omega)) ?_
              refine aw_upR j_195 cm_116 ⟨_, rfl⟩ (by decide) (WA LM0 (by decide) (by decide)) (fun V_204 j_204 k_204 e_204 => ?_)
              have e_205 : V_204 116 = cI D 16 (upd st say_203 (nI coy_203)) := by rw [e_204, nI_clamp (n := say_203) (by omega)]
              refine aw_aload_n dX12_readsRule_151 rfl ?_
              refine aw_aload_n dX12_readsRule_152 rfl ?_
              refine aw_get dX12_readsRule_153 fl_X12_236 ((k_204 _ (by decide)).trans e_203) (by omega) rfl ?_
              refine aw_iconst (v := 1) dX12_readsRule_156 (by decide) ?_
              refine aw_iadd dX12_readsRule_157 ?_
              refine aw_eqi (y := nI (say_203 + 1)) (nI_add _ _) ?_
              refine aw_put dX12_readsRule_158 fp_X12_236 ((k_204 _ (by decide)).trans e_203) (by omega) rfl rfl (Nat.le_of_ble_eq_true rfl) rfl ?_
              refine aw_upR j_204 cm_100 ⟨_, _, _, _, _, _, _, _, _, _, _, _, tad_203, pl0_203, le0_203, nu0_203, coy_203, wag_203, (say_203 + 1), rfl, by omega, by omega, by omega, by omega, by omega, by omega, by omega⟩ (by decide) (WO (s := 21) (x := .int (nI (say_203 + 1))) ((k_204 _ (by decide)).trans e_203) rfl (LMs (LMs (LMs (LMs (LMs (LMs (LMs LM0))))))) (by decide) (by decide) (by decide) (Or.inl (by decide))) (fun V_206 j_206 k_206 e_206 => ?_)
              refine aw_iconst (v := 1) dX12_readsRule_161 (by decide) ?_
              have hSeg2 : SegOK sd_y201 coy_2 coy_203 := PS.done (wa := wa_y201) (dep := dp_y201) (nw_y201 ▸ hP_x202)
              refine aw_zreti dX12_readsRule_162 rfl (by first | exact Or.inl rfl | exact Or.inr rfl | assumption) (Nat.le_of_ble_eq_true rfl) (Nat.le_of_ble_eq_true rfl) ?_
              exact ⟨⟨(by first | exact Or.inl rfl | exact Or.inr rfl | assumption), Or.inr ⟨rfl, hst9, by omega, sd_y201, wa_y201, pl0_203, coy_203, (upd sl say_2 120), (upd sf say_2 (nI coy_2)), (upd sh say_2 (nI coy_2)), (upd st say_203 (nI coy_203)), ⟨((k_206 _ (by decide)).trans ((k_204 _ (by decide)).trans xg_x202)), ((k_206 _ (by decide)).trans ((k_204 _ (by decide)).trans xs_x202)), ((k_206 _ (by decide)).trans ((k_204 _ (by decide)).trans xw_x202)), ((k_206 _ (by decide)).trans ((k_204 _ (by decide)).trans xa_x202)), ((k_206 _ (by decide)).trans ((k_204 _ (by decide)).trans xb_x202)), ((k_206 _ (by decide)).trans ((k_204 _ (by decide)).trans xd_x202)), ((k_206 _ (by decide)).trans e_205), (FG.of e_206 rfl rfl), (FG.of e_206 rfl (by omega : le0_203 = ln)), (FG.of e_206 rfl rfl), (FG.of e_206 rfl (by omega : (say_203 + 1) = say_2 + 1)), ⟨by omega, by omega, by omega, by omega⟩, (RI.step hR_r1 ns_y201 (by omega) (by omega) (SegOK.nil _ _) hSeg2 (by omega) (by omega) (by omega))⟩, by omega, lnL_of (by rw [(sta_x hsg9)]; exact nr_y201)⟩⟩, rfl, j_206⟩
            · skip
              refine aw_iconst (v := 0) dX12_readsRule_136 (by decide) ?_
              refine aw_zreti dX12_readsRule_137 rfl (by first | exact Or.inl rfl | exact Or.inr rfl | assumption) (Nat.le_of_ble_eq_true rfl) (Nat.le_of_ble_eq_true rfl) ?_
              exact ⟨⟨(by first | exact Or.inl rfl | exact Or.inr rfl | assumption), Or.inl ⟨rfl, (Exists.imp (fun f z => ⟨z.1, tx_bad hst9 (lnL_of (by rw [(sta_x hsg9)]; exact z.2)) (by omega)⟩) ((h_193.resolve_right (fun z => absurd (z.1.symm.trans c_200) (by decide))).2))⟩⟩, rfl, j_195⟩
          · skip
            have nc_181 : say_2 = 16 := (nI_eq (a := say_2) (b := 16) (by omega) (by omega)).mp c_181
            refine aw_aload_n dX12_readsRule_48 rfl ?_
            refine aw_iconst (v := 4) dX12_readsRule_49 (by decide) ?_
            refine aw_aload_n dX12_readsRule_50 rfl ?_
            refine aw_get dX12_readsRule_51 fl_X12_159 e_2 (by omega) rfl ?_
            refine aw_callVi (J' := jX12_wrongAt) (As := [.int 4, .int (nI pl0_2)]) (st := []) dX12_readsRule_54 tb_1224 ok_X12_wrongAt ⟨_, e_2⟩ (by omega) rfl rfl (r_wrongAt3 l D b N V hN cl hJ0.1 4 (nI pl0_2) pl0_2 le0_2 (FG.of e_2 rfl rfl) (FG.of e_2 rfl rfl) ⟨by omega, by omega⟩) rfl (Nat.le_of_ble_eq_true rfl) ⟨Nat.le_of_ble_eq_true rfl, Nat.le_of_ble_eq_true rfl, Nat.le_of_ble_eq_true rfl, Nat.le_of_ble_eq_true rfl⟩ (fun r_221 N_222 V_211 q_223 => ?_)
            obtain ⟨⟨z_209, h_208⟩, rfl, q_207⟩ := q_223
            have j_210 := JR.trans hJ0 (JR.weak q_207 (Sub.cons (LMs (LMs (LMs (LMs (LMs LM0))))) (by decide) (by decide) (by decide) (Or.inr ⟨by decide, by decide⟩) Sub.nil))
            obtain ⟨a_212, ha_213, hA_214, hF_215, hL_216, hz_217, hX_218⟩ := h_208
            obtain ⟨ftoldPeople_k219, ftoldDoors_k219, fwasDoors_k219, ffault_k219, fopen_k219, flines_k219, fmeantSet_k219, fopenedNow_k219, fvainNow_k219, flowNow_k219, fhighNow_k219, fisKept_k219, tad_k219, pl0_k219, le0_k219, nu0_k219, coy_k219, wag_k219, say_k219, e_k219, hntad_k219, hnpl0_k219, hnle0_k219, hnnu0_k219, hncoy_k219, hnwag_k219, hnsay_k219⟩ := JR.get j_210 cm_100
            have hqp_k219 := FG.eq hF_215 e_k219 rfl (by omega) (by omega)
            have hql_k219 := FG.eq hL_216 e_k219 rfl (by omega) (by omega)
            obtain ⟨rfl, hw_220⟩ := hX_218
            refine aw_zreti dX12_readsRule_57 rfl (by first | exact Or.inl rfl | exact Or.inr rfl | assumption) (Nat.le_of_ble_eq_true rfl) (Nat.le_of_ble_eq_true rfl) ?_
            exact ⟨⟨(by first | exact Or.inl rfl | exact Or.inr rfl | assumption), Or.inl ⟨rfl, ⟨_, hw_220, (congrArg (fun q => txL (gb g) ln q pl0_2) (by omega : 16 - say_2 = 0)).trans (tx_many hst9)⟩⟩⟩, rfl, j_210⟩
        · skip
          refine aw_aload_n dX12_readsRule_29 rfl ?_
          refine aw_iconst (v := 1) dX12_readsRule_30 (by decide) ?_
          refine aw_aload_n dX12_readsRule_31 rfl ?_
          refine aw_get dX12_readsRule_32 fl_X12_159 e_2 (by omega) rfl ?_
          refine aw_callVi (J' := jX12_wrongAt) (As := [.int 1, .int (nI pl0_2)]) (st := []) dX12_readsRule_35 tb_1224 ok_X12_wrongAt ⟨_, e_2⟩ (by omega) rfl rfl (r_wrongAt3 l D b N V hN cl hJ0.1 1 (nI pl0_2) pl0_2 le0_2 (FG.of e_2 rfl rfl) (FG.of e_2 rfl rfl) ⟨by omega, by omega⟩) rfl (Nat.le_of_ble_eq_true rfl) ⟨Nat.le_of_ble_eq_true rfl, Nat.le_of_ble_eq_true rfl, Nat.le_of_ble_eq_true rfl, Nat.le_of_ble_eq_true rfl⟩ (fun r_238 N_239 V_228 q_240 => ?_)
          obtain ⟨⟨z_226, h_225⟩, rfl, q_224⟩ := q_240
          have j_227 := JR.trans hJ0 (JR.weak q_224 (Sub.cons (LMs (LMs (LMs (LMs (LMs LM0))))) (by decide) (by decide) (by decide) (Or.inr ⟨by decide, by decide⟩) Sub.nil))
          obtain ⟨a_229, ha_230, hA_231, hF_232, hL_233, hz_234, hX_235⟩ := h_225
          obtain ⟨ftoldPeople_k236, ftoldDoors_k236, fwasDoors_k236, ffault_k236, fopen_k236, flines_k236, fmeantSet_k236, fopenedNow_k236, fvainNow_k236, flowNow_k236, fhighNow_k236, fisKept_k236, tad_k236, pl0_k236, le0_k236, nu0_k236, coy_k236, wag_k236, say_k236, e_k236, hntad_k236, hnpl0_k236, hnle0_k236, hnnu0_k236, hncoy_k236, hnwag_k236, hnsay_k236⟩ := JR.get j_227 cm_100
          have hqp_k236 := FG.eq hF_232 e_k236 rfl (by omega) (by omega)
          have hql_k236 := FG.eq hL_233 e_k236 rfl (by omega) (by omega)
          obtain ⟨rfl, hw_237⟩ := hX_235
          refine aw_zreti dX12_readsRule_38 rfl (by first | exact Or.inl rfl | exact Or.inr rfl | assumption) (Nat.le_of_ble_eq_true rfl) (Nat.le_of_ble_eq_true rfl) ?_
          exact ⟨⟨(by first | exact Or.inl rfl | exact Or.inr rfl | assumption), Or.inl ⟨rfl, ⟨_, hw_237, tx_st (stL_f (hd_isnt sb_r1ln rfl h_4 c_9) (hd_isnt sb_r1ln rfl h_4 c_66) (hd_isnt sb_r1ln rfl h_4 c_123) (hd_isnt sb_r1ln rfl h_4 c_180))⟩⟩⟩, rfl, j_227⟩

