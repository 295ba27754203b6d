set_option maxHeartbeats 4000000 in
set_option maxRecDepth 100000 in
theorem r_readsCompared (l : Launch) (D : va_G) (b : Nat) (N : Nat) (V : Wd) (hN : 133 ≤ N) (cl : Nat) (hW : CR D b cl V)   (g sd wa : Nat → Int32) (pl ln cm wt sg : Nat) (dep : Nat → Nat) (sl sf sh st : Nat → Int32) (sm sk : Nat) (hX : PX D b V g pl ln cm wt sg sd wa dep sl sf sh st sm sk) (hd0 : dep cm = 0) (h13 : opOf (wa 0) = 13) (hw1 : 1 ≤ wt) (hbt : 10 ≤ opOf (wa (wt - 1))) : MI l D b 5 jX12_readsCompared [.ref (b + 100)] N V 0 0 (fun r N9 V9 => ((r = 0 ∨ r = 1) ∧ (r = 0 ∨ (∃ (sd9 wa9 : Nat → Int32) (pl9 cm9 wt9 : Nat) (dep9 : Nat → Nat), PX D b V9 g pl9 ln cm9 wt9 sg sd9 wa9 dep9 sl sf sh st sm sk ∧ wt9 ≤ wt ∧ 1 ≤ wt9 ∧ (∀ i, i < wt → wa9 i = wa i) ∧ (∀ k, k < sg → sd9 k = sd k) ∧ dep9 cm9 = 1 ∧ pl < pl9))) ∧ N = N9 ∧ JR D b N cl [(111, 112, 0, 1000000), (100, 100, 19, 19), (100, 100, 14, 14), (100, 100, 16, 16), (100, 100, 17, 17), (100, 100, 18, 18), (100, 100, 20, 20)] V V9) := by
  have hJ0 : JR D b N cl [(111, 112, 0, 1000000), (100, 100, 19, 19), (100, 100, 14, 14), (100, 100, 16, 16), (100, 100, 17, 17), (100, 100, 18, 18), (100, 100, 20, 20)] V V := JR.rf hW
  refine mw_of (by decide) (by simp [Value.category]) (Nat.le_of_ble_eq_true rfl) ?_
  show AW l D b jX12_readsCompared (fx_rm 5 0 0) none (fx_MQ D b 0 0 (fx_qi (fun r N9 V9 => ((r = 0 ∨ r = 1) ∧ (r = 0 ∨ (∃ (sd9 wa9 : Nat → Int32) (pl9 cm9 wt9 : Nat) (dep9 : Nat → Nat), PX D b V9 g pl9 ln cm9 wt9 sg sd9 wa9 dep9 sl sf sh st sm sk ∧ wt9 ≤ wt ∧ 1 ≤ wt9 ∧ (∀ i, i < wt → wa9 i = wa i) ∧ (∀ k, k < sg → sd9 k = sd k) ∧ dep9 cm9 = 1 ∧ pl < pl9))) ∧ N = N9 ∧ JR D b N cl [(111, 112, 0, 1000000), (100, 100, 19, 19), (100, 100, 14, 14), (100, 100, 16, 16), (100, 100, 17, 17), (100, 100, 18, 18), (100, 100, 20, 20)] V V9))) 0 [some (.ref (b + 100)), none] [] N V 0 0
  obtain ⟨xg_x1, xs_x1, xw_x1, xp_x1, xl_x1, xc_x1, xt_x1, hP_x1, ⟨hB1_x1, hB2_x1, hB3_x1, hB4_x1⟩, xa_x1, xb_x1, xd_x1, xe_x1, xm_x1, hB5_x1⟩ := id hX
  obtain ⟨ftoldPeople_2, ftoldDoors_2, fwasDoors_2, ffault_2, fopen_2, flines_2, fmeantSet_2, fopenedNow_2, fvainNow_2, flowNow_2, fhighNow_2, fisKept_2, tad_2, pl0_2, le0_2, nu0_2, coy_2, wag_2, say_2, e_2, hntad_2, hnpl0_2, hnle0_2, hnnu0_2, hncoy_2, hnwag_2, hnsay_2⟩ := JR.get hJ0 cm_100
  have sb_x1pl := FG.eq xp_x1 e_2 rfl (by omega) (by omega)
  subst sb_x1pl
  have sb_x1cm := FG.eq xc_x1 e_2 rfl (by omega) (by omega)
  subst sb_x1cm
  have sb_x1wt := FG.eq xt_x1 e_2 rfl (by omega) (by omega)
  subst sb_x1wt
  have sb_x1ln := FG.eq xl_x1 e_2 rfl (by omega) (by omega)
  have hsg_x1 := hP_x1.2.1
  have sb_x1sm := FG.eq xm_x1 e_2 rfl (by omega) (by omega)
  refine aw_aload_n dX12_readsCompared_0 rfl ?_
  refine aw_callVi (J' := jX12_readsSum) (As := []) (st := []) dX12_readsCompared_1 tb_1228 ok_X12_readsSum ⟨_, e_2⟩ (by omega) rfl rfl (r_readsSum l D b N V hN cl hJ0.1 g sd wa pl0_2 ln coy_2 wag_2 sg dep sl sf sh st sm sk ⟨xg_x1, xs_x1, xw_x1, (FG.of e_2 rfl rfl), (FG.of e_2 rfl (by omega : le0_2 = ln)), (FG.of e_2 rfl rfl), (FG.of e_2 rfl rfl), hP_x1, ⟨by omega, by omega, by omega, by omega⟩, xa_x1, xb_x1, xd_x1, xe_x1, (FG.of e_2 rfl (by omega : say_2 = sm)), by omega⟩ (Or.inr hbt)) rfl (Nat.le_of_ble_eq_true rfl) ⟨Nat.le_of_ble_eq_true rfl, Nat.le_of_ble_eq_true rfl, Nat.le_of_ble_eq_true rfl, Nat.le_of_ble_eq_true rfl⟩ (fun r_8 N_9 V_7 q_10 => ?_)
  obtain ⟨⟨z_5, h_4⟩, rfl, q_3⟩ := q_10
  have j_6 := JR.trans hJ0 (JR.weak q_3 (Sub.cons LM0 (by decide) (by decide) (by decide) (Or.inl rfl) (Sub.cons (LMs LM0) (by decide) (by decide) (by decide) (Or.inr ⟨by decide, by decide⟩) (Sub.cons (LMs (LMs LM0)) (by decide) (by decide) (by decide) (Or.inr ⟨by decide, by decide⟩) (Sub.cons (LMs (LMs (LMs LM0))) (by decide) (by decide) (by decide) (Or.inr ⟨by decide, by decide⟩) (Sub.cons (LMs (LMs (LMs (LMs LM0)))) (by decide) (by decide) (by decide) (Or.inr ⟨by decide, by decide⟩) (Sub.cons (LMs (LMs (LMs (LMs (LMs LM0))))) (by decide) (by decide) (by decide) (Or.inr ⟨by decide, by decide⟩) (Sub.cons (LMs (LMs (LMs (LMs (LMs (LMs LM0)))))) (by decide) (by decide) (by decide) (Or.inr ⟨by decide, by decide⟩) Sub.nil))))))))
  refine aw_if_ne (tgt := 9) dX12_readsCompared_4 (by decide) (fun c_11 => ?_) (fun c_11 => ?_)
  · skip
    obtain ⟨sd_y12, wa_y12, pl_y12, cm_y12, wt_y12, dp_y12, hX_y12, sw_y12, sa_y12, ss_y12, sd9_y12, sp_y12⟩ := (h_4.resolve_left c_11)
    obtain ⟨xg_x13, xs_x13, xw_x13, xp_x13, xl_x13, xc_x13, xt_x13, hP_x13, ⟨hB1_x13, hB2_x13, hB3_x13, hB4_x13⟩, xa_x13, xb_x13, xd_x13, xe_x13, xm_x13, hB5_x13⟩ := hX_y12
    obtain ⟨ftoldPeople_14, ftoldDoors_14, fwasDoors_14, ffault_14, fopen_14, flines_14, fmeantSet_14, fopenedNow_14, fvainNow_14, flowNow_14, fhighNow_14, fisKept_14, tad_14, pl0_14, le0_14, nu0_14, coy_14, wag_14, say_14, e_14, hntad_14, hnpl0_14, hnle0_14, hnnu0_14, hncoy_14, hnwag_14, hnsay_14⟩ := JR.get j_6 cm_100
    clear hntad_2 hnpl0_2 hnle0_2 hnnu0_2 hncoy_2 hnwag_2 hnsay_2
    have sb_x13pl := FG.eq xp_x13 e_14 rfl (by omega) (by omega)
    subst sb_x13pl
    have sb_x13cm := FG.eq xc_x13 e_14 rfl (by omega) (by omega)
    subst sb_x13cm
    have sb_x13wt := FG.eq xt_x13 e_14 rfl (by omega) (by omega)
    subst sb_x13wt
    have sb_x13ln := FG.eq xl_x13 e_14 rfl (by omega) (by omega)
    have hsg_x13 := hP_x13.2.1
    have sb_x13sm := FG.eq xm_x13 e_14 rfl (by omega) (by omega)
    refine aw_aload_n dX12_readsCompared_9 rfl ?_
    refine aw_callVi (J' := jX12_here) (As := []) (st := []) dX12_readsCompared_10 tb_1220 ok_X12_here ⟨_, e_14⟩ (by omega) rfl rfl (r_here l D b N V_7 hN cl j_6.1 g xg_x13 pl0_14 le0_14 (FG.of e_14 rfl rfl) (FG.of e_14 rfl rfl) ⟨by omega, by omega⟩) rfl (Nat.le_of_ble_eq_true rfl) ⟨Nat.le_of_ble_eq_true rfl, Nat.le_of_ble_eq_true rfl, Nat.le_of_ble_eq_true rfl, Nat.le_of_ble_eq_true rfl⟩ (fun r_17 N_18 V_19 q_20 => ?_)
    obtain ⟨h_16, rfl, rfl⟩ := q_20
    refine aw_bipush (v := 60) dX12_readsCompared_13 (by decide) ?_
    refine aw_icmp_ne (tgt := 23) dX12_readsCompared_15 (by decide) (fun c_21 => ?_) (fun c_21 => ?_)
    · skip
      refine aw_aload_n dX12_readsCompared_23 rfl ?_
      refine aw_callVi (J' := jX12_here) (As := []) (st := []) dX12_readsCompared_24 tb_1220 ok_X12_here ⟨_, e_14⟩ (by omega) rfl rfl (r_here l D b N V_7 hN cl j_6.1 g xg_x13 pl0_14 le0_14 (FG.of e_14 rfl rfl) (FG.of e_14 rfl rfl) ⟨by omega, by omega⟩) rfl (Nat.le_of_ble_eq_true rfl) ⟨Nat.le_of_ble_eq_true rfl, Nat.le_of_ble_eq_true rfl, Nat.le_of_ble_eq_true rfl, Nat.le_of_ble_eq_true rfl⟩ (fun r_24 N_25 V_26 q_27 => ?_)
      obtain ⟨h_23, rfl, rfl⟩ := q_27
      refine aw_bipush (v := 62) dX12_readsCompared_27 (by decide) ?_
      refine aw_icmp_ne (tgt := 37) dX12_readsCompared_29 (by decide) (fun c_28 => ?_) (fun c_28 => ?_)
      · skip
        refine aw_aload_n dX12_readsCompared_37 rfl ?_
        refine aw_callVi (J' := jX12_here) (As := []) (st := []) dX12_readsCompared_38 tb_1220 ok_X12_here ⟨_, e_14⟩ (by omega) rfl rfl (r_here l D b N V_7 hN cl j_6.1 g xg_x13 pl0_14 le0_14 (FG.of e_14 rfl rfl) (FG.of e_14 rfl rfl) ⟨by omega, by omega⟩) rfl (Nat.le_of_ble_eq_true rfl) ⟨Nat.le_of_ble_eq_true rfl, Nat.le_of_ble_eq_true rfl, Nat.le_of_ble_eq_true rfl, Nat.le_of_ble_eq_true rfl⟩ (fun r_31 N_32 V_33 q_34 => ?_)
        obtain ⟨h_30, rfl, rfl⟩ := q_34
        refine aw_bipush (v := 61) dX12_readsCompared_41 (by decide) ?_
        refine aw_icmp_ne (tgt := 51) dX12_readsCompared_43 (by decide) (fun c_35 => ?_) (fun c_35 => ?_)
        · skip
          refine aw_iconst (v := (-1)) dX12_readsCompared_51 (by decide) ?_
          refine aw_istore_n (ls' := [some (.ref (b + 100)), some (.int (-1))]) dX12_readsCompared_52 (Nat.le_of_ble_eq_true rfl) rfl ?_
          refine aw_iload_n dX12_readsCompared_53 rfl ?_
          refine aw_iconst (v := (-1)) dX12_readsCompared_54 (by decide) ?_
          refine aw_icmp_ne (tgt := 68) dX12_readsCompared_55 (by decide) (fun c_36 => ?_) (fun c_36 => ?_)
          · exact absurd rfl c_36
          refine aw_aload_n dX12_readsCompared_58 rfl ?_
          refine aw_iconst (v := 1) dX12_readsCompared_59 (by decide) ?_
          refine aw_aload_n dX12_readsCompared_60 rfl ?_
          refine aw_get dX12_readsCompared_61 fl_X12_159 e_14 (by omega) rfl ?_
          refine aw_callVi (J' := jX12_wrongAt) (As := [.int 1, .int (nI pl0_14)]) (st := []) dX12_readsCompared_64 tb_1224 ok_X12_wrongAt ⟨_, e_14⟩ (by omega) rfl rfl (r_wrongAt l D b N V_7 hN cl j_6.1 1 (nI pl0_14) pl0_14 le0_14 (FG.of e_14 rfl rfl) (FG.of e_14 rfl rfl) ⟨by omega, by omega⟩) rfl (Nat.le_of_ble_eq_true rfl) ⟨Nat.le_of_ble_eq_true rfl, Nat.le_of_ble_eq_true rfl, Nat.le_of_ble_eq_true rfl, Nat.le_of_ble_eq_true rfl⟩ (fun r_50 N_51 V_41 q_52 => ?_)
          obtain ⟨⟨z_39, h_38⟩, rfl, q_37⟩ := q_52
          have j_40 := JR.trans j_6 (JR.weak q_37 (Sub.cons (LMs (LMs (LMs LM0))) (by decide) (by decide) (by decide) (Or.inr ⟨by decide, by decide⟩) Sub.nil))
          obtain ⟨a_42, ha_43, hA_44, hF_45, hL_46, hz_47, hX_48⟩ := h_38
          obtain ⟨ftoldPeople_k49, ftoldDoors_k49, fwasDoors_k49, ffault_k49, fopen_k49, flines_k49, fmeantSet_k49, fopenedNow_k49, fvainNow_k49, flowNow_k49, fhighNow_k49, fisKept_k49, tad_k49, pl0_k49, le0_k49, nu0_k49, coy_k49, wag_k49, say_k49, e_k49, hntad_k49, hnpl0_k49, hnle0_k49, hnnu0_k49, hncoy_k49, hnwag_k49, hnsay_k49⟩ := JR.get j_40 cm_100
          have hqp_k49 := FG.eq hF_45 e_k49 rfl (by omega) (by omega)
          have hql_k49 := FG.eq hL_46 e_k49 rfl (by omega) (by omega)
          obtain rfl := hX_48
          refine aw_zreti dX12_readsCompared_67 rfl (by first | exact Or.inl rfl | exact Or.inr rfl | assumption) (Nat.le_of_ble_eq_true rfl) (Nat.le_of_ble_eq_true rfl) ?_
          exact ⟨⟨(by first | exact Or.inl rfl | exact Or.inr rfl | assumption), Or.inl rfl⟩, rfl, j_40⟩
        · skip
          have hlc_35 := here_lt h_30 c_35 (by decide)
          refine aw_bipush (v := 9) dX12_readsCompared_46 (by decide) ?_
          refine aw_goto (tgt := 52) dX12_readsCompared_48 (by decide) ?_
          refine aw_istore_n (ls' := [some (.ref (b + 100)), some (.int 9)]) dX12_readsCompared_52 (Nat.le_of_ble_eq_true rfl) rfl ?_
          refine aw_iload_n dX12_readsCompared_53 rfl ?_
          refine aw_iconst (v := (-1)) dX12_readsCompared_54 (by decide) ?_
          refine aw_icmp_ne (tgt := 68) dX12_readsCompared_55 (by decide) (fun c_53 => ?_) (fun c_53 => ?_)
          rotate_left
          · exact absurd c_53 (by decide)
          refine aw_aload_n dX12_readsCompared_68 rfl ?_
          refine aw_aload_n dX12_readsCompared_69 rfl ?_
          refine aw_get dX12_readsCompared_70 fl_X12_159 e_14 (by omega) rfl ?_
          refine aw_iconst (v := 1) dX12_readsCompared_73 (by decide) ?_
          refine aw_iadd dX12_readsCompared_74 ?_
          refine aw_eqi (y := nI (pl0_14 + 1)) (nI_add _ _) ?_
          refine aw_put dX12_readsCompared_75 fp_X12_159 e_14 (by omega) rfl rfl (Nat.le_of_ble_eq_true rfl) rfl ?_
          refine aw_upR j_6 cm_100 ⟨_, _, _, _, _, _, _, _, _, _, _, _, tad_14, (pl0_14 + 1), le0_14, nu0_14, coy_14, wag_14, say_14, rfl, by omega, by omega, by omega, by omega, by omega, by omega, by omega⟩ (by decide) (WO (s := 14) (x := .int (nI (pl0_14 + 1))) e_14 rfl (LMs (LMs LM0)) (by decide) (by decide) (by decide) (Or.inl (by decide))) (fun V_54 j_54 k_54 e_54 => ?_)
          have hb2 : 10 ≤ opOf (wa_y12 (wag_14 - 1)) := by rw [show wag_14 = wag_2 by omega, sa_y12 (wag_2 - 1) (by omega)]; exact hbt
          refine aw_aload_n dX12_readsCompared_78 rfl ?_
          refine aw_callVi (J' := jX12_readsSum) (As := []) (st := []) dX12_readsCompared_79 tb_1228 ok_X12_readsSum ⟨_, e_54⟩ (by omega) rfl rfl (r_readsSum l D b N V_54 hN cl j_54.1 g sd_y12 wa_y12 (pl0_14 + 1) ln coy_14 wag_14 sg dp_y12 sl sf sh st sm (sk + 1) ⟨((k_54 _ (by decide)).trans xg_x13), ((k_54 _ (by decide)).trans xs_x13), ((k_54 _ (by decide)).trans xw_x13), (FG.of e_54 rfl rfl), (FG.of e_54 rfl (by omega : le0_14 = ln)), (FG.of e_54 rfl rfl), (FG.of e_54 rfl rfl), hP_x13, ⟨by omega, by omega, by omega, by omega⟩, ((k_54 _ (by decide)).trans xa_x13), ((k_54 _ (by decide)).trans xb_x13), ((k_54 _ (by decide)).trans xd_x13), ((k_54 _ (by decide)).trans xe_x13), (FG.of e_54 rfl (by omega : say_14 = sm)), by omega⟩ (Or.inr hb2)) rfl (Nat.le_of_ble_eq_true rfl) ⟨Nat.le_of_ble_eq_true rfl, Nat.le_of_ble_eq_true rfl, Nat.le_of_ble_eq_true rfl, Nat.le_of_ble_eq_true rfl⟩ (fun r_60 N_61 V_59 q_62 => ?_)
          obtain ⟨⟨z_57, h_56⟩, rfl, q_55⟩ := q_62
          have j_58 := JR.trans j_54 (JR.weak q_55 (Sub.cons LM0 (by decide) (by decide) (by decide) (Or.inl rfl) (Sub.cons (LMs LM0) (by decide) (by decide) (by decide) (Or.inr ⟨by decide, by decide⟩) (Sub.cons (LMs (LMs LM0)) (by decide) (by decide) (by decide) (Or.inr ⟨by decide, by decide⟩) (Sub.cons (LMs (LMs (LMs LM0))) (by decide) (by decide) (by decide) (Or.inr ⟨by decide, by decide⟩) (Sub.cons (LMs (LMs (LMs (LMs LM0)))) (by decide) (by decide) (by decide) (Or.inr ⟨by decide, by decide⟩) (Sub.cons (LMs (LMs (LMs (LMs (LMs LM0))))) (by decide) (by decide) (by decide) (Or.inr ⟨by decide, by decide⟩) (Sub.cons (LMs (LMs (LMs (LMs (LMs (LMs LM0)))))) (by decide) (by decide) (by decide) (Or.inr ⟨by decide, by decide⟩) Sub.nil))))))))
          refine aw_if_ne (tgt := 87) dX12_readsCompared_82 (by decide) (fun c_63 => ?_) (fun c_63 => ?_)
          · skip
            obtain ⟨sd_y64, wa_y64, pl_y64, cm_y64, wt_y64, dp_y64, hX_y64, sw_y64, sa_y64, ss_y64, sd9_y64, sp_y64⟩ := (h_56.resolve_left c_63)
            obtain ⟨xg_x65, xs_x65, xw_x65, xp_x65, xl_x65, xc_x65, xt_x65, hP_x65, ⟨hB1_x65, hB2_x65, hB3_x65, hB4_x65⟩, xa_x65, xb_x65, xd_x65, xe_x65, xm_x65, hB5_x65⟩ := hX_y64
            obtain ⟨ftoldPeople_66, ftoldDoors_66, fwasDoors_66, ffault_66, fopen_66, flines_66, fmeantSet_66, fopenedNow_66, fvainNow_66, flowNow_66, fhighNow_66, fisKept_66, tad_66, pl0_66, le0_66, nu0_66, coy_66, wag_66, say_66, e_66, hntad_66, hnpl0_66, hnle0_66, hnnu0_66, hncoy_66, hnwag_66, hnsay_66⟩ := JR.get j_58 cm_100
            clear hntad_14 hnpl0_14 hnle0_14 hnnu0_14 hncoy_14 hnwag_14 hnsay_14
            have sb_x65pl := FG.eq xp_x65 e_66 rfl (by omega) (by omega)
            subst sb_x65pl
            have sb_x65cm := FG.eq xc_x65 e_66 rfl (by omega) (by omega)
            subst sb_x65cm
            have sb_x65wt := FG.eq xt_x65 e_66 rfl (by omega) (by omega)
            subst sb_x65wt
            have sb_x65ln := FG.eq xl_x65 e_66 rfl (by omega) (by omega)
            have hsg_x65 := hP_x65.2.1
            have sb_x65sm := FG.eq xm_x65 e_66 rfl (by omega) (by omega)
            refine aw_aload_n dX12_readsCompared_87 rfl ?_
            refine aw_iload_n dX12_readsCompared_88 rfl ?_
            refine aw_iconst (v := 0) dX12_readsCompared_89 (by decide) ?_
            refine aw_callVv (J' := jX12_notes) (As := [.int 9, .int 0]) (st := []) dX12_readsCompared_90 tb_1249 ok_X12_notes ⟨_, e_66⟩ (by omega) rfl rfl (r_notes l D b N V_59 hN cl j_58.1 9 0 9 0 (by omega) (by omega) ftoldPeople_66 ftoldDoors_66 fwasDoors_66 ffault_66 fopen_66 flines_66 fmeantSet_66 fopenedNow_66 fvainNow_66 flowNow_66 fhighNow_66 fisKept_66 tad_66 pl0_66 le0_66 nu0_66 coy_66 wag_66 say_66 ⟨by omega, by omega, by omega, by omega, by omega, by omega, by omega⟩ e_66 g sd_y64 wa_y64 xg_x65 xs_x65 xw_x65 (by omega)) rfl (Nat.le_of_ble_eq_true rfl) ⟨Nat.le_of_ble_eq_true rfl, Nat.le_of_ble_eq_true rfl, Nat.le_of_ble_eq_true rfl, Nat.le_of_ble_eq_true rfl⟩ (fun  N_74 V_70 q_75 => ?_)
            obtain ⟨h_68, rfl, q_67⟩ := q_75
            have j_69 := JR.trans j_58 (JR.weak q_67 (Sub.cons LM0 (by decide) (by decide) (by decide) (Or.inl rfl) (Sub.cons (LMs LM0) (by decide) (by decide) (by decide) (Or.inr ⟨by decide, by decide⟩) Sub.nil)))
            obtain ⟨hN_71, hN_72, hN_73⟩ := h_68
            have hQ := PS.emit hP_x65 9 0 1 (by omega) (by omega) (by omega) (by omega) (by omega) (by omega) (by omega)
            have hds : dset dp_y64 (coy_66 + 1) 1 (coy_66 + 1) = 1 := dset_s
            refine aw_aload_n dX12_readsCompared_93 rfl ?_
            refine aw_callVv (J' := jX12_endsPiece) (As := []) (st := []) dX12_readsCompared_94 tb_1279 ok_X12_endsPiece ⟨_, hN_71⟩ (by omega) rfl rfl (r_endsPiece l D b N V_70 hN cl j_69.1 g (upd sd_y64 coy_66 (nI (1048576 * 9 + 0))) wa_y64 pl0_66 ln (coy_66 + 1) wag_66 sg (dset dp_y64 (coy_66 + 1) 1) sl sf sh st sm sk ⟨((hN_73 _ (by decide) (by decide)).trans xg_x65), hN_72, ((hN_73 _ (by decide) (by decide)).trans xw_x65), (FG.of hN_71 rfl rfl), (FG.of hN_71 rfl (by omega : le0_66 = ln)), (FG.of hN_71 rfl rfl), (FG.of hN_71 rfl rfl), hQ, ⟨by omega, by omega, by omega, by omega⟩, ((hN_73 _ (by decide) (by decide)).trans xa_x65), ((hN_73 _ (by decide) (by decide)).trans xb_x65), ((hN_73 _ (by decide) (by decide)).trans xd_x65), ((hN_73 _ (by decide) (by decide)).trans xe_x65), (FG.of hN_71 rfl (by omega : say_66 = sm)), by omega⟩ (by omega) (by rw [sa_y64 0 (by omega), sa_y12 0 (by omega)]; exact h13) (by omega)) rfl (Nat.le_of_ble_eq_true rfl) ⟨Nat.le_of_ble_eq_true rfl, Nat.le_of_ble_eq_true rfl, Nat.le_of_ble_eq_true rfl, Nat.le_of_ble_eq_true rfl⟩ (fun  N_80 V_79 q_81 => ?_)
            obtain ⟨h_77, rfl, q_76⟩ := q_81
            have j_78 := JR.trans j_69 (JR.weak q_76 (Sub.cons LM0 (by decide) (by decide) (by decide) (Or.inl rfl) (Sub.cons (LMs LM0) (by decide) (by decide) (by decide) (Or.inr ⟨by decide, by decide⟩) (Sub.cons (LMs (LMs (LMs (LMs (LMs (LMs LM0)))))) (by decide) (by decide) (by decide) (Or.inr ⟨by decide, by decide⟩) (Sub.cons (LMs (LMs (LMs (LMs (LMs LM0))))) (by decide) (by decide) (by decide) (Or.inr ⟨by decide, by decide⟩) Sub.nil)))))
            obtain ⟨sd_y82, pl_y82, cm_y82, wt_y82, dp_y82, hX_y82, qp_y82, qw_y82, q1_y82, qs_y82, qd_y82, qe_y82⟩ := h_77
            obtain ⟨xg_x83, xs_x83, xw_x83, xp_x83, xl_x83, xc_x83, xt_x83, hP_x83, ⟨hB1_x83, hB2_x83, hB3_x83, hB4_x83⟩, xa_x83, xb_x83, xd_x83, xe_x83, xm_x83, hB5_x83⟩ := hX_y82
            obtain ⟨ftoldPeople_84, ftoldDoors_84, fwasDoors_84, ffault_84, fopen_84, flines_84, fmeantSet_84, fopenedNow_84, fvainNow_84, flowNow_84, fhighNow_84, fisKept_84, tad_84, pl0_84, le0_84, nu0_84, coy_84, wag_84, say_84, e_84, hntad_84, hnpl0_84, hnle0_84, hnnu0_84, hncoy_84, hnwag_84, hnsay_84⟩ := JR.get j_78 cm_100
            clear hntad_66 hnpl0_66 hnle0_66 hnnu0_66 hncoy_66 hnwag_66 hnsay_66
            have sb_x83pl := FG.eq xp_x83 e_84 rfl (by omega) (by omega)
            subst sb_x83pl
            have sb_x83cm := FG.eq xc_x83 e_84 rfl (by omega) (by omega)
            subst sb_x83cm
            have sb_x83wt := FG.eq xt_x83 e_84 rfl (by omega) (by omega)
            subst sb_x83wt
            have sb_x83ln := FG.eq xl_x83 e_84 rfl (by omega) (by omega)
            have hsg_x83 := hP_x83.2.1
            have sb_x83sm := FG.eq xm_x83 e_84 rfl (by omega) (by omega)
            refine aw_iconst (v := 1) dX12_readsCompared_97 (by decide) ?_
            refine aw_zreti dX12_readsCompared_98 rfl (by first | exact Or.inl rfl | exact Or.inr rfl | assumption) (Nat.le_of_ble_eq_true rfl) (Nat.le_of_ble_eq_true rfl) ?_
            exact ⟨⟨(by first | exact Or.inl rfl | exact Or.inr rfl | assumption), Or.inr ⟨sd_y82, wa_y64, pl0_84, coy_84, wag_84, dp_y82, ⟨xg_x83, xs_x83, xw_x83, (FG.of e_84 rfl rfl), (FG.of e_84 rfl (by omega : le0_84 = ln)), (FG.of e_84 rfl rfl), (FG.of e_84 rfl rfl), hP_x83, ⟨by omega, by omega, by omega, by omega⟩, xa_x83, xb_x83, xd_x83, xe_x83, (FG.of e_84 rfl (by omega : say_84 = sm)), by omega⟩, by omega, by omega, agr sa_y12 sa_y64 (by omega), (fun k hk => (((qs_y82 k hk).trans (pk_un (by omega))).trans (ss_y64 k hk)).trans (ss_y12 k hk)), by omega, by omega⟩⟩, rfl, j_78⟩
          · skip
            refine aw_iconst (v := 0) dX12_readsCompared_85 (by decide) ?_
            refine aw_zreti dX12_readsCompared_86 rfl (by first | exact Or.inl rfl | exact Or.inr rfl | assumption) (Nat.le_of_ble_eq_true rfl) (Nat.le_of_ble_eq_true rfl) ?_
            exact ⟨⟨(by first | exact Or.inl rfl | exact Or.inr rfl | assumption), Or.inl rfl⟩, rfl, j_58⟩
      · skip
        have hlc_28 := here_lt h_23 c_28 (by decide)
        refine aw_bipush (v := 8) dX12_readsCompared_32 (by decide) ?_
        refine aw_goto (tgt := 52) dX12_readsCompared_34 (by decide) ?_
        refine aw_istore_n (ls' := [some (.ref (b + 100)), some (.int 8)]) dX12_readsCompared_52 (Nat.le_of_ble_eq_true rfl) rfl ?_
        refine aw_iload_n dX12_readsCompared_53 rfl ?_
        refine aw_iconst (v := (-1)) dX12_readsCompared_54 (by decide) ?_
        refine aw_icmp_ne (tgt := 68) dX12_readsCompared_55 (by decide) (fun c_85 => ?_) (fun c_85 => ?_)
        rotate_left
        · exact absurd c_85 (by decide)
        refine aw_aload_n dX12_readsCompared_68 rfl ?_
        refine aw_aload_n dX12_readsCompared_69 rfl ?_
        refine aw_get dX12_readsCompared_70 fl_X12_159 e_14 (by omega) rfl ?_
        refine aw_iconst (v := 1) dX12_readsCompared_73 (by decide) ?_
        refine aw_iadd dX12_readsCompared_74 ?_
        refine aw_eqi (y := nI (pl0_14 + 1)) (nI_add _ _) ?_
        refine aw_put dX12_readsCompared_75 fp_X12_159 e_14 (by omega) rfl rfl (Nat.le_of_ble_eq_true rfl) rfl ?_
        refine aw_upR j_6 cm_100 ⟨_, _, _, _, _, _, _, _, _, _, _, _, tad_14, (pl0_14 + 1), le0_14, nu0_14, coy_14, wag_14, say_14, rfl, by omega, by omega, by omega, by omega, by omega, by omega, by omega⟩ (by decide) (WO (s := 14) (x := .int (nI (pl0_14 + 1))) e_14 rfl (LMs (LMs LM0)) (by decide) (by decide) (by decide) (Or.inl (by decide))) (fun V_86 j_86 k_86 e_86 => ?_)
        have hb2 : 10 ≤ opOf (wa_y12 (wag_14 - 1)) := by rw [show wag_14 = wag_2 by omega, sa_y12 (wag_2 - 1) (by omega)]; exact hbt
        refine aw_aload_n dX12_readsCompared_78 rfl ?_
        refine aw_callVi (J' := jX12_readsSum) (As := []) (st := []) dX12_readsCompared_79 tb_1228 ok_X12_readsSum ⟨_, e_86⟩ (by omega) rfl rfl (r_readsSum l D b N V_86 hN cl j_86.1 g sd_y12 wa_y12 (pl0_14 + 1) ln coy_14 wag_14 sg dp_y12 sl sf sh st sm (sk + 1) ⟨((k_86 _ (by decide)).trans xg_x13), ((k_86 _ (by decide)).trans xs_x13), ((k_86 _ (by decide)).trans xw_x13), (FG.of e_86 rfl rfl), (FG.of e_86 rfl (by omega : le0_14 = ln)), (FG.of e_86 rfl rfl), (FG.of e_86 rfl rfl), hP_x13, ⟨by omega, by omega, by omega, by omega⟩, ((k_86 _ (by decide)).trans xa_x13), ((k_86 _ (by decide)).trans xb_x13), ((k_86 _ (by decide)).trans xd_x13), ((k_86 _ (by decide)).trans xe_x13), (FG.of e_86 rfl (by omega : say_14 = sm)), by omega⟩ (Or.inr hb2)) rfl (Nat.le_of_ble_eq_true rfl) ⟨Nat.le_of_ble_eq_true rfl, Nat.le_of_ble_eq_true rfl, Nat.le_of_ble_eq_true rfl, Nat.le_of_ble_eq_true rfl⟩ (fun r_92 N_93 V_91 q_94 => ?_)
        obtain ⟨⟨z_89, h_88⟩, rfl, q_87⟩ := q_94
        have j_90 := JR.trans j_86 (JR.weak q_87 (Sub.cons LM0 (by decide) (by decide) (by decide) (Or.inl rfl) (Sub.cons (LMs LM0) (by decide) (by decide) (by decide) (Or.inr ⟨by decide, by decide⟩) (Sub.cons (LMs (LMs LM0)) (by decide) (by decide) (by decide) (Or.inr ⟨by decide, by decide⟩) (Sub.cons (LMs (LMs (LMs LM0))) (by decide) (by decide) (by decide) (Or.inr ⟨by decide, by decide⟩) (Sub.cons (LMs (LMs (LMs (LMs LM0)))) (by decide) (by decide) (by decide) (Or.inr ⟨by decide, by decide⟩) (Sub.cons (LMs (LMs (LMs (LMs (LMs LM0))))) (by decide) (by decide) (by decide) (Or.inr ⟨by decide, by decide⟩) (Sub.cons (LMs (LMs (LMs (LMs (LMs (LMs LM0)))))) (by decide) (by decide) (by decide) (Or.inr ⟨by decide, by decide⟩) Sub.nil))))))))
        refine aw_if_ne (tgt := 87) dX12_readsCompared_82 (by decide) (fun c_95 => ?_) (fun c_95 => ?_)
        · skip
          obtain ⟨sd_y96, wa_y96, pl_y96, cm_y96, wt_y96, dp_y96, hX_y96, sw_y96, sa_y96, ss_y96, sd9_y96, sp_y96⟩ := (h_88.resolve_left c_95)
          obtain ⟨xg_x97, xs_x97, xw_x97, xp_x97, xl_x97, xc_x97, xt_x97, hP_x97, ⟨hB1_x97, hB2_x97, hB3_x97, hB4_x97⟩, xa_x97, xb_x97, xd_x97, xe_x97, xm_x97, hB5_x97⟩ := hX_y96
          obtain ⟨ftoldPeople_98, ftoldDoors_98, fwasDoors_98, ffault_98, fopen_98, flines_98, fmeantSet_98, fopenedNow_98, fvainNow_98, flowNow_98, fhighNow_98, fisKept_98, tad_98, pl0_98, le0_98, nu0_98, coy_98, wag_98, say_98, e_98, hntad_98, hnpl0_98, hnle0_98, hnnu0_98, hncoy_98, hnwag_98, hnsay_98⟩ := JR.get j_90 cm_100
          clear hntad_14 hnpl0_14 hnle0_14 hnnu0_14 hncoy_14 hnwag_14 hnsay_14
          have sb_x97pl := FG.eq xp_x97 e_98 rfl (by omega) (by omega)
          subst sb_x97pl
          have sb_x97cm := FG.eq xc_x97 e_98 rfl (by omega) (by omega)
          subst sb_x97cm
          have sb_x97wt := FG.eq xt_x97 e_98 rfl (by omega) (by omega)
          subst sb_x97wt
          have sb_x97ln := FG.eq xl_x97 e_98 rfl (by omega) (by omega)
          have hsg_x97 := hP_x97.2.1
          have sb_x97sm := FG.eq xm_x97 e_98 rfl (by omega) (by omega)
          refine aw_aload_n dX12_readsCompared_87 rfl ?_
          refine aw_iload_n dX12_readsCompared_88 rfl ?_
          refine aw_iconst (v := 0) dX12_readsCompared_89 (by decide) ?_
          refine aw_callVv (J' := jX12_notes) (As := [.int 8, .int 0]) (st := []) dX12_readsCompared_90 tb_1249 ok_X12_notes ⟨_, e_98⟩ (by omega) rfl rfl (r_notes l D b N V_91 hN cl j_90.1 8 0 8 0 (by omega) (by omega) ftoldPeople_98 ftoldDoors_98 fwasDoors_98 ffault_98 fopen_98 flines_98 fmeantSet_98 fopenedNow_98 fvainNow_98 flowNow_98 fhighNow_98 fisKept_98 tad_98 pl0_98 le0_98 nu0_98 coy_98 wag_98 say_98 ⟨by omega, by omega, by omega, by omega, by omega, by omega, by omega⟩ e_98 g sd_y96 wa_y96 xg_x97 xs_x97 xw_x97 (by omega)) rfl (Nat.le_of_ble_eq_true rfl) ⟨Nat.le_of_ble_eq_true rfl, Nat.le_of_ble_eq_true rfl, Nat.le_of_ble_eq_true rfl, Nat.le_of_ble_eq_true rfl⟩ (fun  N_106 V_102 q_107 => ?_)
          obtain ⟨h_100, rfl, q_99⟩ := q_107
          have j_101 := JR.trans j_90 (JR.weak q_99 (Sub.cons LM0 (by decide) (by decide) (by decide) (Or.inl rfl) (Sub.cons (LMs LM0) (by decide) (by decide) (by decide) (Or.inr ⟨by decide, by decide⟩) Sub.nil)))
          obtain ⟨hN_103, hN_104, hN_105⟩ := h_100
          have hQ := PS.emit hP_x97 8 0 1 (by omega) (by omega) (by omega) (by omega) (by omega) (by omega) (by omega)
          have hds : dset dp_y96 (coy_98 + 1) 1 (coy_98 + 1) = 1 := dset_s
          refine aw_aload_n dX12_readsCompared_93 rfl ?_
          refine aw_callVv (J' := jX12_endsPiece) (As := []) (st := []) dX12_readsCompared_94 tb_1279 ok_X12_endsPiece ⟨_, hN_103⟩ (by omega) rfl rfl (r_endsPiece l D b N V_102 hN cl j_101.1 g (upd sd_y96 coy_98 (nI (1048576 * 8 + 0))) wa_y96 pl0_98 ln (coy_98 + 1) wag_98 sg (dset dp_y96 (coy_98 + 1) 1) sl sf sh st sm sk ⟨((hN_105 _ (by decide) (by decide)).trans xg_x97), hN_104, ((hN_105 _ (by decide) (by decide)).trans xw_x97), (FG.of hN_103 rfl rfl), (FG.of hN_103 rfl (by omega : le0_98 = ln)), (FG.of hN_103 rfl rfl), (FG.of hN_103 rfl rfl), hQ, ⟨by omega, by omega, by omega, by omega⟩, ((hN_105 _ (by decide) (by decide)).trans xa_x97), ((hN_105 _ (by decide) (by decide)).trans xb_x97), ((hN_105 _ (by decide) (by decide)).trans xd_x97), ((hN_105 _ (by decide) (by decide)).trans xe_x97), (FG.of hN_103 rfl (by omega : say_98 = sm)), by omega⟩ (by omega) (by rw [sa_y96 0 (by omega), sa_y12 0 (by omega)]; exact h13) (by omega)) rfl (Nat.le_of_ble_eq_true rfl) ⟨Nat.le_of_ble_eq_true rfl, Nat.le_of_ble_eq_true rfl, Nat.le_of_ble_eq_true rfl, Nat.le_of_ble_eq_true rfl⟩ (fun  N_112 V_111 q_113 => ?_)
          obtain ⟨h_109, rfl, q_108⟩ := q_113
          have j_110 := JR.trans j_101 (JR.weak q_108 (Sub.cons LM0 (by decide) (by decide) (by decide) (Or.inl rfl) (Sub.cons (LMs LM0) (by decide) (by decide) (by decide) (Or.inr ⟨by decide, by decide⟩) (Sub.cons (LMs (LMs (LMs (LMs (LMs (LMs LM0)))))) (by decide) (by decide) (by decide) (Or.inr ⟨by decide, by decide⟩) (Sub.cons (LMs (LMs (LMs (LMs (LMs LM0))))) (by decide) (by decide) (by decide) (Or.inr ⟨by decide, by decide⟩) Sub.nil)))))
          obtain ⟨sd_y114, pl_y114, cm_y114, wt_y114, dp_y114, hX_y114, qp_y114, qw_y114, q1_y114, qs_y114, qd_y114, qe_y114⟩ := h_109
          obtain ⟨xg_x115, xs_x115, xw_x115, xp_x115, xl_x115, xc_x115, xt_x115, hP_x115, ⟨hB1_x115, hB2_x115, hB3_x115, hB4_x115⟩, xa_x115, xb_x115, xd_x115, xe_x115, xm_x115, hB5_x115⟩ := hX_y114
          obtain ⟨ftoldPeople_116, ftoldDoors_116, fwasDoors_116, ffault_116, fopen_116, flines_116, fmeantSet_116, fopenedNow_116, fvainNow_116, flowNow_116, fhighNow_116, fisKept_116, tad_116, pl0_116, le0_116, nu0_116, coy_116, wag_116, say_116, e_116, hntad_116, hnpl0_116, hnle0_116, hnnu0_116, hncoy_116, hnwag_116, hnsay_116⟩ := JR.get j_110 cm_100
          clear hntad_98 hnpl0_98 hnle0_98 hnnu0_98 hncoy_98 hnwag_98 hnsay_98
          have sb_x115pl := FG.eq xp_x115 e_116 rfl (by omega) (by omega)
          subst sb_x115pl
          have sb_x115cm := FG.eq xc_x115 e_116 rfl (by omega) (by omega)
          subst sb_x115cm
          have sb_x115wt := FG.eq xt_x115 e_116 rfl (by omega) (by omega)
          subst sb_x115wt
          have sb_x115ln := FG.eq xl_x115 e_116 rfl (by omega) (by omega)
          have hsg_x115 := hP_x115.2.1
          have sb_x115sm := FG.eq xm_x115 e_116 rfl (by omega) (by omega)
          refine aw_iconst (v := 1) dX12_readsCompared_97 (by decide) ?_
          refine aw_zreti dX12_readsCompared_98 rfl (by first | exact Or.inl rfl | exact Or.inr rfl | assumption) (Nat.le_of_ble_eq_true rfl) (Nat.le_of_ble_eq_true rfl) ?_
          exact ⟨⟨(by first | exact Or.inl rfl | exact Or.inr rfl | assumption), Or.inr ⟨sd_y114, wa_y96, pl0_116, coy_116, wag_116, dp_y114, ⟨xg_x115, xs_x115, xw_x115, (FG.of e_116 rfl rfl), (FG.of e_116 rfl (by omega : le0_116 = ln)), (FG.of e_116 rfl rfl), (FG.of e_116 rfl rfl), hP_x115, ⟨by omega, by omega, by omega, by omega⟩, xa_x115, xb_x115, xd_x115, xe_x115, (FG.of e_116 rfl (by omega : say_116 = sm)), by omega⟩, by omega, by omega, agr sa_y12 sa_y96 (by omega), (fun k hk => (((qs_y114 k hk).trans (pk_un (by omega))).trans (ss_y96 k hk)).trans (ss_y12 k hk)), by omega, by omega⟩⟩, rfl, j_110⟩
        · skip
          refine aw_iconst (v := 0) dX12_readsCompared_85 (by decide) ?_
          refine aw_zreti dX12_readsCompared_86 rfl (by first | exact Or.inl rfl | exact Or.inr rfl | assumption) (Nat.le_of_ble_eq_true rfl) (Nat.le_of_ble_eq_true rfl) ?_
          exact ⟨⟨(by first | exact Or.inl rfl | exact Or.inr rfl | assumption), Or.inl rfl⟩, rfl, j_90⟩
    · skip
      have hlc_21 := here_lt h_16 c_21 (by decide)
      refine aw_bipush (v := 7) dX12_readsCompared_18 (by decide) ?_
      refine aw_goto (tgt := 52) dX12_readsCompared_20 (by decide) ?_
      refine aw_istore_n (ls' := [some (.ref (b + 100)), some (.int 7)]) dX12_readsCompared_52 (Nat.le_of_ble_eq_true rfl) rfl ?_
      refine aw_iload_n dX12_readsCompared_53 rfl ?_
      refine aw_iconst (v := (-1)) dX12_readsCompared_54 (by decide) ?_
      refine aw_icmp_ne (tgt := 68) dX12_readsCompared_55 (by decide) (fun c_117 => ?_) (fun c_117 => ?_)
      rotate_left
      · exact absurd c_117 (by decide)
      refine aw_aload_n dX12_readsCompared_68 rfl ?_
      refine aw_aload_n dX12_readsCompared_69 rfl ?_
      refine aw_get dX12_readsCompared_70 fl_X12_159 e_14 (by omega) rfl ?_
      refine aw_iconst (v := 1) dX12_readsCompared_73 (by decide) ?_
      refine aw_iadd dX12_readsCompared_74 ?_
      refine aw_eqi (y := nI (pl0_14 + 1)) (nI_add _ _) ?_
      refine aw_put dX12_readsCompared_75 fp_X12_159 e_14 (by omega) rfl rfl (Nat.le_of_ble_eq_true rfl) rfl ?_
      refine aw_upR j_6 cm_100 ⟨_, _, _, _, _, _, _, _, _, _, _, _, tad_14, (pl0_14 + 1), le0_14, nu0_14, coy_14, wag_14, say_14, rfl, by omega, by omega, by omega, by omega, by omega, by omega, by omega⟩ (by decide) (WO (s := 14) (x := .int (nI (pl0_14 + 1))) e_14 rfl (LMs (LMs LM0)) (by decide) (by decide) (by decide) (Or.inl (by decide))) (fun V_118 j_118 k_118 e_118 => ?_)
      have hb2 : 10 ≤ opOf (wa_y12 (wag_14 - 1)) := by rw [show wag_14 = wag_2 by omega, sa_y12 (wag_2 - 1) (by omega)]; exact hbt
      refine aw_aload_n dX12_readsCompared_78 rfl ?_
      refine aw_callVi (J' := jX12_readsSum) (As := []) (st := []) dX12_readsCompared_79 tb_1228 ok_X12_readsSum ⟨_, e_118⟩ (by omega) rfl rfl (r_readsSum l D b N V_118 hN cl j_118.1 g sd_y12 wa_y12 (pl0_14 + 1) ln coy_14 wag_14 sg dp_y12 sl sf sh st sm (sk + 1) ⟨((k_118 _ (by decide)).trans xg_x13), ((k_118 _ (by decide)).trans xs_x13), ((k_118 _ (by decide)).trans xw_x13), (FG.of e_118 rfl rfl), (FG.of e_118 rfl (by omega : le0_14 = ln)), (FG.of e_118 rfl rfl), (FG.of e_118 rfl rfl), hP_x13, ⟨by omega, by omega, by omega, by omega⟩, ((k_118 _ (by decide)).trans xa_x13), ((k_118 _ (by decide)).trans xb_x13), ((k_118 _ (by decide)).trans xd_x13), ((k_118 _ (by decide)).trans xe_x13), (FG.of e_118 rfl (by omega : say_14 = sm)), by omega⟩ (Or.inr hb2)) rfl (Nat.le_of_ble_eq_true rfl) ⟨Nat.le_of_ble_eq_true rfl, Nat.le_of_ble_eq_true rfl, Nat.le_of_ble_eq_true rfl, Nat.le_of_ble_eq_true rfl⟩ (fun r_124 N_125 V_123 q_126 => ?_)
      obtain ⟨⟨z_121, h_120⟩, rfl, q_119⟩ := q_126
      have j_122 := JR.trans j_118 (JR.weak q_119 (Sub.cons LM0 (by decide) (by decide) (by decide) (Or.inl rfl) (Sub.cons (LMs LM0) (by decide) (by decide) (by decide) (Or.inr ⟨by decide, by decide⟩) (Sub.cons (LMs (LMs LM0)) (by decide) (by decide) (by decide) (Or.inr ⟨by decide, by decide⟩) (Sub.cons (LMs (LMs (LMs LM0))) (by decide) (by decide) (by decide) (Or.inr ⟨by decide, by decide⟩) (Sub.cons (LMs (LMs (LMs (LMs LM0)))) (by decide) (by decide) (by decide) (Or.inr ⟨by decide, by decide⟩) (Sub.cons (LMs (LMs (LMs (LMs (LMs LM0))))) (by decide) (by decide) (by decide) (Or.inr ⟨by decide, by decide⟩) (Sub.cons (LMs (LMs (LMs (LMs (LMs (LMs LM0)))))) (by decide) (by decide) (by decide) (Or.inr ⟨by decide, by decide⟩) Sub.nil))))))))
      refine aw_if_ne (tgt := 87) dX12_readsCompared_82 (by decide) (fun c_127 => ?_) (fun c_127 => ?_)
      · skip
        obtain ⟨sd_y128, wa_y128, pl_y128, cm_y128, wt_y128, dp_y128, hX_y128, sw_y128, sa_y128, ss_y128, sd9_y128, sp_y128⟩ := (h_120.resolve_left c_127)
        obtain ⟨xg_x129, xs_x129, xw_x129, xp_x129, xl_x129, xc_x129, xt_x129, hP_x129, ⟨hB1_x129, hB2_x129, hB3_x129, hB4_x129⟩, xa_x129, xb_x129, xd_x129, xe_x129, xm_x129, hB5_x129⟩ := hX_y128
        obtain ⟨ftoldPeople_130, ftoldDoors_130, fwasDoors_130, ffault_130, fopen_130, flines_130, fmeantSet_130, fopenedNow_130, fvainNow_130, flowNow_130, fhighNow_130, fisKept_130, tad_130, pl0_130, le0_130, nu0_130, coy_130, wag_130, say_130, e_130, hntad_130, hnpl0_130, hnle0_130, hnnu0_130, hncoy_130, hnwag_130, hnsay_130⟩ := JR.get j_122 cm_100
        clear hntad_14 hnpl0_14 hnle0_14 hnnu0_14 hncoy_14 hnwag_14 hnsay_14
        have sb_x129pl := FG.eq xp_x129 e_130 rfl (by omega) (by omega)
        subst sb_x129pl
        have sb_x129cm := FG.eq xc_x129 e_130 rfl (by omega) (by omega)
        subst sb_x129cm
        have sb_x129wt := FG.eq xt_x129 e_130 rfl (by omega) (by omega)
        subst sb_x129wt
        have sb_x129ln := FG.eq xl_x129 e_130 rfl (by omega) (by omega)
        have hsg_x129 := hP_x129.2.1
        have sb_x129sm := FG.eq xm_x129 e_130 rfl (by omega) (by omega)
        refine aw_aload_n dX12_readsCompared_87 rfl ?_
        refine aw_iload_n dX12_readsCompared_88 rfl ?_
        refine aw_iconst (v := 0) dX12_readsCompared_89 (by decide) ?_
        refine aw_callVv (J' := jX12_notes) (As := [.int 7, .int 0]) (st := []) dX12_readsCompared_90 tb_1249 ok_X12_notes ⟨_, e_130⟩ (by omega) rfl rfl (r_notes l D b N V_123 hN cl j_122.1 7 0 7 0 (by omega) (by omega) ftoldPeople_130 ftoldDoors_130 fwasDoors_130 ffault_130 fopen_130 flines_130 fmeantSet_130 fopenedNow_130 fvainNow_130 flowNow_130 fhighNow_130 fisKept_130 tad_130 pl0_130 le0_130 nu0_130 coy_130 wag_130 say_130 ⟨by omega, by omega, by omega, by omega, by omega, by omega, by omega⟩ e_130 g sd_y128 wa_y128 xg_x129 xs_x129 xw_x129 (by omega)) rfl (Nat.le_of_ble_eq_true rfl) ⟨Nat.le_of_ble_eq_true rfl, Nat.le_of_ble_eq_true rfl, Nat.le_of_ble_eq_true rfl, Nat.le_of_ble_eq_true rfl⟩ (fun  N_138 V_134 q_139 => ?_)
        obtain ⟨h_132, rfl, q_131⟩ := q_139
        have j_133 := JR.trans j_122 (JR.weak q_131 (Sub.cons LM0 (by decide) (by decide) (by decide) (Or.inl rfl) (Sub.cons (LMs LM0) (by decide) (by decide) (by decide) (Or.inr ⟨by decide, by decide⟩) Sub.nil)))
        obtain ⟨hN_135, hN_136, hN_137⟩ := h_132
        have hQ := PS.emit hP_x129 7 0 1 (by omega) (by omega) (by omega) (by omega) (by omega) (by omega) (by omega)
        have hds : dset dp_y128 (coy_130 + 1) 1 (coy_130 + 1) = 1 := dset_s
        refine aw_aload_n dX12_readsCompared_93 rfl ?_
        refine aw_callVv (J' := jX12_endsPiece) (As := []) (st := []) dX12_readsCompared_94 tb_1279 ok_X12_endsPiece ⟨_, hN_135⟩ (by omega) rfl rfl (r_endsPiece l D b N V_134 hN cl j_133.1 g (upd sd_y128 coy_130 (nI (1048576 * 7 + 0))) wa_y128 pl0_130 ln (coy_130 + 1) wag_130 sg (dset dp_y128 (coy_130 + 1) 1) sl sf sh st sm sk ⟨((hN_137 _ (by decide) (by decide)).trans xg_x129), hN_136, ((hN_137 _ (by decide) (by decide)).trans xw_x129), (FG.of hN_135 rfl rfl), (FG.of hN_135 rfl (by omega : le0_130 = ln)), (FG.of hN_135 rfl rfl), (FG.of hN_135 rfl rfl), hQ, ⟨by omega, by omega, by omega, by omega⟩, ((hN_137 _ (by decide) (by decide)).trans xa_x129), ((hN_137 _ (by decide) (by decide)).trans xb_x129), ((hN_137 _ (by decide) (by decide)).trans xd_x129), ((hN_137 _ (by decide) (by decide)).trans xe_x129), (FG.of hN_135 rfl (by omega : say_130 = sm)), by omega⟩ (by omega) (by rw [sa_y128 0 (by omega), sa_y12 0 (by omega)]; exact h13) (by omega)) rfl (Nat.le_of_ble_eq_true rfl) ⟨Nat.le_of_ble_eq_true rfl, Nat.le_of_ble_eq_true rfl, Nat.le_of_ble_eq_true rfl, Nat.le_of_ble_eq_true rfl⟩ (fun  N_144 V_143 q_145 => ?_)
        obtain ⟨h_141, rfl, q_140⟩ := q_145
        have j_142 := JR.trans j_133 (JR.weak q_140 (Sub.cons LM0 (by decide) (by decide) (by decide) (Or.inl rfl) (Sub.cons (LMs LM0) (by decide) (by decide) (by decide) (Or.inr ⟨by decide, by decide⟩) (Sub.cons (LMs (LMs (LMs (LMs (LMs (LMs LM0)))))) (by decide) (by decide) (by decide) (Or.inr ⟨by decide, by decide⟩) (Sub.cons (LMs (LMs (LMs (LMs (LMs LM0))))) (by decide) (by decide) (by decide) (Or.inr ⟨by decide, by decide⟩) Sub.nil)))))
        obtain ⟨sd_y146, pl_y146, cm_y146, wt_y146, dp_y146, hX_y146, qp_y146, qw_y146, q1_y146, qs_y146, qd_y146, qe_y146⟩ := h_141
        obtain ⟨xg_x147, xs_x147, xw_x147, xp_x147, xl_x147, xc_x147, xt_x147, hP_x147, ⟨hB1_x147, hB2_x147, hB3_x147, hB4_x147⟩, xa_x147, xb_x147, xd_x147, xe_x147, xm_x147, hB5_x147⟩ := hX_y146
        obtain ⟨ftoldPeople_148, ftoldDoors_148, fwasDoors_148, ffault_148, fopen_148, flines_148, fmeantSet_148, fopenedNow_148, fvainNow_148, flowNow_148, fhighNow_148, fisKept_148, tad_148, pl0_148, le0_148, nu0_148, coy_148, wag_148, say_148, e_148, hntad_148, hnpl0_148, hnle0_148, hnnu0_148, hncoy_148, hnwag_148, hnsay_148⟩ := JR.get j_142 cm_100
        clear hntad_130 hnpl0_130 hnle0_130 hnnu0_130 hncoy_130 hnwag_130 hnsay_130
        have sb_x147pl := FG.eq xp_x147 e_148 rfl (by omega) (by omega)
        subst sb_x147pl
        have sb_x147cm := FG.eq xc_x147 e_148 rfl (by omega) (by omega)
        subst sb_x147cm
        have sb_x147wt := FG.eq xt_x147 e_148 rfl (by omega) (by omega)
        subst sb_x147wt
        have sb_x147ln := FG.eq xl_x147 e_148 rfl (by omega) (by omega)
        have hsg_x147 := hP_x147.2.1
        have sb_x147sm := FG.eq xm_x147 e_148 rfl (by omega) (by omega)
        refine aw_iconst (v := 1) dX12_readsCompared_97 (by decide) ?_
        refine aw_zreti dX12_readsCompared_98 rfl (by first | exact Or.inl rfl | exact Or.inr rfl | assumption) (Nat.le_of_ble_eq_true rfl) (Nat.le_of_ble_eq_true rfl) ?_
        exact ⟨⟨(by first | exact Or.inl rfl | exact Or.inr rfl | assumption), Or.inr ⟨sd_y146, wa_y128, pl0_148, coy_148, wag_148, dp_y146, ⟨xg_x147, xs_x147, xw_x147, (FG.of e_148 rfl rfl), (FG.of e_148 rfl (by omega : le0_148 = ln)), (FG.of e_148 rfl rfl), (FG.of e_148 rfl rfl), hP_x147, ⟨by omega, by omega, by omega, by omega⟩, xa_x147, xb_x147, xd_x147, xe_x147, (FG.of e_148 rfl (by omega : say_148 = sm)), by omega⟩, by omega, by omega, agr sa_y12 sa_y128 (by omega), (fun k hk => (((qs_y146 k hk).trans (pk_un (by omega))).trans (ss_y128 k hk)).trans (ss_y12 k hk)), by omega, by omega⟩⟩, rfl, j_142⟩
      · skip
        refine aw_iconst (v := 0) dX12_readsCompared_85 (by decide) ?_
        refine aw_zreti dX12_readsCompared_86 rfl (by first | exact Or.inl rfl | exact Or.inr rfl | assumption) (Nat.le_of_ble_eq_true rfl) (Nat.le_of_ble_eq_true rfl) ?_
        exact ⟨⟨(by first | exact Or.inl rfl | exact Or.inr rfl | assumption), Or.inl rfl⟩, rfl, j_122⟩
  · skip
    refine aw_iconst (v := 0) dX12_readsCompared_7 (by decide) ?_
    refine aw_zreti dX12_readsCompared_8 rfl (by first | exact Or.inl rfl | exact Or.inr rfl | assumption) (Nat.le_of_ble_eq_true rfl) (Nat.le_of_ble_eq_true rfl) ?_
    exact ⟨⟨(by first | exact Or.inl rfl | exact Or.inr rfl | assumption), Or.inl rfl⟩, rfl, j_6⟩
