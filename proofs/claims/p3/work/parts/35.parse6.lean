set_option maxHeartbeats 100000000 in
set_option maxRecDepth 100000 in
theorem r_readsCondition (l : Launch) (D : va_G) (b : Nat) (N : Nat) (V : Wd) (hN : 133 ≤ N) (cl : Nat) (hW : CR D b cl V)   (g sd wa : Nat → Int32) (pl ln cm wt sg : Nat) (dep : Nat → Nat) (sl sf sh st : Nat → Int32) (sm sk : Nat) (hX : PX D b V g pl ln cm wt sg sd wa dep sl sf sh st sm sk) (h0 : wt = 0) (hd0 : dep cm = 0) : MI l D b 6 jX12_readsCondition [.ref (b + 100)] N V 0 0 (fun r N9 V9 => ((r = 0 ∨ r = 1) ∧ (r = 0 ∨ (∃ (sd9 wa9 : Nat → Int32) (pl9 cm9 wt9 : Nat) (dep9 : Nat → Nat), PX D b V9 g pl9 ln cm9 wt9 sg sd9 wa9 dep9 sl sf sh st sm sk ∧ wt9 = 0 ∧ (∀ k, k < sg → sd9 k = sd k) ∧ dep9 cm9 = 1 ∧ pl < pl9))) ∧ N = N9 ∧ JR D b N cl [(111, 112, 0, 1000000), (100, 100, 18, 18), (100, 100, 20, 20), (100, 100, 14, 14), (100, 100, 16, 16), (100, 100, 19, 19), (100, 100, 17, 17)] V V9) := by
  have hJ0 : JR D b N cl [(111, 112, 0, 1000000), (100, 100, 18, 18), (100, 100, 20, 20), (100, 100, 14, 14), (100, 100, 16, 16), (100, 100, 19, 19), (100, 100, 17, 17)] V V := JR.rf hW
  refine mw_of (by decide) (by simp [Value.category]) (Nat.le_of_ble_eq_true rfl) ?_
  show AW l D b jX12_readsCondition (fx_rm 6 0 0) none (fx_MQ D b 0 0 (fx_qi (fun r N9 V9 => ((r = 0 ∨ r = 1) ∧ (r = 0 ∨ (∃ (sd9 wa9 : Nat → Int32) (pl9 cm9 wt9 : Nat) (dep9 : Nat → Nat), PX D b V9 g pl9 ln cm9 wt9 sg sd9 wa9 dep9 sl sf sh st sm sk ∧ wt9 = 0 ∧ (∀ k, k < sg → sd9 k = sd k) ∧ dep9 cm9 = 1 ∧ pl < pl9))) ∧ N = N9 ∧ JR D b N cl [(111, 112, 0, 1000000), (100, 100, 18, 18), (100, 100, 20, 20), (100, 100, 14, 14), (100, 100, 16, 16), (100, 100, 19, 19), (100, 100, 17, 17)] V V9))) 0 [some (.ref (b + 100))] [] N V 0 0
  obtain ⟨xg_x1, xs_x1, xw_x1, xp_x1, xl_x1, xc_x1, xt_x1, hP_x1, ⟨hB1_x1, hB2_x1, hB3_x1, hB4_x1⟩, xa_x1, xb_x1, xd_x1, xe_x1, xm_x1, hB5_x1⟩ := id hX
  obtain ⟨ftoldPeople_2, ftoldDoors_2, fwasDoors_2, ffault_2, fopen_2, flines_2, fmeantSet_2, fopenedNow_2, fvainNow_2, flowNow_2, fhighNow_2, fisKept_2, tad_2, pl0_2, le0_2, nu0_2, coy_2, wag_2, say_2, e_2, hntad_2, hnpl0_2, hnle0_2, hnnu0_2, hncoy_2, hnwag_2, hnsay_2⟩ := JR.get hJ0 cm_100
  have sb_x1pl := FG.eq xp_x1 e_2 rfl (by omega) (by omega)
  subst sb_x1pl
  have sb_x1cm := FG.eq xc_x1 e_2 rfl (by omega) (by omega)
  subst sb_x1cm
  have sb_x1wt := FG.eq xt_x1 e_2 rfl (by omega) (by omega)
  subst sb_x1wt
  have sb_x1ln := FG.eq xl_x1 e_2 rfl (by omega) (by omega)
  have hsg_x1 := hP_x1.2.1
  have sb_x1sm := FG.eq xm_x1 e_2 rfl (by omega) (by omega)
  refine aw_aload_n dX12_readsCondition_0 rfl ?_
  refine aw_callVi (J' := jX12_here) (As := []) (st := []) dX12_readsCondition_1 tb_1220 ok_X12_here ⟨_, e_2⟩ (by omega) rfl rfl (r_here l D b N V hN cl hJ0.1 g xg_x1 pl0_2 le0_2 (FG.of e_2 rfl rfl) (FG.of e_2 rfl rfl) ⟨by omega, by omega⟩) rfl (Nat.le_of_ble_eq_true rfl) ⟨Nat.le_of_ble_eq_true rfl, Nat.le_of_ble_eq_true rfl, Nat.le_of_ble_eq_true rfl, Nat.le_of_ble_eq_true rfl⟩ (fun r_5 N_6 V_7 q_8 => ?_)
  obtain ⟨h_4, rfl, rfl⟩ := q_8
  refine aw_bipush (v := 40) dX12_readsCondition_4 (by decide) ?_
  refine aw_icmp_eq (tgt := 19) dX12_readsCondition_6 (by decide) (fun c_9 => ?_) (fun c_9 => ?_)
  · skip
    have hlc_9 := here_lt h_4 c_9 (by decide)
    refine aw_aload_n dX12_readsCondition_19 rfl ?_
    refine aw_iconst (v := 0) dX12_readsCondition_20 (by decide) ?_
    refine aw_put dX12_readsCondition_21 fp_X12_186 e_2 (by omega) rfl rfl (Nat.le_of_ble_eq_true rfl) rfl ?_
    refine aw_upR hJ0 cm_100 ⟨_, _, _, _, _, _, _, _, _, _, _, _, tad_2, pl0_2, le0_2, nu0_2, coy_2, wag_2, say_2, rfl, by omega, by omega, by omega, by omega, by omega, by omega, by omega⟩ (by decide) (WO (s := 18) (x := .int 0) e_2 rfl (LMs LM0) (by decide) (by decide) (by decide) (Or.inl (by decide))) (fun V_10 j_10 k_10 e_10 => ?_)
    refine aw_aload_n dX12_readsCondition_24 rfl ?_
    refine aw_iconst (v := 0) dX12_readsCondition_25 (by decide) ?_
    refine aw_put dX12_readsCondition_26 fp_X12_189 e_10 (by omega) rfl rfl (Nat.le_of_ble_eq_true rfl) rfl ?_
    refine aw_upR j_10 cm_100 ⟨_, _, _, _, _, _, _, _, _, _, _, _, tad_2, pl0_2, le0_2, nu0_2, coy_2, 0, say_2, rfl, by omega, by omega, by omega, by omega, by omega, by omega, by omega⟩ (by decide) (WO (s := 20) (x := .int 0) e_10 rfl (LMs (LMs LM0)) (by decide) (by decide) (by decide) (Or.inl (by decide))) (fun V_11 j_11 k_11 e_11 => ?_)
    have hP0 : PS sd wa sg coy_2 0 dep := h0 ▸ hP_x1
    have hz0 : wgt wa 0 = 0 := rfl
    refine aw_aload_n dX12_readsCondition_29 rfl ?_
    refine aw_bipush (v := 13) dX12_readsCondition_30 (by decide) ?_
    refine aw_callVi (J' := jX12_opens) (As := [.int 13]) (st := []) dX12_readsCondition_32 tb_1236 ok_X12_opens ⟨_, e_11⟩ (by omega) rfl rfl (r_opens l D b N V_11 hN cl j_11.1 13 13 (by omega) ftoldPeople_2 ftoldDoors_2 fwasDoors_2 ffault_2 0 flines_2 fmeantSet_2 fopenedNow_2 fvainNow_2 flowNow_2 fhighNow_2 fisKept_2 tad_2 pl0_2 le0_2 nu0_2 coy_2 0 say_2 ⟨by omega, by omega, by omega, by omega, by omega, by omega, by omega⟩ e_11 g sd wa ((k_11 _ (by decide)).trans ((k_10 _ (by decide)).trans xg_x1)) ((k_11 _ (by decide)).trans ((k_10 _ (by decide)).trans xs_x1)) ((k_11 _ (by decide)).trans ((k_10 _ (by decide)).trans xw_x1)) (by omega) (by omega)) rfl (Nat.le_of_ble_eq_true rfl) ⟨Nat.le_of_ble_eq_true rfl, Nat.le_of_ble_eq_true rfl, Nat.le_of_ble_eq_true rfl, Nat.le_of_ble_eq_true rfl⟩ (fun r_17 N_18 V_16 q_19 => ?_)
    obtain ⟨⟨z_14, h_13⟩, rfl, q_12⟩ := q_19
    have j_15 := JR.trans j_11 (JR.weak q_12 (Sub.cons LM0 (by decide) (by decide) (by decide) (Or.inl rfl) (Sub.cons (LMs LM0) (by decide) (by decide) (by decide) (Or.inr ⟨by decide, by decide⟩) (Sub.cons (LMs (LMs LM0)) (by decide) (by decide) (by decide) (Or.inr ⟨by decide, by decide⟩) (Sub.cons (LMs (LMs (LMs LM0))) (by decide) (by decide) (by decide) (Or.inr ⟨by decide, by decide⟩) (Sub.cons (LMs (LMs (LMs (LMs LM0)))) (by decide) (by decide) (by decide) (Or.inr ⟨by decide, by decide⟩) Sub.nil))))))
    refine aw_if_ne (tgt := 40) dX12_readsCondition_35 (by decide) (fun c_20 => ?_) (fun c_20 => ?_)
    · skip
      obtain ⟨hO_21, hO_22, hO_23⟩ := (h_13.resolve_left c_20)
      have hO_24 := PS.push hP0 13 (by decide) (by decide) (by decide)
      have whO_24 : wgt (upd wa 0 (nI (1048576 * 13))) (0 + 1) = wgt wa 0 + 0 := by rw [wgt_push, show nI (1048576 * 13) = nI (1048576 * 13 + 0) from rfl, opOf_nI (by decide) (by decide)]; rfl
      have ml_40_25 : ∀ (m : Nat) (p40 : Nat) (c40 : Nat) (w40 : Nat) (sd40 : Nat → Int32) (wa40 : Nat → Int32) (dp40 : Nat → Nat) (V40 : Wd), m = 240 - p40 → (JR D b N cl [(111, 112, 0, 1000000), (100, 100, 18, 18), (100, 100, 20, 20), (100, 100, 14, 14), (100, 100, 16, 16), (100, 100, 19, 19), (100, 100, 17, 17)] V V40) → (PX D b V40 g p40 ln c40 w40 sg sd40 wa40 dp40 sl sf sh st sm sk) → (pl0_2 < p40) → (1 ≤ w40) → (opOf (wa40 0) = 13) → (10 ≤ opOf (wa40 (w40 - 1))) → (∀ k, k < sg → sd40 k = sd k) → (dp40 c40 = 0) → AW l D b jX12_readsCondition (fx_rm 6 0 0) none (fx_MQ D b 0 0 (fx_qi (fun r N9 V9 => ((r = 0 ∨ r = 1) ∧ (r = 0 ∨ (∃ (sd9 wa9 : Nat → Int32) (pl9 cm9 wt9 : Nat) (dep9 : Nat → Nat), PX D b V9 g pl9 ln cm9 wt9 sg sd9 wa9 dep9 sl sf sh st sm sk ∧ wt9 = 0 ∧ (∀ k, k < sg → sd9 k = sd k) ∧ dep9 cm9 = 1 ∧ pl0_2 < pl9))) ∧ N = N9 ∧ JR D b N cl [(111, 112, 0, 1000000), (100, 100, 18, 18), (100, 100, 20, 20), (100, 100, 14, 14), (100, 100, 16, 16), (100, 100, 19, 19), (100, 100, 17, 17)] V V9))) 40 [some (.ref (b + 100))] [] N V40 0 0 := by
        intro m; refine Nat.strongRecOn m ?_
        intro m mih_40_25 p40 c40 w40 sd40 wa40 dp40 V40 hm40 i40_0 i40_1 i40_2 i40_3 i40_4 i40_5 i40_6 i40_7
        obtain ⟨xg_x26, xs_x26, xw_x26, xp_x26, xl_x26, xc_x26, xt_x26, hP_x26, ⟨hB1_x26, hB2_x26, hB3_x26, hB4_x26⟩, xa_x26, xb_x26, xd_x26, xe_x26, xm_x26, hB5_x26⟩ := i40_1
        obtain ⟨ftoldPeople_27, ftoldDoors_27, fwasDoors_27, ffault_27, fopen_27, flines_27, fmeantSet_27, fopenedNow_27, fvainNow_27, flowNow_27, fhighNow_27, fisKept_27, tad_27, pl0_27, le0_27, nu0_27, coy_27, wag_27, say_27, e_27, hntad_27, hnpl0_27, hnle0_27, hnnu0_27, hncoy_27, hnwag_27, hnsay_27⟩ := JR.get i40_0 cm_100
        clear hntad_2 hnpl0_2 hnle0_2 hnnu0_2 hncoy_2 hnwag_2 hnsay_2
        have sb_x26pl := FG.eq xp_x26 e_27 rfl (by omega) (by omega)
        subst sb_x26pl
        have sb_x26cm := FG.eq xc_x26 e_27 rfl (by omega) (by omega)
        subst sb_x26cm
        have sb_x26wt := FG.eq xt_x26 e_27 rfl (by omega) (by omega)
        subst sb_x26wt
        have sb_x26ln := FG.eq xl_x26 e_27 rfl (by omega) (by omega)
        have hsg_x26 := hP_x26.2.1
        have sb_x26sm := FG.eq xm_x26 e_27 rfl (by omega) (by omega)
        refine aw_aload_n dX12_readsCondition_40 rfl ?_
        refine aw_callVi (J' := jX12_here) (As := []) (st := []) dX12_readsCondition_41 tb_1220 ok_X12_here ⟨_, e_27⟩ (by omega) rfl rfl (r_here l D b N V40 hN cl i40_0.1 g xg_x26 pl0_27 le0_27 (FG.of e_27 rfl rfl) (FG.of e_27 rfl rfl) ⟨by omega, by omega⟩) rfl (Nat.le_of_ble_eq_true rfl) ⟨Nat.le_of_ble_eq_true rfl, Nat.le_of_ble_eq_true rfl, Nat.le_of_ble_eq_true rfl, Nat.le_of_ble_eq_true rfl⟩ (fun r_30 N_31 V_32 q_33 => ?_)
        obtain ⟨h_29, rfl, rfl⟩ := q_33
        refine aw_bipush (v := 33) dX12_readsCondition_44 (by decide) ?_
        refine aw_icmp_eq (tgt := 58) dX12_readsCondition_46 (by decide) (fun c_34 => ?_) (fun c_34 => ?_)
        · skip
          have hlc_34 := here_lt h_29 c_34 (by decide)
          refine aw_aload_n dX12_readsCondition_58 rfl ?_
          refine aw_aload_n dX12_readsCondition_59 rfl ?_
          refine aw_callVi (J' := jX12_here) (As := []) (st := [.ref (b + 100)]) dX12_readsCondition_60 tb_1220 ok_X12_here ⟨_, e_27⟩ (by omega) rfl rfl (r_here l D b N V40 hN cl i40_0.1 g xg_x26 pl0_27 le0_27 (FG.of e_27 rfl rfl) (FG.of e_27 rfl rfl) ⟨by omega, by omega⟩) rfl (Nat.le_of_ble_eq_true rfl) ⟨Nat.le_of_ble_eq_true rfl, Nat.le_of_ble_eq_true rfl, Nat.le_of_ble_eq_true rfl, Nat.le_of_ble_eq_true rfl⟩ (fun r_37 N_38 V_39 q_40 => ?_)
          obtain ⟨h_36, rfl, rfl⟩ := q_40
          refine aw_eqi (y := 33) (h_36.trans (h_29.symm.trans c_34)) ?_
          refine aw_bipush (v := 33) dX12_readsCondition_63 (by decide) ?_
          refine aw_icmp_ne (tgt := 73) dX12_readsCondition_65 (by decide) (fun c_41 => ?_) (fun c_41 => ?_)
          · exact absurd rfl c_41
          refine aw_bipush (v := 10) dX12_readsCondition_68 (by decide) ?_
          refine aw_goto (tgt := 75) dX12_readsCondition_70 (by decide) ?_
          refine aw_callVi (J' := jX12_opens) (As := [.int 10]) (st := []) dX12_readsCondition_75 tb_1236 ok_X12_opens ⟨_, e_27⟩ (by omega) rfl rfl (r_opens l D b N V40 hN cl i40_0.1 10 10 (by omega) ftoldPeople_27 ftoldDoors_27 fwasDoors_27 ffault_27 fopen_27 flines_27 fmeantSet_27 fopenedNow_27 fvainNow_27 flowNow_27 fhighNow_27 fisKept_27 tad_27 pl0_27 le0_27 nu0_27 coy_27 wag_27 say_27 ⟨by omega, by omega, by omega, by omega, by omega, by omega, by omega⟩ e_27 g sd40 wa40 xg_x26 xs_x26 xw_x26 (by omega) (by omega)) rfl (Nat.le_of_ble_eq_true rfl) ⟨Nat.le_of_ble_eq_true rfl, Nat.le_of_ble_eq_true rfl, Nat.le_of_ble_eq_true rfl, Nat.le_of_ble_eq_true rfl⟩ (fun r_47 N_48 V_46 q_49 => ?_)
          obtain ⟨⟨z_44, h_43⟩, rfl, q_42⟩ := q_49
          have j_45 := JR.trans i40_0 (JR.weak q_42 (Sub.cons LM0 (by decide) (by decide) (by decide) (Or.inl rfl) (Sub.cons (LMs LM0) (by decide) (by decide) (by decide) (Or.inr ⟨by decide, by decide⟩) (Sub.cons (LMs (LMs LM0)) (by decide) (by decide) (by decide) (Or.inr ⟨by decide, by decide⟩) (Sub.cons (LMs (LMs (LMs LM0))) (by decide) (by decide) (by decide) (Or.inr ⟨by decide, by decide⟩) (Sub.cons (LMs (LMs (LMs (LMs LM0)))) (by decide) (by decide) (by decide) (Or.inr ⟨by decide, by decide⟩) Sub.nil))))))
          refine aw_if_ne (tgt := 40) dX12_readsCondition_78 (by decide) (fun c_50 => ?_) (fun c_50 => ?_)
          · skip
            obtain ⟨hO_51, hO_52, hO_53⟩ := (h_43.resolve_left c_50)
            have hO_54 := PS.push hP_x26 10 (by decide) (by decide) (by decide)
            have whO_54 : wgt (upd wa40 wag_27 (nI (1048576 * 10))) (wag_27 + 1) = wgt wa40 wag_27 + 1 := by rw [wgt_push, show nI (1048576 * 10) = nI (1048576 * 10 + 0) from rfl, opOf_nI (by decide) (by decide)]; rfl
            refine aw_le ?_ (mih_40_25 _ (by omega) (pl0_27 + 1) coy_27 (wag_27 + 1) sd40 (upd wa40 wag_27 (nI (1048576 * 10))) dp40 V_46 rfl (j_45) (⟨((hO_53 _ (by decide) (by decide)).trans xg_x26), ((hO_53 _ (by decide) (by decide)).trans xs_x26), hO_52, (FG.of hO_51 rfl rfl), (FG.of hO_51 rfl (by omega : le0_27 = ln)), (FG.of hO_51 rfl rfl), (FG.of hO_51 rfl rfl), hO_54, ⟨by omega, by omega, by omega, by omega⟩, ((hO_53 _ (by decide) (by decide)).trans xa_x26), ((hO_53 _ (by decide) (by decide)).trans xb_x26), ((hO_53 _ (by decide) (by decide)).trans xd_x26), ((hO_53 _ (by decide) (by decide)).trans xe_x26), (FG.of hO_51 rfl (by omega : say_27 = sm)), by omega⟩) (by omega) (by omega) ((by rw [pk_un (by omega)]; exact i40_4)) (topu (by decide) (by decide)) (i40_6) (by omega))
            exact ⟨rfl, trivial⟩
          · skip
            refine aw_iconst (v := 0) dX12_readsCondition_81 (by decide) ?_
            refine aw_zreti dX12_readsCondition_82 rfl (by first | exact Or.inl rfl | exact Or.inr rfl | assumption) (Nat.le_of_ble_eq_true rfl) (Nat.le_of_ble_eq_true rfl) ?_
            exact ⟨⟨(by first | exact Or.inl rfl | exact Or.inr rfl | assumption), Or.inl rfl⟩, rfl, j_45⟩
        · skip
          refine aw_aload_n dX12_readsCondition_49 rfl ?_
          refine aw_callVi (J' := jX12_here) (As := []) (st := []) dX12_readsCondition_50 tb_1220 ok_X12_here ⟨_, e_27⟩ (by omega) rfl rfl (r_here l D b N V40 hN cl i40_0.1 g xg_x26 pl0_27 le0_27 (FG.of e_27 rfl rfl) (FG.of e_27 rfl rfl) ⟨by omega, by omega⟩) rfl (Nat.le_of_ble_eq_true rfl) ⟨Nat.le_of_ble_eq_true rfl, Nat.le_of_ble_eq_true rfl, Nat.le_of_ble_eq_true rfl, Nat.le_of_ble_eq_true rfl⟩ (fun r_57 N_58 V_59 q_60 => ?_)
          obtain ⟨h_56, rfl, rfl⟩ := q_60
          refine aw_bipush (v := 40) dX12_readsCondition_53 (by decide) ?_
          refine aw_icmp_ne (tgt := 83) dX12_readsCondition_55 (by decide) (fun c_61 => ?_) (fun c_61 => ?_)
          · skip
            refine aw_aload_n dX12_readsCondition_83 rfl ?_
            refine aw_callVi (J' := jX12_readsCompared) (As := []) (st := []) dX12_readsCondition_84 tb_1275 ok_X12_readsCompared ⟨_, e_27⟩ (by omega) rfl rfl (r_readsCompared l D b N V40 hN cl i40_0.1 g sd40 wa40 pl0_27 ln coy_27 wag_27 sg dp40 sl sf sh st sm sk ⟨xg_x26, xs_x26, xw_x26, (FG.of e_27 rfl rfl), (FG.of e_27 rfl (by omega : le0_27 = ln)), (FG.of e_27 rfl rfl), (FG.of e_27 rfl rfl), hP_x26, ⟨by omega, by omega, by omega, by omega⟩, xa_x26, xb_x26, xd_x26, xe_x26, (FG.of e_27 rfl (by omega : say_27 = sm)), by omega⟩ (by omega) i40_4 (by omega) i40_5) rfl (Nat.le_of_ble_eq_true rfl) ⟨Nat.le_of_ble_eq_true rfl, Nat.le_of_ble_eq_true rfl, Nat.le_of_ble_eq_true rfl, Nat.le_of_ble_eq_true rfl⟩ (fun r_67 N_68 V_66 q_69 => ?_)
            obtain ⟨⟨z_64, h_63⟩, rfl, q_62⟩ := q_69
            have j_65 := JR.trans i40_0 (JR.weak q_62 (Sub.cons LM0 (by decide) (by decide) (by decide) (Or.inl rfl) (Sub.cons (LMs (LMs (LMs (LMs (LMs LM0))))) (by decide) (by decide) (by decide) (Or.inr ⟨by decide, by decide⟩) (Sub.cons (LMs (LMs (LMs LM0))) (by decide) (by decide) (by decide) (Or.inr ⟨by decide, by decide⟩) (Sub.cons (LMs (LMs (LMs (LMs LM0)))) (by decide) (by decide) (by decide) (Or.inr ⟨by decide, by decide⟩) (Sub.cons (LMs (LMs (LMs (LMs (LMs (LMs LM0)))))) (by decide) (by decide) (by decide) (Or.inr ⟨by decide, by decide⟩) (Sub.cons (LMs LM0) (by decide) (by decide) (by decide) (Or.inr ⟨by decide, by decide⟩) (Sub.cons (LMs (LMs LM0)) (by decide) (by decide) (by decide) (Or.inr ⟨by decide, by decide⟩) Sub.nil))))))))
            refine aw_if_ne (tgt := 92) dX12_readsCondition_87 (by decide) (fun c_70 => ?_) (fun c_70 => ?_)
            · skip
              obtain ⟨sd_y71, wa_y71, pl_y71, cm_y71, wt_y71, dp_y71, hX_y71, cw_y71, c1_y71, ca_y71, cs_y71, cd_y71, cp_y71⟩ := (h_63.resolve_left c_70)
              obtain ⟨xg_x72, xs_x72, xw_x72, xp_x72, xl_x72, xc_x72, xt_x72, hP_x72, ⟨hB1_x72, hB2_x72, hB3_x72, hB4_x72⟩, xa_x72, xb_x72, xd_x72, xe_x72, xm_x72, hB5_x72⟩ := hX_y71
              obtain ⟨ftoldPeople_73, ftoldDoors_73, fwasDoors_73, ffault_73, fopen_73, flines_73, fmeantSet_73, fopenedNow_73, fvainNow_73, flowNow_73, fhighNow_73, fisKept_73, tad_73, pl0_73, le0_73, nu0_73, coy_73, wag_73, say_73, e_73, hntad_73, hnpl0_73, hnle0_73, hnnu0_73, hncoy_73, hnwag_73, hnsay_73⟩ := JR.get j_65 cm_100
              clear hntad_27 hnpl0_27 hnle0_27 hnnu0_27 hncoy_27 hnwag_27 hnsay_27
              have sb_x72pl := FG.eq xp_x72 e_73 rfl (by omega) (by omega)
              subst sb_x72pl
              have sb_x72cm := FG.eq xc_x72 e_73 rfl (by omega) (by omega)
              subst sb_x72cm
              have sb_x72wt := FG.eq xt_x72 e_73 rfl (by omega) (by omega)
              subst sb_x72wt
              have sb_x72ln := FG.eq xl_x72 e_73 rfl (by omega) (by omega)
              have hsg_x72 := hP_x72.2.1
              have sb_x72sm := FG.eq xm_x72 e_73 rfl (by omega) (by omega)
              have ml_92_74 : ∀ (m : Nat) (p92 : Nat) (c92 : Nat) (w92 : Nat) (sd92 : Nat → Int32) (wa92 : Nat → Int32) (dp92 : Nat → Nat) (V92 : Wd), m = 240 - p92 → (JR D b N cl [(111, 112, 0, 1000000), (100, 100, 18, 18), (100, 100, 20, 20), (100, 100, 14, 14), (100, 100, 16, 16), (100, 100, 19, 19), (100, 100, 17, 17)] V V92) → (PX D b V92 g p92 ln c92 w92 sg sd92 wa92 dp92 sl sf sh st sm sk) → (pl0_27 < p92 ∧ pl0_2 < p92) → (1 ≤ w92) → (opOf (wa92 0) = 13) → (∀ k, k < sg → sd92 k = sd k) → (dp92 c92 = 1) → AW l D b jX12_readsCondition (fx_rm 6 0 0) none (fx_MQ D b 0 0 (fx_qi (fun r N9 V9 => ((r = 0 ∨ r = 1) ∧ (r = 0 ∨ (∃ (sd9 wa9 : Nat → Int32) (pl9 cm9 wt9 : Nat) (dep9 : Nat → Nat), PX D b V9 g pl9 ln cm9 wt9 sg sd9 wa9 dep9 sl sf sh st sm sk ∧ wt9 = 0 ∧ (∀ k, k < sg → sd9 k = sd k) ∧ dep9 cm9 = 1 ∧ pl0_2 < pl9))) ∧ N = N9 ∧ JR D b N cl [(111, 112, 0, 1000000), (100, 100, 18, 18), (100, 100, 20, 20), (100, 100, 14, 14), (100, 100, 16, 16), (100, 100, 19, 19), (100, 100, 17, 17)] V V9))) 92 [some (.ref (b + 100))] [] N V92 0 0 := by
                intro m; refine Nat.strongRecOn m ?_
                intro m mih_92_74 p92 c92 w92 sd92 wa92 dp92 V92 hm92 i92_0 i92_1 i92_2 i92_3 i92_4 i92_5 i92_6
                obtain ⟨xg_x75, xs_x75, xw_x75, xp_x75, xl_x75, xc_x75, xt_x75, hP_x75, ⟨hB1_x75, hB2_x75, hB3_x75, hB4_x75⟩, xa_x75, xb_x75, xd_x75, xe_x75, xm_x75, hB5_x75⟩ := i92_1
                obtain ⟨ftoldPeople_76, ftoldDoors_76, fwasDoors_76, ffault_76, fopen_76, flines_76, fmeantSet_76, fopenedNow_76, fvainNow_76, flowNow_76, fhighNow_76, fisKept_76, tad_76, pl0_76, le0_76, nu0_76, coy_76, wag_76, say_76, e_76, hntad_76, hnpl0_76, hnle0_76, hnnu0_76, hncoy_76, hnwag_76, hnsay_76⟩ := JR.get i92_0 cm_100
                clear hntad_73 hnpl0_73 hnle0_73 hnnu0_73 hncoy_73 hnwag_73 hnsay_73
                have sb_x75pl := FG.eq xp_x75 e_76 rfl (by omega) (by omega)
                subst sb_x75pl
                have sb_x75cm := FG.eq xc_x75 e_76 rfl (by omega) (by omega)
                subst sb_x75cm
                have sb_x75wt := FG.eq xt_x75 e_76 rfl (by omega) (by omega)
                subst sb_x75wt
                have sb_x75ln := FG.eq xl_x75 e_76 rfl (by omega) (by omega)
                have hsg_x75 := hP_x75.2.1
                have sb_x75sm := FG.eq xm_x75 e_76 rfl (by omega) (by omega)
                refine aw_aload_n dX12_readsCondition_92 rfl ?_
                refine aw_callVi (J' := jX12_here) (As := []) (st := []) dX12_readsCondition_93 tb_1220 ok_X12_here ⟨_, e_76⟩ (by omega) rfl rfl (r_here l D b N V92 hN cl i92_0.1 g xg_x75 pl0_76 le0_76 (FG.of e_76 rfl rfl) (FG.of e_76 rfl rfl) ⟨by omega, by omega⟩) rfl (Nat.le_of_ble_eq_true rfl) ⟨Nat.le_of_ble_eq_true rfl, Nat.le_of_ble_eq_true rfl, Nat.le_of_ble_eq_true rfl, Nat.le_of_ble_eq_true rfl⟩ (fun r_79 N_80 V_81 q_82 => ?_)
                obtain ⟨h_78, rfl, rfl⟩ := q_82
                refine aw_bipush (v := 41) dX12_readsCondition_96 (by decide) ?_
                refine aw_icmp_ne (tgt := 152) dX12_readsCondition_98 (by decide) (fun c_83 => ?_) (fun c_83 => ?_)
                · skip
                  refine aw_aload_n dX12_readsCondition_152 rfl ?_
                  refine aw_callVi (J' := jX12_here) (As := []) (st := []) dX12_readsCondition_153 tb_1220 ok_X12_here ⟨_, e_76⟩ (by omega) rfl rfl (r_here l D b N V92 hN cl i92_0.1 g xg_x75 pl0_76 le0_76 (FG.of e_76 rfl rfl) (FG.of e_76 rfl rfl) ⟨by omega, by omega⟩) rfl (Nat.le_of_ble_eq_true rfl) ⟨Nat.le_of_ble_eq_true rfl, Nat.le_of_ble_eq_true rfl, Nat.le_of_ble_eq_true rfl, Nat.le_of_ble_eq_true rfl⟩ (fun r_86 N_87 V_88 q_89 => ?_)
                  obtain ⟨h_85, rfl, rfl⟩ := q_89
                  refine aw_bipush (v := 38) dX12_readsCondition_156 (by decide) ?_
                  refine aw_icmp_eq (tgt := 180) dX12_readsCondition_158 (by decide) (fun c_90 => ?_) (fun c_90 => ?_)
                  · skip
                    have hlc_90 := here_lt h_85 c_90 (by decide)
                    refine aw_aload_n dX12_readsCondition_180 rfl ?_
                    refine aw_aload_n dX12_readsCondition_181 rfl ?_
                    refine aw_callVi (J' := jX12_here) (As := []) (st := [.ref (b + 100)]) dX12_readsCondition_182 tb_1220 ok_X12_here ⟨_, e_76⟩ (by omega) rfl rfl (r_here l D b N V92 hN cl i92_0.1 g xg_x75 pl0_76 le0_76 (FG.of e_76 rfl rfl) (FG.of e_76 rfl rfl) ⟨by omega, by omega⟩) rfl (Nat.le_of_ble_eq_true rfl) ⟨Nat.le_of_ble_eq_true rfl, Nat.le_of_ble_eq_true rfl, Nat.le_of_ble_eq_true rfl, Nat.le_of_ble_eq_true rfl⟩ (fun r_93 N_94 V_95 q_96 => ?_)
                    obtain ⟨h_92, rfl, rfl⟩ := q_96
                    refine aw_eqi (y := 38) (h_92.trans (h_85.symm.trans c_90)) ?_
                    refine aw_bipush (v := 124) dX12_readsCondition_185 (by decide) ?_
                    refine aw_icmp_ne (tgt := 194) dX12_readsCondition_187 (by decide) (fun c_97 => ?_) (fun c_97 => ?_)
                    rotate_left
                    · exact absurd c_97 (by decide)
                    refine aw_iconst (v := 0) dX12_readsCondition_194 (by decide) ?_
                    refine aw_callVv (J' := jX12_lands) (As := [.int 0]) (st := []) dX12_readsCondition_195 tb_1283 ok_X12_lands ⟨_, e_76⟩ (by omega) rfl rfl (r_lands l D b N V92 hN cl i92_0.1 0 g sd92 wa92 pl0_76 ln coy_76 wag_76 sg dp92 sl sf sh st sm sk ⟨xg_x75, xs_x75, xw_x75, (FG.of e_76 rfl rfl), (FG.of e_76 rfl (by omega : le0_76 = ln)), (FG.of e_76 rfl rfl), (FG.of e_76 rfl rfl), hP_x75, ⟨by omega, by omega, by omega, by omega⟩, xa_x75, xb_x75, xd_x75, xe_x75, (FG.of e_76 rfl (by omega : say_76 = sm)), by omega⟩ (by omega) i92_4 (by omega)) rfl (Nat.le_of_ble_eq_true rfl) ⟨Nat.le_of_ble_eq_true rfl, Nat.le_of_ble_eq_true rfl, Nat.le_of_ble_eq_true rfl, Nat.le_of_ble_eq_true rfl⟩ (fun  N_102 V_101 q_103 => ?_)
                    obtain ⟨h_99, rfl, q_98⟩ := q_103
                    have j_100 := JR.trans i92_0 (JR.weak q_98 (Sub.cons LM0 (by decide) (by decide) (by decide) (Or.inl rfl) (Sub.cons (LMs (LMs LM0)) (by decide) (by decide) (by decide) (Or.inr ⟨by decide, by decide⟩) Sub.nil)))
                    obtain ⟨sd_y104, pl_y104, cm_y104, wt_y104, dp_y104, hX_y104, qp_y104, qc_y104, qw_y104, q1_y104, qs_y104, qd_y104, qe_y104, qn_y104⟩ := h_99
                    obtain ⟨xg_x105, xs_x105, xw_x105, xp_x105, xl_x105, xc_x105, xt_x105, hP_x105, ⟨hB1_x105, hB2_x105, hB3_x105, hB4_x105⟩, xa_x105, xb_x105, xd_x105, xe_x105, xm_x105, hB5_x105⟩ := hX_y104
                    obtain ⟨ftoldPeople_106, ftoldDoors_106, fwasDoors_106, ffault_106, fopen_106, flines_106, fmeantSet_106, fopenedNow_106, fvainNow_106, flowNow_106, fhighNow_106, fisKept_106, tad_106, pl0_106, le0_106, nu0_106, coy_106, wag_106, say_106, e_106, hntad_106, hnpl0_106, hnle0_106, hnnu0_106, hncoy_106, hnwag_106, hnsay_106⟩ := JR.get j_100 cm_100
                    clear hntad_76 hnpl0_76 hnle0_76 hnnu0_76 hncoy_76 hnwag_76 hnsay_76
                    have sb_x105pl := FG.eq xp_x105 e_106 rfl (by omega) (by omega)
                    subst sb_x105pl
                    have sb_x105cm := FG.eq xc_x105 e_106 rfl (by omega) (by omega)
                    subst sb_x105cm
                    have sb_x105wt := FG.eq xt_x105 e_106 rfl (by omega) (by omega)
                    subst sb_x105wt
                    have sb_x105ln := FG.eq xl_x105 e_106 rfl (by omega) (by omega)
                    have hsg_x105 := hP_x105.2.1
                    have sb_x105sm := FG.eq xm_x105 e_106 rfl (by omega) (by omega)
                    have hv_107 : hereF g pl0_106 le0_106 = 38 := by rw [show pl0_106 = pl0_76 by omega, show le0_106 = le0_76 by omega]; exact (h_85.symm.trans c_90)
                    refine aw_aload_n dX12_readsCondition_198 rfl ?_
                    refine aw_aload_n dX12_readsCondition_199 rfl ?_
                    refine aw_callVi (J' := jX12_here) (As := []) (st := [.ref (b + 100)]) dX12_readsCondition_200 tb_1220 ok_X12_here ⟨_, e_106⟩ (by omega) rfl rfl (r_here l D b N V_101 hN cl j_100.1 g xg_x105 pl0_106 le0_106 (FG.of e_106 rfl rfl) (FG.of e_106 rfl rfl) ⟨by omega, by omega⟩) rfl (Nat.le_of_ble_eq_true rfl) ⟨Nat.le_of_ble_eq_true rfl, Nat.le_of_ble_eq_true rfl, Nat.le_of_ble_eq_true rfl, Nat.le_of_ble_eq_true rfl⟩ (fun r_110 N_111 V_112 q_113 => ?_)
                    obtain ⟨h_109, rfl, rfl⟩ := q_113
                    refine aw_eqi (y := 38) (h_109.trans hv_107) ?_
                    refine aw_bipush (v := 38) dX12_readsCondition_203 (by decide) ?_
                    refine aw_icmp_ne (tgt := 213) dX12_readsCondition_205 (by decide) (fun c_114 => ?_) (fun c_114 => ?_)
                    · exact absurd rfl c_114
                    refine aw_bipush (v := 11) dX12_readsCondition_208 (by decide) ?_
                    refine aw_goto (tgt := 215) dX12_readsCondition_210 (by decide) ?_
                    refine aw_callVv (J' := jX12_jumps) (As := [.int 11]) (st := []) dX12_readsCondition_215 tb_1287 ok_X12_jumps ⟨_, e_106⟩ (by omega) rfl rfl (r_jumps l D b N V_101 hN cl j_100.1 11 11 (by omega) ftoldPeople_106 ftoldDoors_106 fwasDoors_106 ffault_106 fopen_106 flines_106 fmeantSet_106 fopenedNow_106 fvainNow_106 flowNow_106 fhighNow_106 fisKept_106 tad_106 pl0_106 le0_106 nu0_106 coy_106 wag_106 say_106 ⟨by omega, by omega, by omega, by omega, by omega, by omega, by omega⟩ e_106 g sd_y104 wa92 xg_x105 xs_x105 xw_x105 (by omega) (by omega) (by omega)) rfl (Nat.le_of_ble_eq_true rfl) ⟨Nat.le_of_ble_eq_true rfl, Nat.le_of_ble_eq_true rfl, Nat.le_of_ble_eq_true rfl, Nat.le_of_ble_eq_true rfl⟩ (fun  N_124 V_118 q_125 => ?_)
                    obtain ⟨h_116, rfl, q_115⟩ := q_125
                    have j_117 := JR.trans j_100 (JR.weak q_115 (Sub.cons LM0 (by decide) (by decide) (by decide) (Or.inl rfl) (Sub.cons (LMs (LMs LM0)) (by decide) (by decide) (by decide) (Or.inr ⟨by decide, by decide⟩) (Sub.cons (LMs (LMs (LMs (LMs (LMs LM0))))) (by decide) (by decide) (by decide) (Or.inr ⟨by decide, by decide⟩) (Sub.cons (LMs (LMs (LMs LM0))) (by decide) (by decide) (by decide) (Or.inr ⟨by decide, by decide⟩) Sub.nil)))))
                    obtain ⟨hJ_119, hJ_120, hJ_121, hJ_122⟩ := h_116
                    have hJ_123 := PS.jump hP_x105 11 (by omega) (by decide) (by omega)
                    have whJ_123 : wgt (upd wa92 wag_106 (nI (1048576 * 11 + coy_106))) (wag_106 + 1) = wgt wa92 wag_106 + 0 := by rw [wgt_push, opOf_nI (by decide) (by omega)]; rfl
                    have hds : (dset dp_y104 (coy_106 + 1) 0) (coy_106 + 1) = 0 := dset_s
                    refine aw_goto (tgt := 40) dX12_readsCondition_218 (by decide) ?_
                    refine aw_le ?_ (mih_40_25 _ (by omega) (pl0_106 + 1) (coy_106 + 1) (wag_106 + 1) (upd sd_y104 coy_106 (nI (1048576 * 11 + 0))) (upd wa92 wag_106 (nI (1048576 * 11 + coy_106))) (dset dp_y104 (coy_106 + 1) 0) V_118 rfl (j_117) (⟨((hJ_122 _ (by decide) (by decide) (by decide)).trans xg_x105), hJ_121, hJ_120, (FG.of hJ_119 rfl rfl), (FG.of hJ_119 rfl (by omega : le0_106 = ln)), (FG.of hJ_119 rfl rfl), (FG.of hJ_119 rfl rfl), hJ_123, ⟨by omega, by omega, by omega, by omega⟩, ((hJ_122 _ (by decide) (by decide) (by decide)).trans xa_x105), ((hJ_122 _ (by decide) (by decide) (by decide)).trans xb_x105), ((hJ_122 _ (by decide) (by decide) (by decide)).trans xd_x105), ((hJ_122 _ (by decide) (by decide) (by decide)).trans xe_x105), (FG.of hJ_119 rfl (by omega : say_106 = sm)), by omega⟩) (by omega) (by omega) ((by rw [pk_un (by omega)]; exact i92_4)) (topj (by decide) (by decide) (by omega)) (fun k hk => ((pk_un (by omega)).trans (qs_y104 k hk)).trans (i92_5 k hk)) (by omega))
                    exact ⟨rfl, trivial⟩
                  · skip
                    refine aw_aload_n dX12_readsCondition_161 rfl ?_
                    refine aw_callVi (J' := jX12_here) (As := []) (st := []) dX12_readsCondition_162 tb_1220 ok_X12_here ⟨_, e_76⟩ (by omega) rfl rfl (r_here l D b N V92 hN cl i92_0.1 g xg_x75 pl0_76 le0_76 (FG.of e_76 rfl rfl) (FG.of e_76 rfl rfl) ⟨by omega, by omega⟩) rfl (Nat.le_of_ble_eq_true rfl) ⟨Nat.le_of_ble_eq_true rfl, Nat.le_of_ble_eq_true rfl, Nat.le_of_ble_eq_true rfl, Nat.le_of_ble_eq_true rfl⟩ (fun r_128 N_129 V_130 q_131 => ?_)
                    obtain ⟨h_127, rfl, rfl⟩ := q_131
                    refine aw_bipush (v := 124) dX12_readsCondition_165 (by decide) ?_
                    refine aw_icmp_eq (tgt := 180) dX12_readsCondition_167 (by decide) (fun c_132 => ?_) (fun c_132 => ?_)
                    · skip
                      have hlc_132 := here_lt h_127 c_132 (by decide)
                      refine aw_aload_n dX12_readsCondition_180 rfl ?_
                      refine aw_aload_n dX12_readsCondition_181 rfl ?_
                      refine aw_callVi (J' := jX12_here) (As := []) (st := [.ref (b + 100)]) dX12_readsCondition_182 tb_1220 ok_X12_here ⟨_, e_76⟩ (by omega) rfl rfl (r_here l D b N V92 hN cl i92_0.1 g xg_x75 pl0_76 le0_76 (FG.of e_76 rfl rfl) (FG.of e_76 rfl rfl) ⟨by omega, by omega⟩) rfl (Nat.le_of_ble_eq_true rfl) ⟨Nat.le_of_ble_eq_true rfl, Nat.le_of_ble_eq_true rfl, Nat.le_of_ble_eq_true rfl, Nat.le_of_ble_eq_true rfl⟩ (fun r_135 N_136 V_137 q_138 => ?_)
                      obtain ⟨h_134, rfl, rfl⟩ := q_138
                      refine aw_eqi (y := 124) (h_134.trans (h_127.symm.trans c_132)) ?_
                      refine aw_bipush (v := 124) dX12_readsCondition_185 (by decide) ?_
                      refine aw_icmp_ne (tgt := 194) dX12_readsCondition_187 (by decide) (fun c_139 => ?_) (fun c_139 => ?_)
                      · exact absurd rfl c_139
                      refine aw_iconst (v := 1) dX12_readsCondition_190 (by decide) ?_
                      refine aw_goto (tgt := 195) dX12_readsCondition_191 (by decide) ?_
                      refine aw_callVv (J' := jX12_lands) (As := [.int 1]) (st := []) dX12_readsCondition_195 tb_1283 ok_X12_lands ⟨_, e_76⟩ (by omega) rfl rfl (r_lands l D b N V92 hN cl i92_0.1 1 g sd92 wa92 pl0_76 ln coy_76 wag_76 sg dp92 sl sf sh st sm sk ⟨xg_x75, xs_x75, xw_x75, (FG.of e_76 rfl rfl), (FG.of e_76 rfl (by omega : le0_76 = ln)), (FG.of e_76 rfl rfl), (FG.of e_76 rfl rfl), hP_x75, ⟨by omega, by omega, by omega, by omega⟩, xa_x75, xb_x75, xd_x75, xe_x75, (FG.of e_76 rfl (by omega : say_76 = sm)), by omega⟩ (by omega) i92_4 (by omega)) rfl (Nat.le_of_ble_eq_true rfl) ⟨Nat.le_of_ble_eq_true rfl, Nat.le_of_ble_eq_true rfl, Nat.le_of_ble_eq_true rfl, Nat.le_of_ble_eq_true rfl⟩ (fun  N_144 V_143 q_145 => ?_)
                      obtain ⟨h_141, rfl, q_140⟩ := q_145
                      have j_142 := JR.trans i92_0 (JR.weak q_140 (Sub.cons LM0 (by decide) (by decide) (by decide) (Or.inl rfl) (Sub.cons (LMs (LMs LM0)) (by decide) (by decide) (by decide) (Or.inr ⟨by decide, by decide⟩) Sub.nil)))
                      obtain ⟨sd_y146, pl_y146, cm_y146, wt_y146, dp_y146, hX_y146, qp_y146, qc_y146, qw_y146, q1_y146, qs_y146, qd_y146, qe_y146, qn_y146⟩ := h_141
                      obtain ⟨xg_x147, xs_x147, xw_x147, xp_x147, xl_x147, xc_x147, xt_x147, hP_x147, ⟨hB1_x147, hB2_x147, hB3_x147, hB4_x147⟩, xa_x147, xb_x147, xd_x147, xe_x147, xm_x147, hB5_x147⟩ := hX_y146
                      obtain ⟨ftoldPeople_148, ftoldDoors_148, fwasDoors_148, ffault_148, fopen_148, flines_148, fmeantSet_148, fopenedNow_148, fvainNow_148, flowNow_148, fhighNow_148, fisKept_148, tad_148, pl0_148, le0_148, nu0_148, coy_148, wag_148, say_148, e_148, hntad_148, hnpl0_148, hnle0_148, hnnu0_148, hncoy_148, hnwag_148, hnsay_148⟩ := JR.get j_142 cm_100
                      clear hntad_76 hnpl0_76 hnle0_76 hnnu0_76 hncoy_76 hnwag_76 hnsay_76
                      have sb_x147pl := FG.eq xp_x147 e_148 rfl (by omega) (by omega)
                      subst sb_x147pl
                      have sb_x147cm := FG.eq xc_x147 e_148 rfl (by omega) (by omega)
                      subst sb_x147cm
                      have sb_x147wt := FG.eq xt_x147 e_148 rfl (by omega) (by omega)
                      subst sb_x147wt
                      have sb_x147ln := FG.eq xl_x147 e_148 rfl (by omega) (by omega)
                      have hsg_x147 := hP_x147.2.1
                      have sb_x147sm := FG.eq xm_x147 e_148 rfl (by omega) (by omega)
                      have hv_149 : hereF g pl0_148 le0_148 = 124 := by rw [show pl0_148 = pl0_76 by omega, show le0_148 = le0_76 by omega]; exact (h_127.symm.trans c_132)
                      refine aw_aload_n dX12_readsCondition_198 rfl ?_
                      refine aw_aload_n dX12_readsCondition_199 rfl ?_
                      refine aw_callVi (J' := jX12_here) (As := []) (st := [.ref (b + 100)]) dX12_readsCondition_200 tb_1220 ok_X12_here ⟨_, e_148⟩ (by omega) rfl rfl (r_here l D b N V_143 hN cl j_142.1 g xg_x147 pl0_148 le0_148 (FG.of e_148 rfl rfl) (FG.of e_148 rfl rfl) ⟨by omega, by omega⟩) rfl (Nat.le_of_ble_eq_true rfl) ⟨Nat.le_of_ble_eq_true rfl, Nat.le_of_ble_eq_true rfl, Nat.le_of_ble_eq_true rfl, Nat.le_of_ble_eq_true rfl⟩ (fun r_152 N_153 V_154 q_155 => ?_)
                      obtain ⟨h_151, rfl, rfl⟩ := q_155
                      refine aw_eqi (y := 124) (h_151.trans hv_149) ?_
                      refine aw_bipush (v := 38) dX12_readsCondition_203 (by decide) ?_
                      refine aw_icmp_ne (tgt := 213) dX12_readsCondition_205 (by decide) (fun c_156 => ?_) (fun c_156 => ?_)
                      rotate_left
                      · exact absurd c_156 (by decide)
                      refine aw_bipush (v := 12) dX12_readsCondition_213 (by decide) ?_
                      refine aw_callVv (J' := jX12_jumps) (As := [.int 12]) (st := []) dX12_readsCondition_215 tb_1287 ok_X12_jumps ⟨_, e_148⟩ (by omega) rfl rfl (r_jumps l D b N V_143 hN cl j_142.1 12 12 (by omega) ftoldPeople_148 ftoldDoors_148 fwasDoors_148 ffault_148 fopen_148 flines_148 fmeantSet_148 fopenedNow_148 fvainNow_148 flowNow_148 fhighNow_148 fisKept_148 tad_148 pl0_148 le0_148 nu0_148 coy_148 wag_148 say_148 ⟨by omega, by omega, by omega, by omega, by omega, by omega, by omega⟩ e_148 g sd_y146 wa92 xg_x147 xs_x147 xw_x147 (by omega) (by omega) (by omega)) rfl (Nat.le_of_ble_eq_true rfl) ⟨Nat.le_of_ble_eq_true rfl, Nat.le_of_ble_eq_true rfl, Nat.le_of_ble_eq_true rfl, Nat.le_of_ble_eq_true rfl⟩ (fun  N_166 V_160 q_167 => ?_)
                      obtain ⟨h_158, rfl, q_157⟩ := q_167
                      have j_159 := JR.trans j_142 (JR.weak q_157 (Sub.cons LM0 (by decide) (by decide) (by decide) (Or.inl rfl) (Sub.cons (LMs (LMs LM0)) (by decide) (by decide) (by decide) (Or.inr ⟨by decide, by decide⟩) (Sub.cons (LMs (LMs (LMs (LMs (LMs LM0))))) (by decide) (by decide) (by decide) (Or.inr ⟨by decide, by decide⟩) (Sub.cons (LMs (LMs (LMs LM0))) (by decide) (by decide) (by decide) (Or.inr ⟨by decide, by decide⟩) Sub.nil)))))
                      obtain ⟨hJ_161, hJ_162, hJ_163, hJ_164⟩ := h_158
                      have hJ_165 := PS.jump hP_x147 12 (by omega) (by decide) (by omega)
                      have whJ_165 : wgt (upd wa92 wag_148 (nI (1048576 * 12 + coy_148))) (wag_148 + 1) = wgt wa92 wag_148 + 0 := by rw [wgt_push, opOf_nI (by decide) (by omega)]; rfl
                      have hds : (dset dp_y146 (coy_148 + 1) 0) (coy_148 + 1) = 0 := dset_s
                      refine aw_goto (tgt := 40) dX12_readsCondition_218 (by decide) ?_
                      refine aw_le ?_ (mih_40_25 _ (by omega) (pl0_148 + 1) (coy_148 + 1) (wag_148 + 1) (upd sd_y146 coy_148 (nI (1048576 * 12 + 0))) (upd wa92 wag_148 (nI (1048576 * 12 + coy_148))) (dset dp_y146 (coy_148 + 1) 0) V_160 rfl (j_159) (⟨((hJ_164 _ (by decide) (by decide) (by decide)).trans xg_x147), hJ_163, hJ_162, (FG.of hJ_161 rfl rfl), (FG.of hJ_161 rfl (by omega : le0_148 = ln)), (FG.of hJ_161 rfl rfl), (FG.of hJ_161 rfl rfl), hJ_165, ⟨by omega, by omega, by omega, by omega⟩, ((hJ_164 _ (by decide) (by decide) (by decide)).trans xa_x147), ((hJ_164 _ (by decide) (by decide) (by decide)).trans xb_x147), ((hJ_164 _ (by decide) (by decide) (by decide)).trans xd_x147), ((hJ_164 _ (by decide) (by decide) (by decide)).trans xe_x147), (FG.of hJ_161 rfl (by omega : say_148 = sm)), by omega⟩) (by omega) (by omega) ((by rw [pk_un (by omega)]; exact i92_4)) (topj (by decide) (by decide) (by omega)) (fun k hk => ((pk_un (by omega)).trans (qs_y146 k hk)).trans (i92_5 k hk)) (by omega))
                      exact ⟨rfl, trivial⟩
                    · skip
                      refine aw_aload_n dX12_readsCondition_170 rfl ?_
                      refine aw_iconst (v := 1) dX12_readsCondition_171 (by decide) ?_
                      refine aw_aload_n dX12_readsCondition_172 rfl ?_
                      refine aw_get dX12_readsCondition_173 fl_X12_159 e_76 (by omega) rfl ?_
                      refine aw_callVi (J' := jX12_wrongAt) (As := [.int 1, .int (nI pl0_76)]) (st := []) dX12_readsCondition_176 tb_1224 ok_X12_wrongAt ⟨_, e_76⟩ (by omega) rfl rfl (r_wrongAt l D b N V92 hN cl i92_0.1 1 (nI pl0_76) pl0_76 le0_76 (FG.of e_76 rfl rfl) (FG.of e_76 rfl rfl) ⟨by omega, by omega⟩) rfl (Nat.le_of_ble_eq_true rfl) ⟨Nat.le_of_ble_eq_true rfl, Nat.le_of_ble_eq_true rfl, Nat.le_of_ble_eq_true rfl, Nat.le_of_ble_eq_true rfl⟩ (fun r_181 N_182 V_172 q_183 => ?_)
                      obtain ⟨⟨z_170, h_169⟩, rfl, q_168⟩ := q_183
                      have j_171 := JR.trans i92_0 (JR.weak q_168 (Sub.cons (LMs (LMs (LMs (LMs LM0)))) (by decide) (by decide) (by decide) (Or.inr ⟨by decide, by decide⟩) Sub.nil))
                      obtain ⟨a_173, ha_174, hA_175, hF_176, hL_177, hz_178, hX_179⟩ := h_169
                      obtain ⟨ftoldPeople_k180, ftoldDoors_k180, fwasDoors_k180, ffault_k180, fopen_k180, flines_k180, fmeantSet_k180, fopenedNow_k180, fvainNow_k180, flowNow_k180, fhighNow_k180, fisKept_k180, tad_k180, pl0_k180, le0_k180, nu0_k180, coy_k180, wag_k180, say_k180, e_k180, hntad_k180, hnpl0_k180, hnle0_k180, hnnu0_k180, hncoy_k180, hnwag_k180, hnsay_k180⟩ := JR.get j_171 cm_100
                      have hqp_k180 := FG.eq hF_176 e_k180 rfl (by omega) (by omega)
                      have hql_k180 := FG.eq hL_177 e_k180 rfl (by omega) (by omega)
                      obtain rfl := hX_179
                      refine aw_zreti dX12_readsCondition_179 rfl (by first | exact Or.inl rfl | exact Or.inr rfl | assumption) (Nat.le_of_ble_eq_true rfl) (Nat.le_of_ble_eq_true rfl) ?_
                      exact ⟨⟨(by first | exact Or.inl rfl | exact Or.inr rfl | assumption), Or.inl rfl⟩, rfl, j_171⟩
                · skip
                  have hlc_83 := here_lt h_78 c_83 (by decide)
                  refine aw_aload_n dX12_readsCondition_101 rfl ?_
                  refine aw_iconst (v := 1) dX12_readsCondition_102 (by decide) ?_
                  refine aw_callVv (J' := jX12_lands) (As := [.int 1]) (st := []) dX12_readsCondition_103 tb_1283 ok_X12_lands ⟨_, e_76⟩ (by omega) rfl rfl (r_lands l D b N V92 hN cl i92_0.1 1 g sd92 wa92 pl0_76 ln coy_76 wag_76 sg dp92 sl sf sh st sm sk ⟨xg_x75, xs_x75, xw_x75, (FG.of e_76 rfl rfl), (FG.of e_76 rfl (by omega : le0_76 = ln)), (FG.of e_76 rfl rfl), (FG.of e_76 rfl rfl), hP_x75, ⟨by omega, by omega, by omega, by omega⟩, xa_x75, xb_x75, xd_x75, xe_x75, (FG.of e_76 rfl (by omega : say_76 = sm)), by omega⟩ (by omega) i92_4 (by omega)) rfl (Nat.le_of_ble_eq_true rfl) ⟨Nat.le_of_ble_eq_true rfl, Nat.le_of_ble_eq_true rfl, Nat.le_of_ble_eq_true rfl, Nat.le_of_ble_eq_true rfl⟩ (fun  N_188 V_187 q_189 => ?_)
                  obtain ⟨h_185, rfl, q_184⟩ := q_189
                  have j_186 := JR.trans i92_0 (JR.weak q_184 (Sub.cons LM0 (by decide) (by decide) (by decide) (Or.inl rfl) (Sub.cons (LMs (LMs LM0)) (by decide) (by decide) (by decide) (Or.inr ⟨by decide, by decide⟩) Sub.nil)))
                  obtain ⟨sd_y190, pl_y190, cm_y190, wt_y190, dp_y190, hX_y190, qp_y190, qc_y190, qw_y190, q1_y190, qs_y190, qd_y190, qe_y190, qn_y190⟩ := h_185
                  obtain ⟨xg_x191, xs_x191, xw_x191, xp_x191, xl_x191, xc_x191, xt_x191, hP_x191, ⟨hB1_x191, hB2_x191, hB3_x191, hB4_x191⟩, xa_x191, xb_x191, xd_x191, xe_x191, xm_x191, hB5_x191⟩ := hX_y190
                  obtain ⟨ftoldPeople_192, ftoldDoors_192, fwasDoors_192, ffault_192, fopen_192, flines_192, fmeantSet_192, fopenedNow_192, fvainNow_192, flowNow_192, fhighNow_192, fisKept_192, tad_192, pl0_192, le0_192, nu0_192, coy_192, wag_192, say_192, e_192, hntad_192, hnpl0_192, hnle0_192, hnnu0_192, hncoy_192, hnwag_192, hnsay_192⟩ := JR.get j_186 cm_100
                  clear hntad_76 hnpl0_76 hnle0_76 hnnu0_76 hncoy_76 hnwag_76 hnsay_76
                  have sb_x191pl := FG.eq xp_x191 e_192 rfl (by omega) (by omega)
                  subst sb_x191pl
                  have sb_x191cm := FG.eq xc_x191 e_192 rfl (by omega) (by omega)
                  subst sb_x191cm
                  have sb_x191wt := FG.eq xt_x191 e_192 rfl (by omega) (by omega)
                  subst sb_x191wt
                  have sb_x191ln := FG.eq xl_x191 e_192 rfl (by omega) (by omega)
                  have hsg_x191 := hP_x191.2.1
                  have sb_x191sm := FG.eq xm_x191 e_192 rfl (by omega) (by omega)
                  have hqn := qn_y190.resolve_left (by decide)
                  have hmn := wgt_mono (wa := wa92) (m := wag_192 - 1) (n := wag_192) (by omega)
                  have hPo := PS.pop hP_x191 (by omega) (by omega)
                  refine aw_aload_n dX12_readsCondition_106 rfl ?_
                  refine aw_aload_n dX12_readsCondition_107 rfl ?_
                  refine aw_get dX12_readsCondition_108 fl_X12_189 e_192 (by omega) rfl ?_
                  refine aw_iconst (v := 1) dX12_readsCondition_111 (by decide) ?_
                  refine aw_isub dX12_readsCondition_112 ?_
                  refine aw_eqi (y := (nI (wag_192 - 1))) (pk_sub (a := wag_192) (b := 1) (by omega)) ?_
                  refine aw_put dX12_readsCondition_113 fp_X12_189 e_192 (by omega) rfl rfl (Nat.le_of_ble_eq_true rfl) rfl ?_
                  refine aw_upR j_186 cm_100 ⟨_, _, _, _, _, _, _, _, _, _, _, _, tad_192, pl0_192, le0_192, nu0_192, coy_192, (wag_192 - 1), say_192, rfl, by omega, by omega, by omega, by omega, by omega, by omega, by omega⟩ (by decide) (WO (s := 20) (x := .int (nI (wag_192 - 1))) e_192 rfl (LMs (LMs LM0)) (by decide) (by decide) (by decide) (Or.inl (by decide))) (fun V_193 j_193 k_193 e_193 => ?_)
                  refine aw_aload_n dX12_readsCondition_116 rfl ?_
                  refine aw_aload_n dX12_readsCondition_117 rfl ?_
                  refine aw_get dX12_readsCondition_118 fl_X12_186 e_193 (by omega) rfl ?_
                  refine aw_iconst (v := 1) dX12_readsCondition_121 (by decide) ?_
                  refine aw_isub dX12_readsCondition_122 ?_
                  refine aw_put dX12_readsCondition_123 fp_X12_186 e_193 (by omega) rfl rfl (Nat.le_of_ble_eq_true rfl) rfl ?_
                  refine aw_upR j_193 cm_100 ⟨_, _, _, _, _, _, _, _, _, _, _, _, tad_192, pl0_192, le0_192, nu0_192, coy_192, (wag_192 - 1), say_192, rfl, by omega, by omega, by omega, by omega, by omega, by omega, by omega⟩ (by decide) (WO (s := 18) (x := .int (fopen_192 - 1)) e_193 rfl (LMs LM0) (by decide) (by decide) (by decide) (Or.inl (by decide))) (fun V_194 j_194 k_194 e_194 => ?_)
                  refine aw_aload_n dX12_readsCondition_126 rfl ?_
                  refine aw_aload_n dX12_readsCondition_127 rfl ?_
                  refine aw_get dX12_readsCondition_128 fl_X12_159 e_194 (by omega) rfl ?_
                  refine aw_iconst (v := 1) dX12_readsCondition_131 (by decide) ?_
                  refine aw_iadd dX12_readsCondition_132 ?_
                  refine aw_eqi (y := nI (pl0_192 + 1)) (nI_add _ _) ?_
                  refine aw_put dX12_readsCondition_133 fp_X12_159 e_194 (by omega) rfl rfl (Nat.le_of_ble_eq_true rfl) rfl ?_
                  refine aw_upR j_194 cm_100 ⟨_, _, _, _, _, _, _, _, _, _, _, _, tad_192, (pl0_192 + 1), le0_192, nu0_192, coy_192, (wag_192 - 1), say_192, rfl, by omega, by omega, by omega, by omega, by omega, by omega, by omega⟩ (by decide) (WO (s := 14) (x := .int (nI (pl0_192 + 1))) e_194 rfl (LMs (LMs (LMs LM0))) (by decide) (by decide) (by decide) (Or.inl (by decide))) (fun V_195 j_195 k_195 e_195 => ?_)
                  refine aw_aload_n dX12_readsCondition_136 rfl ?_
                  refine aw_get dX12_readsCondition_137 fl_X12_189 e_195 (by omega) rfl ?_
                  refine aw_if_ne (tgt := 145) dX12_readsCondition_140 (by decide) (fun c_196 => ?_) (fun c_196 => ?_)
                  · skip
                    have nc_196 : ¬ ((wag_192 - 1) = 0) := fun z => c_196 ((nI_eq (a := (wag_192 - 1)) (b := 0) (by omega) (by omega)).mpr z)
                    refine aw_aload_n dX12_readsCondition_145 rfl ?_
                    refine aw_callVv (J' := jX12_endsPiece) (As := []) (st := []) dX12_readsCondition_146 tb_1279 ok_X12_endsPiece ⟨_, e_195⟩ (by omega) rfl rfl (r_endsPiece l D b N V_195 hN cl j_195.1 g sd_y190 wa92 (pl0_192 + 1) ln coy_192 (wag_192 - 1) sg dp_y190 sl sf sh st sm sk ⟨((k_195 _ (by decide)).trans ((k_194 _ (by decide)).trans ((k_193 _ (by decide)).trans xg_x191))), ((k_195 _ (by decide)).trans ((k_194 _ (by decide)).trans ((k_193 _ (by decide)).trans xs_x191))), ((k_195 _ (by decide)).trans ((k_194 _ (by decide)).trans ((k_193 _ (by decide)).trans xw_x191))), (FG.of e_195 rfl rfl), (FG.of e_195 rfl (by omega : le0_192 = ln)), (FG.of e_195 rfl rfl), (FG.of e_195 rfl rfl), hPo, ⟨by omega, by omega, by omega, by omega⟩, ((k_195 _ (by decide)).trans ((k_194 _ (by decide)).trans ((k_193 _ (by decide)).trans xa_x191))), ((k_195 _ (by decide)).trans ((k_194 _ (by decide)).trans ((k_193 _ (by decide)).trans xb_x191))), ((k_195 _ (by decide)).trans ((k_194 _ (by decide)).trans ((k_193 _ (by decide)).trans xd_x191))), ((k_195 _ (by decide)).trans ((k_194 _ (by decide)).trans ((k_193 _ (by decide)).trans xe_x191))), (FG.of e_195 rfl (by omega : say_192 = sm)), by omega⟩ (by omega) i92_4 (by omega)) rfl (Nat.le_of_ble_eq_true rfl) ⟨Nat.le_of_ble_eq_true rfl, Nat.le_of_ble_eq_true rfl, Nat.le_of_ble_eq_true rfl, Nat.le_of_ble_eq_true rfl⟩ (fun  N_201 V_200 q_202 => ?_)
                    obtain ⟨h_198, rfl, q_197⟩ := q_202
                    have j_199 := JR.trans j_195 (JR.weak q_197 (Sub.cons LM0 (by decide) (by decide) (by decide) (Or.inl rfl) (Sub.cons (LMs (LMs (LMs (LMs (LMs LM0))))) (by decide) (by decide) (by decide) (Or.inr ⟨by decide, by decide⟩) (Sub.cons (LMs (LMs LM0)) (by decide) (by decide) (by decide) (Or.inr ⟨by decide, by decide⟩) (Sub.cons (LMs LM0) (by decide) (by decide) (by decide) (Or.inr ⟨by decide, by decide⟩) Sub.nil)))))
                    obtain ⟨sd_y203, pl_y203, cm_y203, wt_y203, dp_y203, hX_y203, qp_y203, qw_y203, q1_y203, qs_y203, qd_y203, qe_y203⟩ := h_198
                    obtain ⟨xg_x204, xs_x204, xw_x204, xp_x204, xl_x204, xc_x204, xt_x204, hP_x204, ⟨hB1_x204, hB2_x204, hB3_x204, hB4_x204⟩, xa_x204, xb_x204, xd_x204, xe_x204, xm_x204, hB5_x204⟩ := hX_y203
                    obtain ⟨ftoldPeople_205, ftoldDoors_205, fwasDoors_205, ffault_205, fopen_205, flines_205, fmeantSet_205, fopenedNow_205, fvainNow_205, flowNow_205, fhighNow_205, fisKept_205, tad_205, pl0_205, le0_205, nu0_205, coy_205, wag_205, say_205, e_205, hntad_205, hnpl0_205, hnle0_205, hnnu0_205, hncoy_205, hnwag_205, hnsay_205⟩ := JR.get j_199 cm_100
                    clear hntad_192 hnpl0_192 hnle0_192 hnnu0_192 hncoy_192 hnwag_192 hnsay_192
                    have sb_x204pl := FG.eq xp_x204 e_205 rfl (by omega) (by omega)
                    subst sb_x204pl
                    have sb_x204cm := FG.eq xc_x204 e_205 rfl (by omega) (by omega)
                    subst sb_x204cm
                    have sb_x204wt := FG.eq xt_x204 e_205 rfl (by omega) (by omega)
                    subst sb_x204wt
                    have sb_x204ln := FG.eq xl_x204 e_205 rfl (by omega) (by omega)
                    have hsg_x204 := hP_x204.2.1
                    have sb_x204sm := FG.eq xm_x204 e_205 rfl (by omega) (by omega)
                    refine aw_goto (tgt := 92) dX12_readsCondition_149 (by decide) ?_
                    refine aw_le ?_ (mih_92_74 _ (by omega) pl0_205 coy_205 wag_205 sd_y203 wa92 dp_y203 V_200 rfl (j_199) (⟨xg_x204, xs_x204, xw_x204, (FG.of e_205 rfl rfl), (FG.of e_205 rfl (by omega : le0_205 = ln)), (FG.of e_205 rfl rfl), (FG.of e_205 rfl rfl), hP_x204, ⟨by omega, by omega, by omega, by omega⟩, xa_x204, xb_x204, xd_x204, xe_x204, (FG.of e_205 rfl (by omega : say_205 = sm)), by omega⟩) (by omega) (by omega) (i92_4) (fun k hk => ((qs_y203 k hk).trans (qs_y190 k hk)).trans (i92_5 k hk)) (by omega))
                    exact ⟨rfl, trivial⟩
                  · skip
                    have nc_196 : (wag_192 - 1) = 0 := (nI_eq (a := (wag_192 - 1)) (b := 0) (by omega) (by omega)).mp c_196
                    refine aw_iconst (v := 1) dX12_readsCondition_143 (by decide) ?_
                    refine aw_zreti dX12_readsCondition_144 rfl (by first | exact Or.inl rfl | exact Or.inr rfl | assumption) (Nat.le_of_ble_eq_true rfl) (Nat.le_of_ble_eq_true rfl) ?_
                    exact ⟨⟨(by first | exact Or.inl rfl | exact Or.inr rfl | assumption), Or.inr ⟨sd_y190, wa92, (pl0_192 + 1), coy_192, (wag_192 - 1), dp_y190, ⟨((k_195 _ (by decide)).trans ((k_194 _ (by decide)).trans ((k_193 _ (by decide)).trans xg_x191))), ((k_195 _ (by decide)).trans ((k_194 _ (by decide)).trans ((k_193 _ (by decide)).trans xs_x191))), ((k_195 _ (by decide)).trans ((k_194 _ (by decide)).trans ((k_193 _ (by decide)).trans xw_x191))), (FG.of e_195 rfl rfl), (FG.of e_195 rfl (by omega : le0_192 = ln)), (FG.of e_195 rfl rfl), (FG.of e_195 rfl rfl), hPo, ⟨by omega, by omega, by omega, by omega⟩, ((k_195 _ (by decide)).trans ((k_194 _ (by decide)).trans ((k_193 _ (by decide)).trans xa_x191))), ((k_195 _ (by decide)).trans ((k_194 _ (by decide)).trans ((k_193 _ (by decide)).trans xb_x191))), ((k_195 _ (by decide)).trans ((k_194 _ (by decide)).trans ((k_193 _ (by decide)).trans xd_x191))), ((k_195 _ (by decide)).trans ((k_194 _ (by decide)).trans ((k_193 _ (by decide)).trans xe_x191))), (FG.of e_195 rfl (by omega : say_192 = sm)), by omega⟩, by omega, (fun k hk => (qs_y190 k hk).trans (i92_5 k hk)), by omega, by omega⟩⟩, rfl, j_195⟩
              refine aw_le ?_ (ml_92_74 _ pl0_73 coy_73 wag_73 sd_y71 wa_y71 dp_y71 V_66 rfl (j_65) (⟨xg_x72, xs_x72, xw_x72, (FG.of e_73 rfl rfl), (FG.of e_73 rfl (by omega : le0_73 = ln)), (FG.of e_73 rfl rfl), (FG.of e_73 rfl rfl), hP_x72, ⟨by omega, by omega, by omega, by omega⟩, xa_x72, xb_x72, xd_x72, xe_x72, (FG.of e_73 rfl (by omega : say_73 = sm)), by omega⟩) (by omega) (by omega) ((by rw [ca_y71 0 (by omega)]; exact i40_4)) (fun k hk => (cs_y71 k hk).trans (i40_6 k hk)) (by omega))
              exact ⟨rfl, trivial⟩
            · skip
              refine aw_iconst (v := 0) dX12_readsCondition_90 (by decide) ?_
              refine aw_zreti dX12_readsCondition_91 rfl (by first | exact Or.inl rfl | exact Or.inr rfl | assumption) (Nat.le_of_ble_eq_true rfl) (Nat.le_of_ble_eq_true rfl) ?_
              exact ⟨⟨(by first | exact Or.inl rfl | exact Or.inr rfl | assumption), Or.inl rfl⟩, rfl, j_65⟩
          · skip
            have hlc_61 := here_lt h_56 c_61 (by decide)
            refine aw_aload_n dX12_readsCondition_58 rfl ?_
            refine aw_aload_n dX12_readsCondition_59 rfl ?_
            refine aw_callVi (J' := jX12_here) (As := []) (st := [.ref (b + 100)]) dX12_readsCondition_60 tb_1220 ok_X12_here ⟨_, e_27⟩ (by omega) rfl rfl (r_here l D b N V40 hN cl i40_0.1 g xg_x26 pl0_27 le0_27 (FG.of e_27 rfl rfl) (FG.of e_27 rfl rfl) ⟨by omega, by omega⟩) rfl (Nat.le_of_ble_eq_true rfl) ⟨Nat.le_of_ble_eq_true rfl, Nat.le_of_ble_eq_true rfl, Nat.le_of_ble_eq_true rfl, Nat.le_of_ble_eq_true rfl⟩ (fun r_208 N_209 V_210 q_211 => ?_)
            obtain ⟨h_207, rfl, rfl⟩ := q_211
            refine aw_eqi (y := 40) (h_207.trans (h_56.symm.trans c_61)) ?_
            refine aw_bipush (v := 33) dX12_readsCondition_63 (by decide) ?_
            refine aw_icmp_ne (tgt := 73) dX12_readsCondition_65 (by decide) (fun c_212 => ?_) (fun c_212 => ?_)
            rotate_left
            · exact absurd c_212 (by decide)
            refine aw_bipush (v := 13) dX12_readsCondition_73 (by decide) ?_
            refine aw_callVi (J' := jX12_opens) (As := [.int 13]) (st := []) dX12_readsCondition_75 tb_1236 ok_X12_opens ⟨_, e_27⟩ (by omega) rfl rfl (r_opens l D b N V40 hN cl i40_0.1 13 13 (by omega) ftoldPeople_27 ftoldDoors_27 fwasDoors_27 ffault_27 fopen_27 flines_27 fmeantSet_27 fopenedNow_27 fvainNow_27 flowNow_27 fhighNow_27 fisKept_27 tad_27 pl0_27 le0_27 nu0_27 coy_27 wag_27 say_27 ⟨by omega, by omega, by omega, by omega, by omega, by omega, by omega⟩ e_27 g sd40 wa40 xg_x26 xs_x26 xw_x26 (by omega) (by omega)) rfl (Nat.le_of_ble_eq_true rfl) ⟨Nat.le_of_ble_eq_true rfl, Nat.le_of_ble_eq_true rfl, Nat.le_of_ble_eq_true rfl, Nat.le_of_ble_eq_true rfl⟩ (fun r_218 N_219 V_217 q_220 => ?_)
            obtain ⟨⟨z_215, h_214⟩, rfl, q_213⟩ := q_220
            have j_216 := JR.trans i40_0 (JR.weak q_213 (Sub.cons LM0 (by decide) (by decide) (by decide) (Or.inl rfl) (Sub.cons (LMs LM0) (by decide) (by decide) (by decide) (Or.inr ⟨by decide, by decide⟩) (Sub.cons (LMs (LMs LM0)) (by decide) (by decide) (by decide) (Or.inr ⟨by decide, by decide⟩) (Sub.cons (LMs (LMs (LMs LM0))) (by decide) (by decide) (by decide) (Or.inr ⟨by decide, by decide⟩) (Sub.cons (LMs (LMs (LMs (LMs LM0)))) (by decide) (by decide) (by decide) (Or.inr ⟨by decide, by decide⟩) Sub.nil))))))
            refine aw_if_ne (tgt := 40) dX12_readsCondition_78 (by decide) (fun c_221 => ?_) (fun c_221 => ?_)
            · skip
              obtain ⟨hO_222, hO_223, hO_224⟩ := (h_214.resolve_left c_221)
              have hO_225 := PS.push hP_x26 13 (by decide) (by decide) (by decide)
              have whO_225 : wgt (upd wa40 wag_27 (nI (1048576 * 13))) (wag_27 + 1) = wgt wa40 wag_27 + 0 := by rw [wgt_push, show nI (1048576 * 13) = nI (1048576 * 13 + 0) from rfl, opOf_nI (by decide) (by decide)]; rfl
              refine aw_le ?_ (mih_40_25 _ (by omega) (pl0_27 + 1) coy_27 (wag_27 + 1) sd40 (upd wa40 wag_27 (nI (1048576 * 13))) dp40 V_217 rfl (j_216) (⟨((hO_224 _ (by decide) (by decide)).trans xg_x26), ((hO_224 _ (by decide) (by decide)).trans xs_x26), hO_223, (FG.of hO_222 rfl rfl), (FG.of hO_222 rfl (by omega : le0_27 = ln)), (FG.of hO_222 rfl rfl), (FG.of hO_222 rfl rfl), hO_225, ⟨by omega, by omega, by omega, by omega⟩, ((hO_224 _ (by decide) (by decide)).trans xa_x26), ((hO_224 _ (by decide) (by decide)).trans xb_x26), ((hO_224 _ (by decide) (by decide)).trans xd_x26), ((hO_224 _ (by decide) (by decide)).trans xe_x26), (FG.of hO_222 rfl (by omega : say_27 = sm)), by omega⟩) (by omega) (by omega) ((by rw [pk_un (by omega)]; exact i40_4)) (topu (by decide) (by decide)) (i40_6) (by omega))
              exact ⟨rfl, trivial⟩
            · skip
              refine aw_iconst (v := 0) dX12_readsCondition_81 (by decide) ?_
              refine aw_zreti dX12_readsCondition_82 rfl (by first | exact Or.inl rfl | exact Or.inr rfl | assumption) (Nat.le_of_ble_eq_true rfl) (Nat.le_of_ble_eq_true rfl) ?_
              exact ⟨⟨(by first | exact Or.inl rfl | exact Or.inr rfl | assumption), Or.inl rfl⟩, rfl, j_216⟩
      refine aw_le ?_ (ml_40_25 _ (pl0_2 + 1) coy_2 (0 + 1) sd (upd wa 0 (nI (1048576 * 13))) dep V_16 rfl (j_15) (⟨((hO_23 _ (by decide) (by decide)).trans ((k_11 _ (by decide)).trans ((k_10 _ (by decide)).trans xg_x1))), ((hO_23 _ (by decide) (by decide)).trans ((k_11 _ (by decide)).trans ((k_10 _ (by decide)).trans xs_x1))), hO_22, (FG.of hO_21 rfl rfl), (FG.of hO_21 rfl (by omega : le0_2 = ln)), (FG.of hO_21 rfl rfl), (FG.of hO_21 rfl rfl), hO_24, ⟨by omega, by omega, by omega, by omega⟩, ((hO_23 _ (by decide) (by decide)).trans ((k_11 _ (by decide)).trans ((k_10 _ (by decide)).trans xa_x1))), ((hO_23 _ (by decide) (by decide)).trans ((k_11 _ (by decide)).trans ((k_10 _ (by decide)).trans xb_x1))), ((hO_23 _ (by decide) (by decide)).trans ((k_11 _ (by decide)).trans ((k_10 _ (by decide)).trans xd_x1))), ((hO_23 _ (by decide) (by decide)).trans ((k_11 _ (by decide)).trans ((k_10 _ (by decide)).trans xe_x1))), (FG.of hO_21 rfl (by omega : say_2 = sm)), by omega⟩) (by omega) (by omega) ((by rw [pk_us]; exact opOf_nI (o := 13) (a := 0) (by decide) (by decide))) (topu (w := 0) (by decide) (by decide)) (fun k hk => rfl) (by omega))
      exact ⟨rfl, trivial⟩
    · skip
      refine aw_iconst (v := 0) dX12_readsCondition_38 (by decide) ?_
      refine aw_zreti dX12_readsCondition_39 rfl (by first | exact Or.inl rfl | exact Or.inr rfl | assumption) (Nat.le_of_ble_eq_true rfl) (Nat.le_of_ble_eq_true rfl) ?_
      exact ⟨⟨(by first | exact Or.inl rfl | exact Or.inr rfl | assumption), Or.inl rfl⟩, rfl, j_15⟩
  · skip
    refine aw_aload_n dX12_readsCondition_9 rfl ?_
    refine aw_iconst (v := 1) dX12_readsCondition_10 (by decide) ?_
    refine aw_aload_n dX12_readsCondition_11 rfl ?_
    refine aw_get dX12_readsCondition_12 fl_X12_159 e_2 (by omega) rfl ?_
    refine aw_callVi (J' := jX12_wrongAt) (As := [.int 1, .int (nI pl0_2)]) (st := []) dX12_readsCondition_15 tb_1224 ok_X12_wrongAt ⟨_, e_2⟩ (by omega) rfl rfl (r_wrongAt l D b N V hN cl hJ0.1 1 (nI pl0_2) pl0_2 le0_2 (FG.of e_2 rfl rfl) (FG.of e_2 rfl rfl) ⟨by omega, by omega⟩) rfl (Nat.le_of_ble_eq_true rfl) ⟨Nat.le_of_ble_eq_true rfl, Nat.le_of_ble_eq_true rfl, Nat.le_of_ble_eq_true rfl, Nat.le_of_ble_eq_true rfl⟩ (fun r_239 N_240 V_230 q_241 => ?_)
    obtain ⟨⟨z_228, h_227⟩, rfl, q_226⟩ := q_241
    have j_229 := JR.trans hJ0 (JR.weak q_226 (Sub.cons (LMs (LMs (LMs (LMs LM0)))) (by decide) (by decide) (by decide) (Or.inr ⟨by decide, by decide⟩) Sub.nil))
    obtain ⟨a_231, ha_232, hA_233, hF_234, hL_235, hz_236, hX_237⟩ := h_227
    obtain ⟨ftoldPeople_k238, ftoldDoors_k238, fwasDoors_k238, ffault_k238, fopen_k238, flines_k238, fmeantSet_k238, fopenedNow_k238, fvainNow_k238, flowNow_k238, fhighNow_k238, fisKept_k238, tad_k238, pl0_k238, le0_k238, nu0_k238, coy_k238, wag_k238, say_k238, e_k238, hntad_k238, hnpl0_k238, hnle0_k238, hnnu0_k238, hncoy_k238, hnwag_k238, hnsay_k238⟩ := JR.get j_229 cm_100
    have hqp_k238 := FG.eq hF_234 e_k238 rfl (by omega) (by omega)
    have hql_k238 := FG.eq hL_235 e_k238 rfl (by omega) (by omega)
    obtain rfl := hX_237
    refine aw_zreti dX12_readsCondition_18 rfl (by first | exact Or.inl rfl | exact Or.inr rfl | assumption) (Nat.le_of_ble_eq_true rfl) (Nat.le_of_ble_eq_true rfl) ?_
    exact ⟨⟨(by first | exact Or.inl rfl | exact Or.inr rfl | assumption), Or.inl rfl⟩, rfl, j_229⟩
