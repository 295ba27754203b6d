set_option maxHeartbeats 100000000 in
set_option maxRecDepth 100000 in
theorem r_readsCondition3 (l : Launch) (D : va_G) (b : Nat) (N : Nat) (V : Wd) (hN : 133 ≤ N) (cl : Nat) (hW : CR D b cl V)   (g sd wa : Nat → Int32) (pl ln cm wt sg : Nat) (dep : Nat → Nat) (sl sf sh st : Nat → Int32) (sm sk : Nat) (hX : PX D b V g pl ln cm wt sg sd wa dep sl sf sh st sm sk)  (hO : fI (V 100) 18 = nI 0) (hO6 : 0 ≤ 6) (h0 : wt = 0) (hd0 : dep cm = 0) : MI l D b 6 jX12_readsCondition [.ref (b + 100)] N V 0 0 (fun r N9 V9 => ((r = 0 ∨ r = 1) ∧ ((r = 0 ∧ ∃ f, fI (V9 100) 16 = f ∧ RES (gb g) ln (4, pl, []) (.inl f)) ∨ (r = 1 ∧ (∃ (sd9 wa9 : Nat → Int32) (pl9 cm9 wt9 : Nat) (dep9 : Nat → Nat), PX D b V9 g pl9 ln cm9 wt9 sg sd9 wa9 dep9 sl sf sh st sm sk ∧ wt9 = 0 ∧ (∀ k, k < sg → sd9 k = sd k) ∧ dep9 cm9 = 1 ∧ pl < pl9 ∧ RES (gb g) ln (4, pl, []) (.inr (pl9, ())))))) ∧ N = N9 ∧ JR D b N cl [(111, 112, 0, 1000000), (100, 100, 18, 18), (100, 100, 20, 20), (100, 100, 14, 14), (100, 100, 16, 16), (100, 100, 19, 19), (100, 100, 17, 17)] V V9) := by
  have hJ0 : JR D b N cl [(111, 112, 0, 1000000), (100, 100, 18, 18), (100, 100, 20, 20), (100, 100, 14, 14), (100, 100, 16, 16), (100, 100, 19, 19), (100, 100, 17, 17)] V V := JR.rf hW
  refine mw_of (by decide) (by simp [Value.category]) (Nat.le_of_ble_eq_true rfl) ?_
  show AW l D b jX12_readsCondition (fx_rm 6 0 0) none (fx_MQ D b 0 0 (fx_qi (fun r N9 V9 => ((r = 0 ∨ r = 1) ∧ ((r = 0 ∧ ∃ f, fI (V9 100) 16 = f ∧ RES (gb g) ln (4, pl, []) (.inl f)) ∨ (r = 1 ∧ (∃ (sd9 wa9 : Nat → Int32) (pl9 cm9 wt9 : Nat) (dep9 : Nat → Nat), PX D b V9 g pl9 ln cm9 wt9 sg sd9 wa9 dep9 sl sf sh st sm sk ∧ wt9 = 0 ∧ (∀ k, k < sg → sd9 k = sd k) ∧ dep9 cm9 = 1 ∧ pl < pl9 ∧ RES (gb g) ln (4, pl, []) (.inr (pl9, ())))))) ∧ N = N9 ∧ JR D b N cl [(111, 112, 0, 1000000), (100, 100, 18, 18), (100, 100, 20, 20), (100, 100, 14, 14), (100, 100, 16, 16), (100, 100, 19, 19), (100, 100, 17, 17)] V V9))) 0 [some (.ref (b + 100))] [] N V 0 0
  obtain ⟨xg_x1, xs_x1, xw_x1, xp_x1, xl_x1, xc_x1, xt_x1, hP_x1, ⟨hB1_x1, hB2_x1, hB3_x1, hB4_x1⟩, xa_x1, xb_x1, xd_x1, xe_x1, xm_x1, hB5_x1⟩ := id hX
  obtain ⟨ftoldPeople_2, ftoldDoors_2, fwasDoors_2, ffault_2, fopen_2, flines_2, fmeantSet_2, fopenedNow_2, fvainNow_2, flowNow_2, fhighNow_2, fisKept_2, tad_2, pl0_2, le0_2, nu0_2, coy_2, wag_2, say_2, e_2, hntad_2, hnpl0_2, hnle0_2, hnnu0_2, hncoy_2, hnwag_2, hnsay_2⟩ := JR.get hJ0 cm_100
  have sb_x1pl := FG.eq xp_x1 e_2 rfl (by omega) (by omega)
  subst sb_x1pl
  have sb_x1cm := FG.eq xc_x1 e_2 rfl (by omega) (by omega)
  subst sb_x1cm
  have sb_x1wt := FG.eq xt_x1 e_2 rfl (by omega) (by omega)
  subst sb_x1wt
  have sb_x1ln := FG.eq xl_x1 e_2 rfl (by omega) (by omega)
  have hsg_x1 := hP_x1.2.1
  have sb_x1sm := FG.eq xm_x1 e_2 rfl (by omega) (by omega)
  have hof_3 : fopen_2 = nI 0 := ((congrArg (fun z => fI z 18) e_2).trans rfl).symm.trans hO
  subst hof_3
  refine aw_aload_n dX12_readsCondition_0 rfl ?_
  refine aw_callVi (J' := jX12_here) (As := []) (st := []) dX12_readsCondition_1 tb_1220 ok_X12_here ⟨_, e_2⟩ (by omega) rfl rfl (r_here l D b N V hN cl hJ0.1 g xg_x1 pl0_2 le0_2 (FG.of e_2 rfl rfl) (FG.of e_2 rfl rfl) ⟨by omega, by omega⟩) rfl (Nat.le_of_ble_eq_true rfl) ⟨Nat.le_of_ble_eq_true rfl, Nat.le_of_ble_eq_true rfl, Nat.le_of_ble_eq_true rfl, Nat.le_of_ble_eq_true rfl⟩ (fun r_6 N_7 V_8 q_9 => ?_)
  obtain ⟨h_5, rfl, rfl⟩ := q_9
  refine aw_bipush (v := 40) dX12_readsCondition_4 (by decide) ?_
  refine aw_icmp_eq (tgt := 19) dX12_readsCondition_6 (by decide) (fun c_10 => ?_) (fun c_10 => ?_)
  · skip
    have hlc_10 := here_lt h_5 c_10 (by decide)
    refine aw_aload_n dX12_readsCondition_19 rfl ?_
    refine aw_iconst (v := 0) dX12_readsCondition_20 (by decide) ?_
    refine aw_put dX12_readsCondition_21 fp_X12_186 e_2 (by omega) rfl rfl (Nat.le_of_ble_eq_true rfl) rfl ?_
    refine aw_upR hJ0 cm_100 ⟨_, _, _, _, _, _, _, _, _, _, _, _, tad_2, pl0_2, le0_2, nu0_2, coy_2, wag_2, say_2, rfl, by omega, by omega, by omega, by omega, by omega, by omega, by omega⟩ (by decide) (WO (s := 18) (x := .int 0) e_2 rfl (LMs LM0) (by decide) (by decide) (by decide) (Or.inl (by decide))) (fun V_11 j_11 k_11 e_11 => ?_)
    refine aw_aload_n dX12_readsCondition_24 rfl ?_
    refine aw_iconst (v := 0) dX12_readsCondition_25 (by decide) ?_
    refine aw_put dX12_readsCondition_26 fp_X12_189 e_11 (by omega) rfl rfl (Nat.le_of_ble_eq_true rfl) rfl ?_
    refine aw_upR j_11 cm_100 ⟨_, _, _, _, _, _, _, _, _, _, _, _, tad_2, pl0_2, le0_2, nu0_2, coy_2, 0, say_2, rfl, by omega, by omega, by omega, by omega, by omega, by omega, by omega⟩ (by decide) (WO (s := 20) (x := .int 0) e_11 rfl (LMs (LMs LM0)) (by decide) (by decide) (by decide) (Or.inl (by decide))) (fun V_12 j_12 k_12 e_12 => ?_)
    have hP0 : PS sd wa sg coy_2 0 dep := h0 ▸ hP_x1
    have hz0 : wgt wa 0 = 0 := rfl
    refine aw_aload_n dX12_readsCondition_29 rfl ?_
    refine aw_bipush (v := 13) dX12_readsCondition_30 (by decide) ?_
    refine aw_callVi (J' := jX12_opens) (As := [.int 13]) (st := []) dX12_readsCondition_32 tb_1236 ok_X12_opens ⟨_, e_12⟩ (by omega) rfl rfl (r_opens3 l D b N V_12 hN cl j_12.1 13 13 (by omega) ftoldPeople_2 ftoldDoors_2 fwasDoors_2 ffault_2 (nI 0) flines_2 fmeantSet_2 fopenedNow_2 fvainNow_2 flowNow_2 fhighNow_2 fisKept_2 tad_2 pl0_2 le0_2 nu0_2 coy_2 0 say_2 ⟨by omega, by omega, by omega, by omega, by omega, by omega, by omega⟩ e_12 g sd wa ((k_12 _ (by decide)).trans ((k_11 _ (by decide)).trans xg_x1)) ((k_12 _ (by decide)).trans ((k_11 _ (by decide)).trans xs_x1)) ((k_12 _ (by decide)).trans ((k_11 _ (by decide)).trans xw_x1)) (by omega) (by omega)) rfl (Nat.le_of_ble_eq_true rfl) ⟨Nat.le_of_ble_eq_true rfl, Nat.le_of_ble_eq_true rfl, Nat.le_of_ble_eq_true rfl, Nat.le_of_ble_eq_true rfl⟩ (fun r_18 N_19 V_17 q_20 => ?_)
    obtain ⟨⟨z_15, h_14⟩, rfl, q_13⟩ := q_20
    have j_16 := JR.trans j_12 (JR.weak q_13 (Sub.cons LM0 (by decide) (by decide) (by decide) (Or.inl rfl) (Sub.cons (LMs LM0) (by decide) (by decide) (by decide) (Or.inr ⟨by decide, by decide⟩) (Sub.cons (LMs (LMs LM0)) (by decide) (by decide) (by decide) (Or.inr ⟨by decide, by decide⟩) (Sub.cons (LMs (LMs (LMs LM0))) (by decide) (by decide) (by decide) (Or.inr ⟨by decide, by decide⟩) (Sub.cons (LMs (LMs (LMs (LMs LM0)))) (by decide) (by decide) (by decide) (Or.inr ⟨by decide, by decide⟩) Sub.nil))))))
    refine aw_if_ne (tgt := 40) dX12_readsCondition_35 (by decide) (fun c_21 => ?_) (fun c_21 => ?_)
    · skip
      obtain ⟨hO_22, hO_23, hO_24⟩ := ((h_14.imp And.left (fun z => z.2.2)).resolve_left c_21)
      have hO_25 := PS.push hP0 13 (by decide) (by decide) (by decide)
      have whO_25 : wgt (upd wa 0 (nI (1048576 * 13))) (0 + 1) = wgt wa 0 + 0 := by rw [wgt_push, show nI (1048576 * 13) = nI (1048576 * 13 + 0) from rfl, opOf_nI (by decide) (by decide)]; rfl
      rw [nI_1] at hO_22
      have ml_40_26 : ∀ (m : Nat) (p40 : Nat) (c40 : Nat) (w40 : Nat) (sd40 : Nat → Int32) (wa40 : Nat → Int32) (dp40 : Nat → Nat) (V40 : Wd), m = 240 - p40 → (JR D b N cl [(111, 112, 0, 1000000), (100, 100, 18, 18), (100, 100, 20, 20), (100, 100, 14, 14), (100, 100, 16, 16), (100, 100, 19, 19), (100, 100, 17, 17)] V V40) → (PX D b V40 g p40 ln c40 w40 sg sd40 wa40 dp40 sl sf sh st sm sk) → (pl0_2 < p40) → (1 ≤ w40) → (opOf (wa40 0) = 13) → (10 ≤ opOf (wa40 (w40 - 1))) → (∀ k, k < sg → sd40 k = sd k) → (dp40 c40 = 0) → (fI (V40 100) 18 = nI (dpt (fl wa40 w40))) → (dpt (fl wa40 w40) ≤ 6) → (AD wa40 w40) → (∀ o, RES (gb g) ln (2, p40, fl wa40 w40) o → RES (gb g) ln (4, pl0_2, []) o) → AW l D b jX12_readsCondition (fx_rm 6 0 0) none (fx_MQ D b 0 0 (fx_qi (fun r N9 V9 => ((r = 0 ∨ r = 1) ∧ ((r = 0 ∧ ∃ f, fI (V9 100) 16 = f ∧ RES (gb g) ln (4, pl0_2, []) (.inl f)) ∨ (r = 1 ∧ (∃ (sd9 wa9 : Nat → Int32) (pl9 cm9 wt9 : Nat) (dep9 : Nat → Nat), PX D b V9 g pl9 ln cm9 wt9 sg sd9 wa9 dep9 sl sf sh st sm sk ∧ wt9 = 0 ∧ (∀ k, k < sg → sd9 k = sd k) ∧ dep9 cm9 = 1 ∧ pl0_2 < pl9 ∧ RES (gb g) ln (4, pl0_2, []) (.inr (pl9, ())))))) ∧ N = N9 ∧ JR D b N cl [(111, 112, 0, 1000000), (100, 100, 18, 18), (100, 100, 20, 20), (100, 100, 14, 14), (100, 100, 16, 16), (100, 100, 19, 19), (100, 100, 17, 17)] V V9))) 40 [some (.ref (b + 100))] [] N V40 0 0 := by
        intro m; refine Nat.strongRecOn m ?_
        intro m mih_40_26 p40 c40 w40 sd40 wa40 dp40 V40 hm40 i40_0 i40_1 i40_2 i40_3 i40_4 i40_5 i40_6 i40_7 i40_8 i40_9 i40_10 i40_11
        obtain ⟨xg_x27, xs_x27, xw_x27, xp_x27, xl_x27, xc_x27, xt_x27, hP_x27, ⟨hB1_x27, hB2_x27, hB3_x27, hB4_x27⟩, xa_x27, xb_x27, xd_x27, xe_x27, xm_x27, hB5_x27⟩ := i40_1
        obtain ⟨ftoldPeople_28, ftoldDoors_28, fwasDoors_28, ffault_28, fopen_28, flines_28, fmeantSet_28, fopenedNow_28, fvainNow_28, flowNow_28, fhighNow_28, fisKept_28, tad_28, pl0_28, le0_28, nu0_28, coy_28, wag_28, say_28, e_28, hntad_28, hnpl0_28, hnle0_28, hnnu0_28, hncoy_28, hnwag_28, hnsay_28⟩ := JR.get i40_0 cm_100
        clear hntad_2 hnpl0_2 hnle0_2 hnnu0_2 hncoy_2 hnwag_2 hnsay_2
        have sb_x27pl := FG.eq xp_x27 e_28 rfl (by omega) (by omega)
        subst sb_x27pl
        have sb_x27cm := FG.eq xc_x27 e_28 rfl (by omega) (by omega)
        subst sb_x27cm
        have sb_x27wt := FG.eq xt_x27 e_28 rfl (by omega) (by omega)
        subst sb_x27wt
        have sb_x27ln := FG.eq xl_x27 e_28 rfl (by omega) (by omega)
        have hsg_x27 := hP_x27.2.1
        have sb_x27sm := FG.eq xm_x27 e_28 rfl (by omega) (by omega)
        have hof_29 : fopen_28 = nI (dpt (fl wa40 wag_28)) := ((congrArg (fun z => fI z 18) e_28).trans rfl).symm.trans i40_8
        subst hof_29
        refine aw_aload_n dX12_readsCondition_40 rfl ?_
        refine aw_callVi (J' := jX12_here) (As := []) (st := []) dX12_readsCondition_41 tb_1220 ok_X12_here ⟨_, e_28⟩ (by omega) rfl rfl (r_here l D b N V40 hN cl i40_0.1 g xg_x27 pl0_28 le0_28 (FG.of e_28 rfl rfl) (FG.of e_28 rfl rfl) ⟨by omega, by omega⟩) rfl (Nat.le_of_ble_eq_true rfl) ⟨Nat.le_of_ble_eq_true rfl, Nat.le_of_ble_eq_true rfl, Nat.le_of_ble_eq_true rfl, Nat.le_of_ble_eq_true rfl⟩ (fun r_32 N_33 V_34 q_35 => ?_)
        obtain ⟨h_31, rfl, rfl⟩ := q_35
        refine aw_bipush (v := 33) dX12_readsCondition_44 (by decide) ?_
        refine aw_icmp_eq (tgt := 58) dX12_readsCondition_46 (by decide) (fun c_36 => ?_) (fun c_36 => ?_)
        · skip
          have hlc_36 := here_lt h_31 c_36 (by decide)
          refine aw_aload_n dX12_readsCondition_58 rfl ?_
          refine aw_aload_n dX12_readsCondition_59 rfl ?_
          refine aw_callVi (J' := jX12_here) (As := []) (st := [.ref (b + 100)]) dX12_readsCondition_60 tb_1220 ok_X12_here ⟨_, e_28⟩ (by omega) rfl rfl (r_here l D b N V40 hN cl i40_0.1 g xg_x27 pl0_28 le0_28 (FG.of e_28 rfl rfl) (FG.of e_28 rfl rfl) ⟨by omega, by omega⟩) rfl (Nat.le_of_ble_eq_true rfl) ⟨Nat.le_of_ble_eq_true rfl, Nat.le_of_ble_eq_true rfl, Nat.le_of_ble_eq_true rfl, Nat.le_of_ble_eq_true rfl⟩ (fun r_39 N_40 V_41 q_42 => ?_)
          obtain ⟨h_38, rfl, rfl⟩ := q_42
          refine aw_eqi (y := 33) (h_38.trans (h_31.symm.trans c_36)) ?_
          refine aw_bipush (v := 33) dX12_readsCondition_63 (by decide) ?_
          refine aw_icmp_ne (tgt := 73) dX12_readsCondition_65 (by decide) (fun c_43 => ?_) (fun c_43 => ?_)
          · exact absurd rfl c_43
          refine aw_bipush (v := 10) dX12_readsCondition_68 (by decide) ?_
          refine aw_goto (tgt := 75) dX12_readsCondition_70 (by decide) ?_
          refine aw_callVi (J' := jX12_opens) (As := [.int 10]) (st := []) dX12_readsCondition_75 tb_1236 ok_X12_opens ⟨_, e_28⟩ (by omega) rfl rfl (r_opens3 l D b N V40 hN cl i40_0.1 10 10 (by omega) ftoldPeople_28 ftoldDoors_28 fwasDoors_28 ffault_28 (nI (dpt (fl wa40 wag_28))) flines_28 fmeantSet_28 fopenedNow_28 fvainNow_28 flowNow_28 fhighNow_28 fisKept_28 tad_28 pl0_28 le0_28 nu0_28 coy_28 wag_28 say_28 ⟨by omega, by omega, by omega, by omega, by omega, by omega, by omega⟩ e_28 g sd40 wa40 xg_x27 xs_x27 xw_x27 (by omega) (by omega)) rfl (Nat.le_of_ble_eq_true rfl) ⟨Nat.le_of_ble_eq_true rfl, Nat.le_of_ble_eq_true rfl, Nat.le_of_ble_eq_true rfl, Nat.le_of_ble_eq_true rfl⟩ (fun r_49 N_50 V_48 q_51 => ?_)
          obtain ⟨⟨z_46, h_45⟩, rfl, q_44⟩ := q_51
          have j_47 := JR.trans i40_0 (JR.weak q_44 (Sub.cons LM0 (by decide) (by decide) (by decide) (Or.inl rfl) (Sub.cons (LMs LM0) (by decide) (by decide) (by decide) (Or.inr ⟨by decide, by decide⟩) (Sub.cons (LMs (LMs LM0)) (by decide) (by decide) (by decide) (Or.inr ⟨by decide, by decide⟩) (Sub.cons (LMs (LMs (LMs LM0))) (by decide) (by decide) (by decide) (Or.inr ⟨by decide, by decide⟩) (Sub.cons (LMs (LMs (LMs (LMs LM0)))) (by decide) (by decide) (by decide) (Or.inr ⟨by decide, by decide⟩) Sub.nil))))))
          refine aw_if_ne (tgt := 40) dX12_readsCondition_78 (by decide) (fun c_52 => ?_) (fun c_52 => ?_)
          · skip
            obtain ⟨hO_53, hO_54, hO_55⟩ := ((h_45.imp And.left (fun z => z.2.2)).resolve_left c_52)
            have hO_56 := PS.push hP_x27 10 (by decide) (by decide) (by decide)
            have whO_56 : wgt (upd wa40 wag_28 (nI (1048576 * 10))) (wag_28 + 1) = wgt wa40 wag_28 + 1 := by rw [wgt_push, show nI (1048576 * 10) = nI (1048576 * 10 + 0) from rfl, opOf_nI (by decide) (by decide)]; rfl
            rw [nI_1] at hO_53
            have h6 : ¬ (dpt (fl wa40 wag_28)) = 6 := fun e => (h_45.resolve_left (fun z => c_52 z.1)).2.1 (congrArg nI e)
            have hf9 : (fl (upd wa40 wag_28 (nI (1048576 * 10))) (wag_28 + 1)) = 4 :: fl wa40 wag_28 := fl_up10
            have hfd9 : dpt (fl (upd wa40 wag_28 (nI (1048576 * 10))) (wag_28 + 1)) = dpt (fl wa40 wag_28) + 1 := by rw [hf9]; rfl
            refine aw_le ?_ (mih_40_26 _ (by omega) (pl0_28 + 1) coy_28 (wag_28 + 1) sd40 (upd wa40 wag_28 (nI (1048576 * 10))) dp40 V_48 rfl (j_47) (⟨((hO_55 _ (by decide) (by decide)).trans xg_x27), ((hO_55 _ (by decide) (by decide)).trans xs_x27), hO_54, (FG.of hO_53 rfl rfl), (FG.of hO_53 rfl (by omega : le0_28 = ln)), (FG.of hO_53 rfl rfl), (FG.of hO_53 rfl rfl), hO_56, ⟨by omega, by omega, by omega, by omega⟩, ((hO_55 _ (by decide) (by decide)).trans xa_x27), ((hO_55 _ (by decide) (by decide)).trans xb_x27), ((hO_55 _ (by decide) (by decide)).trans xd_x27), ((hO_55 _ (by decide) (by decide)).trans xe_x27), (FG.of hO_53 rfl (by omega : say_28 = sm)), by omega⟩) (by omega) (by omega) ((by rw [pk_un (by omega)]; exact i40_4)) (topu (by decide) (by decide)) (i40_6) (by omega) ((((congrArg (fun z => fI z 18) hO_53).trans rfl)).trans (congrArg nI (by omega))) (by omega) (i40_10.push (Or.inl (op_lit (by decide)))) ((by rw [hf9]; exact fun o q => i40_11 o (T_not (hd_is sb_x27ln rfl h_31 c_36) (by omega) q))))
            exact ⟨rfl, trivial⟩
          · skip
            refine aw_iconst (v := 0) dX12_readsCondition_81 (by decide) ?_
            refine aw_zreti dX12_readsCondition_82 rfl (by first | exact Or.inl rfl | exact Or.inr rfl | assumption) (Nat.le_of_ble_eq_true rfl) (Nat.le_of_ble_eq_true rfl) ?_
            exact ⟨⟨(by first | exact Or.inl rfl | exact Or.inr rfl | assumption), Or.inl ⟨rfl, ⟨_, ((h_45.resolve_right (fun z => absurd (z.1.symm.trans c_52) (by decide))).2.2), i40_11 _ (T_notd (hd_is sb_x27ln rfl h_31 c_36) (by have h9 := (nI_eq (b := 6) (by omega) (by omega)).mp ((h_45.resolve_right (fun z => absurd (z.1.symm.trans c_52) (by decide))).2.1); omega))⟩⟩⟩, rfl, j_47⟩
        · skip
          refine aw_aload_n dX12_readsCondition_49 rfl ?_
          refine aw_callVi (J' := jX12_here) (As := []) (st := []) dX12_readsCondition_50 tb_1220 ok_X12_here ⟨_, e_28⟩ (by omega) rfl rfl (r_here l D b N V40 hN cl i40_0.1 g xg_x27 pl0_28 le0_28 (FG.of e_28 rfl rfl) (FG.of e_28 rfl rfl) ⟨by omega, by omega⟩) rfl (Nat.le_of_ble_eq_true rfl) ⟨Nat.le_of_ble_eq_true rfl, Nat.le_of_ble_eq_true rfl, Nat.le_of_ble_eq_true rfl, Nat.le_of_ble_eq_true rfl⟩ (fun r_59 N_60 V_61 q_62 => ?_)
          obtain ⟨h_58, rfl, rfl⟩ := q_62
          refine aw_bipush (v := 40) dX12_readsCondition_53 (by decide) ?_
          refine aw_icmp_ne (tgt := 83) dX12_readsCondition_55 (by decide) (fun c_63 => ?_) (fun c_63 => ?_)
          · skip
            refine aw_aload_n dX12_readsCondition_83 rfl ?_
            refine aw_callVi (J' := jX12_readsCompared) (As := []) (st := []) dX12_readsCondition_84 tb_1275 ok_X12_readsCompared ⟨_, e_28⟩ (by omega) rfl rfl (r_readsCompared3 l D b N V40 hN cl i40_0.1 g sd40 wa40 pl0_28 ln coy_28 wag_28 sg dp40 sl sf sh st sm sk ⟨xg_x27, xs_x27, xw_x27, (FG.of e_28 rfl rfl), (FG.of e_28 rfl (by omega : le0_28 = ln)), (FG.of e_28 rfl rfl), (FG.of e_28 rfl rfl), hP_x27, ⟨by omega, by omega, by omega, by omega⟩, xa_x27, xb_x27, xd_x27, xe_x27, (FG.of e_28 rfl (by omega : say_28 = sm)), by omega⟩  (((congrArg (fun z => fI z 18) e_28).trans rfl).trans (congrArg nI rfl)) (by have h9 : (dpt (fl wa40 wag_28)) = (dpt (fl wa40 wag_28)) := rfl; omega) (by omega) i40_4 (by omega) i40_5 (hd_isnt sb_x27ln rfl h_31 c_36) (hd_isnt sb_x27ln rfl h_58 c_63)) rfl (Nat.le_of_ble_eq_true rfl) ⟨Nat.le_of_ble_eq_true rfl, Nat.le_of_ble_eq_true rfl, Nat.le_of_ble_eq_true rfl, Nat.le_of_ble_eq_true rfl⟩ (fun r_69 N_70 V_68 q_71 => ?_)
            obtain ⟨⟨z_66, h_65⟩, rfl, q_64⟩ := q_71
            have j_67 := JR.trans i40_0 (JR.weak q_64 (Sub.cons LM0 (by decide) (by decide) (by decide) (Or.inl rfl) (Sub.cons (LMs (LMs (LMs (LMs (LMs LM0))))) (by decide) (by decide) (by decide) (Or.inr ⟨by decide, by decide⟩) (Sub.cons (LMs (LMs (LMs LM0))) (by decide) (by decide) (by decide) (Or.inr ⟨by decide, by decide⟩) (Sub.cons (LMs (LMs (LMs (LMs LM0)))) (by decide) (by decide) (by decide) (Or.inr ⟨by decide, by decide⟩) (Sub.cons (LMs (LMs (LMs (LMs (LMs (LMs LM0)))))) (by decide) (by decide) (by decide) (Or.inr ⟨by decide, by decide⟩) (Sub.cons (LMs LM0) (by decide) (by decide) (by decide) (Or.inr ⟨by decide, by decide⟩) (Sub.cons (LMs (LMs LM0)) (by decide) (by decide) (by decide) (Or.inr ⟨by decide, by decide⟩) Sub.nil))))))))
            refine aw_if_ne (tgt := 92) dX12_readsCondition_87 (by decide) (fun c_72 => ?_) (fun c_72 => ?_)
            · skip
              obtain ⟨sd_y73, wa_y73, pl_y73, cm_y73, wt_y73, dp_y73, hX_y73, cw_y73, c1_y73, ca_y73, cs_y73, cd_y73, cp_y73, oo_y73, o6_y73, cr_y73, ct_y73⟩ := ((h_65.imp And.left And.right).resolve_left c_72)
              obtain ⟨xg_x74, xs_x74, xw_x74, xp_x74, xl_x74, xc_x74, xt_x74, hP_x74, ⟨hB1_x74, hB2_x74, hB3_x74, hB4_x74⟩, xa_x74, xb_x74, xd_x74, xe_x74, xm_x74, hB5_x74⟩ := hX_y73
              obtain ⟨ftoldPeople_75, ftoldDoors_75, fwasDoors_75, ffault_75, fopen_75, flines_75, fmeantSet_75, fopenedNow_75, fvainNow_75, flowNow_75, fhighNow_75, fisKept_75, tad_75, pl0_75, le0_75, nu0_75, coy_75, wag_75, say_75, e_75, hntad_75, hnpl0_75, hnle0_75, hnnu0_75, hncoy_75, hnwag_75, hnsay_75⟩ := JR.get j_67 cm_100
              clear hntad_28 hnpl0_28 hnle0_28 hnnu0_28 hncoy_28 hnwag_28 hnsay_28
              have sb_x74pl := FG.eq xp_x74 e_75 rfl (by omega) (by omega)
              subst sb_x74pl
              have sb_x74cm := FG.eq xc_x74 e_75 rfl (by omega) (by omega)
              subst sb_x74cm
              have sb_x74wt := FG.eq xt_x74 e_75 rfl (by omega) (by omega)
              subst sb_x74wt
              have sb_x74ln := FG.eq xl_x74 e_75 rfl (by omega) (by omega)
              have hsg_x74 := hP_x74.2.1
              have sb_x74sm := FG.eq xm_x74 e_75 rfl (by omega) (by omega)
              have hof_76 : fopen_75 = nI (dpt (fl wa_y73 wag_75)) := ((congrArg (fun z => fI z 18) e_75).trans rfl).symm.trans oo_y73
              subst hof_76
              have ml_92_77 : ∀ (m : Nat) (p92 : Nat) (c92 : Nat) (w92 : Nat) (sd92 : Nat → Int32) (wa92 : Nat → Int32) (dp92 : Nat → Nat) (V92 : Wd), m = 240 - p92 → (JR D b N cl [(111, 112, 0, 1000000), (100, 100, 18, 18), (100, 100, 20, 20), (100, 100, 14, 14), (100, 100, 16, 16), (100, 100, 19, 19), (100, 100, 17, 17)] V V92) → (PX D b V92 g p92 ln c92 w92 sg sd92 wa92 dp92 sl sf sh st sm sk) → (pl0_28 < p92 ∧ pl0_2 < p92) → (1 ≤ w92) → (opOf (wa92 0) = 13) → (∀ k, k < sg → sd92 k = sd k) → (dp92 c92 = 1) → (fI (V92 100) 18 = nI (dpt (fl wa92 w92))) → (dpt (fl wa92 w92) ≤ 6) → (AD wa92 w92) → (opOf (wa92 (w92 - 1)) ≠ 10) → (∀ o, RES (gb g) ln (3, p92, fl wa92 w92) o → RES (gb g) ln (4, pl0_2, []) o) → AW l D b jX12_readsCondition (fx_rm 6 0 0) none (fx_MQ D b 0 0 (fx_qi (fun r N9 V9 => ((r = 0 ∨ r = 1) ∧ ((r = 0 ∧ ∃ f, fI (V9 100) 16 = f ∧ RES (gb g) ln (4, pl0_2, []) (.inl f)) ∨ (r = 1 ∧ (∃ (sd9 wa9 : Nat → Int32) (pl9 cm9 wt9 : Nat) (dep9 : Nat → Nat), PX D b V9 g pl9 ln cm9 wt9 sg sd9 wa9 dep9 sl sf sh st sm sk ∧ wt9 = 0 ∧ (∀ k, k < sg → sd9 k = sd k) ∧ dep9 cm9 = 1 ∧ pl0_2 < pl9 ∧ RES (gb g) ln (4, pl0_2, []) (.inr (pl9, ())))))) ∧ N = N9 ∧ JR D b N cl [(111, 112, 0, 1000000), (100, 100, 18, 18), (100, 100, 20, 20), (100, 100, 14, 14), (100, 100, 16, 16), (100, 100, 19, 19), (100, 100, 17, 17)] V V9))) 92 [some (.ref (b + 100))] [] N V92 0 0 := by
                intro m; refine Nat.strongRecOn m ?_
                intro m mih_92_77 p92 c92 w92 sd92 wa92 dp92 V92 hm92 i92_0 i92_1 i92_2 i92_3 i92_4 i92_5 i92_6 i92_7 i92_8 i92_9 i92_10 i92_11
                obtain ⟨xg_x78, xs_x78, xw_x78, xp_x78, xl_x78, xc_x78, xt_x78, hP_x78, ⟨hB1_x78, hB2_x78, hB3_x78, hB4_x78⟩, xa_x78, xb_x78, xd_x78, xe_x78, xm_x78, hB5_x78⟩ := i92_1
                obtain ⟨ftoldPeople_79, ftoldDoors_79, fwasDoors_79, ffault_79, fopen_79, flines_79, fmeantSet_79, fopenedNow_79, fvainNow_79, flowNow_79, fhighNow_79, fisKept_79, tad_79, pl0_79, le0_79, nu0_79, coy_79, wag_79, say_79, e_79, hntad_79, hnpl0_79, hnle0_79, hnnu0_79, hncoy_79, hnwag_79, hnsay_79⟩ := JR.get i92_0 cm_100
                clear hntad_75 hnpl0_75 hnle0_75 hnnu0_75 hncoy_75 hnwag_75 hnsay_75
                have sb_x78pl := FG.eq xp_x78 e_79 rfl (by omega) (by omega)
                subst sb_x78pl
                have sb_x78cm := FG.eq xc_x78 e_79 rfl (by omega) (by omega)
                subst sb_x78cm
                have sb_x78wt := FG.eq xt_x78 e_79 rfl (by omega) (by omega)
                subst sb_x78wt
                have sb_x78ln := FG.eq xl_x78 e_79 rfl (by omega) (by omega)
                have hsg_x78 := hP_x78.2.1
                have sb_x78sm := FG.eq xm_x78 e_79 rfl (by omega) (by omega)
                have hof_80 : fopen_79 = nI (dpt (fl wa92 wag_79)) := ((congrArg (fun z => fI z 18) e_79).trans rfl).symm.trans i92_7
                subst hof_80
                refine aw_aload_n dX12_readsCondition_92 rfl ?_
                refine aw_callVi (J' := jX12_here) (As := []) (st := []) dX12_readsCondition_93 tb_1220 ok_X12_here ⟨_, e_79⟩ (by omega) rfl rfl (r_here l D b N V92 hN cl i92_0.1 g xg_x78 pl0_79 le0_79 (FG.of e_79 rfl rfl) (FG.of e_79 rfl rfl) ⟨by omega, by omega⟩) rfl (Nat.le_of_ble_eq_true rfl) ⟨Nat.le_of_ble_eq_true rfl, Nat.le_of_ble_eq_true rfl, Nat.le_of_ble_eq_true rfl, Nat.le_of_ble_eq_true rfl⟩ (fun r_83 N_84 V_85 q_86 => ?_)
                obtain ⟨h_82, rfl, rfl⟩ := q_86
                refine aw_bipush (v := 41) dX12_readsCondition_96 (by decide) ?_
                refine aw_icmp_ne (tgt := 152) dX12_readsCondition_98 (by decide) (fun c_87 => ?_) (fun c_87 => ?_)
                · skip
                  obtain ⟨s9, hs9⟩ := fl_top i92_9 (by omega) i92_10
                  refine aw_aload_n dX12_readsCondition_152 rfl ?_
                  refine aw_callVi (J' := jX12_here) (As := []) (st := []) dX12_readsCondition_153 tb_1220 ok_X12_here ⟨_, e_79⟩ (by omega) rfl rfl (r_here l D b N V92 hN cl i92_0.1 g xg_x78 pl0_79 le0_79 (FG.of e_79 rfl rfl) (FG.of e_79 rfl rfl) ⟨by omega, by omega⟩) rfl (Nat.le_of_ble_eq_true rfl) ⟨Nat.le_of_ble_eq_true rfl, Nat.le_of_ble_eq_true rfl, Nat.le_of_ble_eq_true rfl, Nat.le_of_ble_eq_true rfl⟩ (fun r_90 N_91 V_92 q_93 => ?_)
                  obtain ⟨h_89, rfl, rfl⟩ := q_93
                  refine aw_bipush (v := 38) dX12_readsCondition_156 (by decide) ?_
                  refine aw_icmp_eq (tgt := 180) dX12_readsCondition_158 (by decide) (fun c_94 => ?_) (fun c_94 => ?_)
                  · skip
                    have hlc_94 := here_lt h_89 c_94 (by decide)
                    refine aw_aload_n dX12_readsCondition_180 rfl ?_
                    refine aw_aload_n dX12_readsCondition_181 rfl ?_
                    refine aw_callVi (J' := jX12_here) (As := []) (st := [.ref (b + 100)]) dX12_readsCondition_182 tb_1220 ok_X12_here ⟨_, e_79⟩ (by omega) rfl rfl (r_here l D b N V92 hN cl i92_0.1 g xg_x78 pl0_79 le0_79 (FG.of e_79 rfl rfl) (FG.of e_79 rfl rfl) ⟨by omega, by omega⟩) rfl (Nat.le_of_ble_eq_true rfl) ⟨Nat.le_of_ble_eq_true rfl, Nat.le_of_ble_eq_true rfl, Nat.le_of_ble_eq_true rfl, Nat.le_of_ble_eq_true rfl⟩ (fun r_97 N_98 V_99 q_100 => ?_)
                    obtain ⟨h_96, rfl, rfl⟩ := q_100
                    refine aw_eqi (y := 38) (h_96.trans (h_89.symm.trans c_94)) ?_
                    refine aw_bipush (v := 124) dX12_readsCondition_185 (by decide) ?_
                    refine aw_icmp_ne (tgt := 194) dX12_readsCondition_187 (by decide) (fun c_101 => ?_) (fun c_101 => ?_)
                    rotate_left
                    · exact absurd c_101 (by decide)
                    refine aw_iconst (v := 0) dX12_readsCondition_194 (by decide) ?_
                    refine aw_callVv (J' := jX12_lands) (As := [.int 0]) (st := []) dX12_readsCondition_195 tb_1283 ok_X12_lands ⟨_, e_79⟩ (by omega) rfl rfl (r_lands3 l D b N V92 hN cl i92_0.1 0 g sd92 wa92 pl0_79 ln coy_79 wag_79 sg dp92 sl sf sh st sm sk ⟨xg_x78, xs_x78, xw_x78, (FG.of e_79 rfl rfl), (FG.of e_79 rfl (by omega : le0_79 = ln)), (FG.of e_79 rfl rfl), (FG.of e_79 rfl rfl), hP_x78, ⟨by omega, by omega, by omega, by omega⟩, xa_x78, xb_x78, xd_x78, xe_x78, (FG.of e_79 rfl (by omega : say_79 = sm)), by omega⟩ (by omega) i92_4 (by omega)) rfl (Nat.le_of_ble_eq_true rfl) ⟨Nat.le_of_ble_eq_true rfl, Nat.le_of_ble_eq_true rfl, Nat.le_of_ble_eq_true rfl, Nat.le_of_ble_eq_true rfl⟩ (fun  N_106 V_105 q_107 => ?_)
                    obtain ⟨h_103, rfl, q_102⟩ := q_107
                    have j_104 := JR.trans i92_0 (JR.weak q_102 (Sub.cons LM0 (by decide) (by decide) (by decide) (Or.inl rfl) (Sub.cons (LMs (LMs LM0)) (by decide) (by decide) (by decide) (Or.inr ⟨by decide, by decide⟩) Sub.nil)))
                    obtain ⟨sd_y108, pl_y108, cm_y108, wt_y108, dp_y108, hX_y108, qp_y108, qc_y108, qw_y108, q1_y108, qs_y108, qd_y108, qe_y108, qn_y108, qj_y108⟩ := h_103
                    obtain ⟨xg_x109, xs_x109, xw_x109, xp_x109, xl_x109, xc_x109, xt_x109, hP_x109, ⟨hB1_x109, hB2_x109, hB3_x109, hB4_x109⟩, xa_x109, xb_x109, xd_x109, xe_x109, xm_x109, hB5_x109⟩ := hX_y108
                    obtain ⟨ftoldPeople_110, ftoldDoors_110, fwasDoors_110, ffault_110, fopen_110, flines_110, fmeantSet_110, fopenedNow_110, fvainNow_110, flowNow_110, fhighNow_110, fisKept_110, tad_110, pl0_110, le0_110, nu0_110, coy_110, wag_110, say_110, e_110, hntad_110, hnpl0_110, hnle0_110, hnnu0_110, hncoy_110, hnwag_110, hnsay_110⟩ := JR.get j_104 cm_100
                    clear hntad_79 hnpl0_79 hnle0_79 hnnu0_79 hncoy_79 hnwag_79 hnsay_79
                    have sb_x109pl := FG.eq xp_x109 e_110 rfl (by omega) (by omega)
                    subst sb_x109pl
                    have sb_x109cm := FG.eq xc_x109 e_110 rfl (by omega) (by omega)
                    subst sb_x109cm
                    have sb_x109wt := FG.eq xt_x109 e_110 rfl (by omega) (by omega)
                    subst sb_x109wt
                    have sb_x109ln := FG.eq xl_x109 e_110 rfl (by omega) (by omega)
                    have hsg_x109 := hP_x109.2.1
                    have sb_x109sm := FG.eq xm_x109 e_110 rfl (by omega) (by omega)
                    have hof_111 : fopen_110 = nI (dpt (fl wa92 wag_79)) := ((congrArg (fun z => fI z 18) e_110).trans rfl).symm.trans ((JR.fI q_102 (by decide) (by decide) (nfc (by omega) (nfc (by omega) nf0))).trans ((congrArg (fun z => fI z 18) e_79).trans rfl))
                    subst hof_111
                    have hv_112 : hereF g pl0_110 le0_110 = 38 := by rw [show pl0_110 = pl0_79 by omega, show le0_110 = le0_79 by omega]; exact (h_89.symm.trans c_94)
                    have ht0 := AD.land i92_9 (by omega) (by omega) i92_10 qj_y108
                    have hfl1 : fl wa92 wag_79 = fl wa92 wag_110 := fl_land (by omega) qj_y108
                    refine aw_aload_n dX12_readsCondition_198 rfl ?_
                    refine aw_aload_n dX12_readsCondition_199 rfl ?_
                    refine aw_callVi (J' := jX12_here) (As := []) (st := [.ref (b + 100)]) dX12_readsCondition_200 tb_1220 ok_X12_here ⟨_, e_110⟩ (by omega) rfl rfl (r_here l D b N V_105 hN cl j_104.1 g xg_x109 pl0_110 le0_110 (FG.of e_110 rfl rfl) (FG.of e_110 rfl rfl) ⟨by omega, by omega⟩) rfl (Nat.le_of_ble_eq_true rfl) ⟨Nat.le_of_ble_eq_true rfl, Nat.le_of_ble_eq_true rfl, Nat.le_of_ble_eq_true rfl, Nat.le_of_ble_eq_true rfl⟩ (fun r_115 N_116 V_117 q_118 => ?_)
                    obtain ⟨h_114, rfl, rfl⟩ := q_118
                    refine aw_eqi (y := 38) (h_114.trans hv_112) ?_
                    refine aw_bipush (v := 38) dX12_readsCondition_203 (by decide) ?_
                    refine aw_icmp_ne (tgt := 213) dX12_readsCondition_205 (by decide) (fun c_119 => ?_) (fun c_119 => ?_)
                    · exact absurd rfl c_119
                    refine aw_bipush (v := 11) dX12_readsCondition_208 (by decide) ?_
                    refine aw_goto (tgt := 215) dX12_readsCondition_210 (by decide) ?_
                    refine aw_callVv (J' := jX12_jumps) (As := [.int 11]) (st := []) dX12_readsCondition_215 tb_1287 ok_X12_jumps ⟨_, e_110⟩ (by omega) rfl rfl (r_jumps l D b N V_105 hN cl j_104.1 11 11 (by omega) ftoldPeople_110 ftoldDoors_110 fwasDoors_110 ffault_110 (nI (dpt (fl wa92 wag_79))) flines_110 fmeantSet_110 fopenedNow_110 fvainNow_110 flowNow_110 fhighNow_110 fisKept_110 tad_110 pl0_110 le0_110 nu0_110 coy_110 wag_110 say_110 ⟨by omega, by omega, by omega, by omega, by omega, by omega, by omega⟩ e_110 g sd_y108 wa92 xg_x109 xs_x109 xw_x109 (by omega) (by omega) (by omega)) rfl (Nat.le_of_ble_eq_true rfl) ⟨Nat.le_of_ble_eq_true rfl, Nat.le_of_ble_eq_true rfl, Nat.le_of_ble_eq_true rfl, Nat.le_of_ble_eq_true rfl⟩ (fun  N_129 V_123 q_130 => ?_)
                    obtain ⟨h_121, rfl, q_120⟩ := q_130
                    have j_122 := JR.trans j_104 (JR.weak q_120 (Sub.cons LM0 (by decide) (by decide) (by decide) (Or.inl rfl) (Sub.cons (LMs (LMs LM0)) (by decide) (by decide) (by decide) (Or.inr ⟨by decide, by decide⟩) (Sub.cons (LMs (LMs (LMs (LMs (LMs LM0))))) (by decide) (by decide) (by decide) (Or.inr ⟨by decide, by decide⟩) (Sub.cons (LMs (LMs (LMs LM0))) (by decide) (by decide) (by decide) (Or.inr ⟨by decide, by decide⟩) Sub.nil)))))
                    obtain ⟨hJ_124, hJ_125, hJ_126, hJ_127⟩ := h_121
                    have hJ_128 := PS.jump hP_x109 11 (by omega) (by decide) (by omega)
                    have whJ_128 : wgt (upd wa92 wag_110 (nI (1048576 * 11 + coy_110))) (wag_110 + 1) = wgt wa92 wag_110 + 0 := by rw [wgt_push, opOf_nI (by decide) (by omega)]; rfl
                    have hds : (dset dp_y108 (coy_110 + 1) 0) (coy_110 + 1) = 0 := dset_s
                    refine aw_goto (tgt := 40) dX12_readsCondition_218 (by decide) ?_
                    have hf9 : (fl (upd wa92 wag_110 (nI (1048576 * 11 + coy_110))) (wag_110 + 1)) = fl wa92 wag_79 := (fl_upj (by decide) (by omega)).trans hfl1.symm
                    have hfd9 : dpt (fl (upd wa92 wag_110 (nI (1048576 * 11 + coy_110))) (wag_110 + 1)) = dpt (fl wa92 wag_79) := congrArg dpt hf9
                    refine aw_le ?_ (mih_40_26 _ (by omega) (pl0_110 + 1) (coy_110 + 1) (wag_110 + 1) (upd sd_y108 coy_110 (nI (1048576 * 11 + 0))) (upd wa92 wag_110 (nI (1048576 * 11 + coy_110))) (dset dp_y108 (coy_110 + 1) 0) V_123 rfl (j_122) (⟨((hJ_127 _ (by decide) (by decide) (by decide)).trans xg_x109), hJ_126, hJ_125, (FG.of hJ_124 rfl rfl), (FG.of hJ_124 rfl (by omega : le0_110 = ln)), (FG.of hJ_124 rfl rfl), (FG.of hJ_124 rfl rfl), hJ_128, ⟨by omega, by omega, by omega, by omega⟩, ((hJ_127 _ (by decide) (by decide) (by decide)).trans xa_x109), ((hJ_127 _ (by decide) (by decide) (by decide)).trans xb_x109), ((hJ_127 _ (by decide) (by decide) (by decide)).trans xd_x109), ((hJ_127 _ (by decide) (by decide) (by decide)).trans xe_x109), (FG.of hJ_124 rfl (by omega : say_110 = sm)), by omega⟩) (by omega) (by omega) ((by rw [pk_un (by omega)]; exact i92_4)) (topj (by decide) (by decide) (by omega)) (fun k hk => ((pk_un (by omega)).trans (qs_y108 k hk)).trans (i92_5 k hk)) (by omega) ((((congrArg (fun z => fI z 18) hJ_124).trans rfl)).trans (congrArg nI (by omega))) (by omega) ((i92_9.sub (by omega) (fun _ _ => rfl)).jump (by omega) (by rw [opOf_nI (by decide) (by omega)]; decide) ht0) ((by rw [hf9, hs9]; exact fun o q => i92_11 o (by rw [hs9]; exact A_and (Or.inl (hd_is sb_x78ln rfl h_89 c_94)) (by rw [← qp_y108]; exact q)))))
                    exact ⟨rfl, trivial⟩
                  · skip
                    refine aw_aload_n dX12_readsCondition_161 rfl ?_
                    refine aw_callVi (J' := jX12_here) (As := []) (st := []) dX12_readsCondition_162 tb_1220 ok_X12_here ⟨_, e_79⟩ (by omega) rfl rfl (r_here l D b N V92 hN cl i92_0.1 g xg_x78 pl0_79 le0_79 (FG.of e_79 rfl rfl) (FG.of e_79 rfl rfl) ⟨by omega, by omega⟩) rfl (Nat.le_of_ble_eq_true rfl) ⟨Nat.le_of_ble_eq_true rfl, Nat.le_of_ble_eq_true rfl, Nat.le_of_ble_eq_true rfl, Nat.le_of_ble_eq_true rfl⟩ (fun r_133 N_134 V_135 q_136 => ?_)
                    obtain ⟨h_132, rfl, rfl⟩ := q_136
                    refine aw_bipush (v := 124) dX12_readsCondition_165 (by decide) ?_
                    refine aw_icmp_eq (tgt := 180) dX12_readsCondition_167 (by decide) (fun c_137 => ?_) (fun c_137 => ?_)
                    · skip
                      have hlc_137 := here_lt h_132 c_137 (by decide)
                      refine aw_aload_n dX12_readsCondition_180 rfl ?_
                      refine aw_aload_n dX12_readsCondition_181 rfl ?_
                      refine aw_callVi (J' := jX12_here) (As := []) (st := [.ref (b + 100)]) dX12_readsCondition_182 tb_1220 ok_X12_here ⟨_, e_79⟩ (by omega) rfl rfl (r_here l D b N V92 hN cl i92_0.1 g xg_x78 pl0_79 le0_79 (FG.of e_79 rfl rfl) (FG.of e_79 rfl rfl) ⟨by omega, by omega⟩) rfl (Nat.le_of_ble_eq_true rfl) ⟨Nat.le_of_ble_eq_true rfl, Nat.le_of_ble_eq_true rfl, Nat.le_of_ble_eq_true rfl, Nat.le_of_ble_eq_true rfl⟩ (fun r_140 N_141 V_142 q_143 => ?_)
                      obtain ⟨h_139, rfl, rfl⟩ := q_143
                      refine aw_eqi (y := 124) (h_139.trans (h_132.symm.trans c_137)) ?_
                      refine aw_bipush (v := 124) dX12_readsCondition_185 (by decide) ?_
                      refine aw_icmp_ne (tgt := 194) dX12_readsCondition_187 (by decide) (fun c_144 => ?_) (fun c_144 => ?_)
                      · exact absurd rfl c_144
                      refine aw_iconst (v := 1) dX12_readsCondition_190 (by decide) ?_
                      refine aw_goto (tgt := 195) dX12_readsCondition_191 (by decide) ?_
                      refine aw_callVv (J' := jX12_lands) (As := [.int 1]) (st := []) dX12_readsCondition_195 tb_1283 ok_X12_lands ⟨_, e_79⟩ (by omega) rfl rfl (r_lands3 l D b N V92 hN cl i92_0.1 1 g sd92 wa92 pl0_79 ln coy_79 wag_79 sg dp92 sl sf sh st sm sk ⟨xg_x78, xs_x78, xw_x78, (FG.of e_79 rfl rfl), (FG.of e_79 rfl (by omega : le0_79 = ln)), (FG.of e_79 rfl rfl), (FG.of e_79 rfl rfl), hP_x78, ⟨by omega, by omega, by omega, by omega⟩, xa_x78, xb_x78, xd_x78, xe_x78, (FG.of e_79 rfl (by omega : say_79 = sm)), by omega⟩ (by omega) i92_4 (by omega)) rfl (Nat.le_of_ble_eq_true rfl) ⟨Nat.le_of_ble_eq_true rfl, Nat.le_of_ble_eq_true rfl, Nat.le_of_ble_eq_true rfl, Nat.le_of_ble_eq_true rfl⟩ (fun  N_149 V_148 q_150 => ?_)
                      obtain ⟨h_146, rfl, q_145⟩ := q_150
                      have j_147 := JR.trans i92_0 (JR.weak q_145 (Sub.cons LM0 (by decide) (by decide) (by decide) (Or.inl rfl) (Sub.cons (LMs (LMs LM0)) (by decide) (by decide) (by decide) (Or.inr ⟨by decide, by decide⟩) Sub.nil)))
                      obtain ⟨sd_y151, pl_y151, cm_y151, wt_y151, dp_y151, hX_y151, qp_y151, qc_y151, qw_y151, q1_y151, qs_y151, qd_y151, qe_y151, qn_y151, qj_y151⟩ := h_146
                      obtain ⟨xg_x152, xs_x152, xw_x152, xp_x152, xl_x152, xc_x152, xt_x152, hP_x152, ⟨hB1_x152, hB2_x152, hB3_x152, hB4_x152⟩, xa_x152, xb_x152, xd_x152, xe_x152, xm_x152, hB5_x152⟩ := hX_y151
                      obtain ⟨ftoldPeople_153, ftoldDoors_153, fwasDoors_153, ffault_153, fopen_153, flines_153, fmeantSet_153, fopenedNow_153, fvainNow_153, flowNow_153, fhighNow_153, fisKept_153, tad_153, pl0_153, le0_153, nu0_153, coy_153, wag_153, say_153, e_153, hntad_153, hnpl0_153, hnle0_153, hnnu0_153, hncoy_153, hnwag_153, hnsay_153⟩ := JR.get j_147 cm_100
                      clear hntad_79 hnpl0_79 hnle0_79 hnnu0_79 hncoy_79 hnwag_79 hnsay_79
                      have sb_x152pl := FG.eq xp_x152 e_153 rfl (by omega) (by omega)
                      subst sb_x152pl
                      have sb_x152cm := FG.eq xc_x152 e_153 rfl (by omega) (by omega)
                      subst sb_x152cm
                      have sb_x152wt := FG.eq xt_x152 e_153 rfl (by omega) (by omega)
                      subst sb_x152wt
                      have sb_x152ln := FG.eq xl_x152 e_153 rfl (by omega) (by omega)
                      have hsg_x152 := hP_x152.2.1
                      have sb_x152sm := FG.eq xm_x152 e_153 rfl (by omega) (by omega)
                      have hof_154 : fopen_153 = nI (dpt (fl wa92 wag_79)) := ((congrArg (fun z => fI z 18) e_153).trans rfl).symm.trans ((JR.fI q_145 (by decide) (by decide) (nfc (by omega) (nfc (by omega) nf0))).trans ((congrArg (fun z => fI z 18) e_79).trans rfl))
                      subst hof_154
                      have hv_155 : hereF g pl0_153 le0_153 = 124 := by rw [show pl0_153 = pl0_79 by omega, show le0_153 = le0_79 by omega]; exact (h_132.symm.trans c_137)
                      have ht0 := AD.land i92_9 (by omega) (by omega) i92_10 qj_y151
                      have hfl1 : fl wa92 wag_79 = fl wa92 wag_153 := fl_land (by omega) qj_y151
                      refine aw_aload_n dX12_readsCondition_198 rfl ?_
                      refine aw_aload_n dX12_readsCondition_199 rfl ?_
                      refine aw_callVi (J' := jX12_here) (As := []) (st := [.ref (b + 100)]) dX12_readsCondition_200 tb_1220 ok_X12_here ⟨_, e_153⟩ (by omega) rfl rfl (r_here l D b N V_148 hN cl j_147.1 g xg_x152 pl0_153 le0_153 (FG.of e_153 rfl rfl) (FG.of e_153 rfl rfl) ⟨by omega, by omega⟩) rfl (Nat.le_of_ble_eq_true rfl) ⟨Nat.le_of_ble_eq_true rfl, Nat.le_of_ble_eq_true rfl, Nat.le_of_ble_eq_true rfl, Nat.le_of_ble_eq_true rfl⟩ (fun r_158 N_159 V_160 q_161 => ?_)
                      obtain ⟨h_157, rfl, rfl⟩ := q_161
                      refine aw_eqi (y := 124) (h_157.trans hv_155) ?_
                      refine aw_bipush (v := 38) dX12_readsCondition_203 (by decide) ?_
                      refine aw_icmp_ne (tgt := 213) dX12_readsCondition_205 (by decide) (fun c_162 => ?_) (fun c_162 => ?_)
                      rotate_left
                      · exact absurd c_162 (by decide)
                      refine aw_bipush (v := 12) dX12_readsCondition_213 (by decide) ?_
                      refine aw_callVv (J' := jX12_jumps) (As := [.int 12]) (st := []) dX12_readsCondition_215 tb_1287 ok_X12_jumps ⟨_, e_153⟩ (by omega) rfl rfl (r_jumps l D b N V_148 hN cl j_147.1 12 12 (by omega) ftoldPeople_153 ftoldDoors_153 fwasDoors_153 ffault_153 (nI (dpt (fl wa92 wag_79))) flines_153 fmeantSet_153 fopenedNow_153 fvainNow_153 flowNow_153 fhighNow_153 fisKept_153 tad_153 pl0_153 le0_153 nu0_153 coy_153 wag_153 say_153 ⟨by omega, by omega, by omega, by omega, by omega, by omega, by omega⟩ e_153 g sd_y151 wa92 xg_x152 xs_x152 xw_x152 (by omega) (by omega) (by omega)) rfl (Nat.le_of_ble_eq_true rfl) ⟨Nat.le_of_ble_eq_true rfl, Nat.le_of_ble_eq_true rfl, Nat.le_of_ble_eq_true rfl, Nat.le_of_ble_eq_true rfl⟩ (fun  N_172 V_166 q_173 => ?_)
                      obtain ⟨h_164, rfl, q_163⟩ := q_173
                      have j_165 := JR.trans j_147 (JR.weak q_163 (Sub.cons LM0 (by decide) (by decide) (by decide) (Or.inl rfl) (Sub.cons (LMs (LMs LM0)) (by decide) (by decide) (by decide) (Or.inr ⟨by decide, by decide⟩) (Sub.cons (LMs (LMs (LMs (LMs (LMs LM0))))) (by decide) (by decide) (by decide) (Or.inr ⟨by decide, by decide⟩) (Sub.cons (LMs (LMs (LMs LM0))) (by decide) (by decide) (by decide) (Or.inr ⟨by decide, by decide⟩) Sub.nil)))))
                      obtain ⟨hJ_167, hJ_168, hJ_169, hJ_170⟩ := h_164
                      have hJ_171 := PS.jump hP_x152 12 (by omega) (by decide) (by omega)
                      have whJ_171 : wgt (upd wa92 wag_153 (nI (1048576 * 12 + coy_153))) (wag_153 + 1) = wgt wa92 wag_153 + 0 := by rw [wgt_push, opOf_nI (by decide) (by omega)]; rfl
                      have hds : (dset dp_y151 (coy_153 + 1) 0) (coy_153 + 1) = 0 := dset_s
                      refine aw_goto (tgt := 40) dX12_readsCondition_218 (by decide) ?_
                      have hf9 : (fl (upd wa92 wag_153 (nI (1048576 * 12 + coy_153))) (wag_153 + 1)) = fl wa92 wag_79 := (fl_upj (by decide) (by omega)).trans hfl1.symm
                      have hfd9 : dpt (fl (upd wa92 wag_153 (nI (1048576 * 12 + coy_153))) (wag_153 + 1)) = dpt (fl wa92 wag_79) := congrArg dpt hf9
                      refine aw_le ?_ (mih_40_26 _ (by omega) (pl0_153 + 1) (coy_153 + 1) (wag_153 + 1) (upd sd_y151 coy_153 (nI (1048576 * 12 + 0))) (upd wa92 wag_153 (nI (1048576 * 12 + coy_153))) (dset dp_y151 (coy_153 + 1) 0) V_166 rfl (j_165) (⟨((hJ_170 _ (by decide) (by decide) (by decide)).trans xg_x152), hJ_169, hJ_168, (FG.of hJ_167 rfl rfl), (FG.of hJ_167 rfl (by omega : le0_153 = ln)), (FG.of hJ_167 rfl rfl), (FG.of hJ_167 rfl rfl), hJ_171, ⟨by omega, by omega, by omega, by omega⟩, ((hJ_170 _ (by decide) (by decide) (by decide)).trans xa_x152), ((hJ_170 _ (by decide) (by decide) (by decide)).trans xb_x152), ((hJ_170 _ (by decide) (by decide) (by decide)).trans xd_x152), ((hJ_170 _ (by decide) (by decide) (by decide)).trans xe_x152), (FG.of hJ_167 rfl (by omega : say_153 = sm)), by omega⟩) (by omega) (by omega) ((by rw [pk_un (by omega)]; exact i92_4)) (topj (by decide) (by decide) (by omega)) (fun k hk => ((pk_un (by omega)).trans (qs_y151 k hk)).trans (i92_5 k hk)) (by omega) ((((congrArg (fun z => fI z 18) hJ_167).trans rfl)).trans (congrArg nI (by omega))) (by omega) ((i92_9.sub (by omega) (fun _ _ => rfl)).jump (by omega) (by rw [opOf_nI (by decide) (by omega)]; decide) ht0) ((by rw [hf9, hs9]; exact fun o q => i92_11 o (by rw [hs9]; exact A_and (Or.inr (hd_is sb_x78ln rfl h_132 c_137)) (by rw [← qp_y151]; exact q)))))
                      exact ⟨rfl, trivial⟩
                    · skip
                      refine aw_aload_n dX12_readsCondition_170 rfl ?_
                      refine aw_iconst (v := 1) dX12_readsCondition_171 (by decide) ?_
                      refine aw_aload_n dX12_readsCondition_172 rfl ?_
                      refine aw_get dX12_readsCondition_173 fl_X12_159 e_79 (by omega) rfl ?_
                      refine aw_callVi (J' := jX12_wrongAt) (As := [.int 1, .int (nI pl0_79)]) (st := []) dX12_readsCondition_176 tb_1224 ok_X12_wrongAt ⟨_, e_79⟩ (by omega) rfl rfl (r_wrongAt3 l D b N V92 hN cl i92_0.1 1 (nI pl0_79) pl0_79 le0_79 (FG.of e_79 rfl rfl) (FG.of e_79 rfl rfl) ⟨by omega, by omega⟩) rfl (Nat.le_of_ble_eq_true rfl) ⟨Nat.le_of_ble_eq_true rfl, Nat.le_of_ble_eq_true rfl, Nat.le_of_ble_eq_true rfl, Nat.le_of_ble_eq_true rfl⟩ (fun r_188 N_189 V_178 q_190 => ?_)
                      obtain ⟨⟨z_176, h_175⟩, rfl, q_174⟩ := q_190
                      have j_177 := JR.trans i92_0 (JR.weak q_174 (Sub.cons (LMs (LMs (LMs (LMs LM0)))) (by decide) (by decide) (by decide) (Or.inr ⟨by decide, by decide⟩) Sub.nil))
                      obtain ⟨a_179, ha_180, hA_181, hF_182, hL_183, hz_184, hX_185⟩ := h_175
                      obtain ⟨ftoldPeople_k186, ftoldDoors_k186, fwasDoors_k186, ffault_k186, fopen_k186, flines_k186, fmeantSet_k186, fopenedNow_k186, fvainNow_k186, flowNow_k186, fhighNow_k186, fisKept_k186, tad_k186, pl0_k186, le0_k186, nu0_k186, coy_k186, wag_k186, say_k186, e_k186, hntad_k186, hnpl0_k186, hnle0_k186, hnnu0_k186, hncoy_k186, hnwag_k186, hnsay_k186⟩ := JR.get j_177 cm_100
                      have hqp_k186 := FG.eq hF_182 e_k186 rfl (by omega) (by omega)
                      have hql_k186 := FG.eq hL_183 e_k186 rfl (by omega) (by omega)
                      obtain ⟨rfl, hw_187⟩ := hX_185
                      refine aw_zreti dX12_readsCondition_179 rfl (by first | exact Or.inl rfl | exact Or.inr rfl | assumption) (Nat.le_of_ble_eq_true rfl) (Nat.le_of_ble_eq_true rfl) ?_
                      exact ⟨⟨(by first | exact Or.inl rfl | exact Or.inr rfl | assumption), Or.inl ⟨rfl, ⟨_, hw_187, i92_11 _ (by rw [hs9]; exact A_no (fun z => z.elim (hd_isnt sb_x78ln rfl h_89 c_94) (hd_isnt sb_x78ln rfl h_132 c_137)) (hd_isnt sb_x78ln rfl h_82 c_87))⟩⟩⟩, rfl, j_177⟩
                · skip
                  have hlc_87 := here_lt h_82 c_87 (by decide)
                  obtain ⟨s9, hs9⟩ := fl_top i92_9 (by omega) i92_10
                  refine aw_aload_n dX12_readsCondition_101 rfl ?_
                  refine aw_iconst (v := 1) dX12_readsCondition_102 (by decide) ?_
                  refine aw_callVv (J' := jX12_lands) (As := [.int 1]) (st := []) dX12_readsCondition_103 tb_1283 ok_X12_lands ⟨_, e_79⟩ (by omega) rfl rfl (r_lands3 l D b N V92 hN cl i92_0.1 1 g sd92 wa92 pl0_79 ln coy_79 wag_79 sg dp92 sl sf sh st sm sk ⟨xg_x78, xs_x78, xw_x78, (FG.of e_79 rfl rfl), (FG.of e_79 rfl (by omega : le0_79 = ln)), (FG.of e_79 rfl rfl), (FG.of e_79 rfl rfl), hP_x78, ⟨by omega, by omega, by omega, by omega⟩, xa_x78, xb_x78, xd_x78, xe_x78, (FG.of e_79 rfl (by omega : say_79 = sm)), by omega⟩ (by omega) i92_4 (by omega)) rfl (Nat.le_of_ble_eq_true rfl) ⟨Nat.le_of_ble_eq_true rfl, Nat.le_of_ble_eq_true rfl, Nat.le_of_ble_eq_true rfl, Nat.le_of_ble_eq_true rfl⟩ (fun  N_195 V_194 q_196 => ?_)
                  obtain ⟨h_192, rfl, q_191⟩ := q_196
                  have j_193 := JR.trans i92_0 (JR.weak q_191 (Sub.cons LM0 (by decide) (by decide) (by decide) (Or.inl rfl) (Sub.cons (LMs (LMs LM0)) (by decide) (by decide) (by decide) (Or.inr ⟨by decide, by decide⟩) Sub.nil)))
                  obtain ⟨sd_y197, pl_y197, cm_y197, wt_y197, dp_y197, hX_y197, qp_y197, qc_y197, qw_y197, q1_y197, qs_y197, qd_y197, qe_y197, qn_y197, qj_y197⟩ := h_192
                  obtain ⟨xg_x198, xs_x198, xw_x198, xp_x198, xl_x198, xc_x198, xt_x198, hP_x198, ⟨hB1_x198, hB2_x198, hB3_x198, hB4_x198⟩, xa_x198, xb_x198, xd_x198, xe_x198, xm_x198, hB5_x198⟩ := hX_y197
                  obtain ⟨ftoldPeople_199, ftoldDoors_199, fwasDoors_199, ffault_199, fopen_199, flines_199, fmeantSet_199, fopenedNow_199, fvainNow_199, flowNow_199, fhighNow_199, fisKept_199, tad_199, pl0_199, le0_199, nu0_199, coy_199, wag_199, say_199, e_199, hntad_199, hnpl0_199, hnle0_199, hnnu0_199, hncoy_199, hnwag_199, hnsay_199⟩ := JR.get j_193 cm_100
                  clear hntad_79 hnpl0_79 hnle0_79 hnnu0_79 hncoy_79 hnwag_79 hnsay_79
                  have sb_x198pl := FG.eq xp_x198 e_199 rfl (by omega) (by omega)
                  subst sb_x198pl
                  have sb_x198cm := FG.eq xc_x198 e_199 rfl (by omega) (by omega)
                  subst sb_x198cm
                  have sb_x198wt := FG.eq xt_x198 e_199 rfl (by omega) (by omega)
                  subst sb_x198wt
                  have sb_x198ln := FG.eq xl_x198 e_199 rfl (by omega) (by omega)
                  have hsg_x198 := hP_x198.2.1
                  have sb_x198sm := FG.eq xm_x198 e_199 rfl (by omega) (by omega)
                  have hof_200 : fopen_199 = nI (dpt (fl wa92 wag_79)) := ((congrArg (fun z => fI z 18) e_199).trans rfl).symm.trans ((JR.fI q_191 (by decide) (by decide) (nfc (by omega) (nfc (by omega) nf0))).trans ((congrArg (fun z => fI z 18) e_79).trans rfl))
                  subst hof_200
                  have hqn := qn_y197.resolve_left (by decide)
                  have hmn := wgt_mono (wa := wa92) (m := wag_199 - 1) (n := wag_199) (by omega)
                  have hPo := PS.pop hP_x198 (by omega) (by omega)
                  have ht0 := AD.land i92_9 (by omega) (by omega) i92_10 qj_y197
                  have ht1 := (i92_9 (wag_199 - 1) (by omega)).1
                  have h13t : opOf (wa92 (wag_199 - 1)) = 13 := by omega
                  have hfl1 : fl wa92 wag_79 = fl wa92 wag_199 := fl_land (by omega) qj_y197
                  have hfl2 := fl_13 (wa := wa92) (w := wag_199) (by omega) h13t
                  have hfd : dpt (fl wa92 wag_79) = dpt (fl wa92 (wag_199 - 1)) + 1 := by rw [hfl1, hfl2]; rfl
                  refine aw_aload_n dX12_readsCondition_106 rfl ?_
                  refine aw_aload_n dX12_readsCondition_107 rfl ?_
                  refine aw_get dX12_readsCondition_108 fl_X12_189 e_199 (by omega) rfl ?_
                  refine aw_iconst (v := 1) dX12_readsCondition_111 (by decide) ?_
                  refine aw_isub dX12_readsCondition_112 ?_
                  refine aw_eqi (y := (nI (wag_199 - 1))) (pk_sub (a := wag_199) (b := 1) (by omega)) ?_
                  refine aw_put dX12_readsCondition_113 fp_X12_189 e_199 (by omega) rfl rfl (Nat.le_of_ble_eq_true rfl) rfl ?_
                  refine aw_upR j_193 cm_100 ⟨_, _, _, _, _, _, _, _, _, _, _, _, tad_199, pl0_199, le0_199, nu0_199, coy_199, (wag_199 - 1), say_199, rfl, by omega, by omega, by omega, by omega, by omega, by omega, by omega⟩ (by decide) (WO (s := 20) (x := .int (nI (wag_199 - 1))) e_199 rfl (LMs (LMs LM0)) (by decide) (by decide) (by decide) (Or.inl (by decide))) (fun V_201 j_201 k_201 e_201 => ?_)
                  refine aw_aload_n dX12_readsCondition_116 rfl ?_
                  refine aw_aload_n dX12_readsCondition_117 rfl ?_
                  refine aw_get dX12_readsCondition_118 fl_X12_186 e_201 (by omega) rfl ?_
                  refine aw_iconst (v := 1) dX12_readsCondition_121 (by decide) ?_
                  refine aw_isub dX12_readsCondition_122 ?_
                  refine aw_eqi (y := (nI ((dpt (fl wa92 wag_79)) - 1))) (pk_sub (a := (dpt (fl wa92 wag_79))) (b := 1) (by omega)) ?_
                  refine aw_put dX12_readsCondition_123 fp_X12_186 e_201 (by omega) rfl rfl (Nat.le_of_ble_eq_true rfl) rfl ?_
                  refine aw_upR j_201 cm_100 ⟨_, _, _, _, _, _, _, _, _, _, _, _, tad_199, pl0_199, le0_199, nu0_199, coy_199, (wag_199 - 1), say_199, rfl, by omega, by omega, by omega, by omega, by omega, by omega, by omega⟩ (by decide) (WO (s := 18) (x := .int (nI ((dpt (fl wa92 wag_79)) - 1))) e_201 rfl (LMs LM0) (by decide) (by decide) (by decide) (Or.inl (by decide))) (fun V_202 j_202 k_202 e_202 => ?_)
                  refine aw_aload_n dX12_readsCondition_126 rfl ?_
                  refine aw_aload_n dX12_readsCondition_127 rfl ?_
                  refine aw_get dX12_readsCondition_128 fl_X12_159 e_202 (by omega) rfl ?_
                  refine aw_iconst (v := 1) dX12_readsCondition_131 (by decide) ?_
                  refine aw_iadd dX12_readsCondition_132 ?_
                  refine aw_eqi (y := nI (pl0_199 + 1)) (nI_add _ _) ?_
                  refine aw_put dX12_readsCondition_133 fp_X12_159 e_202 (by omega) rfl rfl (Nat.le_of_ble_eq_true rfl) rfl ?_
                  refine aw_upR j_202 cm_100 ⟨_, _, _, _, _, _, _, _, _, _, _, _, tad_199, (pl0_199 + 1), le0_199, nu0_199, coy_199, (wag_199 - 1), say_199, rfl, by omega, by omega, by omega, by omega, by omega, by omega, by omega⟩ (by decide) (WO (s := 14) (x := .int (nI (pl0_199 + 1))) e_202 rfl (LMs (LMs (LMs LM0))) (by decide) (by decide) (by decide) (Or.inl (by decide))) (fun V_203 j_203 k_203 e_203 => ?_)
                  refine aw_aload_n dX12_readsCondition_136 rfl ?_
                  refine aw_get dX12_readsCondition_137 fl_X12_189 e_203 (by omega) rfl ?_
                  refine aw_if_ne (tgt := 145) dX12_readsCondition_140 (by decide) (fun c_204 => ?_) (fun c_204 => ?_)
                  · skip
                    have nc_204 : ¬ ((wag_199 - 1) = 0) := fun z => c_204 ((nI_eq (a := (wag_199 - 1)) (b := 0) (by omega) (by omega)).mpr z)
                    have hfd9 : ((dpt (fl wa92 wag_79)) - 1) = dpt (fl wa92 (wag_199 - 1)) := by omega
                    obtain ⟨k8, s8, hs8⟩ := fl_ne i92_4 (w := (wag_199 - 1)) (by omega)
                    refine aw_aload_n dX12_readsCondition_145 rfl ?_
                    refine aw_callVv (J' := jX12_endsPiece) (As := []) (st := []) dX12_readsCondition_146 tb_1279 ok_X12_endsPiece ⟨_, e_203⟩ (by omega) rfl rfl (r_endsPiece3 l D b N V_203 hN cl j_203.1 g sd_y197 wa92 (pl0_199 + 1) ln coy_199 (wag_199 - 1) sg dp_y197 sl sf sh st sm sk ⟨((k_203 _ (by decide)).trans ((k_202 _ (by decide)).trans ((k_201 _ (by decide)).trans xg_x198))), ((k_203 _ (by decide)).trans ((k_202 _ (by decide)).trans ((k_201 _ (by decide)).trans xs_x198))), ((k_203 _ (by decide)).trans ((k_202 _ (by decide)).trans ((k_201 _ (by decide)).trans xw_x198))), (FG.of e_203 rfl rfl), (FG.of e_203 rfl (by omega : le0_199 = ln)), (FG.of e_203 rfl rfl), (FG.of e_203 rfl rfl), hPo, ⟨by omega, by omega, by omega, by omega⟩, ((k_203 _ (by decide)).trans ((k_202 _ (by decide)).trans ((k_201 _ (by decide)).trans xa_x198))), ((k_203 _ (by decide)).trans ((k_202 _ (by decide)).trans ((k_201 _ (by decide)).trans xb_x198))), ((k_203 _ (by decide)).trans ((k_202 _ (by decide)).trans ((k_201 _ (by decide)).trans xd_x198))), ((k_203 _ (by decide)).trans ((k_202 _ (by decide)).trans ((k_201 _ (by decide)).trans xe_x198))), (FG.of e_203 rfl (by omega : say_199 = sm)), by omega⟩  (((congrArg (fun z => fI z 18) e_203).trans rfl).trans (congrArg nI hfd9)) (by have h9 : ((dpt (fl wa92 wag_79)) - 1) = (dpt (fl wa92 (wag_199 - 1))) := hfd9; omega) (by omega) i92_4 (by omega)) rfl (Nat.le_of_ble_eq_true rfl) ⟨Nat.le_of_ble_eq_true rfl, Nat.le_of_ble_eq_true rfl, Nat.le_of_ble_eq_true rfl, Nat.le_of_ble_eq_true rfl⟩ (fun  N_209 V_208 q_210 => ?_)
                    obtain ⟨h_206, rfl, q_205⟩ := q_210
                    have j_207 := JR.trans j_203 (JR.weak q_205 (Sub.cons LM0 (by decide) (by decide) (by decide) (Or.inl rfl) (Sub.cons (LMs (LMs (LMs (LMs (LMs LM0))))) (by decide) (by decide) (by decide) (Or.inr ⟨by decide, by decide⟩) (Sub.cons (LMs (LMs LM0)) (by decide) (by decide) (by decide) (Or.inr ⟨by decide, by decide⟩) (Sub.cons (LMs LM0) (by decide) (by decide) (by decide) (Or.inr ⟨by decide, by decide⟩) Sub.nil)))))
                    obtain ⟨sd_y211, pl_y211, cm_y211, wt_y211, dp_y211, hX_y211, qp_y211, qw_y211, q1_y211, qs_y211, qd_y211, qe_y211, oo_y211, o6_y211, er_y211⟩ := h_206
                    obtain ⟨xg_x212, xs_x212, xw_x212, xp_x212, xl_x212, xc_x212, xt_x212, hP_x212, ⟨hB1_x212, hB2_x212, hB3_x212, hB4_x212⟩, xa_x212, xb_x212, xd_x212, xe_x212, xm_x212, hB5_x212⟩ := hX_y211
                    obtain ⟨ftoldPeople_213, ftoldDoors_213, fwasDoors_213, ffault_213, fopen_213, flines_213, fmeantSet_213, fopenedNow_213, fvainNow_213, flowNow_213, fhighNow_213, fisKept_213, tad_213, pl0_213, le0_213, nu0_213, coy_213, wag_213, say_213, e_213, hntad_213, hnpl0_213, hnle0_213, hnnu0_213, hncoy_213, hnwag_213, hnsay_213⟩ := JR.get j_207 cm_100
                    clear hntad_199 hnpl0_199 hnle0_199 hnnu0_199 hncoy_199 hnwag_199 hnsay_199
                    have sb_x212pl := FG.eq xp_x212 e_213 rfl (by omega) (by omega)
                    subst sb_x212pl
                    have sb_x212cm := FG.eq xc_x212 e_213 rfl (by omega) (by omega)
                    subst sb_x212cm
                    have sb_x212wt := FG.eq xt_x212 e_213 rfl (by omega) (by omega)
                    subst sb_x212wt
                    have sb_x212ln := FG.eq xl_x212 e_213 rfl (by omega) (by omega)
                    have hsg_x212 := hP_x212.2.1
                    have sb_x212sm := FG.eq xm_x212 e_213 rfl (by omega) (by omega)
                    have hof_214 : fopen_213 = nI (dpt (fl wa92 wag_213)) := ((congrArg (fun z => fI z 18) e_213).trans rfl).symm.trans oo_y211
                    subst hof_214
                    refine aw_goto (tgt := 92) dX12_readsCondition_149 (by decide) ?_
                    refine aw_le ?_ (mih_92_77 _ (by omega) pl0_213 coy_213 wag_213 sd_y211 wa92 dp_y211 V_208 rfl (j_207) (⟨xg_x212, xs_x212, xw_x212, (FG.of e_213 rfl rfl), (FG.of e_213 rfl (by omega : le0_213 = ln)), (FG.of e_213 rfl rfl), (FG.of e_213 rfl rfl), hP_x212, ⟨by omega, by omega, by omega, by omega⟩, xa_x212, xb_x212, xd_x212, xe_x212, (FG.of e_213 rfl (by omega : say_213 = sm)), by omega⟩) (by omega) (by omega) (i92_4) (fun k hk => ((qs_y211 k hk).trans (qs_y197 k hk)).trans (i92_5 k hk)) (by omega) ((((congrArg (fun z => fI z 18) e_213).trans rfl)).trans (congrArg nI rfl)) (o6_y211) (i92_9.sub (by omega) (fun _ _ => rfl)) (qe_y211) ((fun o q => i92_11 o (by rw [hfl1, hfl2, hs8]; refine A_shut (c38 (hd_is sb_x78ln rfl h_82 c_87)) (hd_is sb_x78ln rfl h_82 c_87) ?_; rw [← hs8]; have t9 := er_y211 o (by rw [qp_y211] at q; exact q); rw [qp_y197] at t9; exact t9))))
                    exact ⟨rfl, trivial⟩
                  · skip
                    have nc_204 : (wag_199 - 1) = 0 := (nI_eq (a := (wag_199 - 1)) (b := 0) (by omega) (by omega)).mp c_204
                    refine aw_iconst (v := 1) dX12_readsCondition_143 (by decide) ?_
                    refine aw_zreti dX12_readsCondition_144 rfl (by first | exact Or.inl rfl | exact Or.inr rfl | assumption) (Nat.le_of_ble_eq_true rfl) (Nat.le_of_ble_eq_true rfl) ?_
                    exact ⟨⟨(by first | exact Or.inl rfl | exact Or.inr rfl | assumption), Or.inr ⟨rfl, ⟨sd_y197, wa92, (pl0_199 + 1), coy_199, (wag_199 - 1), dp_y197, ⟨((k_203 _ (by decide)).trans ((k_202 _ (by decide)).trans ((k_201 _ (by decide)).trans xg_x198))), ((k_203 _ (by decide)).trans ((k_202 _ (by decide)).trans ((k_201 _ (by decide)).trans xs_x198))), ((k_203 _ (by decide)).trans ((k_202 _ (by decide)).trans ((k_201 _ (by decide)).trans xw_x198))), (FG.of e_203 rfl rfl), (FG.of e_203 rfl (by omega : le0_199 = ln)), (FG.of e_203 rfl rfl), (FG.of e_203 rfl rfl), hPo, ⟨by omega, by omega, by omega, by omega⟩, ((k_203 _ (by decide)).trans ((k_202 _ (by decide)).trans ((k_201 _ (by decide)).trans xa_x198))), ((k_203 _ (by decide)).trans ((k_202 _ (by decide)).trans ((k_201 _ (by decide)).trans xb_x198))), ((k_203 _ (by decide)).trans ((k_202 _ (by decide)).trans ((k_201 _ (by decide)).trans xd_x198))), ((k_203 _ (by decide)).trans ((k_202 _ (by decide)).trans ((k_201 _ (by decide)).trans xe_x198))), (FG.of e_203 rfl (by omega : say_199 = sm)), by omega⟩, by omega, (fun k hk => (qs_y197 k hk).trans (i92_5 k hk)), by omega, by omega, i92_11 _ (by rw [hfl1, hfl2, show wag_199 - 1 = 0 by omega]; have t9 := A_end (c38 (hd_is sb_x78ln rfl h_82 c_87)) (hd_is sb_x78ln rfl h_82 c_87); rw [← qp_y197] at t9 ⊢; exact t9)⟩⟩⟩, rfl, j_203⟩
              refine aw_le ?_ (ml_92_77 _ pl0_75 coy_75 wag_75 sd_y73 wa_y73 dp_y73 V_68 rfl (j_67) (⟨xg_x74, xs_x74, xw_x74, (FG.of e_75 rfl rfl), (FG.of e_75 rfl (by omega : le0_75 = ln)), (FG.of e_75 rfl rfl), (FG.of e_75 rfl rfl), hP_x74, ⟨by omega, by omega, by omega, by omega⟩, xa_x74, xb_x74, xd_x74, xe_x74, (FG.of e_75 rfl (by omega : say_75 = sm)), by omega⟩) (by omega) (by omega) ((by rw [ca_y73 0 (by omega)]; exact i40_4)) (fun k hk => (cs_y73 k hk).trans (i40_6 k hk)) (by omega) ((((congrArg (fun z => fI z 18) e_75).trans rfl)).trans (congrArg nI rfl)) (o6_y73) (i40_10.sub (by omega) ca_y73) (ct_y73) ((fun o q => i40_11 o (cr_y73 o q))))
              exact ⟨rfl, trivial⟩
            · skip
              refine aw_iconst (v := 0) dX12_readsCondition_90 (by decide) ?_
              refine aw_zreti dX12_readsCondition_91 rfl (by first | exact Or.inl rfl | exact Or.inr rfl | assumption) (Nat.le_of_ble_eq_true rfl) (Nat.le_of_ble_eq_true rfl) ?_
              exact ⟨⟨(by first | exact Or.inl rfl | exact Or.inr rfl | assumption), Or.inl ⟨rfl, (Exists.imp (fun f z => ⟨z.1, i40_11 _ z.2⟩) ((h_65.resolve_right (fun z => absurd (z.1.symm.trans c_72) (by decide))).2))⟩⟩, rfl, j_67⟩
          · skip
            have hlc_63 := here_lt h_58 c_63 (by decide)
            refine aw_aload_n dX12_readsCondition_58 rfl ?_
            refine aw_aload_n dX12_readsCondition_59 rfl ?_
            refine aw_callVi (J' := jX12_here) (As := []) (st := [.ref (b + 100)]) dX12_readsCondition_60 tb_1220 ok_X12_here ⟨_, e_28⟩ (by omega) rfl rfl (r_here l D b N V40 hN cl i40_0.1 g xg_x27 pl0_28 le0_28 (FG.of e_28 rfl rfl) (FG.of e_28 rfl rfl) ⟨by omega, by omega⟩) rfl (Nat.le_of_ble_eq_true rfl) ⟨Nat.le_of_ble_eq_true rfl, Nat.le_of_ble_eq_true rfl, Nat.le_of_ble_eq_true rfl, Nat.le_of_ble_eq_true rfl⟩ (fun r_217 N_218 V_219 q_220 => ?_)
            obtain ⟨h_216, rfl, rfl⟩ := q_220
            refine aw_eqi (y := 40) (h_216.trans (h_58.symm.trans c_63)) ?_
            refine aw_bipush (v := 33) dX12_readsCondition_63 (by decide) ?_
            refine aw_icmp_ne (tgt := 73) dX12_readsCondition_65 (by decide) (fun c_221 => ?_) (fun c_221 => ?_)
            rotate_left
            · exact absurd c_221 (by decide)
            refine aw_bipush (v := 13) dX12_readsCondition_73 (by decide) ?_
            refine aw_callVi (J' := jX12_opens) (As := [.int 13]) (st := []) dX12_readsCondition_75 tb_1236 ok_X12_opens ⟨_, e_28⟩ (by omega) rfl rfl (r_opens3 l D b N V40 hN cl i40_0.1 13 13 (by omega) ftoldPeople_28 ftoldDoors_28 fwasDoors_28 ffault_28 (nI (dpt (fl wa40 wag_28))) flines_28 fmeantSet_28 fopenedNow_28 fvainNow_28 flowNow_28 fhighNow_28 fisKept_28 tad_28 pl0_28 le0_28 nu0_28 coy_28 wag_28 say_28 ⟨by omega, by omega, by omega, by omega, by omega, by omega, by omega⟩ e_28 g sd40 wa40 xg_x27 xs_x27 xw_x27 (by omega) (by omega)) rfl (Nat.le_of_ble_eq_true rfl) ⟨Nat.le_of_ble_eq_true rfl, Nat.le_of_ble_eq_true rfl, Nat.le_of_ble_eq_true rfl, Nat.le_of_ble_eq_true rfl⟩ (fun r_227 N_228 V_226 q_229 => ?_)
            obtain ⟨⟨z_224, h_223⟩, rfl, q_222⟩ := q_229
            have j_225 := JR.trans i40_0 (JR.weak q_222 (Sub.cons LM0 (by decide) (by decide) (by decide) (Or.inl rfl) (Sub.cons (LMs LM0) (by decide) (by decide) (by decide) (Or.inr ⟨by decide, by decide⟩) (Sub.cons (LMs (LMs LM0)) (by decide) (by decide) (by decide) (Or.inr ⟨by decide, by decide⟩) (Sub.cons (LMs (LMs (LMs LM0))) (by decide) (by decide) (by decide) (Or.inr ⟨by decide, by decide⟩) (Sub.cons (LMs (LMs (LMs (LMs LM0)))) (by decide) (by decide) (by decide) (Or.inr ⟨by decide, by decide⟩) Sub.nil))))))
            refine aw_if_ne (tgt := 40) dX12_readsCondition_78 (by decide) (fun c_230 => ?_) (fun c_230 => ?_)
            · skip
              obtain ⟨hO_231, hO_232, hO_233⟩ := ((h_223.imp And.left (fun z => z.2.2)).resolve_left c_230)
              have hO_234 := PS.push hP_x27 13 (by decide) (by decide) (by decide)
              have whO_234 : wgt (upd wa40 wag_28 (nI (1048576 * 13))) (wag_28 + 1) = wgt wa40 wag_28 + 0 := by rw [wgt_push, show nI (1048576 * 13) = nI (1048576 * 13 + 0) from rfl, opOf_nI (by decide) (by decide)]; rfl
              rw [nI_1] at hO_231
              have h6 : ¬ (dpt (fl wa40 wag_28)) = 6 := fun e => (h_223.resolve_left (fun z => c_230 z.1)).2.1 (congrArg nI e)
              have hf9 : (fl (upd wa40 wag_28 (nI (1048576 * 13))) (wag_28 + 1)) = 5 :: fl wa40 wag_28 := fl_up13
              have hfd9 : dpt (fl (upd wa40 wag_28 (nI (1048576 * 13))) (wag_28 + 1)) = dpt (fl wa40 wag_28) + 1 := by rw [hf9]; rfl
              refine aw_le ?_ (mih_40_26 _ (by omega) (pl0_28 + 1) coy_28 (wag_28 + 1) sd40 (upd wa40 wag_28 (nI (1048576 * 13))) dp40 V_226 rfl (j_225) (⟨((hO_233 _ (by decide) (by decide)).trans xg_x27), ((hO_233 _ (by decide) (by decide)).trans xs_x27), hO_232, (FG.of hO_231 rfl rfl), (FG.of hO_231 rfl (by omega : le0_28 = ln)), (FG.of hO_231 rfl rfl), (FG.of hO_231 rfl rfl), hO_234, ⟨by omega, by omega, by omega, by omega⟩, ((hO_233 _ (by decide) (by decide)).trans xa_x27), ((hO_233 _ (by decide) (by decide)).trans xb_x27), ((hO_233 _ (by decide) (by decide)).trans xd_x27), ((hO_233 _ (by decide) (by decide)).trans xe_x27), (FG.of hO_231 rfl (by omega : say_28 = sm)), by omega⟩) (by omega) (by omega) ((by rw [pk_un (by omega)]; exact i40_4)) (topu (by decide) (by decide)) (i40_6) (by omega) ((((congrArg (fun z => fI z 18) hO_231).trans rfl)).trans (congrArg nI (by omega))) (by omega) (i40_10.push (Or.inr (op_lit (by decide)))) ((by rw [hf9]; exact fun o q => i40_11 o (T_par (hd_isnt sb_x27ln rfl h_31 c_36) (hd_is sb_x27ln rfl h_58 c_63) (by omega) q))))
              exact ⟨rfl, trivial⟩
            · skip
              refine aw_iconst (v := 0) dX12_readsCondition_81 (by decide) ?_
              refine aw_zreti dX12_readsCondition_82 rfl (by first | exact Or.inl rfl | exact Or.inr rfl | assumption) (Nat.le_of_ble_eq_true rfl) (Nat.le_of_ble_eq_true rfl) ?_
              exact ⟨⟨(by first | exact Or.inl rfl | exact Or.inr rfl | assumption), Or.inl ⟨rfl, ⟨_, ((h_223.resolve_right (fun z => absurd (z.1.symm.trans c_230) (by decide))).2.2), i40_11 _ (T_pard (hd_isnt sb_x27ln rfl h_31 c_36) (hd_is sb_x27ln rfl h_58 c_63) (by have h9 := (nI_eq (b := 6) (by omega) (by omega)).mp ((h_223.resolve_right (fun z => absurd (z.1.symm.trans c_230) (by decide))).2.1); omega))⟩⟩⟩, rfl, j_225⟩
      have hf9 : (fl (upd wa 0 (nI (1048576 * 13))) (0 + 1)) = [5] := fl_up13 (w := 0)
      have hfd9 : dpt (fl (upd wa 0 (nI (1048576 * 13))) (0 + 1)) = 1 := by rw [hf9]; rfl
      refine aw_le ?_ (ml_40_26 _ (pl0_2 + 1) coy_2 (0 + 1) sd (upd wa 0 (nI (1048576 * 13))) dep V_17 rfl (j_16) (⟨((hO_24 _ (by decide) (by decide)).trans ((k_12 _ (by decide)).trans ((k_11 _ (by decide)).trans xg_x1))), ((hO_24 _ (by decide) (by decide)).trans ((k_12 _ (by decide)).trans ((k_11 _ (by decide)).trans xs_x1))), hO_23, (FG.of hO_22 rfl rfl), (FG.of hO_22 rfl (by omega : le0_2 = ln)), (FG.of hO_22 rfl rfl), (FG.of hO_22 rfl rfl), hO_25, ⟨by omega, by omega, by omega, by omega⟩, ((hO_24 _ (by decide) (by decide)).trans ((k_12 _ (by decide)).trans ((k_11 _ (by decide)).trans xa_x1))), ((hO_24 _ (by decide) (by decide)).trans ((k_12 _ (by decide)).trans ((k_11 _ (by decide)).trans xb_x1))), ((hO_24 _ (by decide) (by decide)).trans ((k_12 _ (by decide)).trans ((k_11 _ (by decide)).trans xd_x1))), ((hO_24 _ (by decide) (by decide)).trans ((k_12 _ (by decide)).trans ((k_11 _ (by decide)).trans xe_x1))), (FG.of hO_22 rfl (by omega : say_2 = sm)), by omega⟩) (by omega) (by omega) ((by rw [pk_us]; exact opOf_nI (o := 13) (a := 0) (by decide) (by decide))) (topu (w := 0) (by decide) (by decide)) (fun k hk => rfl) (by omega) ((((congrArg (fun z => fI z 18) hO_22).trans rfl)).trans (congrArg nI (by omega))) (by omega) (AD.zero.push (Or.inr (op_lit (by decide)))) ((by rw [hf9]; exact fun o q => Q_par (hd_is sb_x1ln rfl h_5 c_10) q)))
      exact ⟨rfl, trivial⟩
    · skip
      refine aw_iconst (v := 0) dX12_readsCondition_38 (by decide) ?_
      refine aw_zreti dX12_readsCondition_39 rfl (by first | exact Or.inl rfl | exact Or.inr rfl | assumption) (Nat.le_of_ble_eq_true rfl) (Nat.le_of_ble_eq_true rfl) ?_
      exact ⟨⟨(by first | exact Or.inl rfl | exact Or.inr rfl | assumption), Or.inl ⟨rfl, ⟨_, ((h_14.resolve_right (fun z => absurd (z.1.symm.trans c_21) (by decide))).2.2), (absurd ((h_14.resolve_right (fun z => absurd (z.1.symm.trans c_21) (by decide))).2.1) (by decide))⟩⟩⟩, rfl, j_16⟩
  · skip
    refine aw_aload_n dX12_readsCondition_9 rfl ?_
    refine aw_iconst (v := 1) dX12_readsCondition_10 (by decide) ?_
    refine aw_aload_n dX12_readsCondition_11 rfl ?_
    refine aw_get dX12_readsCondition_12 fl_X12_159 e_2 (by omega) rfl ?_
    refine aw_callVi (J' := jX12_wrongAt) (As := [.int 1, .int (nI pl0_2)]) (st := []) dX12_readsCondition_15 tb_1224 ok_X12_wrongAt ⟨_, e_2⟩ (by omega) rfl rfl (r_wrongAt3 l D b N V hN cl hJ0.1 1 (nI pl0_2) pl0_2 le0_2 (FG.of e_2 rfl rfl) (FG.of e_2 rfl rfl) ⟨by omega, by omega⟩) rfl (Nat.le_of_ble_eq_true rfl) ⟨Nat.le_of_ble_eq_true rfl, Nat.le_of_ble_eq_true rfl, Nat.le_of_ble_eq_true rfl, Nat.le_of_ble_eq_true rfl⟩ (fun r_249 N_250 V_239 q_251 => ?_)
    obtain ⟨⟨z_237, h_236⟩, rfl, q_235⟩ := q_251
    have j_238 := JR.trans hJ0 (JR.weak q_235 (Sub.cons (LMs (LMs (LMs (LMs LM0)))) (by decide) (by decide) (by decide) (Or.inr ⟨by decide, by decide⟩) Sub.nil))
    obtain ⟨a_240, ha_241, hA_242, hF_243, hL_244, hz_245, hX_246⟩ := h_236
    obtain ⟨ftoldPeople_k247, ftoldDoors_k247, fwasDoors_k247, ffault_k247, fopen_k247, flines_k247, fmeantSet_k247, fopenedNow_k247, fvainNow_k247, flowNow_k247, fhighNow_k247, fisKept_k247, tad_k247, pl0_k247, le0_k247, nu0_k247, coy_k247, wag_k247, say_k247, e_k247, hntad_k247, hnpl0_k247, hnle0_k247, hnnu0_k247, hncoy_k247, hnwag_k247, hnsay_k247⟩ := JR.get j_238 cm_100
    have hqp_k247 := FG.eq hF_243 e_k247 rfl (by omega) (by omega)
    have hql_k247 := FG.eq hL_244 e_k247 rfl (by omega) (by omega)
    obtain ⟨rfl, hw_248⟩ := hX_246
    refine aw_zreti dX12_readsCondition_18 rfl (by first | exact Or.inl rfl | exact Or.inr rfl | assumption) (Nat.le_of_ble_eq_true rfl) (Nat.le_of_ble_eq_true rfl) ?_
    exact ⟨⟨(by first | exact Or.inl rfl | exact Or.inr rfl | assumption), Or.inl ⟨rfl, ⟨_, hw_248, Q_no (hd_isnt sb_x1ln rfl h_5 c_10)⟩⟩⟩, rfl, j_238⟩

