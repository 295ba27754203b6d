set_option maxHeartbeats 4000000 in
set_option maxRecDepth 100000 in
theorem r_readsSum (l : Launch) (D : va_G) (b : Nat) (N : Nat) (V : Wd) (hN : 133 ≤ N) (cl : Nat) (hW : CR D b cl V)   (g sd wa : Nat → Int32) (pl ln cm wt sg : Nat) (dep : Nat → Nat) (sl sf sh st : Nat → Int32) (sm sk : Nat) (hX : PX D b V g pl ln cm wt sg sd wa dep sl sf sh st sm sk) (hbt : wt = 0 ∨ 10 ≤ opOf (wa (wt - 1))) : MI l D b 4 jX12_readsSum [.ref (b + 100)] N V 0 0 (fun r N9 V9 => ((r = 0 ∨ r = 1) ∧ (r = 0 ∨ (∃ (sd9 wa9 : Nat → Int32) (pl9 cm9 wt9 : Nat) (dep9 : Nat → Nat), PX D b V9 g pl9 ln cm9 wt9 sg sd9 wa9 dep9 sl sf sh st sm sk ∧ wt9 = wt ∧ (∀ i, i < wt → wa9 i = wa i) ∧ (∀ k, k < sg → sd9 k = sd k) ∧ dep9 cm9 = dep cm + 1 ∧ pl < pl9))) ∧ N = N9 ∧ JR D b N cl [(111, 112, 0, 1000000), (100, 100, 19, 19), (100, 100, 14, 14), (100, 100, 16, 16), (100, 100, 17, 17), (100, 100, 18, 18), (100, 100, 20, 20)] V V9) := by
  have hJ0 : JR D b N cl [(111, 112, 0, 1000000), (100, 100, 19, 19), (100, 100, 14, 14), (100, 100, 16, 16), (100, 100, 17, 17), (100, 100, 18, 18), (100, 100, 20, 20)] V V := JR.rf hW
  refine mw_of (by decide) (by simp [Value.category]) (Nat.le_of_ble_eq_true rfl) ?_
  show AW l D b jX12_readsSum (fx_rm 4 0 0) none (fx_MQ D b 0 0 (fx_qi (fun r N9 V9 => ((r = 0 ∨ r = 1) ∧ (r = 0 ∨ (∃ (sd9 wa9 : Nat → Int32) (pl9 cm9 wt9 : Nat) (dep9 : Nat → Nat), PX D b V9 g pl9 ln cm9 wt9 sg sd9 wa9 dep9 sl sf sh st sm sk ∧ wt9 = wt ∧ (∀ i, i < wt → wa9 i = wa i) ∧ (∀ k, k < sg → sd9 k = sd k) ∧ dep9 cm9 = dep cm + 1 ∧ pl < pl9))) ∧ N = N9 ∧ JR D b N cl [(111, 112, 0, 1000000), (100, 100, 19, 19), (100, 100, 14, 14), (100, 100, 16, 16), (100, 100, 17, 17), (100, 100, 18, 18), (100, 100, 20, 20)] V V9))) 0 [some (.ref (b + 100)), none, none] [] N V 0 0
  obtain ⟨xg_x1, xs_x1, xw_x1, xp_x1, xl_x1, xc_x1, xt_x1, hP_x1, ⟨hB1_x1, hB2_x1, hB3_x1, hB4_x1⟩, xa_x1, xb_x1, xd_x1, xe_x1, xm_x1, hB5_x1⟩ := id hX
  obtain ⟨ftoldPeople_2, ftoldDoors_2, fwasDoors_2, ffault_2, fopen_2, flines_2, fmeantSet_2, fopenedNow_2, fvainNow_2, flowNow_2, fhighNow_2, fisKept_2, tad_2, pl0_2, le0_2, nu0_2, coy_2, wag_2, say_2, e_2, hntad_2, hnpl0_2, hnle0_2, hnnu0_2, hncoy_2, hnwag_2, hnsay_2⟩ := JR.get hJ0 cm_100
  have sb_x1pl := FG.eq xp_x1 e_2 rfl (by omega) (by omega)
  subst sb_x1pl
  have sb_x1cm := FG.eq xc_x1 e_2 rfl (by omega) (by omega)
  subst sb_x1cm
  have sb_x1wt := FG.eq xt_x1 e_2 rfl (by omega) (by omega)
  subst sb_x1wt
  have sb_x1ln := FG.eq xl_x1 e_2 rfl (by omega) (by omega)
  have hsg_x1 := hP_x1.2.1
  have sb_x1sm := FG.eq xm_x1 e_2 rfl (by omega) (by omega)
  refine aw_aload_n dX12_readsSum_0 rfl ?_
  refine aw_get dX12_readsSum_1 fl_X12_189 e_2 (by omega) rfl ?_
  refine aw_istore_n (ls' := [some (.ref (b + 100)), some (.int (nI wag_2)), none]) dX12_readsSum_4 (Nat.le_of_ble_eq_true rfl) rfl ?_
  refine aw_aload_n dX12_readsSum_5 rfl ?_
  refine aw_callVi (J' := jX12_readsFactor) (As := []) (st := []) dX12_readsSum_6 tb_1232 ok_X12_readsFactor ⟨_, e_2⟩ (by omega) rfl rfl (r_readsFactor l D b N V hN cl hJ0.1 wag_2 (dep coy_2) g sd wa pl0_2 ln coy_2 wag_2 sg dep sl sf sh st sm sk ⟨xg_x1, xs_x1, xw_x1, (FG.of e_2 rfl rfl), (FG.of e_2 rfl (by omega : le0_2 = ln)), (FG.of e_2 rfl rfl), (FG.of e_2 rfl rfl), hP_x1, ⟨by omega, by omega, by omega, by omega⟩, xa_x1, xb_x1, xd_x1, xe_x1, (FG.of e_2 rfl (by omega : say_2 = sm)), by omega⟩ (by omega) (by omega)) rfl (Nat.le_of_ble_eq_true rfl) ⟨Nat.le_of_ble_eq_true rfl, Nat.le_of_ble_eq_true rfl, Nat.le_of_ble_eq_true rfl, Nat.le_of_ble_eq_true rfl⟩ (fun r_8 N_9 V_7 q_10 => ?_)
  obtain ⟨⟨z_5, h_4⟩, rfl, q_3⟩ := q_10
  have j_6 := JR.trans hJ0 (JR.weak q_3 (Sub.cons LM0 (by decide) (by decide) (by decide) (Or.inl rfl) (Sub.cons (LMs LM0) (by decide) (by decide) (by decide) (Or.inr ⟨by decide, by decide⟩) (Sub.cons (LMs (LMs LM0)) (by decide) (by decide) (by decide) (Or.inr ⟨by decide, by decide⟩) (Sub.cons (LMs (LMs (LMs LM0))) (by decide) (by decide) (by decide) (Or.inr ⟨by decide, by decide⟩) (Sub.cons (LMs (LMs (LMs (LMs LM0)))) (by decide) (by decide) (by decide) (Or.inr ⟨by decide, by decide⟩) (Sub.cons (LMs (LMs (LMs (LMs (LMs LM0))))) (by decide) (by decide) (by decide) (Or.inr ⟨by decide, by decide⟩) (Sub.cons (LMs (LMs (LMs (LMs (LMs (LMs LM0)))))) (by decide) (by decide) (by decide) (Or.inr ⟨by decide, by decide⟩) Sub.nil))))))))
  refine aw_if_ne (tgt := 14) dX12_readsSum_9 (by decide) (fun c_11 => ?_) (fun c_11 => ?_)
  · skip
    obtain ⟨sd_y12, wa_y12, pl_y12, cm_y12, wt_y12, dp_y12, hX_y12, fw_y12, fa_y12, f14_y12, fs_y12, fd_y12, fp_y12⟩ := (h_4.resolve_left c_11)
    obtain ⟨xg_x13, xs_x13, xw_x13, xp_x13, xl_x13, xc_x13, xt_x13, hP_x13, ⟨hB1_x13, hB2_x13, hB3_x13, hB4_x13⟩, xa_x13, xb_x13, xd_x13, xe_x13, xm_x13, hB5_x13⟩ := hX_y12
    obtain ⟨ftoldPeople_14, ftoldDoors_14, fwasDoors_14, ffault_14, fopen_14, flines_14, fmeantSet_14, fopenedNow_14, fvainNow_14, flowNow_14, fhighNow_14, fisKept_14, tad_14, pl0_14, le0_14, nu0_14, coy_14, wag_14, say_14, e_14, hntad_14, hnpl0_14, hnle0_14, hnnu0_14, hncoy_14, hnwag_14, hnsay_14⟩ := JR.get j_6 cm_100
    clear hntad_2 hnpl0_2 hnle0_2 hnnu0_2 hncoy_2 hnwag_2 hnsay_2
    have sb_x13pl := FG.eq xp_x13 e_14 rfl (by omega) (by omega)
    subst sb_x13pl
    have sb_x13cm := FG.eq xc_x13 e_14 rfl (by omega) (by omega)
    subst sb_x13cm
    have sb_x13wt := FG.eq xt_x13 e_14 rfl (by omega) (by omega)
    subst sb_x13wt
    have sb_x13ln := FG.eq xl_x13 e_14 rfl (by omega) (by omega)
    have hsg_x13 := hP_x13.2.1
    have sb_x13sm := FG.eq xm_x13 e_14 rfl (by omega) (by omega)
    have ml_14_15 : ∀ (m : Nat) (p14 : Nat) (c14 : Nat) (w14 : Nat) (sd14 : Nat → Int32) (wa14 : Nat → Int32) (dp14 : Nat → Nat) (V14 : Wd), m = 240 - p14 → (JR D b N cl [(111, 112, 0, 1000000), (100, 100, 19, 19), (100, 100, 14, 14), (100, 100, 16, 16), (100, 100, 17, 17), (100, 100, 18, 18), (100, 100, 20, 20)] V V14) → (PX D b V14 g p14 ln c14 w14 sg sd14 wa14 dp14 sl sf sh st sm sk) → (pl0_2 < p14) → (wag_2 ≤ w14) → (∀ k, k < sg → sd14 k = sd k) → (∀ i, i < wag_2 → wa14 i = wa i) → (SumE wa14 wag_2 w14) → (dp14 c14 + wgt wa14 wag_2 = dep coy_2 + wgt wa14 w14 + 1) → AW l D b jX12_readsSum (fx_rm 4 0 0) none (fx_MQ D b 0 0 (fx_qi (fun r N9 V9 => ((r = 0 ∨ r = 1) ∧ (r = 0 ∨ (∃ (sd9 wa9 : Nat → Int32) (pl9 cm9 wt9 : Nat) (dep9 : Nat → Nat), PX D b V9 g pl9 ln cm9 wt9 sg sd9 wa9 dep9 sl sf sh st sm sk ∧ wt9 = wag_2 ∧ (∀ i, i < wag_2 → wa9 i = wa i) ∧ (∀ k, k < sg → sd9 k = sd k) ∧ dep9 cm9 = dep coy_2 + 1 ∧ pl0_2 < pl9))) ∧ N = N9 ∧ JR D b N cl [(111, 112, 0, 1000000), (100, 100, 19, 19), (100, 100, 14, 14), (100, 100, 16, 16), (100, 100, 17, 17), (100, 100, 18, 18), (100, 100, 20, 20)] V V9))) 14 [some (.ref (b + 100)), some (.int (nI wag_2)), none] [] N V14 0 0 := by
      intro m; refine Nat.strongRecOn m ?_
      intro m mih_14_15 p14 c14 w14 sd14 wa14 dp14 V14 hm14 i14_0 i14_1 i14_2 i14_3 i14_4 i14_5 i14_6 i14_7
      obtain ⟨xg_x16, xs_x16, xw_x16, xp_x16, xl_x16, xc_x16, xt_x16, hP_x16, ⟨hB1_x16, hB2_x16, hB3_x16, hB4_x16⟩, xa_x16, xb_x16, xd_x16, xe_x16, xm_x16, hB5_x16⟩ := i14_1
      obtain ⟨ftoldPeople_17, ftoldDoors_17, fwasDoors_17, ffault_17, fopen_17, flines_17, fmeantSet_17, fopenedNow_17, fvainNow_17, flowNow_17, fhighNow_17, fisKept_17, tad_17, pl0_17, le0_17, nu0_17, coy_17, wag_17, say_17, e_17, hntad_17, hnpl0_17, hnle0_17, hnnu0_17, hncoy_17, hnwag_17, hnsay_17⟩ := JR.get i14_0 cm_100
      clear hntad_14 hnpl0_14 hnle0_14 hnnu0_14 hncoy_14 hnwag_14 hnsay_14
      have sb_x16pl := FG.eq xp_x16 e_17 rfl (by omega) (by omega)
      subst sb_x16pl
      have sb_x16cm := FG.eq xc_x16 e_17 rfl (by omega) (by omega)
      subst sb_x16cm
      have sb_x16wt := FG.eq xt_x16 e_17 rfl (by omega) (by omega)
      subst sb_x16wt
      have sb_x16ln := FG.eq xl_x16 e_17 rfl (by omega) (by omega)
      have hsg_x16 := hP_x16.2.1
      have sb_x16sm := FG.eq xm_x16 e_17 rfl (by omega) (by omega)
      have hbt14 : wag_2 = 0 ∨ 10 ≤ opOf (wa14 (wag_2 - 1)) := by rcases Nat.eq_zero_or_pos wag_2 with q | q; exact Or.inl q; exact Or.inr (by rw [i14_5 (wag_2 - 1) (by omega)]; exact hbt.resolve_left (by omega))
      refine aw_aload_n dX12_readsSum_14 rfl ?_
      refine aw_callVi (J' := jX12_here) (As := []) (st := []) dX12_readsSum_15 tb_1220 ok_X12_here ⟨_, e_17⟩ (by omega) rfl rfl (r_here l D b N V14 hN cl i14_0.1 g xg_x16 pl0_17 le0_17 (FG.of e_17 rfl rfl) (FG.of e_17 rfl rfl) ⟨by omega, by omega⟩) rfl (Nat.le_of_ble_eq_true rfl) ⟨Nat.le_of_ble_eq_true rfl, Nat.le_of_ble_eq_true rfl, Nat.le_of_ble_eq_true rfl, Nat.le_of_ble_eq_true rfl⟩ (fun r_20 N_21 V_22 q_23 => ?_)
      obtain ⟨h_19, rfl, rfl⟩ := q_23
      refine aw_callSi (J' := jX12_sumSign) (As := [.int r_20]) (st := []) dX12_readsSum_18 tb_1256 ok_X12_sumSign rfl (r_sumSign l D b N V14 hN cl i14_0.1 r_20) rfl (Nat.le_of_ble_eq_true rfl) ⟨Nat.le_of_ble_eq_true rfl, Nat.le_of_ble_eq_true rfl, Nat.le_of_ble_eq_true rfl, Nat.le_of_ble_eq_true rfl⟩ (fun r_26 N_27 V_28 q_29 => ?_)
      obtain ⟨h_25, rfl, rfl⟩ := q_29
      refine aw_istore_n (ls' := [some (.ref (b + 100)), some (.int (nI wag_2)), some (.int r_26)]) dX12_readsSum_21 (Nat.le_of_ble_eq_true rfl) rfl ?_
      refine aw_iload_n dX12_readsSum_22 rfl ?_
      refine aw_iconst (v := (-1)) dX12_readsSum_23 (by decide) ?_
      refine aw_icmp_eq (tgt := 83) dX12_readsSum_24 (by decide) (fun c_30 => ?_) (fun c_30 => ?_)
      · skip
        refine aw_aload_n dX12_readsSum_83 rfl ?_
        refine aw_callVi (J' := jX12_here) (As := []) (st := []) dX12_readsSum_84 tb_1220 ok_X12_here ⟨_, e_17⟩ (by omega) rfl rfl (r_here l D b N V14 hN cl i14_0.1 g xg_x16 pl0_17 le0_17 (FG.of e_17 rfl rfl) (FG.of e_17 rfl rfl) ⟨by omega, by omega⟩) rfl (Nat.le_of_ble_eq_true rfl) ⟨Nat.le_of_ble_eq_true rfl, Nat.le_of_ble_eq_true rfl, Nat.le_of_ble_eq_true rfl, Nat.le_of_ble_eq_true rfl⟩ (fun r_33 N_34 V_35 q_36 => ?_)
        obtain ⟨h_32, rfl, rfl⟩ := q_36
        refine aw_bipush (v := 93) dX12_readsSum_87 (by decide) ?_
        refine aw_icmp_ne (tgt := 138) dX12_readsSum_89 (by decide) (fun c_37 => ?_) (fun c_37 => ?_)
        · skip
          refine aw_aload_n dX12_readsSum_138 rfl ?_
          refine aw_iload_n dX12_readsSum_139 rfl ?_
          refine aw_callVi (J' := jX12_hasOpenSum) (As := [.int (nI wag_2)]) (st := []) dX12_readsSum_140 tb_1267 ok_X12_hasOpenSum ⟨_, e_17⟩ (by omega) rfl rfl (r_hasOpenSum l D b N V14 hN cl i14_0.1 (nI wag_2) wag_2 ftoldPeople_17 ftoldDoors_17 fwasDoors_17 ffault_17 fopen_17 flines_17 fmeantSet_17 fopenedNow_17 fvainNow_17 flowNow_17 fhighNow_17 fisKept_17 tad_17 pl0_17 le0_17 nu0_17 coy_17 wag_17 say_17 ⟨by omega, by omega, by omega, by omega, by omega, by omega, by omega⟩ e_17 wa14 xw_x16 (by omega) (fun i hi => by obtain ⟨o, a, e1, e2, e3, e4, _⟩ := hP_x16.2.2.2.2 i hi; exact ⟨o, a, e1, e2, e3, e4⟩)) rfl (Nat.le_of_ble_eq_true rfl) ⟨Nat.le_of_ble_eq_true rfl, Nat.le_of_ble_eq_true rfl, Nat.le_of_ble_eq_true rfl, Nat.le_of_ble_eq_true rfl⟩ (fun r_41 N_42 V_43 q_44 => ?_)
          obtain ⟨⟨z_40, h_39⟩, rfl, rfl⟩ := q_44
          rcases h_39.imp (fun z => (⟨z.2, z.1⟩ : _ ∧ _)) (fun z => (⟨z.2, z.1⟩ : _ ∧ _)) with ⟨g_45, e_46⟩ | ⟨g_47, e_48⟩
          · skip
            refine aw_eqi (y := 0) e_46 ?_
            refine aw_if_eq (tgt := 156) dX12_readsSum_143 (by decide) (fun c_49 => ?_) (fun c_49 => ?_)
            rotate_left
            · exact absurd (by decide) c_49
            refine aw_aload_n dX12_readsSum_156 rfl ?_
            refine aw_iconst (v := 1) dX12_readsSum_157 (by decide) ?_
            refine aw_callVv (J' := jX12_closesSums) (As := [.int 1]) (st := []) dX12_readsSum_158 tb_1259 ok_X12_closesSums ⟨_, e_17⟩ (by omega) rfl rfl (r_closesSums l D b N V14 hN cl i14_0.1 1 wag_2 (dep coy_2) g sd14 wa14 pl0_17 ln coy_17 wag_17 sg dp14 sl sf sh st sm sk ⟨xg_x16, xs_x16, xw_x16, (FG.of e_17 rfl rfl), (FG.of e_17 rfl (by omega : le0_17 = ln)), (FG.of e_17 rfl rfl), (FG.of e_17 rfl rfl), hP_x16, ⟨by omega, by omega, by omega, by omega⟩, xa_x16, xb_x16, xd_x16, xe_x16, (FG.of e_17 rfl (by omega : say_17 = sm)), by omega⟩ (by omega) (by omega) hbt14) rfl (Nat.le_of_ble_eq_true rfl) ⟨Nat.le_of_ble_eq_true rfl, Nat.le_of_ble_eq_true rfl, Nat.le_of_ble_eq_true rfl, Nat.le_of_ble_eq_true rfl⟩ (fun  N_54 V_53 q_55 => ?_)
            obtain ⟨h_51, rfl, q_50⟩ := q_55
            have j_52 := JR.trans i14_0 (JR.weak q_50 (Sub.cons LM0 (by decide) (by decide) (by decide) (Or.inl rfl) (Sub.cons (LMs LM0) (by decide) (by decide) (by decide) (Or.inr ⟨by decide, by decide⟩) (Sub.cons (LMs (LMs (LMs (LMs (LMs (LMs LM0)))))) (by decide) (by decide) (by decide) (Or.inr ⟨by decide, by decide⟩) Sub.nil))))
            obtain ⟨sd_y56, pl_y56, cm_y56, wt_y56, dp_y56, hX_y56, qp_y56, qb_y56, qw_y56, qs_y56, qd_y56, qa_y56, qe_y56, qn_y56⟩ := h_51
            obtain ⟨xg_x57, xs_x57, xw_x57, xp_x57, xl_x57, xc_x57, xt_x57, hP_x57, ⟨hB1_x57, hB2_x57, hB3_x57, hB4_x57⟩, xa_x57, xb_x57, xd_x57, xe_x57, xm_x57, hB5_x57⟩ := hX_y56
            obtain ⟨ftoldPeople_58, ftoldDoors_58, fwasDoors_58, ffault_58, fopen_58, flines_58, fmeantSet_58, fopenedNow_58, fvainNow_58, flowNow_58, fhighNow_58, fisKept_58, tad_58, pl0_58, le0_58, nu0_58, coy_58, wag_58, say_58, e_58, hntad_58, hnpl0_58, hnle0_58, hnnu0_58, hncoy_58, hnwag_58, hnsay_58⟩ := JR.get j_52 cm_100
            clear hntad_17 hnpl0_17 hnle0_17 hnnu0_17 hncoy_17 hnwag_17 hnsay_17
            have sb_x57pl := FG.eq xp_x57 e_58 rfl (by omega) (by omega)
            subst sb_x57pl
            have sb_x57cm := FG.eq xc_x57 e_58 rfl (by omega) (by omega)
            subst sb_x57cm
            have sb_x57wt := FG.eq xt_x57 e_58 rfl (by omega) (by omega)
            subst sb_x57wt
            have sb_x57ln := FG.eq xl_x57 e_58 rfl (by omega) (by omega)
            have hsg_x57 := hP_x57.2.1
            have sb_x57sm := FG.eq xm_x57 e_58 rfl (by omega) (by omega)
            have hqn := qn_y56.resolve_left (by decide)
            have hend : wag_58 = wag_2 := by rcases Nat.lt_or_ge wag_2 wag_58 with q | q; (obtain ⟨o9, a9, he9, ha9, h29, h149, _⟩ := PS.top hP_x57 (by omega); have ho9 : opOf (wa14 (wag_58 - 1)) = o9 := (by rw [he9]; exact opOf_nI (by omega) (by omega)); have hte := i14_6 (wag_58 - 1) (by omega) (by omega); have hne := g_45 (wag_58 - 1) (by omega) (by omega); omega); omega
            refine aw_iconst (v := 1) dX12_readsSum_161 (by decide) ?_
            refine aw_zreti dX12_readsSum_162 rfl (by first | exact Or.inl rfl | exact Or.inr rfl | assumption) (Nat.le_of_ble_eq_true rfl) (Nat.le_of_ble_eq_true rfl) ?_
            exact ⟨⟨(by first | exact Or.inl rfl | exact Or.inr rfl | assumption), Or.inr ⟨sd_y56, wa14, pl0_58, coy_58, wag_58, dp_y56, ⟨xg_x57, xs_x57, xw_x57, (FG.of e_58 rfl rfl), (FG.of e_58 rfl (by omega : le0_58 = ln)), (FG.of e_58 rfl rfl), (FG.of e_58 rfl rfl), hP_x57, ⟨by omega, by omega, by omega, by omega⟩, xa_x57, xb_x57, xd_x57, xe_x57, (FG.of e_58 rfl (by omega : say_58 = sm)), by omega⟩, hend, i14_5, (fun k hk => (qs_y56 k hk).trans (i14_4 k hk)), (by have e9 : wgt wa14 wag_58 = wgt wa14 wag_2 := congrArg _ hend; omega), by omega⟩⟩, rfl, j_52⟩
          · skip
            refine aw_eqi (y := 1) e_48 ?_
            refine aw_if_eq (tgt := 156) dX12_readsSum_143 (by decide) (fun c_59 => ?_) (fun c_59 => ?_)
            · exact absurd c_59 (by decide)
            refine aw_aload_n dX12_readsSum_146 rfl ?_
            refine aw_iconst (v := 1) dX12_readsSum_147 (by decide) ?_
            refine aw_aload_n dX12_readsSum_148 rfl ?_
            refine aw_get dX12_readsSum_149 fl_X12_159 e_17 (by omega) rfl ?_
            refine aw_callVi (J' := jX12_wrongAt) (As := [.int 1, .int (nI pl0_17)]) (st := []) dX12_readsSum_152 tb_1224 ok_X12_wrongAt ⟨_, e_17⟩ (by omega) rfl rfl (r_wrongAt l D b N V14 hN cl i14_0.1 1 (nI pl0_17) pl0_17 le0_17 (FG.of e_17 rfl rfl) (FG.of e_17 rfl rfl) ⟨by omega, by omega⟩) rfl (Nat.le_of_ble_eq_true rfl) ⟨Nat.le_of_ble_eq_true rfl, Nat.le_of_ble_eq_true rfl, Nat.le_of_ble_eq_true rfl, Nat.le_of_ble_eq_true rfl⟩ (fun r_73 N_74 V_64 q_75 => ?_)
            obtain ⟨⟨z_62, h_61⟩, rfl, q_60⟩ := q_75
            have j_63 := JR.trans i14_0 (JR.weak q_60 (Sub.cons (LMs (LMs (LMs LM0))) (by decide) (by decide) (by decide) (Or.inr ⟨by decide, by decide⟩) Sub.nil))
            obtain ⟨a_65, ha_66, hA_67, hF_68, hL_69, hz_70, hX_71⟩ := h_61
            obtain ⟨ftoldPeople_k72, ftoldDoors_k72, fwasDoors_k72, ffault_k72, fopen_k72, flines_k72, fmeantSet_k72, fopenedNow_k72, fvainNow_k72, flowNow_k72, fhighNow_k72, fisKept_k72, tad_k72, pl0_k72, le0_k72, nu0_k72, coy_k72, wag_k72, say_k72, e_k72, hntad_k72, hnpl0_k72, hnle0_k72, hnnu0_k72, hncoy_k72, hnwag_k72, hnsay_k72⟩ := JR.get j_63 cm_100
            have hqp_k72 := FG.eq hF_68 e_k72 rfl (by omega) (by omega)
            have hql_k72 := FG.eq hL_69 e_k72 rfl (by omega) (by omega)
            obtain rfl := hX_71
            refine aw_zreti dX12_readsSum_155 rfl (by first | exact Or.inl rfl | exact Or.inr rfl | assumption) (Nat.le_of_ble_eq_true rfl) (Nat.le_of_ble_eq_true rfl) ?_
            exact ⟨⟨(by first | exact Or.inl rfl | exact Or.inr rfl | assumption), Or.inl rfl⟩, rfl, j_63⟩
        · skip
          have hlc_37 := here_lt h_32 c_37 (by decide)
          refine aw_aload_n dX12_readsSum_92 rfl ?_
          refine aw_iload_n dX12_readsSum_93 rfl ?_
          refine aw_callVi (J' := jX12_hasOpenSum) (As := [.int (nI wag_2)]) (st := []) dX12_readsSum_94 tb_1267 ok_X12_hasOpenSum ⟨_, e_17⟩ (by omega) rfl rfl (r_hasOpenSum l D b N V14 hN cl i14_0.1 (nI wag_2) wag_2 ftoldPeople_17 ftoldDoors_17 fwasDoors_17 ffault_17 fopen_17 flines_17 fmeantSet_17 fopenedNow_17 fvainNow_17 flowNow_17 fhighNow_17 fisKept_17 tad_17 pl0_17 le0_17 nu0_17 coy_17 wag_17 say_17 ⟨by omega, by omega, by omega, by omega, by omega, by omega, by omega⟩ e_17 wa14 xw_x16 (by omega) (fun i hi => by obtain ⟨o, a, e1, e2, e3, e4, _⟩ := hP_x16.2.2.2.2 i hi; exact ⟨o, a, e1, e2, e3, e4⟩)) rfl (Nat.le_of_ble_eq_true rfl) ⟨Nat.le_of_ble_eq_true rfl, Nat.le_of_ble_eq_true rfl, Nat.le_of_ble_eq_true rfl, Nat.le_of_ble_eq_true rfl⟩ (fun r_79 N_80 V_81 q_82 => ?_)
          obtain ⟨⟨z_78, h_77⟩, rfl, rfl⟩ := q_82
          rcases h_77.imp (fun z => (⟨z.2, z.1⟩ : _ ∧ _)) (fun z => (⟨z.2, z.1⟩ : _ ∧ _)) with ⟨g_83, e_84⟩ | ⟨g_85, e_86⟩
          · skip
            refine aw_eqi (y := 0) e_84 ?_
            refine aw_if_eq (tgt := 138) dX12_readsSum_97 (by decide) (fun c_87 => ?_) (fun c_87 => ?_)
            rotate_left
            · exact absurd (by decide) c_87
            refine aw_aload_n dX12_readsSum_138 rfl ?_
            refine aw_iload_n dX12_readsSum_139 rfl ?_
            refine aw_callVi (J' := jX12_hasOpenSum) (As := [.int (nI wag_2)]) (st := []) dX12_readsSum_140 tb_1267 ok_X12_hasOpenSum ⟨_, e_17⟩ (by omega) rfl rfl (r_hasOpenSum l D b N V14 hN cl i14_0.1 (nI wag_2) wag_2 ftoldPeople_17 ftoldDoors_17 fwasDoors_17 ffault_17 fopen_17 flines_17 fmeantSet_17 fopenedNow_17 fvainNow_17 flowNow_17 fhighNow_17 fisKept_17 tad_17 pl0_17 le0_17 nu0_17 coy_17 wag_17 say_17 ⟨by omega, by omega, by omega, by omega, by omega, by omega, by omega⟩ e_17 wa14 xw_x16 (by omega) (fun i hi => by obtain ⟨o, a, e1, e2, e3, e4, _⟩ := hP_x16.2.2.2.2 i hi; exact ⟨o, a, e1, e2, e3, e4⟩)) rfl (Nat.le_of_ble_eq_true rfl) ⟨Nat.le_of_ble_eq_true rfl, Nat.le_of_ble_eq_true rfl, Nat.le_of_ble_eq_true rfl, Nat.le_of_ble_eq_true rfl⟩ (fun r_91 N_92 V_93 q_94 => ?_)
            obtain ⟨⟨z_90, h_89⟩, rfl, rfl⟩ := q_94
            rcases h_89.imp (fun z => (⟨z.2, z.1⟩ : _ ∧ _)) (fun z => (⟨z.2, z.1⟩ : _ ∧ _)) with ⟨g_95, e_96⟩ | ⟨g_97, e_98⟩
            · skip
              refine aw_eqi (y := 0) e_96 ?_
              refine aw_if_eq (tgt := 156) dX12_readsSum_143 (by decide) (fun c_99 => ?_) (fun c_99 => ?_)
              rotate_left
              · exact absurd (by decide) c_99
              refine aw_aload_n dX12_readsSum_156 rfl ?_
              refine aw_iconst (v := 1) dX12_readsSum_157 (by decide) ?_
              refine aw_callVv (J' := jX12_closesSums) (As := [.int 1]) (st := []) dX12_readsSum_158 tb_1259 ok_X12_closesSums ⟨_, e_17⟩ (by omega) rfl rfl (r_closesSums l D b N V14 hN cl i14_0.1 1 wag_2 (dep coy_2) g sd14 wa14 pl0_17 ln coy_17 wag_17 sg dp14 sl sf sh st sm sk ⟨xg_x16, xs_x16, xw_x16, (FG.of e_17 rfl rfl), (FG.of e_17 rfl (by omega : le0_17 = ln)), (FG.of e_17 rfl rfl), (FG.of e_17 rfl rfl), hP_x16, ⟨by omega, by omega, by omega, by omega⟩, xa_x16, xb_x16, xd_x16, xe_x16, (FG.of e_17 rfl (by omega : say_17 = sm)), by omega⟩ (by omega) (by omega) hbt14) rfl (Nat.le_of_ble_eq_true rfl) ⟨Nat.le_of_ble_eq_true rfl, Nat.le_of_ble_eq_true rfl, Nat.le_of_ble_eq_true rfl, Nat.le_of_ble_eq_true rfl⟩ (fun  N_104 V_103 q_105 => ?_)
              obtain ⟨h_101, rfl, q_100⟩ := q_105
              have j_102 := JR.trans i14_0 (JR.weak q_100 (Sub.cons LM0 (by decide) (by decide) (by decide) (Or.inl rfl) (Sub.cons (LMs LM0) (by decide) (by decide) (by decide) (Or.inr ⟨by decide, by decide⟩) (Sub.cons (LMs (LMs (LMs (LMs (LMs (LMs LM0)))))) (by decide) (by decide) (by decide) (Or.inr ⟨by decide, by decide⟩) Sub.nil))))
              obtain ⟨sd_y106, pl_y106, cm_y106, wt_y106, dp_y106, hX_y106, qp_y106, qb_y106, qw_y106, qs_y106, qd_y106, qa_y106, qe_y106, qn_y106⟩ := h_101
              obtain ⟨xg_x107, xs_x107, xw_x107, xp_x107, xl_x107, xc_x107, xt_x107, hP_x107, ⟨hB1_x107, hB2_x107, hB3_x107, hB4_x107⟩, xa_x107, xb_x107, xd_x107, xe_x107, xm_x107, hB5_x107⟩ := hX_y106
              obtain ⟨ftoldPeople_108, ftoldDoors_108, fwasDoors_108, ffault_108, fopen_108, flines_108, fmeantSet_108, fopenedNow_108, fvainNow_108, flowNow_108, fhighNow_108, fisKept_108, tad_108, pl0_108, le0_108, nu0_108, coy_108, wag_108, say_108, e_108, hntad_108, hnpl0_108, hnle0_108, hnnu0_108, hncoy_108, hnwag_108, hnsay_108⟩ := JR.get j_102 cm_100
              clear hntad_17 hnpl0_17 hnle0_17 hnnu0_17 hncoy_17 hnwag_17 hnsay_17
              have sb_x107pl := FG.eq xp_x107 e_108 rfl (by omega) (by omega)
              subst sb_x107pl
              have sb_x107cm := FG.eq xc_x107 e_108 rfl (by omega) (by omega)
              subst sb_x107cm
              have sb_x107wt := FG.eq xt_x107 e_108 rfl (by omega) (by omega)
              subst sb_x107wt
              have sb_x107ln := FG.eq xl_x107 e_108 rfl (by omega) (by omega)
              have hsg_x107 := hP_x107.2.1
              have sb_x107sm := FG.eq xm_x107 e_108 rfl (by omega) (by omega)
              have hqn := qn_y106.resolve_left (by decide)
              have hend : wag_108 = wag_2 := by rcases Nat.lt_or_ge wag_2 wag_108 with q | q; (obtain ⟨o9, a9, he9, ha9, h29, h149, _⟩ := PS.top hP_x107 (by omega); have ho9 : opOf (wa14 (wag_108 - 1)) = o9 := (by rw [he9]; exact opOf_nI (by omega) (by omega)); have hte := i14_6 (wag_108 - 1) (by omega) (by omega); have hne := g_95 (wag_108 - 1) (by omega) (by omega); omega); omega
              refine aw_iconst (v := 1) dX12_readsSum_161 (by decide) ?_
              refine aw_zreti dX12_readsSum_162 rfl (by first | exact Or.inl rfl | exact Or.inr rfl | assumption) (Nat.le_of_ble_eq_true rfl) (Nat.le_of_ble_eq_true rfl) ?_
              exact ⟨⟨(by first | exact Or.inl rfl | exact Or.inr rfl | assumption), Or.inr ⟨sd_y106, wa14, pl0_108, coy_108, wag_108, dp_y106, ⟨xg_x107, xs_x107, xw_x107, (FG.of e_108 rfl rfl), (FG.of e_108 rfl (by omega : le0_108 = ln)), (FG.of e_108 rfl rfl), (FG.of e_108 rfl rfl), hP_x107, ⟨by omega, by omega, by omega, by omega⟩, xa_x107, xb_x107, xd_x107, xe_x107, (FG.of e_108 rfl (by omega : say_108 = sm)), by omega⟩, hend, i14_5, (fun k hk => (qs_y106 k hk).trans (i14_4 k hk)), (by have e9 : wgt wa14 wag_108 = wgt wa14 wag_2 := congrArg _ hend; omega), by omega⟩⟩, rfl, j_102⟩
            · skip
              refine aw_eqi (y := 1) e_98 ?_
              refine aw_if_eq (tgt := 156) dX12_readsSum_143 (by decide) (fun c_109 => ?_) (fun c_109 => ?_)
              · exact absurd c_109 (by decide)
              refine aw_aload_n dX12_readsSum_146 rfl ?_
              refine aw_iconst (v := 1) dX12_readsSum_147 (by decide) ?_
              refine aw_aload_n dX12_readsSum_148 rfl ?_
              refine aw_get dX12_readsSum_149 fl_X12_159 e_17 (by omega) rfl ?_
              refine aw_callVi (J' := jX12_wrongAt) (As := [.int 1, .int (nI pl0_17)]) (st := []) dX12_readsSum_152 tb_1224 ok_X12_wrongAt ⟨_, e_17⟩ (by omega) rfl rfl (r_wrongAt l D b N V14 hN cl i14_0.1 1 (nI pl0_17) pl0_17 le0_17 (FG.of e_17 rfl rfl) (FG.of e_17 rfl rfl) ⟨by omega, by omega⟩) rfl (Nat.le_of_ble_eq_true rfl) ⟨Nat.le_of_ble_eq_true rfl, Nat.le_of_ble_eq_true rfl, Nat.le_of_ble_eq_true rfl, Nat.le_of_ble_eq_true rfl⟩ (fun r_123 N_124 V_114 q_125 => ?_)
              obtain ⟨⟨z_112, h_111⟩, rfl, q_110⟩ := q_125
              have j_113 := JR.trans i14_0 (JR.weak q_110 (Sub.cons (LMs (LMs (LMs LM0))) (by decide) (by decide) (by decide) (Or.inr ⟨by decide, by decide⟩) Sub.nil))
              obtain ⟨a_115, ha_116, hA_117, hF_118, hL_119, hz_120, hX_121⟩ := h_111
              obtain ⟨ftoldPeople_k122, ftoldDoors_k122, fwasDoors_k122, ffault_k122, fopen_k122, flines_k122, fmeantSet_k122, fopenedNow_k122, fvainNow_k122, flowNow_k122, fhighNow_k122, fisKept_k122, tad_k122, pl0_k122, le0_k122, nu0_k122, coy_k122, wag_k122, say_k122, e_k122, hntad_k122, hnpl0_k122, hnle0_k122, hnnu0_k122, hncoy_k122, hnwag_k122, hnsay_k122⟩ := JR.get j_113 cm_100
              have hqp_k122 := FG.eq hF_118 e_k122 rfl (by omega) (by omega)
              have hql_k122 := FG.eq hL_119 e_k122 rfl (by omega) (by omega)
              obtain rfl := hX_121
              refine aw_zreti dX12_readsSum_155 rfl (by first | exact Or.inl rfl | exact Or.inr rfl | assumption) (Nat.le_of_ble_eq_true rfl) (Nat.le_of_ble_eq_true rfl) ?_
              exact ⟨⟨(by first | exact Or.inl rfl | exact Or.inr rfl | assumption), Or.inl rfl⟩, rfl, j_113⟩
          · skip
            refine aw_eqi (y := 1) e_86 ?_
            refine aw_if_eq (tgt := 138) dX12_readsSum_97 (by decide) (fun c_126 => ?_) (fun c_126 => ?_)
            · exact absurd c_126 (by decide)
            refine aw_aload_n dX12_readsSum_100 rfl ?_
            refine aw_iconst (v := 1) dX12_readsSum_101 (by decide) ?_
            refine aw_callVv (J' := jX12_closesSums) (As := [.int 1]) (st := []) dX12_readsSum_102 tb_1259 ok_X12_closesSums ⟨_, e_17⟩ (by omega) rfl rfl (r_closesSums l D b N V14 hN cl i14_0.1 1 wag_2 (dep coy_2) g sd14 wa14 pl0_17 ln coy_17 wag_17 sg dp14 sl sf sh st sm sk ⟨xg_x16, xs_x16, xw_x16, (FG.of e_17 rfl rfl), (FG.of e_17 rfl (by omega : le0_17 = ln)), (FG.of e_17 rfl rfl), (FG.of e_17 rfl rfl), hP_x16, ⟨by omega, by omega, by omega, by omega⟩, xa_x16, xb_x16, xd_x16, xe_x16, (FG.of e_17 rfl (by omega : say_17 = sm)), by omega⟩ (by omega) (by omega) hbt14) rfl (Nat.le_of_ble_eq_true rfl) ⟨Nat.le_of_ble_eq_true rfl, Nat.le_of_ble_eq_true rfl, Nat.le_of_ble_eq_true rfl, Nat.le_of_ble_eq_true rfl⟩ (fun  N_131 V_130 q_132 => ?_)
            obtain ⟨h_128, rfl, q_127⟩ := q_132
            have j_129 := JR.trans i14_0 (JR.weak q_127 (Sub.cons LM0 (by decide) (by decide) (by decide) (Or.inl rfl) (Sub.cons (LMs LM0) (by decide) (by decide) (by decide) (Or.inr ⟨by decide, by decide⟩) (Sub.cons (LMs (LMs (LMs (LMs (LMs (LMs LM0)))))) (by decide) (by decide) (by decide) (Or.inr ⟨by decide, by decide⟩) Sub.nil))))
            obtain ⟨sd_y133, pl_y133, cm_y133, wt_y133, dp_y133, hX_y133, qp_y133, qb_y133, qw_y133, qs_y133, qd_y133, qa_y133, qe_y133, qn_y133⟩ := h_128
            obtain ⟨xg_x134, xs_x134, xw_x134, xp_x134, xl_x134, xc_x134, xt_x134, hP_x134, ⟨hB1_x134, hB2_x134, hB3_x134, hB4_x134⟩, xa_x134, xb_x134, xd_x134, xe_x134, xm_x134, hB5_x134⟩ := hX_y133
            obtain ⟨ftoldPeople_135, ftoldDoors_135, fwasDoors_135, ffault_135, fopen_135, flines_135, fmeantSet_135, fopenedNow_135, fvainNow_135, flowNow_135, fhighNow_135, fisKept_135, tad_135, pl0_135, le0_135, nu0_135, coy_135, wag_135, say_135, e_135, hntad_135, hnpl0_135, hnle0_135, hnnu0_135, hncoy_135, hnwag_135, hnsay_135⟩ := JR.get j_129 cm_100
            clear hntad_17 hnpl0_17 hnle0_17 hnnu0_17 hncoy_17 hnwag_17 hnsay_17
            have sb_x134pl := FG.eq xp_x134 e_135 rfl (by omega) (by omega)
            subst sb_x134pl
            have sb_x134cm := FG.eq xc_x134 e_135 rfl (by omega) (by omega)
            subst sb_x134cm
            have sb_x134wt := FG.eq xt_x134 e_135 rfl (by omega) (by omega)
            subst sb_x134wt
            have sb_x134ln := FG.eq xl_x134 e_135 rfl (by omega) (by omega)
            have hsg_x134 := hP_x134.2.1
            have sb_x134sm := FG.eq xm_x134 e_135 rfl (by omega) (by omega)
            obtain ⟨i9, hi1, hi2, hi3⟩ := g_85
            have hi4 : i9 < wag_135 := by rcases Nat.lt_or_ge i9 wag_135 with q | q; exact q; exact absurd (qa_y133 i9 (by omega) (by omega)) (by omega)
            obtain ⟨o9, a9, he9, ha9, h29, h149, -⟩ := PS.top hP_x134 (by omega)
            have ho9 : opOf (wa14 (wag_135 - 1)) = o9 := by rw [he9]; exact opOf_nI (by omega) (by omega)
            have hte := i14_6 (wag_135 - 1) (by omega) (by omega)
            have hqn := qn_y133.resolve_left (by decide)
            have ho14 : o9 = 14 := by omega
            have hpop := wgt_pop (wa := wa14) (n := wag_135) (by omega)
            rw [ho9, if_neg (by omega)] at hpop
            have hPo := PS.pop hP_x134 (by omega) (by rw [ho9]; omega)
            refine aw_aload_n dX12_readsSum_105 rfl ?_
            refine aw_aload_n dX12_readsSum_106 rfl ?_
            refine aw_get dX12_readsSum_107 fl_X12_189 e_135 (by omega) rfl ?_
            refine aw_iconst (v := 1) dX12_readsSum_110 (by decide) ?_
            refine aw_isub dX12_readsSum_111 ?_
            refine aw_eqi (y := (nI (wag_135 - 1))) (pk_sub (a := wag_135) (b := 1) (by omega)) ?_
            refine aw_put dX12_readsSum_112 fp_X12_189 e_135 (by omega) rfl rfl (Nat.le_of_ble_eq_true rfl) rfl ?_
            refine aw_upR j_129 cm_100 ⟨_, _, _, _, _, _, _, _, _, _, _, _, tad_135, pl0_135, le0_135, nu0_135, coy_135, (wag_135 - 1), say_135, rfl, by omega, by omega, by omega, by omega, by omega, by omega, by omega⟩ (by decide) (WO (s := 20) (x := .int (nI (wag_135 - 1))) e_135 rfl (LMs (LMs (LMs (LMs (LMs (LMs LM0)))))) (by decide) (by decide) (by decide) (Or.inl (by decide))) (fun V_136 j_136 k_136 e_136 => ?_)
            refine aw_aload_n dX12_readsSum_115 rfl ?_
            refine aw_aload_n dX12_readsSum_116 rfl ?_
            refine aw_get dX12_readsSum_117 fl_X12_186 e_136 (by omega) rfl ?_
            refine aw_iconst (v := 1) dX12_readsSum_120 (by decide) ?_
            refine aw_isub dX12_readsSum_121 ?_
            refine aw_put dX12_readsSum_122 fp_X12_186 e_136 (by omega) rfl rfl (Nat.le_of_ble_eq_true rfl) rfl ?_
            refine aw_upR j_136 cm_100 ⟨_, _, _, _, _, _, _, _, _, _, _, _, tad_135, pl0_135, le0_135, nu0_135, coy_135, (wag_135 - 1), say_135, rfl, by omega, by omega, by omega, by omega, by omega, by omega, by omega⟩ (by decide) (WO (s := 18) (x := .int (fopen_135 - 1)) e_136 rfl (LMs (LMs (LMs (LMs (LMs LM0))))) (by decide) (by decide) (by decide) (Or.inl (by decide))) (fun V_137 j_137 k_137 e_137 => ?_)
            refine aw_aload_n dX12_readsSum_125 rfl ?_
            refine aw_aload_n dX12_readsSum_126 rfl ?_
            refine aw_get dX12_readsSum_127 fl_X12_159 e_137 (by omega) rfl ?_
            refine aw_iconst (v := 1) dX12_readsSum_130 (by decide) ?_
            refine aw_iadd dX12_readsSum_131 ?_
            refine aw_eqi (y := nI (pl0_135 + 1)) (nI_add _ _) ?_
            refine aw_put dX12_readsSum_132 fp_X12_159 e_137 (by omega) rfl rfl (Nat.le_of_ble_eq_true rfl) rfl ?_
            refine aw_upR j_137 cm_100 ⟨_, _, _, _, _, _, _, _, _, _, _, _, tad_135, (pl0_135 + 1), le0_135, nu0_135, coy_135, (wag_135 - 1), say_135, rfl, by omega, by omega, by omega, by omega, by omega, by omega, by omega⟩ (by decide) (WO (s := 14) (x := .int (nI (pl0_135 + 1))) e_137 rfl (LMs (LMs LM0)) (by decide) (by decide) (by decide) (Or.inl (by decide))) (fun V_138 j_138 k_138 e_138 => ?_)
            refine aw_goto (tgt := 163) dX12_readsSum_135 (by decide) ?_
            refine aw_goto (tgt := 14) dX12_readsSum_163 (by decide) ?_
            refine aw_le ?_ (mih_14_15 _ (by omega) (pl0_135 + 1) coy_135 (wag_135 - 1) sd_y133 wa14 dp_y133 V_138 rfl (j_138) (⟨((k_138 _ (by decide)).trans ((k_137 _ (by decide)).trans ((k_136 _ (by decide)).trans xg_x134))), ((k_138 _ (by decide)).trans ((k_137 _ (by decide)).trans ((k_136 _ (by decide)).trans xs_x134))), ((k_138 _ (by decide)).trans ((k_137 _ (by decide)).trans ((k_136 _ (by decide)).trans xw_x134))), (FG.of e_138 rfl rfl), (FG.of e_138 rfl (by omega : le0_135 = ln)), (FG.of e_138 rfl rfl), (FG.of e_138 rfl rfl), hPo, ⟨by omega, by omega, by omega, by omega⟩, ((k_138 _ (by decide)).trans ((k_137 _ (by decide)).trans ((k_136 _ (by decide)).trans xa_x134))), ((k_138 _ (by decide)).trans ((k_137 _ (by decide)).trans ((k_136 _ (by decide)).trans xb_x134))), ((k_138 _ (by decide)).trans ((k_137 _ (by decide)).trans ((k_136 _ (by decide)).trans xd_x134))), ((k_138 _ (by decide)).trans ((k_137 _ (by decide)).trans ((k_136 _ (by decide)).trans xe_x134))), (FG.of e_138 rfl (by omega : say_135 = sm)), by omega⟩) (by omega) (by omega) (fun k hk => (qs_y133 k hk).trans (i14_4 k hk)) (i14_5) (SumE.sub i14_6 (by omega)) (by omega))
            exact ⟨rfl, ⟨rfl, trivial⟩⟩
      · skip
        obtain ⟨⟨z_139, hz_139, ez_139⟩, hnz_139⟩ := h_25.resolve_left c_30
        have hlc_30 := here_lt0 h_19 hnz_139
        subst ez_139
        refine aw_aload_n dX12_readsSum_27 rfl ?_
        refine aw_iload_n dX12_readsSum_28 rfl ?_
        refine aw_iconst (v := 4) dX12_readsSum_29 (by decide) ?_
        refine aw_icmp_ge (tgt := 37) dX12_readsSum_30 (by decide) (fun c_140 => ?_) (fun c_140 => ?_)
        · skip
          have nc_140 : 4 ≤ z_139 := (nI_leI (a := 4) (b := z_139) (by omega) (by omega)).mp c_140
          refine aw_iconst (v := 0) dX12_readsSum_37 (by decide) ?_
          refine aw_callVv (J' := jX12_closesSums) (As := [.int 0]) (st := []) dX12_readsSum_38 tb_1259 ok_X12_closesSums ⟨_, e_17⟩ (by omega) rfl rfl (r_closesSums l D b N V14 hN cl i14_0.1 0 wag_2 (dep coy_2) g sd14 wa14 pl0_17 ln coy_17 wag_17 sg dp14 sl sf sh st sm sk ⟨xg_x16, xs_x16, xw_x16, (FG.of e_17 rfl rfl), (FG.of e_17 rfl (by omega : le0_17 = ln)), (FG.of e_17 rfl rfl), (FG.of e_17 rfl rfl), hP_x16, ⟨by omega, by omega, by omega, by omega⟩, xa_x16, xb_x16, xd_x16, xe_x16, (FG.of e_17 rfl (by omega : say_17 = sm)), by omega⟩ (by omega) (by omega) hbt14) rfl (Nat.le_of_ble_eq_true rfl) ⟨Nat.le_of_ble_eq_true rfl, Nat.le_of_ble_eq_true rfl, Nat.le_of_ble_eq_true rfl, Nat.le_of_ble_eq_true rfl⟩ (fun  N_145 V_144 q_146 => ?_)
          obtain ⟨h_142, rfl, q_141⟩ := q_146
          have j_143 := JR.trans i14_0 (JR.weak q_141 (Sub.cons LM0 (by decide) (by decide) (by decide) (Or.inl rfl) (Sub.cons (LMs LM0) (by decide) (by decide) (by decide) (Or.inr ⟨by decide, by decide⟩) (Sub.cons (LMs (LMs (LMs (LMs (LMs (LMs LM0)))))) (by decide) (by decide) (by decide) (Or.inr ⟨by decide, by decide⟩) Sub.nil))))
          obtain ⟨sd_y147, pl_y147, cm_y147, wt_y147, dp_y147, hX_y147, qp_y147, qb_y147, qw_y147, qs_y147, qd_y147, qa_y147, qe_y147, qn_y147⟩ := h_142
          obtain ⟨xg_x148, xs_x148, xw_x148, xp_x148, xl_x148, xc_x148, xt_x148, hP_x148, ⟨hB1_x148, hB2_x148, hB3_x148, hB4_x148⟩, xa_x148, xb_x148, xd_x148, xe_x148, xm_x148, hB5_x148⟩ := hX_y147
          obtain ⟨ftoldPeople_149, ftoldDoors_149, fwasDoors_149, ffault_149, fopen_149, flines_149, fmeantSet_149, fopenedNow_149, fvainNow_149, flowNow_149, fhighNow_149, fisKept_149, tad_149, pl0_149, le0_149, nu0_149, coy_149, wag_149, say_149, e_149, hntad_149, hnpl0_149, hnle0_149, hnnu0_149, hncoy_149, hnwag_149, hnsay_149⟩ := JR.get j_143 cm_100
          clear hntad_17 hnpl0_17 hnle0_17 hnnu0_17 hncoy_17 hnwag_17 hnsay_17
          have sb_x148pl := FG.eq xp_x148 e_149 rfl (by omega) (by omega)
          subst sb_x148pl
          have sb_x148cm := FG.eq xc_x148 e_149 rfl (by omega) (by omega)
          subst sb_x148cm
          have sb_x148wt := FG.eq xt_x148 e_149 rfl (by omega) (by omega)
          subst sb_x148wt
          have sb_x148ln := FG.eq xl_x148 e_149 rfl (by omega) (by omega)
          have hsg_x148 := hP_x148.2.1
          have sb_x148sm := FG.eq xm_x148 e_149 rfl (by omega) (by omega)
          refine aw_aload_n dX12_readsSum_41 rfl ?_
          refine aw_get dX12_readsSum_42 fl_X12_44 e_149 (by omega) rfl ?_
          refine aw_aload_n dX12_readsSum_45 rfl ?_
          refine aw_get dX12_readsSum_46 fl_X12_189 e_149 (by omega) rfl ?_
          refine aw_ldc (v := 1048576) dX12_readsSum_49 tb_1240 ?_
          refine aw_iload_n dX12_readsSum_51 rfl ?_
          refine aw_imul dX12_readsSum_52 ?_
          refine aw_eqi (y := nI (1048576 * z_139)) (pk_mul _ _) ?_
          refine aw_iast dX12_readsSum_53 xw_x148 (by omega) (vp_in_nI (n := wag_149) (by omega) (by omega)) ?_
          refine aw_upR j_143 cm_112 ⟨_, rfl⟩ (by decide) (WA LM0 (by decide) (by decide)) (fun V_150 j_150 k_150 e_150 => ?_)
          have e_151 : V_150 112 = cI D 260 (upd wa14 wag_149 (nI (1048576 * z_139))) := by rw [e_150, nI_clamp (n := wag_149) (by omega)]
          refine aw_aload_n dX12_readsSum_54 rfl ?_
          refine aw_aload_n dX12_readsSum_55 rfl ?_
          refine aw_get dX12_readsSum_56 fl_X12_189 ((k_150 _ (by decide)).trans e_149) (by omega) rfl ?_
          refine aw_iconst (v := 1) dX12_readsSum_59 (by decide) ?_
          refine aw_iadd dX12_readsSum_60 ?_
          refine aw_eqi (y := nI (wag_149 + 1)) (nI_add _ _) ?_
          refine aw_put dX12_readsSum_61 fp_X12_189 ((k_150 _ (by decide)).trans e_149) (by omega) rfl rfl (Nat.le_of_ble_eq_true rfl) rfl ?_
          refine aw_upR j_150 cm_100 ⟨_, _, _, _, _, _, _, _, _, _, _, _, tad_149, pl0_149, le0_149, nu0_149, coy_149, (wag_149 + 1), say_149, rfl, by omega, by omega, by omega, by omega, by omega, by omega, by omega⟩ (by decide) (WO (s := 20) (x := .int (nI (wag_149 + 1))) ((k_150 _ (by decide)).trans e_149) rfl (LMs (LMs (LMs (LMs (LMs (LMs LM0)))))) (by decide) (by decide) (by decide) (Or.inl (by decide))) (fun V_152 j_152 k_152 e_152 => ?_)
          refine aw_aload_n dX12_readsSum_64 rfl ?_
          refine aw_aload_n dX12_readsSum_65 rfl ?_
          refine aw_get dX12_readsSum_66 fl_X12_159 e_152 (by omega) rfl ?_
          refine aw_iconst (v := 1) dX12_readsSum_69 (by decide) ?_
          refine aw_iadd dX12_readsSum_70 ?_
          refine aw_eqi (y := nI (pl0_149 + 1)) (nI_add _ _) ?_
          refine aw_put dX12_readsSum_71 fp_X12_159 e_152 (by omega) rfl rfl (Nat.le_of_ble_eq_true rfl) rfl ?_
          refine aw_upR j_152 cm_100 ⟨_, _, _, _, _, _, _, _, _, _, _, _, tad_149, (pl0_149 + 1), le0_149, nu0_149, coy_149, (wag_149 + 1), say_149, rfl, by omega, by omega, by omega, by omega, by omega, by omega, by omega⟩ (by decide) (WO (s := 14) (x := .int (nI (pl0_149 + 1))) e_152 rfl (LMs (LMs LM0)) (by decide) (by decide) (by decide) (Or.inl (by decide))) (fun V_153 j_153 k_153 e_153 => ?_)
          have hpu := wgt_pushc (wa := wa14) (w := wag_149) (n := wag_2) (z := z_139) (by omega) (by omega)
          rw [if_pos (by omega)] at hpu
          have hPu := PS.push hP_x148 z_139 (by omega) (by omega) (by omega)
          have hSu := (SumE.sub i14_6 (by omega : wag_149 ≤ wag_17)).push (z := z_139) (by omega)
          refine aw_aload_n dX12_readsSum_74 rfl ?_
          refine aw_callVi (J' := jX12_readsFactor) (As := []) (st := []) dX12_readsSum_75 tb_1232 ok_X12_readsFactor ⟨_, e_153⟩ (by omega) rfl rfl (r_readsFactor l D b N V_153 hN cl j_153.1 wag_2 (dep coy_2) g sd_y147 (upd wa14 wag_149 (nI (1048576 * z_139))) (pl0_149 + 1) ln coy_149 (wag_149 + 1) sg dp_y147 sl sf sh st sm sk ⟨((k_153 _ (by decide)).trans ((k_152 _ (by decide)).trans ((k_150 _ (by decide)).trans xg_x148))), ((k_153 _ (by decide)).trans ((k_152 _ (by decide)).trans ((k_150 _ (by decide)).trans xs_x148))), ((k_153 _ (by decide)).trans ((k_152 _ (by decide)).trans e_151)), (FG.of e_153 rfl rfl), (FG.of e_153 rfl (by omega : le0_149 = ln)), (FG.of e_153 rfl rfl), (FG.of e_153 rfl rfl), hPu, ⟨by omega, by omega, by omega, by omega⟩, ((k_153 _ (by decide)).trans ((k_152 _ (by decide)).trans ((k_150 _ (by decide)).trans xa_x148))), ((k_153 _ (by decide)).trans ((k_152 _ (by decide)).trans ((k_150 _ (by decide)).trans xb_x148))), ((k_153 _ (by decide)).trans ((k_152 _ (by decide)).trans ((k_150 _ (by decide)).trans xd_x148))), ((k_153 _ (by decide)).trans ((k_152 _ (by decide)).trans ((k_150 _ (by decide)).trans xe_x148))), (FG.of e_153 rfl (by omega : say_149 = sm)), by omega⟩ (by omega) (by omega)) rfl (Nat.le_of_ble_eq_true rfl) ⟨Nat.le_of_ble_eq_true rfl, Nat.le_of_ble_eq_true rfl, Nat.le_of_ble_eq_true rfl, Nat.le_of_ble_eq_true rfl⟩ (fun r_159 N_160 V_158 q_161 => ?_)
          obtain ⟨⟨z_156, h_155⟩, rfl, q_154⟩ := q_161
          have j_157 := JR.trans j_153 (JR.weak q_154 (Sub.cons LM0 (by decide) (by decide) (by decide) (Or.inl rfl) (Sub.cons (LMs LM0) (by decide) (by decide) (by decide) (Or.inr ⟨by decide, by decide⟩) (Sub.cons (LMs (LMs LM0)) (by decide) (by decide) (by decide) (Or.inr ⟨by decide, by decide⟩) (Sub.cons (LMs (LMs (LMs LM0))) (by decide) (by decide) (by decide) (Or.inr ⟨by decide, by decide⟩) (Sub.cons (LMs (LMs (LMs (LMs LM0)))) (by decide) (by decide) (by decide) (Or.inr ⟨by decide, by decide⟩) (Sub.cons (LMs (LMs (LMs (LMs (LMs LM0))))) (by decide) (by decide) (by decide) (Or.inr ⟨by decide, by decide⟩) (Sub.cons (LMs (LMs (LMs (LMs (LMs (LMs LM0)))))) (by decide) (by decide) (by decide) (Or.inr ⟨by decide, by decide⟩) Sub.nil))))))))
          refine aw_if_ne (tgt := 163) dX12_readsSum_78 (by decide) (fun c_162 => ?_) (fun c_162 => ?_)
          · skip
            obtain ⟨sd_y163, wa_y163, pl_y163, cm_y163, wt_y163, dp_y163, hX_y163, fw_y163, fa_y163, f14_y163, fs_y163, fd_y163, fp_y163⟩ := (h_155.resolve_left c_162)
            obtain ⟨xg_x164, xs_x164, xw_x164, xp_x164, xl_x164, xc_x164, xt_x164, hP_x164, ⟨hB1_x164, hB2_x164, hB3_x164, hB4_x164⟩, xa_x164, xb_x164, xd_x164, xe_x164, xm_x164, hB5_x164⟩ := hX_y163
            obtain ⟨ftoldPeople_165, ftoldDoors_165, fwasDoors_165, ffault_165, fopen_165, flines_165, fmeantSet_165, fopenedNow_165, fvainNow_165, flowNow_165, fhighNow_165, fisKept_165, tad_165, pl0_165, le0_165, nu0_165, coy_165, wag_165, say_165, e_165, hntad_165, hnpl0_165, hnle0_165, hnnu0_165, hncoy_165, hnwag_165, hnsay_165⟩ := JR.get j_157 cm_100
            clear hntad_149 hnpl0_149 hnle0_149 hnnu0_149 hncoy_149 hnwag_149 hnsay_149
            have sb_x164pl := FG.eq xp_x164 e_165 rfl (by omega) (by omega)
            subst sb_x164pl
            have sb_x164cm := FG.eq xc_x164 e_165 rfl (by omega) (by omega)
            subst sb_x164cm
            have sb_x164wt := FG.eq xt_x164 e_165 rfl (by omega) (by omega)
            subst sb_x164wt
            have sb_x164ln := FG.eq xl_x164 e_165 rfl (by omega) (by omega)
            have hsg_x164 := hP_x164.2.1
            have sb_x164sm := FG.eq xm_x164 e_165 rfl (by omega) (by omega)
            refine aw_goto (tgt := 14) dX12_readsSum_163 (by decide) ?_
            refine aw_le ?_ (mih_14_15 _ (by omega) pl0_165 coy_165 wag_165 sd_y163 wa_y163 dp_y163 V_158 rfl (j_157) (⟨xg_x164, xs_x164, xw_x164, (FG.of e_165 rfl rfl), (FG.of e_165 rfl (by omega : le0_165 = ln)), (FG.of e_165 rfl rfl), (FG.of e_165 rfl rfl), hP_x164, ⟨by omega, by omega, by omega, by omega⟩, xa_x164, xb_x164, xd_x164, xe_x164, (FG.of e_165 rfl (by omega : say_165 = sm)), by omega⟩) (by omega) (by omega) (fun k hk => ((fs_y163 k hk).trans (qs_y147 k hk)).trans (i14_4 k hk)) (agr (agu i14_5 (by omega)) fa_y163 (by omega)) (SumE.more hSu fa_y163 f14_y163) (by omega))
            exact ⟨rfl, ⟨rfl, trivial⟩⟩
          · skip
            refine aw_iconst (v := 0) dX12_readsSum_81 (by decide) ?_
            refine aw_zreti dX12_readsSum_82 rfl (by first | exact Or.inl rfl | exact Or.inr rfl | assumption) (Nat.le_of_ble_eq_true rfl) (Nat.le_of_ble_eq_true rfl) ?_
            exact ⟨⟨(by first | exact Or.inl rfl | exact Or.inr rfl | assumption), Or.inl rfl⟩, rfl, j_157⟩
        · skip
          have nc_140 : ¬ (4 ≤ z_139) := fun z => c_140 ((nI_leI (a := 4) (b := z_139) (by omega) (by omega)).mpr z)
          refine aw_iconst (v := 1) dX12_readsSum_33 (by decide) ?_
          refine aw_goto (tgt := 38) dX12_readsSum_34 (by decide) ?_
          refine aw_callVv (J' := jX12_closesSums) (As := [.int 1]) (st := []) dX12_readsSum_38 tb_1259 ok_X12_closesSums ⟨_, e_17⟩ (by omega) rfl rfl (r_closesSums l D b N V14 hN cl i14_0.1 1 wag_2 (dep coy_2) g sd14 wa14 pl0_17 ln coy_17 wag_17 sg dp14 sl sf sh st sm sk ⟨xg_x16, xs_x16, xw_x16, (FG.of e_17 rfl rfl), (FG.of e_17 rfl (by omega : le0_17 = ln)), (FG.of e_17 rfl rfl), (FG.of e_17 rfl rfl), hP_x16, ⟨by omega, by omega, by omega, by omega⟩, xa_x16, xb_x16, xd_x16, xe_x16, (FG.of e_17 rfl (by omega : say_17 = sm)), by omega⟩ (by omega) (by omega) hbt14) rfl (Nat.le_of_ble_eq_true rfl) ⟨Nat.le_of_ble_eq_true rfl, Nat.le_of_ble_eq_true rfl, Nat.le_of_ble_eq_true rfl, Nat.le_of_ble_eq_true rfl⟩ (fun  N_170 V_169 q_171 => ?_)
          obtain ⟨h_167, rfl, q_166⟩ := q_171
          have j_168 := JR.trans i14_0 (JR.weak q_166 (Sub.cons LM0 (by decide) (by decide) (by decide) (Or.inl rfl) (Sub.cons (LMs LM0) (by decide) (by decide) (by decide) (Or.inr ⟨by decide, by decide⟩) (Sub.cons (LMs (LMs (LMs (LMs (LMs (LMs LM0)))))) (by decide) (by decide) (by decide) (Or.inr ⟨by decide, by decide⟩) Sub.nil))))
          obtain ⟨sd_y172, pl_y172, cm_y172, wt_y172, dp_y172, hX_y172, qp_y172, qb_y172, qw_y172, qs_y172, qd_y172, qa_y172, qe_y172, qn_y172⟩ := h_167
          obtain ⟨xg_x173, xs_x173, xw_x173, xp_x173, xl_x173, xc_x173, xt_x173, hP_x173, ⟨hB1_x173, hB2_x173, hB3_x173, hB4_x173⟩, xa_x173, xb_x173, xd_x173, xe_x173, xm_x173, hB5_x173⟩ := hX_y172
          obtain ⟨ftoldPeople_174, ftoldDoors_174, fwasDoors_174, ffault_174, fopen_174, flines_174, fmeantSet_174, fopenedNow_174, fvainNow_174, flowNow_174, fhighNow_174, fisKept_174, tad_174, pl0_174, le0_174, nu0_174, coy_174, wag_174, say_174, e_174, hntad_174, hnpl0_174, hnle0_174, hnnu0_174, hncoy_174, hnwag_174, hnsay_174⟩ := JR.get j_168 cm_100
          clear hntad_17 hnpl0_17 hnle0_17 hnnu0_17 hncoy_17 hnwag_17 hnsay_17
          have sb_x173pl := FG.eq xp_x173 e_174 rfl (by omega) (by omega)
          subst sb_x173pl
          have sb_x173cm := FG.eq xc_x173 e_174 rfl (by omega) (by omega)
          subst sb_x173cm
          have sb_x173wt := FG.eq xt_x173 e_174 rfl (by omega) (by omega)
          subst sb_x173wt
          have sb_x173ln := FG.eq xl_x173 e_174 rfl (by omega) (by omega)
          have hsg_x173 := hP_x173.2.1
          have sb_x173sm := FG.eq xm_x173 e_174 rfl (by omega) (by omega)
          refine aw_aload_n dX12_readsSum_41 rfl ?_
          refine aw_get dX12_readsSum_42 fl_X12_44 e_174 (by omega) rfl ?_
          refine aw_aload_n dX12_readsSum_45 rfl ?_
          refine aw_get dX12_readsSum_46 fl_X12_189 e_174 (by omega) rfl ?_
          refine aw_ldc (v := 1048576) dX12_readsSum_49 tb_1240 ?_
          refine aw_iload_n dX12_readsSum_51 rfl ?_
          refine aw_imul dX12_readsSum_52 ?_
          refine aw_eqi (y := nI (1048576 * z_139)) (pk_mul _ _) ?_
          refine aw_iast dX12_readsSum_53 xw_x173 (by omega) (vp_in_nI (n := wag_174) (by omega) (by omega)) ?_
          refine aw_upR j_168 cm_112 ⟨_, rfl⟩ (by decide) (WA LM0 (by decide) (by decide)) (fun V_175 j_175 k_175 e_175 => ?_)
          have e_176 : V_175 112 = cI D 260 (upd wa14 wag_174 (nI (1048576 * z_139))) := by rw [e_175, nI_clamp (n := wag_174) (by omega)]
          refine aw_aload_n dX12_readsSum_54 rfl ?_
          refine aw_aload_n dX12_readsSum_55 rfl ?_
          refine aw_get dX12_readsSum_56 fl_X12_189 ((k_175 _ (by decide)).trans e_174) (by omega) rfl ?_
          refine aw_iconst (v := 1) dX12_readsSum_59 (by decide) ?_
          refine aw_iadd dX12_readsSum_60 ?_
          refine aw_eqi (y := nI (wag_174 + 1)) (nI_add _ _) ?_
          refine aw_put dX12_readsSum_61 fp_X12_189 ((k_175 _ (by decide)).trans e_174) (by omega) rfl rfl (Nat.le_of_ble_eq_true rfl) rfl ?_
          refine aw_upR j_175 cm_100 ⟨_, _, _, _, _, _, _, _, _, _, _, _, tad_174, pl0_174, le0_174, nu0_174, coy_174, (wag_174 + 1), say_174, rfl, by omega, by omega, by omega, by omega, by omega, by omega, by omega⟩ (by decide) (WO (s := 20) (x := .int (nI (wag_174 + 1))) ((k_175 _ (by decide)).trans e_174) rfl (LMs (LMs (LMs (LMs (LMs (LMs LM0)))))) (by decide) (by decide) (by decide) (Or.inl (by decide))) (fun V_177 j_177 k_177 e_177 => ?_)
          refine aw_aload_n dX12_readsSum_64 rfl ?_
          refine aw_aload_n dX12_readsSum_65 rfl ?_
          refine aw_get dX12_readsSum_66 fl_X12_159 e_177 (by omega) rfl ?_
          refine aw_iconst (v := 1) dX12_readsSum_69 (by decide) ?_
          refine aw_iadd dX12_readsSum_70 ?_
          refine aw_eqi (y := nI (pl0_174 + 1)) (nI_add _ _) ?_
          refine aw_put dX12_readsSum_71 fp_X12_159 e_177 (by omega) rfl rfl (Nat.le_of_ble_eq_true rfl) rfl ?_
          refine aw_upR j_177 cm_100 ⟨_, _, _, _, _, _, _, _, _, _, _, _, tad_174, (pl0_174 + 1), le0_174, nu0_174, coy_174, (wag_174 + 1), say_174, rfl, by omega, by omega, by omega, by omega, by omega, by omega, by omega⟩ (by decide) (WO (s := 14) (x := .int (nI (pl0_174 + 1))) e_177 rfl (LMs (LMs LM0)) (by decide) (by decide) (by decide) (Or.inl (by decide))) (fun V_178 j_178 k_178 e_178 => ?_)
          have hpu := wgt_pushc (wa := wa14) (w := wag_174) (n := wag_2) (z := z_139) (by omega) (by omega)
          rw [if_pos (by omega)] at hpu
          have hPu := PS.push hP_x173 z_139 (by omega) (by omega) (by omega)
          have hSu := (SumE.sub i14_6 (by omega : wag_174 ≤ wag_17)).push (z := z_139) (by omega)
          refine aw_aload_n dX12_readsSum_74 rfl ?_
          refine aw_callVi (J' := jX12_readsFactor) (As := []) (st := []) dX12_readsSum_75 tb_1232 ok_X12_readsFactor ⟨_, e_178⟩ (by omega) rfl rfl (r_readsFactor l D b N V_178 hN cl j_178.1 wag_2 (dep coy_2) g sd_y172 (upd wa14 wag_174 (nI (1048576 * z_139))) (pl0_174 + 1) ln coy_174 (wag_174 + 1) sg dp_y172 sl sf sh st sm sk ⟨((k_178 _ (by decide)).trans ((k_177 _ (by decide)).trans ((k_175 _ (by decide)).trans xg_x173))), ((k_178 _ (by decide)).trans ((k_177 _ (by decide)).trans ((k_175 _ (by decide)).trans xs_x173))), ((k_178 _ (by decide)).trans ((k_177 _ (by decide)).trans e_176)), (FG.of e_178 rfl rfl), (FG.of e_178 rfl (by omega : le0_174 = ln)), (FG.of e_178 rfl rfl), (FG.of e_178 rfl rfl), hPu, ⟨by omega, by omega, by omega, by omega⟩, ((k_178 _ (by decide)).trans ((k_177 _ (by decide)).trans ((k_175 _ (by decide)).trans xa_x173))), ((k_178 _ (by decide)).trans ((k_177 _ (by decide)).trans ((k_175 _ (by decide)).trans xb_x173))), ((k_178 _ (by decide)).trans ((k_177 _ (by decide)).trans ((k_175 _ (by decide)).trans xd_x173))), ((k_178 _ (by decide)).trans ((k_177 _ (by decide)).trans ((k_175 _ (by decide)).trans xe_x173))), (FG.of e_178 rfl (by omega : say_174 = sm)), by omega⟩ (by omega) (by omega)) rfl (Nat.le_of_ble_eq_true rfl) ⟨Nat.le_of_ble_eq_true rfl, Nat.le_of_ble_eq_true rfl, Nat.le_of_ble_eq_true rfl, Nat.le_of_ble_eq_true rfl⟩ (fun r_184 N_185 V_183 q_186 => ?_)
          obtain ⟨⟨z_181, h_180⟩, rfl, q_179⟩ := q_186
          have j_182 := JR.trans j_178 (JR.weak q_179 (Sub.cons LM0 (by decide) (by decide) (by decide) (Or.inl rfl) (Sub.cons (LMs LM0) (by decide) (by decide) (by decide) (Or.inr ⟨by decide, by decide⟩) (Sub.cons (LMs (LMs LM0)) (by decide) (by decide) (by decide) (Or.inr ⟨by decide, by decide⟩) (Sub.cons (LMs (LMs (LMs LM0))) (by decide) (by decide) (by decide) (Or.inr ⟨by decide, by decide⟩) (Sub.cons (LMs (LMs (LMs (LMs LM0)))) (by decide) (by decide) (by decide) (Or.inr ⟨by decide, by decide⟩) (Sub.cons (LMs (LMs (LMs (LMs (LMs LM0))))) (by decide) (by decide) (by decide) (Or.inr ⟨by decide, by decide⟩) (Sub.cons (LMs (LMs (LMs (LMs (LMs (LMs LM0)))))) (by decide) (by decide) (by decide) (Or.inr ⟨by decide, by decide⟩) Sub.nil))))))))
          refine aw_if_ne (tgt := 163) dX12_readsSum_78 (by decide) (fun c_187 => ?_) (fun c_187 => ?_)
          · skip
            obtain ⟨sd_y188, wa_y188, pl_y188, cm_y188, wt_y188, dp_y188, hX_y188, fw_y188, fa_y188, f14_y188, fs_y188, fd_y188, fp_y188⟩ := (h_180.resolve_left c_187)
            obtain ⟨xg_x189, xs_x189, xw_x189, xp_x189, xl_x189, xc_x189, xt_x189, hP_x189, ⟨hB1_x189, hB2_x189, hB3_x189, hB4_x189⟩, xa_x189, xb_x189, xd_x189, xe_x189, xm_x189, hB5_x189⟩ := hX_y188
            obtain ⟨ftoldPeople_190, ftoldDoors_190, fwasDoors_190, ffault_190, fopen_190, flines_190, fmeantSet_190, fopenedNow_190, fvainNow_190, flowNow_190, fhighNow_190, fisKept_190, tad_190, pl0_190, le0_190, nu0_190, coy_190, wag_190, say_190, e_190, hntad_190, hnpl0_190, hnle0_190, hnnu0_190, hncoy_190, hnwag_190, hnsay_190⟩ := JR.get j_182 cm_100
            clear hntad_174 hnpl0_174 hnle0_174 hnnu0_174 hncoy_174 hnwag_174 hnsay_174
            have sb_x189pl := FG.eq xp_x189 e_190 rfl (by omega) (by omega)
            subst sb_x189pl
            have sb_x189cm := FG.eq xc_x189 e_190 rfl (by omega) (by omega)
            subst sb_x189cm
            have sb_x189wt := FG.eq xt_x189 e_190 rfl (by omega) (by omega)
            subst sb_x189wt
            have sb_x189ln := FG.eq xl_x189 e_190 rfl (by omega) (by omega)
            have hsg_x189 := hP_x189.2.1
            have sb_x189sm := FG.eq xm_x189 e_190 rfl (by omega) (by omega)
            refine aw_goto (tgt := 14) dX12_readsSum_163 (by decide) ?_
            refine aw_le ?_ (mih_14_15 _ (by omega) pl0_190 coy_190 wag_190 sd_y188 wa_y188 dp_y188 V_183 rfl (j_182) (⟨xg_x189, xs_x189, xw_x189, (FG.of e_190 rfl rfl), (FG.of e_190 rfl (by omega : le0_190 = ln)), (FG.of e_190 rfl rfl), (FG.of e_190 rfl rfl), hP_x189, ⟨by omega, by omega, by omega, by omega⟩, xa_x189, xb_x189, xd_x189, xe_x189, (FG.of e_190 rfl (by omega : say_190 = sm)), by omega⟩) (by omega) (by omega) (fun k hk => ((fs_y188 k hk).trans (qs_y172 k hk)).trans (i14_4 k hk)) (agr (agu i14_5 (by omega)) fa_y188 (by omega)) (SumE.more hSu fa_y188 f14_y188) (by omega))
            exact ⟨rfl, ⟨rfl, trivial⟩⟩
          · skip
            refine aw_iconst (v := 0) dX12_readsSum_81 (by decide) ?_
            refine aw_zreti dX12_readsSum_82 rfl (by first | exact Or.inl rfl | exact Or.inr rfl | assumption) (Nat.le_of_ble_eq_true rfl) (Nat.le_of_ble_eq_true rfl) ?_
            exact ⟨⟨(by first | exact Or.inl rfl | exact Or.inr rfl | assumption), Or.inl rfl⟩, rfl, j_182⟩
    refine aw_le ?_ (ml_14_15 _ pl0_14 coy_14 wag_14 sd_y12 wa_y12 dp_y12 V_7 rfl (j_6) (⟨xg_x13, xs_x13, xw_x13, (FG.of e_14 rfl rfl), (FG.of e_14 rfl (by omega : le0_14 = ln)), (FG.of e_14 rfl rfl), (FG.of e_14 rfl rfl), hP_x13, ⟨by omega, by omega, by omega, by omega⟩, xa_x13, xb_x13, xd_x13, xe_x13, (FG.of e_14 rfl (by omega : say_14 = sm)), by omega⟩) (by omega) (by omega) (fs_y12) (fa_y12) (fun i h1 h2 => Or.inr (f14_y12 i h1 (by omega))) (by omega))
    exact ⟨rfl, ⟨rfl, trivial⟩⟩
  · skip
    refine aw_iconst (v := 0) dX12_readsSum_12 (by decide) ?_
    refine aw_zreti dX12_readsSum_13 rfl (by first | exact Or.inl rfl | exact Or.inr rfl | assumption) (Nat.le_of_ble_eq_true rfl) (Nat.le_of_ble_eq_true rfl) ?_
    exact ⟨⟨(by first | exact Or.inl rfl | exact Or.inr rfl | assumption), Or.inl rfl⟩, rfl, j_6⟩
