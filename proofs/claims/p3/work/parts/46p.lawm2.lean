set_option maxHeartbeats 4000000 in
set_option maxRecDepth 100000 in
theorem r_readsSum3 (l : Launch) (D : va_G) (b : Nat) (N : Nat) (V : Wd) (hN : 133 ≤ N) (cl : Nat) (hW : CR D b cl V)   (g sd wa : Nat → Int32) (pl ln cm wt sg : Nat) (dep : Nat → Nat) (sl sf sh st : Nat → Int32) (sm sk : Nat) (hX : PX D b V g pl ln cm wt sg sd wa dep sl sf sh st sm sk) (s : List Nat) (hO : fI (V 100) 18 = nI (dpt s)) (hO6 : (dpt s) ≤ 6) (hbt : wt = 0 ∨ 10 ≤ opOf (wa (wt - 1))) : MI l D b 4 jX12_readsSum [.ref (b + 100)] N V 0 0 (fun r N9 V9 => ((r = 0 ∨ r = 1) ∧ ((r = 0 ∧ ∃ f, fI (V9 100) 16 = f ∧ RES (gb g) ln (0, pl, s) (.inl f)) ∨ (r = 1 ∧ (∃ (sd9 wa9 : Nat → Int32) (pl9 cm9 wt9 : Nat) (dep9 : Nat → Nat), PX D b V9 g pl9 ln cm9 wt9 sg sd9 wa9 dep9 sl sf sh st sm sk ∧ wt9 = wt ∧ (∀ i, i < wt → wa9 i = wa i) ∧ (∀ k, k < sg → sd9 k = sd k) ∧ dep9 cm9 = dep cm + 1 ∧ pl < pl9 ∧ fI (V9 100) 18 = nI (dpt s) ∧ (∀ o, RES (gb g) ln (1, pl9, s) o → RES (gb g) ln (0, pl, s) o) ∧ opr (hd (gb g) ln pl9) = false)))) ∧ N = N9 ∧ JR D b N cl [(111, 112, 0, 1000000), (100, 100, 19, 19), (100, 100, 14, 14), (100, 100, 16, 16), (100, 100, 17, 17), (100, 100, 18, 18), (100, 100, 20, 20)] V V9) := by
  have hJ0 : JR D b N cl [(111, 112, 0, 1000000), (100, 100, 19, 19), (100, 100, 14, 14), (100, 100, 16, 16), (100, 100, 17, 17), (100, 100, 18, 18), (100, 100, 20, 20)] V V := JR.rf hW
  refine mw_of (by decide) (by simp [Value.category]) (Nat.le_of_ble_eq_true rfl) ?_
  show AW l D b jX12_readsSum (fx_rm 4 0 0) none (fx_MQ D b 0 0 (fx_qi (fun r N9 V9 => ((r = 0 ∨ r = 1) ∧ ((r = 0 ∧ ∃ f, fI (V9 100) 16 = f ∧ RES (gb g) ln (0, pl, s) (.inl f)) ∨ (r = 1 ∧ (∃ (sd9 wa9 : Nat → Int32) (pl9 cm9 wt9 : Nat) (dep9 : Nat → Nat), PX D b V9 g pl9 ln cm9 wt9 sg sd9 wa9 dep9 sl sf sh st sm sk ∧ wt9 = wt ∧ (∀ i, i < wt → wa9 i = wa i) ∧ (∀ k, k < sg → sd9 k = sd k) ∧ dep9 cm9 = dep cm + 1 ∧ pl < pl9 ∧ fI (V9 100) 18 = nI (dpt s) ∧ (∀ o, RES (gb g) ln (1, pl9, s) o → RES (gb g) ln (0, pl, s) o) ∧ opr (hd (gb g) ln pl9) = false)))) ∧ N = N9 ∧ JR D b N cl [(111, 112, 0, 1000000), (100, 100, 19, 19), (100, 100, 14, 14), (100, 100, 16, 16), (100, 100, 17, 17), (100, 100, 18, 18), (100, 100, 20, 20)] V V9))) 0 [some (.ref (b + 100)), none, none] [] N V 0 0
  obtain ⟨xg_x1, xs_x1, xw_x1, xp_x1, xl_x1, xc_x1, xt_x1, hP_x1, ⟨hB1_x1, hB2_x1, hB3_x1, hB4_x1⟩, xa_x1, xb_x1, xd_x1, xe_x1, xm_x1, hB5_x1⟩ := id hX
  obtain ⟨ftoldPeople_2, ftoldDoors_2, fwasDoors_2, ffault_2, fopen_2, flines_2, fmeantSet_2, fopenedNow_2, fvainNow_2, flowNow_2, fhighNow_2, fisKept_2, tad_2, pl0_2, le0_2, nu0_2, coy_2, wag_2, say_2, e_2, hntad_2, hnpl0_2, hnle0_2, hnnu0_2, hncoy_2, hnwag_2, hnsay_2⟩ := JR.get hJ0 cm_100
  have sb_x1pl := FG.eq xp_x1 e_2 rfl (by omega) (by omega)
  subst sb_x1pl
  have sb_x1cm := FG.eq xc_x1 e_2 rfl (by omega) (by omega)
  subst sb_x1cm
  have sb_x1wt := FG.eq xt_x1 e_2 rfl (by omega) (by omega)
  subst sb_x1wt
  have sb_x1ln := FG.eq xl_x1 e_2 rfl (by omega) (by omega)
  have hsg_x1 := hP_x1.2.1
  have sb_x1sm := FG.eq xm_x1 e_2 rfl (by omega) (by omega)
  have hof_3 : fopen_2 = nI (dpt s) := ((congrArg (fun z => fI z 18) e_2).trans rfl).symm.trans hO
  subst hof_3
  refine aw_aload_n dX12_readsSum_0 rfl ?_
  refine aw_get dX12_readsSum_1 fl_X12_189 e_2 (by omega) rfl ?_
  refine aw_istore_n (ls' := [some (.ref (b + 100)), some (.int (nI wag_2)), none]) dX12_readsSum_4 (Nat.le_of_ble_eq_true rfl) rfl ?_
  refine aw_aload_n dX12_readsSum_5 rfl ?_
  refine aw_callVi (J' := jX12_readsFactor) (As := []) (st := []) dX12_readsSum_6 tb_1232 ok_X12_readsFactor ⟨_, e_2⟩ (by omega) rfl rfl (r_readsFactor3 l D b N V hN cl hJ0.1 wag_2 (dep coy_2) g sd wa pl0_2 ln coy_2 wag_2 sg dep sl sf sh st sm sk ⟨xg_x1, xs_x1, xw_x1, (FG.of e_2 rfl rfl), (FG.of e_2 rfl (by omega : le0_2 = ln)), (FG.of e_2 rfl rfl), (FG.of e_2 rfl rfl), hP_x1, ⟨by omega, by omega, by omega, by omega⟩, xa_x1, xb_x1, xd_x1, xe_x1, (FG.of e_2 rfl (by omega : say_2 = sm)), by omega⟩ s (((congrArg (fun z => fI z 18) e_2).trans rfl).trans (congrArg nI rfl)) (by have h9 : (dpt s) = (dpt s) := rfl; omega) (by omega) (by omega)) rfl (Nat.le_of_ble_eq_true rfl) ⟨Nat.le_of_ble_eq_true rfl, Nat.le_of_ble_eq_true rfl, Nat.le_of_ble_eq_true rfl, Nat.le_of_ble_eq_true rfl⟩ (fun r_9 N_10 V_8 q_11 => ?_)
  obtain ⟨⟨z_6, h_5⟩, rfl, q_4⟩ := q_11
  have j_7 := JR.trans hJ0 (JR.weak q_4 (Sub.cons LM0 (by decide) (by decide) (by decide) (Or.inl rfl) (Sub.cons (LMs LM0) (by decide) (by decide) (by decide) (Or.inr ⟨by decide, by decide⟩) (Sub.cons (LMs (LMs LM0)) (by decide) (by decide) (by decide) (Or.inr ⟨by decide, by decide⟩) (Sub.cons (LMs (LMs (LMs LM0))) (by decide) (by decide) (by decide) (Or.inr ⟨by decide, by decide⟩) (Sub.cons (LMs (LMs (LMs (LMs LM0)))) (by decide) (by decide) (by decide) (Or.inr ⟨by decide, by decide⟩) (Sub.cons (LMs (LMs (LMs (LMs (LMs LM0))))) (by decide) (by decide) (by decide) (Or.inr ⟨by decide, by decide⟩) (Sub.cons (LMs (LMs (LMs (LMs (LMs (LMs LM0)))))) (by decide) (by decide) (by decide) (Or.inr ⟨by decide, by decide⟩) Sub.nil))))))))
  refine aw_if_ne (tgt := 14) dX12_readsSum_9 (by decide) (fun c_12 => ?_) (fun c_12 => ?_)
  · skip
    obtain ⟨sd_y13, wa_y13, pl_y13, cm_y13, wt_y13, dp_y13, hX_y13, fw_y13, fa_y13, f14_y13, fs_y13, fd_y13, fp_y13, oo_y13, o6_y13, fr_y13⟩ := ((h_5.imp And.left And.right).resolve_left c_12)
    obtain ⟨xg_x14, xs_x14, xw_x14, xp_x14, xl_x14, xc_x14, xt_x14, hP_x14, ⟨hB1_x14, hB2_x14, hB3_x14, hB4_x14⟩, xa_x14, xb_x14, xd_x14, xe_x14, xm_x14, hB5_x14⟩ := hX_y13
    obtain ⟨ftoldPeople_15, ftoldDoors_15, fwasDoors_15, ffault_15, fopen_15, flines_15, fmeantSet_15, fopenedNow_15, fvainNow_15, flowNow_15, fhighNow_15, fisKept_15, tad_15, pl0_15, le0_15, nu0_15, coy_15, wag_15, say_15, e_15, hntad_15, hnpl0_15, hnle0_15, hnnu0_15, hncoy_15, hnwag_15, hnsay_15⟩ := JR.get j_7 cm_100
    clear hntad_2 hnpl0_2 hnle0_2 hnnu0_2 hncoy_2 hnwag_2 hnsay_2
    have sb_x14pl := FG.eq xp_x14 e_15 rfl (by omega) (by omega)
    subst sb_x14pl
    have sb_x14cm := FG.eq xc_x14 e_15 rfl (by omega) (by omega)
    subst sb_x14cm
    have sb_x14wt := FG.eq xt_x14 e_15 rfl (by omega) (by omega)
    subst sb_x14wt
    have sb_x14ln := FG.eq xl_x14 e_15 rfl (by omega) (by omega)
    have hsg_x14 := hP_x14.2.1
    have sb_x14sm := FG.eq xm_x14 e_15 rfl (by omega) (by omega)
    have hof_16 : fopen_15 = nI (dpt s + (wag_15 - wag_2)) := ((congrArg (fun z => fI z 18) e_15).trans rfl).symm.trans oo_y13
    subst hof_16
    have ml_14_17 : ∀ (m : Nat) (p14 : Nat) (c14 : Nat) (w14 : Nat) (sd14 : Nat → Int32) (wa14 : Nat → Int32) (dp14 : Nat → Nat) (V14 : Wd), m = 240 - p14 → (JR D b N cl [(111, 112, 0, 1000000), (100, 100, 19, 19), (100, 100, 14, 14), (100, 100, 16, 16), (100, 100, 17, 17), (100, 100, 18, 18), (100, 100, 20, 20)] V V14) → (PX D b V14 g p14 ln c14 w14 sg sd14 wa14 dp14 sl sf sh st sm sk) → (pl0_2 < p14) → (wag_2 ≤ w14) → (∀ k, k < sg → sd14 k = sd k) → (∀ i, i < wag_2 → wa14 i = wa i) → (SumE wa14 wag_2 w14) → (dp14 c14 + wgt wa14 wag_2 = dep coy_2 + wgt wa14 w14 + 1) → (fI (V14 100) 18 = nI (dpt s + k14 wa14 wag_2 w14)) → (dpt s + k14 wa14 wag_2 w14 ≤ 6) → (∀ o, RES (gb g) ln (1, p14, rp (k14 wa14 wag_2 w14) s) o → RES (gb g) ln (0, pl0_2, s) o) → AW l D b jX12_readsSum (fx_rm 4 0 0) none (fx_MQ D b 0 0 (fx_qi (fun r N9 V9 => ((r = 0 ∨ r = 1) ∧ ((r = 0 ∧ ∃ f, fI (V9 100) 16 = f ∧ RES (gb g) ln (0, pl0_2, s) (.inl f)) ∨ (r = 1 ∧ (∃ (sd9 wa9 : Nat → Int32) (pl9 cm9 wt9 : Nat) (dep9 : Nat → Nat), PX D b V9 g pl9 ln cm9 wt9 sg sd9 wa9 dep9 sl sf sh st sm sk ∧ wt9 = wag_2 ∧ (∀ i, i < wag_2 → wa9 i = wa i) ∧ (∀ k, k < sg → sd9 k = sd k) ∧ dep9 cm9 = dep coy_2 + 1 ∧ pl0_2 < pl9 ∧ fI (V9 100) 18 = nI (dpt s) ∧ (∀ o, RES (gb g) ln (1, pl9, s) o → RES (gb g) ln (0, pl0_2, s) o) ∧ opr (hd (gb g) ln pl9) = false)))) ∧ N = N9 ∧ JR D b N cl [(111, 112, 0, 1000000), (100, 100, 19, 19), (100, 100, 14, 14), (100, 100, 16, 16), (100, 100, 17, 17), (100, 100, 18, 18), (100, 100, 20, 20)] V V9))) 14 [some (.ref (b + 100)), some (.int (nI wag_2)), none] [] N V14 0 0 := by
      intro m; refine Nat.strongRecOn m ?_
      intro m mih_14_17 p14 c14 w14 sd14 wa14 dp14 V14 hm14 i14_0 i14_1 i14_2 i14_3 i14_4 i14_5 i14_6 i14_7 i14_8 i14_9 i14_10
      obtain ⟨xg_x18, xs_x18, xw_x18, xp_x18, xl_x18, xc_x18, xt_x18, hP_x18, ⟨hB1_x18, hB2_x18, hB3_x18, hB4_x18⟩, xa_x18, xb_x18, xd_x18, xe_x18, xm_x18, hB5_x18⟩ := i14_1
      obtain ⟨ftoldPeople_19, ftoldDoors_19, fwasDoors_19, ffault_19, fopen_19, flines_19, fmeantSet_19, fopenedNow_19, fvainNow_19, flowNow_19, fhighNow_19, fisKept_19, tad_19, pl0_19, le0_19, nu0_19, coy_19, wag_19, say_19, e_19, hntad_19, hnpl0_19, hnle0_19, hnnu0_19, hncoy_19, hnwag_19, hnsay_19⟩ := JR.get i14_0 cm_100
      clear hntad_15 hnpl0_15 hnle0_15 hnnu0_15 hncoy_15 hnwag_15 hnsay_15
      have sb_x18pl := FG.eq xp_x18 e_19 rfl (by omega) (by omega)
      subst sb_x18pl
      have sb_x18cm := FG.eq xc_x18 e_19 rfl (by omega) (by omega)
      subst sb_x18cm
      have sb_x18wt := FG.eq xt_x18 e_19 rfl (by omega) (by omega)
      subst sb_x18wt
      have sb_x18ln := FG.eq xl_x18 e_19 rfl (by omega) (by omega)
      have hsg_x18 := hP_x18.2.1
      have sb_x18sm := FG.eq xm_x18 e_19 rfl (by omega) (by omega)
      have hbt14 : wag_2 = 0 ∨ 10 ≤ opOf (wa14 (wag_2 - 1)) := by rcases Nat.eq_zero_or_pos wag_2 with q | q; exact Or.inl q; exact Or.inr (by rw [i14_5 (wag_2 - 1) (by omega)]; exact hbt.resolve_left (by omega))
      have hof_20 : fopen_19 = nI (dpt s + (k14 wa14 wag_2 wag_19)) := ((congrArg (fun z => fI z 18) e_19).trans rfl).symm.trans i14_8
      subst hof_20
      refine aw_aload_n dX12_readsSum_14 rfl ?_
      refine aw_callVi (J' := jX12_here) (As := []) (st := []) dX12_readsSum_15 tb_1220 ok_X12_here ⟨_, e_19⟩ (by omega) rfl rfl (r_here l D b N V14 hN cl i14_0.1 g xg_x18 pl0_19 le0_19 (FG.of e_19 rfl rfl) (FG.of e_19 rfl rfl) ⟨by omega, by omega⟩) rfl (Nat.le_of_ble_eq_true rfl) ⟨Nat.le_of_ble_eq_true rfl, Nat.le_of_ble_eq_true rfl, Nat.le_of_ble_eq_true rfl, Nat.le_of_ble_eq_true rfl⟩ (fun r_23 N_24 V_25 q_26 => ?_)
      obtain ⟨h_22, rfl, rfl⟩ := q_26
      refine aw_callSi (J' := jX12_sumSign) (As := [.int r_23]) (st := []) dX12_readsSum_18 tb_1256 ok_X12_sumSign rfl (r_sumSign3 l D b N V14 hN cl i14_0.1 r_23) rfl (Nat.le_of_ble_eq_true rfl) ⟨Nat.le_of_ble_eq_true rfl, Nat.le_of_ble_eq_true rfl, Nat.le_of_ble_eq_true rfl, Nat.le_of_ble_eq_true rfl⟩ (fun r_29 N_30 V_31 q_32 => ?_)
      obtain ⟨h_28, rfl, rfl⟩ := q_32
      refine aw_istore_n (ls' := [some (.ref (b + 100)), some (.int (nI wag_2)), some (.int r_29)]) dX12_readsSum_21 (Nat.le_of_ble_eq_true rfl) rfl ?_
      refine aw_iload_n dX12_readsSum_22 rfl ?_
      refine aw_iconst (v := (-1)) dX12_readsSum_23 (by decide) ?_
      refine aw_icmp_eq (tgt := 83) dX12_readsSum_24 (by decide) (fun c_33 => ?_) (fun c_33 => ?_)
      · skip
        refine aw_aload_n dX12_readsSum_83 rfl ?_
        refine aw_callVi (J' := jX12_here) (As := []) (st := []) dX12_readsSum_84 tb_1220 ok_X12_here ⟨_, e_19⟩ (by omega) rfl rfl (r_here l D b N V14 hN cl i14_0.1 g xg_x18 pl0_19 le0_19 (FG.of e_19 rfl rfl) (FG.of e_19 rfl rfl) ⟨by omega, by omega⟩) rfl (Nat.le_of_ble_eq_true rfl) ⟨Nat.le_of_ble_eq_true rfl, Nat.le_of_ble_eq_true rfl, Nat.le_of_ble_eq_true rfl, Nat.le_of_ble_eq_true rfl⟩ (fun r_36 N_37 V_38 q_39 => ?_)
        obtain ⟨h_35, rfl, rfl⟩ := q_39
        refine aw_bipush (v := 93) dX12_readsSum_87 (by decide) ?_
        refine aw_icmp_ne (tgt := 138) dX12_readsSum_89 (by decide) (fun c_40 => ?_) (fun c_40 => ?_)
        · skip
          refine aw_aload_n dX12_readsSum_138 rfl ?_
          refine aw_iload_n dX12_readsSum_139 rfl ?_
          refine aw_callVi (J' := jX12_hasOpenSum) (As := [.int (nI wag_2)]) (st := []) dX12_readsSum_140 tb_1267 ok_X12_hasOpenSum ⟨_, e_19⟩ (by omega) rfl rfl (r_hasOpenSum l D b N V14 hN cl i14_0.1 (nI wag_2) wag_2 ftoldPeople_19 ftoldDoors_19 fwasDoors_19 ffault_19 (nI (dpt s + (k14 wa14 wag_2 wag_19))) flines_19 fmeantSet_19 fopenedNow_19 fvainNow_19 flowNow_19 fhighNow_19 fisKept_19 tad_19 pl0_19 le0_19 nu0_19 coy_19 wag_19 say_19 ⟨by omega, by omega, by omega, by omega, by omega, by omega, by omega⟩ e_19 wa14 xw_x18 (by omega) (fun i hi => by obtain ⟨o, a, e1, e2, e3, e4, _⟩ := hP_x18.2.2.2.2 i hi; exact ⟨o, a, e1, e2, e3, e4⟩)) rfl (Nat.le_of_ble_eq_true rfl) ⟨Nat.le_of_ble_eq_true rfl, Nat.le_of_ble_eq_true rfl, Nat.le_of_ble_eq_true rfl, Nat.le_of_ble_eq_true rfl⟩ (fun r_44 N_45 V_46 q_47 => ?_)
          obtain ⟨⟨z_43, h_42⟩, rfl, rfl⟩ := q_47
          rcases h_42.imp (fun z => (⟨z.2, z.1⟩ : _ ∧ _)) (fun z => (⟨z.2, z.1⟩ : _ ∧ _)) with ⟨g_48, e_49⟩ | ⟨g_50, e_51⟩
          · skip
            refine aw_eqi (y := 0) e_49 ?_
            refine aw_if_eq (tgt := 156) dX12_readsSum_143 (by decide) (fun c_52 => ?_) (fun c_52 => ?_)
            rotate_left
            · exact absurd (by decide) c_52
            have hk0 : (k14 wa14 wag_2 wag_19) = 0 := k14_zero g_48
            refine aw_aload_n dX12_readsSum_156 rfl ?_
            refine aw_iconst (v := 1) dX12_readsSum_157 (by decide) ?_
            refine aw_callVv (J' := jX12_closesSums) (As := [.int 1]) (st := []) dX12_readsSum_158 tb_1259 ok_X12_closesSums ⟨_, e_19⟩ (by omega) rfl rfl (r_closesSums l D b N V14 hN cl i14_0.1 1 wag_2 (dep coy_2) g sd14 wa14 pl0_19 ln coy_19 wag_19 sg dp14 sl sf sh st sm sk ⟨xg_x18, xs_x18, xw_x18, (FG.of e_19 rfl rfl), (FG.of e_19 rfl (by omega : le0_19 = ln)), (FG.of e_19 rfl rfl), (FG.of e_19 rfl rfl), hP_x18, ⟨by omega, by omega, by omega, by omega⟩, xa_x18, xb_x18, xd_x18, xe_x18, (FG.of e_19 rfl (by omega : say_19 = sm)), by omega⟩ (by omega) (by omega) hbt14) rfl (Nat.le_of_ble_eq_true rfl) ⟨Nat.le_of_ble_eq_true rfl, Nat.le_of_ble_eq_true rfl, Nat.le_of_ble_eq_true rfl, Nat.le_of_ble_eq_true rfl⟩ (fun  N_57 V_56 q_58 => ?_)
            obtain ⟨h_54, rfl, q_53⟩ := q_58
            have j_55 := JR.trans i14_0 (JR.weak q_53 (Sub.cons LM0 (by decide) (by decide) (by decide) (Or.inl rfl) (Sub.cons (LMs LM0) (by decide) (by decide) (by decide) (Or.inr ⟨by decide, by decide⟩) (Sub.cons (LMs (LMs (LMs (LMs (LMs (LMs LM0)))))) (by decide) (by decide) (by decide) (Or.inr ⟨by decide, by decide⟩) Sub.nil))))
            obtain ⟨sd_y59, pl_y59, cm_y59, wt_y59, dp_y59, hX_y59, qp_y59, qb_y59, qw_y59, qs_y59, qd_y59, qa_y59, qe_y59, qn_y59⟩ := h_54
            obtain ⟨xg_x60, xs_x60, xw_x60, xp_x60, xl_x60, xc_x60, xt_x60, hP_x60, ⟨hB1_x60, hB2_x60, hB3_x60, hB4_x60⟩, xa_x60, xb_x60, xd_x60, xe_x60, xm_x60, hB5_x60⟩ := hX_y59
            obtain ⟨ftoldPeople_61, ftoldDoors_61, fwasDoors_61, ffault_61, fopen_61, flines_61, fmeantSet_61, fopenedNow_61, fvainNow_61, flowNow_61, fhighNow_61, fisKept_61, tad_61, pl0_61, le0_61, nu0_61, coy_61, wag_61, say_61, e_61, hntad_61, hnpl0_61, hnle0_61, hnnu0_61, hncoy_61, hnwag_61, hnsay_61⟩ := JR.get j_55 cm_100
            clear hntad_19 hnpl0_19 hnle0_19 hnnu0_19 hncoy_19 hnwag_19 hnsay_19
            have sb_x60pl := FG.eq xp_x60 e_61 rfl (by omega) (by omega)
            subst sb_x60pl
            have sb_x60cm := FG.eq xc_x60 e_61 rfl (by omega) (by omega)
            subst sb_x60cm
            have sb_x60wt := FG.eq xt_x60 e_61 rfl (by omega) (by omega)
            subst sb_x60wt
            have sb_x60ln := FG.eq xl_x60 e_61 rfl (by omega) (by omega)
            have hsg_x60 := hP_x60.2.1
            have sb_x60sm := FG.eq xm_x60 e_61 rfl (by omega) (by omega)
            have hof_62 : fopen_61 = nI (dpt s + (k14 wa14 wag_2 wag_19)) := ((congrArg (fun z => fI z 18) e_61).trans rfl).symm.trans ((JR.fI q_53 (by decide) (by decide) (nfc (by omega) (nfc (by omega) (nfc (by omega) nf0)))).trans ((congrArg (fun z => fI z 18) e_19).trans rfl))
            subst hof_62
            have hqn := qn_y59.resolve_left (by decide)
            have hend : wag_61 = wag_2 := by rcases Nat.lt_or_ge wag_2 wag_61 with q | q; (obtain ⟨o9, a9, he9, ha9, h29, h149, _⟩ := PS.top hP_x60 (by omega); have ho9 : opOf (wa14 (wag_61 - 1)) = o9 := (by rw [he9]; exact opOf_nI (by omega) (by omega)); have hte := i14_6 (wag_61 - 1) (by omega) (by omega); have hne := g_48 (wag_61 - 1) (by omega) (by omega); omega); omega
            refine aw_iconst (v := 1) dX12_readsSum_161 (by decide) ?_
            refine aw_zreti dX12_readsSum_162 rfl (by first | exact Or.inl rfl | exact Or.inr rfl | assumption) (Nat.le_of_ble_eq_true rfl) (Nat.le_of_ble_eq_true rfl) ?_
            exact ⟨⟨(by first | exact Or.inl rfl | exact Or.inr rfl | assumption), Or.inr ⟨rfl, ⟨sd_y59, wa14, pl0_61, coy_61, wag_61, dp_y59, ⟨xg_x60, xs_x60, xw_x60, (FG.of e_61 rfl rfl), (FG.of e_61 rfl (by omega : le0_61 = ln)), (FG.of e_61 rfl rfl), (FG.of e_61 rfl rfl), hP_x60, ⟨by omega, by omega, by omega, by omega⟩, xa_x60, xb_x60, xd_x60, xe_x60, (FG.of e_61 rfl (by omega : say_61 = sm)), by omega⟩, hend, i14_5, (fun k hk => (qs_y59 k hk).trans (i14_4 k hk)), (by have e9 : wgt wa14 wag_61 = wgt wa14 wag_2 := congrArg _ hend; omega), by omega, (((congrArg (fun z => fI z 18) e_61).trans rfl)).trans (congrArg nI (by omega)), (fun o q => i14_10 o (by rw [hk0]; rw [qp_y59] at q; exact q)), (by rw [qp_y59]; exact ((congrArg opr (hd_eqr sb_x18ln rfl h_22)).symm.trans ((h_28.2.resolve_right (fun z => z.1 c_33)).2)))⟩⟩⟩, rfl, j_55⟩
          · skip
            refine aw_eqi (y := 1) e_51 ?_
            refine aw_if_eq (tgt := 156) dX12_readsSum_143 (by decide) (fun c_63 => ?_) (fun c_63 => ?_)
            · exact absurd c_63 (by decide)
            refine aw_aload_n dX12_readsSum_146 rfl ?_
            refine aw_iconst (v := 1) dX12_readsSum_147 (by decide) ?_
            refine aw_aload_n dX12_readsSum_148 rfl ?_
            refine aw_get dX12_readsSum_149 fl_X12_159 e_19 (by omega) rfl ?_
            refine aw_callVi (J' := jX12_wrongAt) (As := [.int 1, .int (nI pl0_19)]) (st := []) dX12_readsSum_152 tb_1224 ok_X12_wrongAt ⟨_, e_19⟩ (by omega) rfl rfl (r_wrongAt3 l D b N V14 hN cl i14_0.1 1 (nI pl0_19) pl0_19 le0_19 (FG.of e_19 rfl rfl) (FG.of e_19 rfl rfl) ⟨by omega, by omega⟩) rfl (Nat.le_of_ble_eq_true rfl) ⟨Nat.le_of_ble_eq_true rfl, Nat.le_of_ble_eq_true rfl, Nat.le_of_ble_eq_true rfl, Nat.le_of_ble_eq_true rfl⟩ (fun r_78 N_79 V_68 q_80 => ?_)
            obtain ⟨⟨z_66, h_65⟩, rfl, q_64⟩ := q_80
            have j_67 := JR.trans i14_0 (JR.weak q_64 (Sub.cons (LMs (LMs (LMs LM0))) (by decide) (by decide) (by decide) (Or.inr ⟨by decide, by decide⟩) Sub.nil))
            obtain ⟨a_69, ha_70, hA_71, hF_72, hL_73, hz_74, hX_75⟩ := h_65
            obtain ⟨ftoldPeople_k76, ftoldDoors_k76, fwasDoors_k76, ffault_k76, fopen_k76, flines_k76, fmeantSet_k76, fopenedNow_k76, fvainNow_k76, flowNow_k76, fhighNow_k76, fisKept_k76, tad_k76, pl0_k76, le0_k76, nu0_k76, coy_k76, wag_k76, say_k76, e_k76, hntad_k76, hnpl0_k76, hnle0_k76, hnnu0_k76, hncoy_k76, hnwag_k76, hnsay_k76⟩ := JR.get j_67 cm_100
            have hqp_k76 := FG.eq hF_72 e_k76 rfl (by omega) (by omega)
            have hql_k76 := FG.eq hL_73 e_k76 rfl (by omega) (by omega)
            obtain ⟨rfl, hw_77⟩ := hX_75
            refine aw_zreti dX12_readsSum_155 rfl (by first | exact Or.inl rfl | exact Or.inr rfl | assumption) (Nat.le_of_ble_eq_true rfl) (Nat.le_of_ble_eq_true rfl) ?_
            exact ⟨⟨(by first | exact Or.inl rfl | exact Or.inr rfl | assumption), Or.inl ⟨rfl, ⟨_, hw_77, i14_10 _ (by obtain ⟨k9, hk9⟩ : ∃ k, (k14 wa14 wag_2 wag_19) = k + 1 := ⟨(k14 wa14 wag_2 wag_19) - 1, by have := k14_pos g_50; omega⟩; rw [hk9]; exact O_nshut ((congrArg opr (hd_eqr sb_x18ln rfl h_22)).symm.trans ((h_28.2.resolve_right (fun z => z.1 c_33)).2)) (hd_isnt sb_x18ln rfl h_35 c_40))⟩⟩⟩, rfl, j_67⟩
        · skip
          have hlc_40 := here_lt h_35 c_40 (by decide)
          refine aw_aload_n dX12_readsSum_92 rfl ?_
          refine aw_iload_n dX12_readsSum_93 rfl ?_
          refine aw_callVi (J' := jX12_hasOpenSum) (As := [.int (nI wag_2)]) (st := []) dX12_readsSum_94 tb_1267 ok_X12_hasOpenSum ⟨_, e_19⟩ (by omega) rfl rfl (r_hasOpenSum l D b N V14 hN cl i14_0.1 (nI wag_2) wag_2 ftoldPeople_19 ftoldDoors_19 fwasDoors_19 ffault_19 (nI (dpt s + (k14 wa14 wag_2 wag_19))) flines_19 fmeantSet_19 fopenedNow_19 fvainNow_19 flowNow_19 fhighNow_19 fisKept_19 tad_19 pl0_19 le0_19 nu0_19 coy_19 wag_19 say_19 ⟨by omega, by omega, by omega, by omega, by omega, by omega, by omega⟩ e_19 wa14 xw_x18 (by omega) (fun i hi => by obtain ⟨o, a, e1, e2, e3, e4, _⟩ := hP_x18.2.2.2.2 i hi; exact ⟨o, a, e1, e2, e3, e4⟩)) rfl (Nat.le_of_ble_eq_true rfl) ⟨Nat.le_of_ble_eq_true rfl, Nat.le_of_ble_eq_true rfl, Nat.le_of_ble_eq_true rfl, Nat.le_of_ble_eq_true rfl⟩ (fun r_84 N_85 V_86 q_87 => ?_)
          obtain ⟨⟨z_83, h_82⟩, rfl, rfl⟩ := q_87
          rcases h_82.imp (fun z => (⟨z.2, z.1⟩ : _ ∧ _)) (fun z => (⟨z.2, z.1⟩ : _ ∧ _)) with ⟨g_88, e_89⟩ | ⟨g_90, e_91⟩
          · skip
            refine aw_eqi (y := 0) e_89 ?_
            refine aw_if_eq (tgt := 138) dX12_readsSum_97 (by decide) (fun c_92 => ?_) (fun c_92 => ?_)
            rotate_left
            · exact absurd (by decide) c_92
            refine aw_aload_n dX12_readsSum_138 rfl ?_
            refine aw_iload_n dX12_readsSum_139 rfl ?_
            refine aw_callVi (J' := jX12_hasOpenSum) (As := [.int (nI wag_2)]) (st := []) dX12_readsSum_140 tb_1267 ok_X12_hasOpenSum ⟨_, e_19⟩ (by omega) rfl rfl (r_hasOpenSum l D b N V14 hN cl i14_0.1 (nI wag_2) wag_2 ftoldPeople_19 ftoldDoors_19 fwasDoors_19 ffault_19 (nI (dpt s + (k14 wa14 wag_2 wag_19))) flines_19 fmeantSet_19 fopenedNow_19 fvainNow_19 flowNow_19 fhighNow_19 fisKept_19 tad_19 pl0_19 le0_19 nu0_19 coy_19 wag_19 say_19 ⟨by omega, by omega, by omega, by omega, by omega, by omega, by omega⟩ e_19 wa14 xw_x18 (by omega) (fun i hi => by obtain ⟨o, a, e1, e2, e3, e4, _⟩ := hP_x18.2.2.2.2 i hi; exact ⟨o, a, e1, e2, e3, e4⟩)) rfl (Nat.le_of_ble_eq_true rfl) ⟨Nat.le_of_ble_eq_true rfl, Nat.le_of_ble_eq_true rfl, Nat.le_of_ble_eq_true rfl, Nat.le_of_ble_eq_true rfl⟩ (fun r_96 N_97 V_98 q_99 => ?_)
            obtain ⟨⟨z_95, h_94⟩, rfl, rfl⟩ := q_99
            rcases h_94.imp (fun z => (⟨z.2, z.1⟩ : _ ∧ _)) (fun z => (⟨z.2, z.1⟩ : _ ∧ _)) with ⟨g_100, e_101⟩ | ⟨g_102, e_103⟩
            · skip
              refine aw_eqi (y := 0) e_101 ?_
              refine aw_if_eq (tgt := 156) dX12_readsSum_143 (by decide) (fun c_104 => ?_) (fun c_104 => ?_)
              rotate_left
              · exact absurd (by decide) c_104
              have hk0 : (k14 wa14 wag_2 wag_19) = 0 := k14_zero g_100
              refine aw_aload_n dX12_readsSum_156 rfl ?_
              refine aw_iconst (v := 1) dX12_readsSum_157 (by decide) ?_
              refine aw_callVv (J' := jX12_closesSums) (As := [.int 1]) (st := []) dX12_readsSum_158 tb_1259 ok_X12_closesSums ⟨_, e_19⟩ (by omega) rfl rfl (r_closesSums l D b N V14 hN cl i14_0.1 1 wag_2 (dep coy_2) g sd14 wa14 pl0_19 ln coy_19 wag_19 sg dp14 sl sf sh st sm sk ⟨xg_x18, xs_x18, xw_x18, (FG.of e_19 rfl rfl), (FG.of e_19 rfl (by omega : le0_19 = ln)), (FG.of e_19 rfl rfl), (FG.of e_19 rfl rfl), hP_x18, ⟨by omega, by omega, by omega, by omega⟩, xa_x18, xb_x18, xd_x18, xe_x18, (FG.of e_19 rfl (by omega : say_19 = sm)), by omega⟩ (by omega) (by omega) hbt14) rfl (Nat.le_of_ble_eq_true rfl) ⟨Nat.le_of_ble_eq_true rfl, Nat.le_of_ble_eq_true rfl, Nat.le_of_ble_eq_true rfl, Nat.le_of_ble_eq_true rfl⟩ (fun  N_109 V_108 q_110 => ?_)
              obtain ⟨h_106, rfl, q_105⟩ := q_110
              have j_107 := JR.trans i14_0 (JR.weak q_105 (Sub.cons LM0 (by decide) (by decide) (by decide) (Or.inl rfl) (Sub.cons (LMs LM0) (by decide) (by decide) (by decide) (Or.inr ⟨by decide, by decide⟩) (Sub.cons (LMs (LMs (LMs (LMs (LMs (LMs LM0)))))) (by decide) (by decide) (by decide) (Or.inr ⟨by decide, by decide⟩) Sub.nil))))
              obtain ⟨sd_y111, pl_y111, cm_y111, wt_y111, dp_y111, hX_y111, qp_y111, qb_y111, qw_y111, qs_y111, qd_y111, qa_y111, qe_y111, qn_y111⟩ := h_106
              obtain ⟨xg_x112, xs_x112, xw_x112, xp_x112, xl_x112, xc_x112, xt_x112, hP_x112, ⟨hB1_x112, hB2_x112, hB3_x112, hB4_x112⟩, xa_x112, xb_x112, xd_x112, xe_x112, xm_x112, hB5_x112⟩ := hX_y111
              obtain ⟨ftoldPeople_113, ftoldDoors_113, fwasDoors_113, ffault_113, fopen_113, flines_113, fmeantSet_113, fopenedNow_113, fvainNow_113, flowNow_113, fhighNow_113, fisKept_113, tad_113, pl0_113, le0_113, nu0_113, coy_113, wag_113, say_113, e_113, hntad_113, hnpl0_113, hnle0_113, hnnu0_113, hncoy_113, hnwag_113, hnsay_113⟩ := JR.get j_107 cm_100
              clear hntad_19 hnpl0_19 hnle0_19 hnnu0_19 hncoy_19 hnwag_19 hnsay_19
              have sb_x112pl := FG.eq xp_x112 e_113 rfl (by omega) (by omega)
              subst sb_x112pl
              have sb_x112cm := FG.eq xc_x112 e_113 rfl (by omega) (by omega)
              subst sb_x112cm
              have sb_x112wt := FG.eq xt_x112 e_113 rfl (by omega) (by omega)
              subst sb_x112wt
              have sb_x112ln := FG.eq xl_x112 e_113 rfl (by omega) (by omega)
              have hsg_x112 := hP_x112.2.1
              have sb_x112sm := FG.eq xm_x112 e_113 rfl (by omega) (by omega)
              have hof_114 : fopen_113 = nI (dpt s + (k14 wa14 wag_2 wag_19)) := ((congrArg (fun z => fI z 18) e_113).trans rfl).symm.trans ((JR.fI q_105 (by decide) (by decide) (nfc (by omega) (nfc (by omega) (nfc (by omega) nf0)))).trans ((congrArg (fun z => fI z 18) e_19).trans rfl))
              subst hof_114
              have hqn := qn_y111.resolve_left (by decide)
              have hend : wag_113 = wag_2 := by rcases Nat.lt_or_ge wag_2 wag_113 with q | q; (obtain ⟨o9, a9, he9, ha9, h29, h149, _⟩ := PS.top hP_x112 (by omega); have ho9 : opOf (wa14 (wag_113 - 1)) = o9 := (by rw [he9]; exact opOf_nI (by omega) (by omega)); have hte := i14_6 (wag_113 - 1) (by omega) (by omega); have hne := g_100 (wag_113 - 1) (by omega) (by omega); omega); omega
              refine aw_iconst (v := 1) dX12_readsSum_161 (by decide) ?_
              refine aw_zreti dX12_readsSum_162 rfl (by first | exact Or.inl rfl | exact Or.inr rfl | assumption) (Nat.le_of_ble_eq_true rfl) (Nat.le_of_ble_eq_true rfl) ?_
              exact ⟨⟨(by first | exact Or.inl rfl | exact Or.inr rfl | assumption), Or.inr ⟨rfl, ⟨sd_y111, wa14, pl0_113, coy_113, wag_113, dp_y111, ⟨xg_x112, xs_x112, xw_x112, (FG.of e_113 rfl rfl), (FG.of e_113 rfl (by omega : le0_113 = ln)), (FG.of e_113 rfl rfl), (FG.of e_113 rfl rfl), hP_x112, ⟨by omega, by omega, by omega, by omega⟩, xa_x112, xb_x112, xd_x112, xe_x112, (FG.of e_113 rfl (by omega : say_113 = sm)), by omega⟩, hend, i14_5, (fun k hk => (qs_y111 k hk).trans (i14_4 k hk)), (by have e9 : wgt wa14 wag_113 = wgt wa14 wag_2 := congrArg _ hend; omega), by omega, (((congrArg (fun z => fI z 18) e_113).trans rfl)).trans (congrArg nI (by omega)), (fun o q => i14_10 o (by rw [hk0]; rw [qp_y111] at q; exact q)), (by rw [qp_y111]; exact ((congrArg opr (hd_eqr sb_x18ln rfl h_22)).symm.trans ((h_28.2.resolve_right (fun z => z.1 c_33)).2)))⟩⟩⟩, rfl, j_107⟩
            · skip
              refine aw_eqi (y := 1) e_103 ?_
              refine aw_if_eq (tgt := 156) dX12_readsSum_143 (by decide) (fun c_115 => ?_) (fun c_115 => ?_)
              · exact absurd c_115 (by decide)
              refine aw_aload_n dX12_readsSum_146 rfl ?_
              refine aw_iconst (v := 1) dX12_readsSum_147 (by decide) ?_
              refine aw_aload_n dX12_readsSum_148 rfl ?_
              refine aw_get dX12_readsSum_149 fl_X12_159 e_19 (by omega) rfl ?_
              refine aw_callVi (J' := jX12_wrongAt) (As := [.int 1, .int (nI pl0_19)]) (st := []) dX12_readsSum_152 tb_1224 ok_X12_wrongAt ⟨_, e_19⟩ (by omega) rfl rfl (r_wrongAt3 l D b N V14 hN cl i14_0.1 1 (nI pl0_19) pl0_19 le0_19 (FG.of e_19 rfl rfl) (FG.of e_19 rfl rfl) ⟨by omega, by omega⟩) rfl (Nat.le_of_ble_eq_true rfl) ⟨Nat.le_of_ble_eq_true rfl, Nat.le_of_ble_eq_true rfl, Nat.le_of_ble_eq_true rfl, Nat.le_of_ble_eq_true rfl⟩ (fun r_130 N_131 V_120 q_132 => ?_)
              obtain ⟨⟨z_118, h_117⟩, rfl, q_116⟩ := q_132
              have j_119 := JR.trans i14_0 (JR.weak q_116 (Sub.cons (LMs (LMs (LMs LM0))) (by decide) (by decide) (by decide) (Or.inr ⟨by decide, by decide⟩) Sub.nil))
              obtain ⟨a_121, ha_122, hA_123, hF_124, hL_125, hz_126, hX_127⟩ := h_117
              obtain ⟨ftoldPeople_k128, ftoldDoors_k128, fwasDoors_k128, ffault_k128, fopen_k128, flines_k128, fmeantSet_k128, fopenedNow_k128, fvainNow_k128, flowNow_k128, fhighNow_k128, fisKept_k128, tad_k128, pl0_k128, le0_k128, nu0_k128, coy_k128, wag_k128, say_k128, e_k128, hntad_k128, hnpl0_k128, hnle0_k128, hnnu0_k128, hncoy_k128, hnwag_k128, hnsay_k128⟩ := JR.get j_119 cm_100
              have hqp_k128 := FG.eq hF_124 e_k128 rfl (by omega) (by omega)
              have hql_k128 := FG.eq hL_125 e_k128 rfl (by omega) (by omega)
              obtain ⟨rfl, hw_129⟩ := hX_127
              refine aw_zreti dX12_readsSum_155 rfl (by first | exact Or.inl rfl | exact Or.inr rfl | assumption) (Nat.le_of_ble_eq_true rfl) (Nat.le_of_ble_eq_true rfl) ?_
              exact ⟨⟨(by first | exact Or.inl rfl | exact Or.inr rfl | assumption), Or.inl ⟨rfl, ⟨_, hw_129, (by obtain ⟨i9, a1, a2, a3⟩ := g_102; exact absurd a3 (g_88 i9 a1 a2))⟩⟩⟩, rfl, j_119⟩
          · skip
            refine aw_eqi (y := 1) e_91 ?_
            refine aw_if_eq (tgt := 138) dX12_readsSum_97 (by decide) (fun c_133 => ?_) (fun c_133 => ?_)
            · exact absurd c_133 (by decide)
            have hk1 : 1 ≤ (k14 wa14 wag_2 wag_19) := k14_pos g_90
            refine aw_aload_n dX12_readsSum_100 rfl ?_
            refine aw_iconst (v := 1) dX12_readsSum_101 (by decide) ?_
            refine aw_callVv (J' := jX12_closesSums) (As := [.int 1]) (st := []) dX12_readsSum_102 tb_1259 ok_X12_closesSums ⟨_, e_19⟩ (by omega) rfl rfl (r_closesSums l D b N V14 hN cl i14_0.1 1 wag_2 (dep coy_2) g sd14 wa14 pl0_19 ln coy_19 wag_19 sg dp14 sl sf sh st sm sk ⟨xg_x18, xs_x18, xw_x18, (FG.of e_19 rfl rfl), (FG.of e_19 rfl (by omega : le0_19 = ln)), (FG.of e_19 rfl rfl), (FG.of e_19 rfl rfl), hP_x18, ⟨by omega, by omega, by omega, by omega⟩, xa_x18, xb_x18, xd_x18, xe_x18, (FG.of e_19 rfl (by omega : say_19 = sm)), by omega⟩ (by omega) (by omega) hbt14) rfl (Nat.le_of_ble_eq_true rfl) ⟨Nat.le_of_ble_eq_true rfl, Nat.le_of_ble_eq_true rfl, Nat.le_of_ble_eq_true rfl, Nat.le_of_ble_eq_true rfl⟩ (fun  N_138 V_137 q_139 => ?_)
            obtain ⟨h_135, rfl, q_134⟩ := q_139
            have j_136 := JR.trans i14_0 (JR.weak q_134 (Sub.cons LM0 (by decide) (by decide) (by decide) (Or.inl rfl) (Sub.cons (LMs LM0) (by decide) (by decide) (by decide) (Or.inr ⟨by decide, by decide⟩) (Sub.cons (LMs (LMs (LMs (LMs (LMs (LMs LM0)))))) (by decide) (by decide) (by decide) (Or.inr ⟨by decide, by decide⟩) Sub.nil))))
            obtain ⟨sd_y140, pl_y140, cm_y140, wt_y140, dp_y140, hX_y140, qp_y140, qb_y140, qw_y140, qs_y140, qd_y140, qa_y140, qe_y140, qn_y140⟩ := h_135
            obtain ⟨xg_x141, xs_x141, xw_x141, xp_x141, xl_x141, xc_x141, xt_x141, hP_x141, ⟨hB1_x141, hB2_x141, hB3_x141, hB4_x141⟩, xa_x141, xb_x141, xd_x141, xe_x141, xm_x141, hB5_x141⟩ := hX_y140
            obtain ⟨ftoldPeople_142, ftoldDoors_142, fwasDoors_142, ffault_142, fopen_142, flines_142, fmeantSet_142, fopenedNow_142, fvainNow_142, flowNow_142, fhighNow_142, fisKept_142, tad_142, pl0_142, le0_142, nu0_142, coy_142, wag_142, say_142, e_142, hntad_142, hnpl0_142, hnle0_142, hnnu0_142, hncoy_142, hnwag_142, hnsay_142⟩ := JR.get j_136 cm_100
            clear hntad_19 hnpl0_19 hnle0_19 hnnu0_19 hncoy_19 hnwag_19 hnsay_19
            have sb_x141pl := FG.eq xp_x141 e_142 rfl (by omega) (by omega)
            subst sb_x141pl
            have sb_x141cm := FG.eq xc_x141 e_142 rfl (by omega) (by omega)
            subst sb_x141cm
            have sb_x141wt := FG.eq xt_x141 e_142 rfl (by omega) (by omega)
            subst sb_x141wt
            have sb_x141ln := FG.eq xl_x141 e_142 rfl (by omega) (by omega)
            have hsg_x141 := hP_x141.2.1
            have sb_x141sm := FG.eq xm_x141 e_142 rfl (by omega) (by omega)
            have hof_143 : fopen_142 = nI (dpt s + (k14 wa14 wag_2 wag_19)) := ((congrArg (fun z => fI z 18) e_142).trans rfl).symm.trans ((JR.fI q_134 (by decide) (by decide) (nfc (by omega) (nfc (by omega) (nfc (by omega) nf0)))).trans ((congrArg (fun z => fI z 18) e_19).trans rfl))
            subst hof_143
            obtain ⟨i9, hi1, hi2, hi3⟩ := g_90
            have hi4 : i9 < wag_142 := by rcases Nat.lt_or_ge i9 wag_142 with q | q; exact q; exact absurd (qa_y140 i9 (by omega) (by omega)) (by omega)
            obtain ⟨o9, a9, he9, ha9, h29, h149, -⟩ := PS.top hP_x141 (by omega)
            have ho9 : opOf (wa14 (wag_142 - 1)) = o9 := by rw [he9]; exact opOf_nI (by omega) (by omega)
            have hte := i14_6 (wag_142 - 1) (by omega) (by omega)
            have hqn := qn_y140.resolve_left (by decide)
            have ho14 : o9 = 14 := by omega
            have hpop := wgt_pop (wa := wa14) (n := wag_142) (by omega)
            rw [ho9, if_neg (by omega)] at hpop
            have hPo := PS.pop hP_x141 (by omega) (by rw [ho9]; omega)
            have hK1 : (k14 wa14 wag_2 wag_19) = (k14 wa14 wag_2 wag_142) := k14_no (by omega) (fun i h1 h2 => by have := qa_y140 i h1 h2; omega)
            have hK4 : (k14 wa14 wag_2 wag_142) = (k14 wa14 wag_2 (wag_142 - 1)) + 1 := k14_pop (by omega) (by rw [ho9]; exact ho14)
            have hKp : (k14 wa14 wag_2 wag_19) = (k14 wa14 wag_2 (wag_142 - 1)) + 1 := hK1.trans hK4
            refine aw_aload_n dX12_readsSum_105 rfl ?_
            refine aw_aload_n dX12_readsSum_106 rfl ?_
            refine aw_get dX12_readsSum_107 fl_X12_189 e_142 (by omega) rfl ?_
            refine aw_iconst (v := 1) dX12_readsSum_110 (by decide) ?_
            refine aw_isub dX12_readsSum_111 ?_
            refine aw_eqi (y := (nI (wag_142 - 1))) (pk_sub (a := wag_142) (b := 1) (by omega)) ?_
            refine aw_put dX12_readsSum_112 fp_X12_189 e_142 (by omega) rfl rfl (Nat.le_of_ble_eq_true rfl) rfl ?_
            refine aw_upR j_136 cm_100 ⟨_, _, _, _, _, _, _, _, _, _, _, _, tad_142, pl0_142, le0_142, nu0_142, coy_142, (wag_142 - 1), say_142, rfl, by omega, by omega, by omega, by omega, by omega, by omega, by omega⟩ (by decide) (WO (s := 20) (x := .int (nI (wag_142 - 1))) e_142 rfl (LMs (LMs (LMs (LMs (LMs (LMs LM0)))))) (by decide) (by decide) (by decide) (Or.inl (by decide))) (fun V_144 j_144 k_144 e_144 => ?_)
            refine aw_aload_n dX12_readsSum_115 rfl ?_
            refine aw_aload_n dX12_readsSum_116 rfl ?_
            refine aw_get dX12_readsSum_117 fl_X12_186 e_144 (by omega) rfl ?_
            refine aw_iconst (v := 1) dX12_readsSum_120 (by decide) ?_
            refine aw_isub dX12_readsSum_121 ?_
            refine aw_eqi (y := (nI ((dpt s + (k14 wa14 wag_2 wag_19)) - 1))) (pk_sub (a := (dpt s + (k14 wa14 wag_2 wag_19))) (b := 1) (by omega)) ?_
            refine aw_put dX12_readsSum_122 fp_X12_186 e_144 (by omega) rfl rfl (Nat.le_of_ble_eq_true rfl) rfl ?_
            refine aw_upR j_144 cm_100 ⟨_, _, _, _, _, _, _, _, _, _, _, _, tad_142, pl0_142, le0_142, nu0_142, coy_142, (wag_142 - 1), say_142, rfl, by omega, by omega, by omega, by omega, by omega, by omega, by omega⟩ (by decide) (WO (s := 18) (x := .int (nI ((dpt s + (k14 wa14 wag_2 wag_19)) - 1))) e_144 rfl (LMs (LMs (LMs (LMs (LMs LM0))))) (by decide) (by decide) (by decide) (Or.inl (by decide))) (fun V_145 j_145 k_145 e_145 => ?_)
            refine aw_aload_n dX12_readsSum_125 rfl ?_
            refine aw_aload_n dX12_readsSum_126 rfl ?_
            refine aw_get dX12_readsSum_127 fl_X12_159 e_145 (by omega) rfl ?_
            refine aw_iconst (v := 1) dX12_readsSum_130 (by decide) ?_
            refine aw_iadd dX12_readsSum_131 ?_
            refine aw_eqi (y := nI (pl0_142 + 1)) (nI_add _ _) ?_
            refine aw_put dX12_readsSum_132 fp_X12_159 e_145 (by omega) rfl rfl (Nat.le_of_ble_eq_true rfl) rfl ?_
            refine aw_upR j_145 cm_100 ⟨_, _, _, _, _, _, _, _, _, _, _, _, tad_142, (pl0_142 + 1), le0_142, nu0_142, coy_142, (wag_142 - 1), say_142, rfl, by omega, by omega, by omega, by omega, by omega, by omega, by omega⟩ (by decide) (WO (s := 14) (x := .int (nI (pl0_142 + 1))) e_145 rfl (LMs (LMs LM0)) (by decide) (by decide) (by decide) (Or.inl (by decide))) (fun V_146 j_146 k_146 e_146 => ?_)
            refine aw_goto (tgt := 163) dX12_readsSum_135 (by decide) ?_
            refine aw_goto (tgt := 14) dX12_readsSum_163 (by decide) ?_
            refine aw_le ?_ (mih_14_17 _ (by omega) (pl0_142 + 1) coy_142 (wag_142 - 1) sd_y140 wa14 dp_y140 V_146 rfl (j_146) (⟨((k_146 _ (by decide)).trans ((k_145 _ (by decide)).trans ((k_144 _ (by decide)).trans xg_x141))), ((k_146 _ (by decide)).trans ((k_145 _ (by decide)).trans ((k_144 _ (by decide)).trans xs_x141))), ((k_146 _ (by decide)).trans ((k_145 _ (by decide)).trans ((k_144 _ (by decide)).trans xw_x141))), (FG.of e_146 rfl rfl), (FG.of e_146 rfl (by omega : le0_142 = ln)), (FG.of e_146 rfl rfl), (FG.of e_146 rfl rfl), hPo, ⟨by omega, by omega, by omega, by omega⟩, ((k_146 _ (by decide)).trans ((k_145 _ (by decide)).trans ((k_144 _ (by decide)).trans xa_x141))), ((k_146 _ (by decide)).trans ((k_145 _ (by decide)).trans ((k_144 _ (by decide)).trans xb_x141))), ((k_146 _ (by decide)).trans ((k_145 _ (by decide)).trans ((k_144 _ (by decide)).trans xd_x141))), ((k_146 _ (by decide)).trans ((k_145 _ (by decide)).trans ((k_144 _ (by decide)).trans xe_x141))), (FG.of e_146 rfl (by omega : say_142 = sm)), by omega⟩) (by omega) (by omega) (fun k hk => (qs_y140 k hk).trans (i14_4 k hk)) (i14_5) (SumE.sub i14_6 (by omega)) (by omega) ((((congrArg (fun z => fI z 18) e_146).trans rfl)).trans (congrArg nI (by omega))) (by omega) ((by have t9 := fun o (q : RES (gb g) ln (1, (pl0_142 + 1), rp (k14 wa14 wag_2 (wag_142 - 1)) s) o) => i14_10 o (by rw [hKp]; exact O_shut ((congrArg opr (hd_eqr sb_x18ln rfl h_22)).symm.trans ((h_28.2.resolve_right (fun z => z.1 c_33)).2)) (hd_is sb_x18ln rfl h_35 c_40) (by rw [← qp_y140]; exact q)); exact t9)))
            exact ⟨rfl, ⟨rfl, trivial⟩⟩
      · skip
        obtain ⟨⟨z_147, hz_147, ez_147⟩, hnz_147⟩ := h_28.1.resolve_left c_33
        have hlc_33 := here_lt0 h_22 hnz_147
        subst ez_147
        refine aw_aload_n dX12_readsSum_27 rfl ?_
        refine aw_iload_n dX12_readsSum_28 rfl ?_
        refine aw_iconst (v := 4) dX12_readsSum_29 (by decide) ?_
        refine aw_icmp_ge (tgt := 37) dX12_readsSum_30 (by decide) (fun c_148 => ?_) (fun c_148 => ?_)
        · skip
          have nc_148 : 4 ≤ z_147 := (nI_leI (a := 4) (b := z_147) (by omega) (by omega)).mp c_148
          refine aw_iconst (v := 0) dX12_readsSum_37 (by decide) ?_
          refine aw_callVv (J' := jX12_closesSums) (As := [.int 0]) (st := []) dX12_readsSum_38 tb_1259 ok_X12_closesSums ⟨_, e_19⟩ (by omega) rfl rfl (r_closesSums l D b N V14 hN cl i14_0.1 0 wag_2 (dep coy_2) g sd14 wa14 pl0_19 ln coy_19 wag_19 sg dp14 sl sf sh st sm sk ⟨xg_x18, xs_x18, xw_x18, (FG.of e_19 rfl rfl), (FG.of e_19 rfl (by omega : le0_19 = ln)), (FG.of e_19 rfl rfl), (FG.of e_19 rfl rfl), hP_x18, ⟨by omega, by omega, by omega, by omega⟩, xa_x18, xb_x18, xd_x18, xe_x18, (FG.of e_19 rfl (by omega : say_19 = sm)), by omega⟩ (by omega) (by omega) hbt14) rfl (Nat.le_of_ble_eq_true rfl) ⟨Nat.le_of_ble_eq_true rfl, Nat.le_of_ble_eq_true rfl, Nat.le_of_ble_eq_true rfl, Nat.le_of_ble_eq_true rfl⟩ (fun  N_153 V_152 q_154 => ?_)
          obtain ⟨h_150, rfl, q_149⟩ := q_154
          have j_151 := JR.trans i14_0 (JR.weak q_149 (Sub.cons LM0 (by decide) (by decide) (by decide) (Or.inl rfl) (Sub.cons (LMs LM0) (by decide) (by decide) (by decide) (Or.inr ⟨by decide, by decide⟩) (Sub.cons (LMs (LMs (LMs (LMs (LMs (LMs LM0)))))) (by decide) (by decide) (by decide) (Or.inr ⟨by decide, by decide⟩) Sub.nil))))
          obtain ⟨sd_y155, pl_y155, cm_y155, wt_y155, dp_y155, hX_y155, qp_y155, qb_y155, qw_y155, qs_y155, qd_y155, qa_y155, qe_y155, qn_y155⟩ := h_150
          obtain ⟨xg_x156, xs_x156, xw_x156, xp_x156, xl_x156, xc_x156, xt_x156, hP_x156, ⟨hB1_x156, hB2_x156, hB3_x156, hB4_x156⟩, xa_x156, xb_x156, xd_x156, xe_x156, xm_x156, hB5_x156⟩ := hX_y155
          obtain ⟨ftoldPeople_157, ftoldDoors_157, fwasDoors_157, ffault_157, fopen_157, flines_157, fmeantSet_157, fopenedNow_157, fvainNow_157, flowNow_157, fhighNow_157, fisKept_157, tad_157, pl0_157, le0_157, nu0_157, coy_157, wag_157, say_157, e_157, hntad_157, hnpl0_157, hnle0_157, hnnu0_157, hncoy_157, hnwag_157, hnsay_157⟩ := JR.get j_151 cm_100
          clear hntad_19 hnpl0_19 hnle0_19 hnnu0_19 hncoy_19 hnwag_19 hnsay_19
          have sb_x156pl := FG.eq xp_x156 e_157 rfl (by omega) (by omega)
          subst sb_x156pl
          have sb_x156cm := FG.eq xc_x156 e_157 rfl (by omega) (by omega)
          subst sb_x156cm
          have sb_x156wt := FG.eq xt_x156 e_157 rfl (by omega) (by omega)
          subst sb_x156wt
          have sb_x156ln := FG.eq xl_x156 e_157 rfl (by omega) (by omega)
          have hsg_x156 := hP_x156.2.1
          have sb_x156sm := FG.eq xm_x156 e_157 rfl (by omega) (by omega)
          have hof_158 : fopen_157 = nI (dpt s + (k14 wa14 wag_2 wag_19)) := ((congrArg (fun z => fI z 18) e_157).trans rfl).symm.trans ((JR.fI q_149 (by decide) (by decide) (nfc (by omega) (nfc (by omega) (nfc (by omega) nf0)))).trans ((congrArg (fun z => fI z 18) e_19).trans rfl))
          subst hof_158
          refine aw_aload_n dX12_readsSum_41 rfl ?_
          refine aw_get dX12_readsSum_42 fl_X12_44 e_157 (by omega) rfl ?_
          refine aw_aload_n dX12_readsSum_45 rfl ?_
          refine aw_get dX12_readsSum_46 fl_X12_189 e_157 (by omega) rfl ?_
          refine aw_ldc (v := 1048576) dX12_readsSum_49 tb_1240 ?_
          refine aw_iload_n dX12_readsSum_51 rfl ?_
          refine aw_imul dX12_readsSum_52 ?_
          refine aw_eqi (y := nI (1048576 * z_147)) (pk_mul _ _) ?_
          refine aw_iast dX12_readsSum_53 xw_x156 (by omega) (vp_in_nI (n := wag_157) (by omega) (by omega)) ?_
          refine aw_upR j_151 cm_112 ⟨_, rfl⟩ (by decide) (WA LM0 (by decide) (by decide)) (fun V_159 j_159 k_159 e_159 => ?_)
          have e_160 : V_159 112 = cI D 260 (upd wa14 wag_157 (nI (1048576 * z_147))) := by rw [e_159, nI_clamp (n := wag_157) (by omega)]
          refine aw_aload_n dX12_readsSum_54 rfl ?_
          refine aw_aload_n dX12_readsSum_55 rfl ?_
          refine aw_get dX12_readsSum_56 fl_X12_189 ((k_159 _ (by decide)).trans e_157) (by omega) rfl ?_
          refine aw_iconst (v := 1) dX12_readsSum_59 (by decide) ?_
          refine aw_iadd dX12_readsSum_60 ?_
          refine aw_eqi (y := nI (wag_157 + 1)) (nI_add _ _) ?_
          refine aw_put dX12_readsSum_61 fp_X12_189 ((k_159 _ (by decide)).trans e_157) (by omega) rfl rfl (Nat.le_of_ble_eq_true rfl) rfl ?_
          refine aw_upR j_159 cm_100 ⟨_, _, _, _, _, _, _, _, _, _, _, _, tad_157, pl0_157, le0_157, nu0_157, coy_157, (wag_157 + 1), say_157, rfl, by omega, by omega, by omega, by omega, by omega, by omega, by omega⟩ (by decide) (WO (s := 20) (x := .int (nI (wag_157 + 1))) ((k_159 _ (by decide)).trans e_157) rfl (LMs (LMs (LMs (LMs (LMs (LMs LM0)))))) (by decide) (by decide) (by decide) (Or.inl (by decide))) (fun V_161 j_161 k_161 e_161 => ?_)
          refine aw_aload_n dX12_readsSum_64 rfl ?_
          refine aw_aload_n dX12_readsSum_65 rfl ?_
          refine aw_get dX12_readsSum_66 fl_X12_159 e_161 (by omega) rfl ?_
          refine aw_iconst (v := 1) dX12_readsSum_69 (by decide) ?_
          refine aw_iadd dX12_readsSum_70 ?_
          refine aw_eqi (y := nI (pl0_157 + 1)) (nI_add _ _) ?_
          refine aw_put dX12_readsSum_71 fp_X12_159 e_161 (by omega) rfl rfl (Nat.le_of_ble_eq_true rfl) rfl ?_
          refine aw_upR j_161 cm_100 ⟨_, _, _, _, _, _, _, _, _, _, _, _, tad_157, (pl0_157 + 1), le0_157, nu0_157, coy_157, (wag_157 + 1), say_157, rfl, by omega, by omega, by omega, by omega, by omega, by omega, by omega⟩ (by decide) (WO (s := 14) (x := .int (nI (pl0_157 + 1))) e_161 rfl (LMs (LMs LM0)) (by decide) (by decide) (by decide) (Or.inl (by decide))) (fun V_162 j_162 k_162 e_162 => ?_)
          have hpu := wgt_pushc (wa := wa14) (w := wag_157) (n := wag_2) (z := z_147) (by omega) (by omega)
          rw [if_pos (by omega)] at hpu
          have hPu := PS.push hP_x156 z_147 (by omega) (by omega) (by omega)
          have hSu := (SumE.sub i14_6 (by omega : wag_157 ≤ wag_19)).push (z := z_147) (by omega)
          have hK1 : (k14 wa14 wag_2 wag_19) = (k14 wa14 wag_2 wag_157) := k14_no (by omega) (fun i h1 h2 => by have := qa_y155 i h1 h2; omega)
          have hK2 : (k14 (upd wa14 wag_157 (nI (1048576 * z_147))) wag_2 (wag_157 + 1)) = (k14 wa14 wag_2 wag_157) := k14_push (by omega)
          refine aw_aload_n dX12_readsSum_74 rfl ?_
          refine aw_callVi (J' := jX12_readsFactor) (As := []) (st := []) dX12_readsSum_75 tb_1232 ok_X12_readsFactor ⟨_, e_162⟩ (by omega) rfl rfl (r_readsFactor3 l D b N V_162 hN cl j_162.1 wag_2 (dep coy_2) g sd_y155 (upd wa14 wag_157 (nI (1048576 * z_147))) (pl0_157 + 1) ln coy_157 (wag_157 + 1) sg dp_y155 sl sf sh st sm sk ⟨((k_162 _ (by decide)).trans ((k_161 _ (by decide)).trans ((k_159 _ (by decide)).trans xg_x156))), ((k_162 _ (by decide)).trans ((k_161 _ (by decide)).trans ((k_159 _ (by decide)).trans xs_x156))), ((k_162 _ (by decide)).trans ((k_161 _ (by decide)).trans e_160)), (FG.of e_162 rfl rfl), (FG.of e_162 rfl (by omega : le0_157 = ln)), (FG.of e_162 rfl rfl), (FG.of e_162 rfl rfl), hPu, ⟨by omega, by omega, by omega, by omega⟩, ((k_162 _ (by decide)).trans ((k_161 _ (by decide)).trans ((k_159 _ (by decide)).trans xa_x156))), ((k_162 _ (by decide)).trans ((k_161 _ (by decide)).trans ((k_159 _ (by decide)).trans xb_x156))), ((k_162 _ (by decide)).trans ((k_161 _ (by decide)).trans ((k_159 _ (by decide)).trans xd_x156))), ((k_162 _ (by decide)).trans ((k_161 _ (by decide)).trans ((k_159 _ (by decide)).trans xe_x156))), (FG.of e_162 rfl (by omega : say_157 = sm)), by omega⟩ (rp (k14 wa14 wag_2 wag_19) s) (((congrArg (fun z => fI z 18) e_162).trans rfl).trans (congrArg nI (dpt_rp _).symm)) (by have h9 : (dpt s + (k14 wa14 wag_2 wag_19)) = (dpt (rp (k14 wa14 wag_2 wag_19) s)) := (dpt_rp _).symm; omega) (by omega) (by omega)) rfl (Nat.le_of_ble_eq_true rfl) ⟨Nat.le_of_ble_eq_true rfl, Nat.le_of_ble_eq_true rfl, Nat.le_of_ble_eq_true rfl, Nat.le_of_ble_eq_true rfl⟩ (fun r_168 N_169 V_167 q_170 => ?_)
          obtain ⟨⟨z_165, h_164⟩, rfl, q_163⟩ := q_170
          have j_166 := JR.trans j_162 (JR.weak q_163 (Sub.cons LM0 (by decide) (by decide) (by decide) (Or.inl rfl) (Sub.cons (LMs LM0) (by decide) (by decide) (by decide) (Or.inr ⟨by decide, by decide⟩) (Sub.cons (LMs (LMs LM0)) (by decide) (by decide) (by decide) (Or.inr ⟨by decide, by decide⟩) (Sub.cons (LMs (LMs (LMs LM0))) (by decide) (by decide) (by decide) (Or.inr ⟨by decide, by decide⟩) (Sub.cons (LMs (LMs (LMs (LMs LM0)))) (by decide) (by decide) (by decide) (Or.inr ⟨by decide, by decide⟩) (Sub.cons (LMs (LMs (LMs (LMs (LMs LM0))))) (by decide) (by decide) (by decide) (Or.inr ⟨by decide, by decide⟩) (Sub.cons (LMs (LMs (LMs (LMs (LMs (LMs LM0)))))) (by decide) (by decide) (by decide) (Or.inr ⟨by decide, by decide⟩) Sub.nil))))))))
          refine aw_if_ne (tgt := 163) dX12_readsSum_78 (by decide) (fun c_171 => ?_) (fun c_171 => ?_)
          · skip
            obtain ⟨sd_y172, wa_y172, pl_y172, cm_y172, wt_y172, dp_y172, hX_y172, fw_y172, fa_y172, f14_y172, fs_y172, fd_y172, fp_y172, oo_y172, o6_y172, fr_y172⟩ := ((h_164.imp And.left And.right).resolve_left c_171)
            obtain ⟨xg_x173, xs_x173, xw_x173, xp_x173, xl_x173, xc_x173, xt_x173, hP_x173, ⟨hB1_x173, hB2_x173, hB3_x173, hB4_x173⟩, xa_x173, xb_x173, xd_x173, xe_x173, xm_x173, hB5_x173⟩ := hX_y172
            obtain ⟨ftoldPeople_174, ftoldDoors_174, fwasDoors_174, ffault_174, fopen_174, flines_174, fmeantSet_174, fopenedNow_174, fvainNow_174, flowNow_174, fhighNow_174, fisKept_174, tad_174, pl0_174, le0_174, nu0_174, coy_174, wag_174, say_174, e_174, hntad_174, hnpl0_174, hnle0_174, hnnu0_174, hncoy_174, hnwag_174, hnsay_174⟩ := JR.get j_166 cm_100
            clear hntad_157 hnpl0_157 hnle0_157 hnnu0_157 hncoy_157 hnwag_157 hnsay_157
            have sb_x173pl := FG.eq xp_x173 e_174 rfl (by omega) (by omega)
            subst sb_x173pl
            have sb_x173cm := FG.eq xc_x173 e_174 rfl (by omega) (by omega)
            subst sb_x173cm
            have sb_x173wt := FG.eq xt_x173 e_174 rfl (by omega) (by omega)
            subst sb_x173wt
            have sb_x173ln := FG.eq xl_x173 e_174 rfl (by omega) (by omega)
            have hsg_x173 := hP_x173.2.1
            have sb_x173sm := FG.eq xm_x173 e_174 rfl (by omega) (by omega)
            have hof_175 : fopen_174 = nI (dpt (rp (k14 wa14 wag_2 wag_19) s) + (wag_174 - (wag_157 + 1))) := ((congrArg (fun z => fI z 18) e_174).trans rfl).symm.trans oo_y172
            subst hof_175
            refine aw_goto (tgt := 14) dX12_readsSum_163 (by decide) ?_
            have hK3 : (k14 wa_y172 wag_2 wag_174) = (k14 wa14 wag_2 wag_19) + (wag_174 - (wag_157 + 1)) := by rw [k14_all (m := wag_157 + 1) (by omega) (by omega) (fun i h1 h2 => f14_y172 i h1 (by omega)), k14_congr fa_y172, hK2, ← hK1]
            refine aw_le ?_ (mih_14_17 _ (by omega) pl0_174 coy_174 wag_174 sd_y172 wa_y172 dp_y172 V_167 rfl (j_166) (⟨xg_x173, xs_x173, xw_x173, (FG.of e_174 rfl rfl), (FG.of e_174 rfl (by omega : le0_174 = ln)), (FG.of e_174 rfl rfl), (FG.of e_174 rfl rfl), hP_x173, ⟨by omega, by omega, by omega, by omega⟩, xa_x173, xb_x173, xd_x173, xe_x173, (FG.of e_174 rfl (by omega : say_174 = sm)), by omega⟩) (by omega) (by omega) (fun k hk => ((fs_y172 k hk).trans (qs_y155 k hk)).trans (i14_4 k hk)) (agr (agu i14_5 (by omega)) fa_y172 (by omega)) (SumE.more hSu fa_y172 f14_y172) (by omega) ((((congrArg (fun z => fI z 18) e_174).trans rfl)).trans (congrArg nI (by rw [dpt_rp]; omega))) ((by have h7 := o6_y172; rw [dpt_rp] at h7; omega)) ((by rw [hK3]; exact fun o q => i14_10 o (O_op ((congrArg opr (hd_eqr sb_x18ln rfl h_22)).symm.trans ((h_28.2.resolve_left (fun z => c_33 z.1)).2)) (by rw [← qp_y155]; exact fr_y172 o (by rw [rp_add, Nat.add_comm]; exact q))))))
            exact ⟨rfl, ⟨rfl, trivial⟩⟩
          · skip
            refine aw_iconst (v := 0) dX12_readsSum_81 (by decide) ?_
            refine aw_zreti dX12_readsSum_82 rfl (by first | exact Or.inl rfl | exact Or.inr rfl | assumption) (Nat.le_of_ble_eq_true rfl) (Nat.le_of_ble_eq_true rfl) ?_
            exact ⟨⟨(by first | exact Or.inl rfl | exact Or.inr rfl | assumption), Or.inl ⟨rfl, (Exists.imp (fun f z => ⟨z.1, i14_10 _ (O_op ((congrArg opr (hd_eqr sb_x18ln rfl h_22)).symm.trans ((h_28.2.resolve_left (fun z => c_33 z.1)).2)) (by rw [← qp_y155]; exact z.2))⟩) ((h_164.resolve_right (fun z => absurd (z.1.symm.trans c_171) (by decide))).2))⟩⟩, rfl, j_166⟩
        · skip
          have nc_148 : ¬ (4 ≤ z_147) := fun z => c_148 ((nI_leI (a := 4) (b := z_147) (by omega) (by omega)).mpr z)
          refine aw_iconst (v := 1) dX12_readsSum_33 (by decide) ?_
          refine aw_goto (tgt := 38) dX12_readsSum_34 (by decide) ?_
          refine aw_callVv (J' := jX12_closesSums) (As := [.int 1]) (st := []) dX12_readsSum_38 tb_1259 ok_X12_closesSums ⟨_, e_19⟩ (by omega) rfl rfl (r_closesSums l D b N V14 hN cl i14_0.1 1 wag_2 (dep coy_2) g sd14 wa14 pl0_19 ln coy_19 wag_19 sg dp14 sl sf sh st sm sk ⟨xg_x18, xs_x18, xw_x18, (FG.of e_19 rfl rfl), (FG.of e_19 rfl (by omega : le0_19 = ln)), (FG.of e_19 rfl rfl), (FG.of e_19 rfl rfl), hP_x18, ⟨by omega, by omega, by omega, by omega⟩, xa_x18, xb_x18, xd_x18, xe_x18, (FG.of e_19 rfl (by omega : say_19 = sm)), by omega⟩ (by omega) (by omega) hbt14) rfl (Nat.le_of_ble_eq_true rfl) ⟨Nat.le_of_ble_eq_true rfl, Nat.le_of_ble_eq_true rfl, Nat.le_of_ble_eq_true rfl, Nat.le_of_ble_eq_true rfl⟩ (fun  N_180 V_179 q_181 => ?_)
          obtain ⟨h_177, rfl, q_176⟩ := q_181
          have j_178 := JR.trans i14_0 (JR.weak q_176 (Sub.cons LM0 (by decide) (by decide) (by decide) (Or.inl rfl) (Sub.cons (LMs LM0) (by decide) (by decide) (by decide) (Or.inr ⟨by decide, by decide⟩) (Sub.cons (LMs (LMs (LMs (LMs (LMs (LMs LM0)))))) (by decide) (by decide) (by decide) (Or.inr ⟨by decide, by decide⟩) Sub.nil))))
          obtain ⟨sd_y182, pl_y182, cm_y182, wt_y182, dp_y182, hX_y182, qp_y182, qb_y182, qw_y182, qs_y182, qd_y182, qa_y182, qe_y182, qn_y182⟩ := h_177
          obtain ⟨xg_x183, xs_x183, xw_x183, xp_x183, xl_x183, xc_x183, xt_x183, hP_x183, ⟨hB1_x183, hB2_x183, hB3_x183, hB4_x183⟩, xa_x183, xb_x183, xd_x183, xe_x183, xm_x183, hB5_x183⟩ := hX_y182
          obtain ⟨ftoldPeople_184, ftoldDoors_184, fwasDoors_184, ffault_184, fopen_184, flines_184, fmeantSet_184, fopenedNow_184, fvainNow_184, flowNow_184, fhighNow_184, fisKept_184, tad_184, pl0_184, le0_184, nu0_184, coy_184, wag_184, say_184, e_184, hntad_184, hnpl0_184, hnle0_184, hnnu0_184, hncoy_184, hnwag_184, hnsay_184⟩ := JR.get j_178 cm_100
          clear hntad_19 hnpl0_19 hnle0_19 hnnu0_19 hncoy_19 hnwag_19 hnsay_19
          have sb_x183pl := FG.eq xp_x183 e_184 rfl (by omega) (by omega)
          subst sb_x183pl
          have sb_x183cm := FG.eq xc_x183 e_184 rfl (by omega) (by omega)
          subst sb_x183cm
          have sb_x183wt := FG.eq xt_x183 e_184 rfl (by omega) (by omega)
          subst sb_x183wt
          have sb_x183ln := FG.eq xl_x183 e_184 rfl (by omega) (by omega)
          have hsg_x183 := hP_x183.2.1
          have sb_x183sm := FG.eq xm_x183 e_184 rfl (by omega) (by omega)
          have hof_185 : fopen_184 = nI (dpt s + (k14 wa14 wag_2 wag_19)) := ((congrArg (fun z => fI z 18) e_184).trans rfl).symm.trans ((JR.fI q_176 (by decide) (by decide) (nfc (by omega) (nfc (by omega) (nfc (by omega) nf0)))).trans ((congrArg (fun z => fI z 18) e_19).trans rfl))
          subst hof_185
          refine aw_aload_n dX12_readsSum_41 rfl ?_
          refine aw_get dX12_readsSum_42 fl_X12_44 e_184 (by omega) rfl ?_
          refine aw_aload_n dX12_readsSum_45 rfl ?_
          refine aw_get dX12_readsSum_46 fl_X12_189 e_184 (by omega) rfl ?_
          refine aw_ldc (v := 1048576) dX12_readsSum_49 tb_1240 ?_
          refine aw_iload_n dX12_readsSum_51 rfl ?_
          refine aw_imul dX12_readsSum_52 ?_
          refine aw_eqi (y := nI (1048576 * z_147)) (pk_mul _ _) ?_
          refine aw_iast dX12_readsSum_53 xw_x183 (by omega) (vp_in_nI (n := wag_184) (by omega) (by omega)) ?_
          refine aw_upR j_178 cm_112 ⟨_, rfl⟩ (by decide) (WA LM0 (by decide) (by decide)) (fun V_186 j_186 k_186 e_186 => ?_)
          have e_187 : V_186 112 = cI D 260 (upd wa14 wag_184 (nI (1048576 * z_147))) := by rw [e_186, nI_clamp (n := wag_184) (by omega)]
          refine aw_aload_n dX12_readsSum_54 rfl ?_
          refine aw_aload_n dX12_readsSum_55 rfl ?_
          refine aw_get dX12_readsSum_56 fl_X12_189 ((k_186 _ (by decide)).trans e_184) (by omega) rfl ?_
          refine aw_iconst (v := 1) dX12_readsSum_59 (by decide) ?_
          refine aw_iadd dX12_readsSum_60 ?_
          refine aw_eqi (y := nI (wag_184 + 1)) (nI_add _ _) ?_
          refine aw_put dX12_readsSum_61 fp_X12_189 ((k_186 _ (by decide)).trans e_184) (by omega) rfl rfl (Nat.le_of_ble_eq_true rfl) rfl ?_
          refine aw_upR j_186 cm_100 ⟨_, _, _, _, _, _, _, _, _, _, _, _, tad_184, pl0_184, le0_184, nu0_184, coy_184, (wag_184 + 1), say_184, rfl, by omega, by omega, by omega, by omega, by omega, by omega, by omega⟩ (by decide) (WO (s := 20) (x := .int (nI (wag_184 + 1))) ((k_186 _ (by decide)).trans e_184) rfl (LMs (LMs (LMs (LMs (LMs (LMs LM0)))))) (by decide) (by decide) (by decide) (Or.inl (by decide))) (fun V_188 j_188 k_188 e_188 => ?_)
          refine aw_aload_n dX12_readsSum_64 rfl ?_
          refine aw_aload_n dX12_readsSum_65 rfl ?_
          refine aw_get dX12_readsSum_66 fl_X12_159 e_188 (by omega) rfl ?_
          refine aw_iconst (v := 1) dX12_readsSum_69 (by decide) ?_
          refine aw_iadd dX12_readsSum_70 ?_
          refine aw_eqi (y := nI (pl0_184 + 1)) (nI_add _ _) ?_
          refine aw_put dX12_readsSum_71 fp_X12_159 e_188 (by omega) rfl rfl (Nat.le_of_ble_eq_true rfl) rfl ?_
          refine aw_upR j_188 cm_100 ⟨_, _, _, _, _, _, _, _, _, _, _, _, tad_184, (pl0_184 + 1), le0_184, nu0_184, coy_184, (wag_184 + 1), say_184, rfl, by omega, by omega, by omega, by omega, by omega, by omega, by omega⟩ (by decide) (WO (s := 14) (x := .int (nI (pl0_184 + 1))) e_188 rfl (LMs (LMs LM0)) (by decide) (by decide) (by decide) (Or.inl (by decide))) (fun V_189 j_189 k_189 e_189 => ?_)
          have hpu := wgt_pushc (wa := wa14) (w := wag_184) (n := wag_2) (z := z_147) (by omega) (by omega)
          rw [if_pos (by omega)] at hpu
          have hPu := PS.push hP_x183 z_147 (by omega) (by omega) (by omega)
          have hSu := (SumE.sub i14_6 (by omega : wag_184 ≤ wag_19)).push (z := z_147) (by omega)
          have hK1 : (k14 wa14 wag_2 wag_19) = (k14 wa14 wag_2 wag_184) := k14_no (by omega) (fun i h1 h2 => by have := qa_y182 i h1 h2; omega)
          have hK2 : (k14 (upd wa14 wag_184 (nI (1048576 * z_147))) wag_2 (wag_184 + 1)) = (k14 wa14 wag_2 wag_184) := k14_push (by omega)
          refine aw_aload_n dX12_readsSum_74 rfl ?_
          refine aw_callVi (J' := jX12_readsFactor) (As := []) (st := []) dX12_readsSum_75 tb_1232 ok_X12_readsFactor ⟨_, e_189⟩ (by omega) rfl rfl (r_readsFactor3 l D b N V_189 hN cl j_189.1 wag_2 (dep coy_2) g sd_y182 (upd wa14 wag_184 (nI (1048576 * z_147))) (pl0_184 + 1) ln coy_184 (wag_184 + 1) sg dp_y182 sl sf sh st sm sk ⟨((k_189 _ (by decide)).trans ((k_188 _ (by decide)).trans ((k_186 _ (by decide)).trans xg_x183))), ((k_189 _ (by decide)).trans ((k_188 _ (by decide)).trans ((k_186 _ (by decide)).trans xs_x183))), ((k_189 _ (by decide)).trans ((k_188 _ (by decide)).trans e_187)), (FG.of e_189 rfl rfl), (FG.of e_189 rfl (by omega : le0_184 = ln)), (FG.of e_189 rfl rfl), (FG.of e_189 rfl rfl), hPu, ⟨by omega, by omega, by omega, by omega⟩, ((k_189 _ (by decide)).trans ((k_188 _ (by decide)).trans ((k_186 _ (by decide)).trans xa_x183))), ((k_189 _ (by decide)).trans ((k_188 _ (by decide)).trans ((k_186 _ (by decide)).trans xb_x183))), ((k_189 _ (by decide)).trans ((k_188 _ (by decide)).trans ((k_186 _ (by decide)).trans xd_x183))), ((k_189 _ (by decide)).trans ((k_188 _ (by decide)).trans ((k_186 _ (by decide)).trans xe_x183))), (FG.of e_189 rfl (by omega : say_184 = sm)), by omega⟩ (rp (k14 wa14 wag_2 wag_19) s) (((congrArg (fun z => fI z 18) e_189).trans rfl).trans (congrArg nI (dpt_rp _).symm)) (by have h9 : (dpt s + (k14 wa14 wag_2 wag_19)) = (dpt (rp (k14 wa14 wag_2 wag_19) s)) := (dpt_rp _).symm; omega) (by omega) (by omega)) rfl (Nat.le_of_ble_eq_true rfl) ⟨Nat.le_of_ble_eq_true rfl, Nat.le_of_ble_eq_true rfl, Nat.le_of_ble_eq_true rfl, Nat.le_of_ble_eq_true rfl⟩ (fun r_195 N_196 V_194 q_197 => ?_)
          obtain ⟨⟨z_192, h_191⟩, rfl, q_190⟩ := q_197
          have j_193 := JR.trans j_189 (JR.weak q_190 (Sub.cons LM0 (by decide) (by decide) (by decide) (Or.inl rfl) (Sub.cons (LMs LM0) (by decide) (by decide) (by decide) (Or.inr ⟨by decide, by decide⟩) (Sub.cons (LMs (LMs LM0)) (by decide) (by decide) (by decide) (Or.inr ⟨by decide, by decide⟩) (Sub.cons (LMs (LMs (LMs LM0))) (by decide) (by decide) (by decide) (Or.inr ⟨by decide, by decide⟩) (Sub.cons (LMs (LMs (LMs (LMs LM0)))) (by decide) (by decide) (by decide) (Or.inr ⟨by decide, by decide⟩) (Sub.cons (LMs (LMs (LMs (LMs (LMs LM0))))) (by decide) (by decide) (by decide) (Or.inr ⟨by decide, by decide⟩) (Sub.cons (LMs (LMs (LMs (LMs (LMs (LMs LM0)))))) (by decide) (by decide) (by decide) (Or.inr ⟨by decide, by decide⟩) Sub.nil))))))))
          refine aw_if_ne (tgt := 163) dX12_readsSum_78 (by decide) (fun c_198 => ?_) (fun c_198 => ?_)
          · skip
            obtain ⟨sd_y199, wa_y199, pl_y199, cm_y199, wt_y199, dp_y199, hX_y199, fw_y199, fa_y199, f14_y199, fs_y199, fd_y199, fp_y199, oo_y199, o6_y199, fr_y199⟩ := ((h_191.imp And.left And.right).resolve_left c_198)
            obtain ⟨xg_x200, xs_x200, xw_x200, xp_x200, xl_x200, xc_x200, xt_x200, hP_x200, ⟨hB1_x200, hB2_x200, hB3_x200, hB4_x200⟩, xa_x200, xb_x200, xd_x200, xe_x200, xm_x200, hB5_x200⟩ := hX_y199
            obtain ⟨ftoldPeople_201, ftoldDoors_201, fwasDoors_201, ffault_201, fopen_201, flines_201, fmeantSet_201, fopenedNow_201, fvainNow_201, flowNow_201, fhighNow_201, fisKept_201, tad_201, pl0_201, le0_201, nu0_201, coy_201, wag_201, say_201, e_201, hntad_201, hnpl0_201, hnle0_201, hnnu0_201, hncoy_201, hnwag_201, hnsay_201⟩ := JR.get j_193 cm_100
            clear hntad_184 hnpl0_184 hnle0_184 hnnu0_184 hncoy_184 hnwag_184 hnsay_184
            have sb_x200pl := FG.eq xp_x200 e_201 rfl (by omega) (by omega)
            subst sb_x200pl
            have sb_x200cm := FG.eq xc_x200 e_201 rfl (by omega) (by omega)
            subst sb_x200cm
            have sb_x200wt := FG.eq xt_x200 e_201 rfl (by omega) (by omega)
            subst sb_x200wt
            have sb_x200ln := FG.eq xl_x200 e_201 rfl (by omega) (by omega)
            have hsg_x200 := hP_x200.2.1
            have sb_x200sm := FG.eq xm_x200 e_201 rfl (by omega) (by omega)
            have hof_202 : fopen_201 = nI (dpt (rp (k14 wa14 wag_2 wag_19) s) + (wag_201 - (wag_184 + 1))) := ((congrArg (fun z => fI z 18) e_201).trans rfl).symm.trans oo_y199
            subst hof_202
            refine aw_goto (tgt := 14) dX12_readsSum_163 (by decide) ?_
            have hK3 : (k14 wa_y199 wag_2 wag_201) = (k14 wa14 wag_2 wag_19) + (wag_201 - (wag_184 + 1)) := by rw [k14_all (m := wag_184 + 1) (by omega) (by omega) (fun i h1 h2 => f14_y199 i h1 (by omega)), k14_congr fa_y199, hK2, ← hK1]
            refine aw_le ?_ (mih_14_17 _ (by omega) pl0_201 coy_201 wag_201 sd_y199 wa_y199 dp_y199 V_194 rfl (j_193) (⟨xg_x200, xs_x200, xw_x200, (FG.of e_201 rfl rfl), (FG.of e_201 rfl (by omega : le0_201 = ln)), (FG.of e_201 rfl rfl), (FG.of e_201 rfl rfl), hP_x200, ⟨by omega, by omega, by omega, by omega⟩, xa_x200, xb_x200, xd_x200, xe_x200, (FG.of e_201 rfl (by omega : say_201 = sm)), by omega⟩) (by omega) (by omega) (fun k hk => ((fs_y199 k hk).trans (qs_y182 k hk)).trans (i14_4 k hk)) (agr (agu i14_5 (by omega)) fa_y199 (by omega)) (SumE.more hSu fa_y199 f14_y199) (by omega) ((((congrArg (fun z => fI z 18) e_201).trans rfl)).trans (congrArg nI (by rw [dpt_rp]; omega))) ((by have h7 := o6_y199; rw [dpt_rp] at h7; omega)) ((by rw [hK3]; exact fun o q => i14_10 o (O_op ((congrArg opr (hd_eqr sb_x18ln rfl h_22)).symm.trans ((h_28.2.resolve_left (fun z => c_33 z.1)).2)) (by rw [← qp_y182]; exact fr_y199 o (by rw [rp_add, Nat.add_comm]; exact q))))))
            exact ⟨rfl, ⟨rfl, trivial⟩⟩
          · skip
            refine aw_iconst (v := 0) dX12_readsSum_81 (by decide) ?_
            refine aw_zreti dX12_readsSum_82 rfl (by first | exact Or.inl rfl | exact Or.inr rfl | assumption) (Nat.le_of_ble_eq_true rfl) (Nat.le_of_ble_eq_true rfl) ?_
            exact ⟨⟨(by first | exact Or.inl rfl | exact Or.inr rfl | assumption), Or.inl ⟨rfl, (Exists.imp (fun f z => ⟨z.1, i14_10 _ (O_op ((congrArg opr (hd_eqr sb_x18ln rfl h_22)).symm.trans ((h_28.2.resolve_left (fun z => c_33 z.1)).2)) (by rw [← qp_y182]; exact z.2))⟩) ((h_191.resolve_right (fun z => absurd (z.1.symm.trans c_198) (by decide))).2))⟩⟩, rfl, j_193⟩
    have hK0 : (k14 wa_y13 wag_2 wag_15) = wag_15 - wag_2 := by rw [k14_all (m := wag_2) (Nat.le_refl _) (by omega) (fun i h1 h2 => f14_y13 i h1 (by omega)), k14_low (Nat.le_refl _)]; omega
    refine aw_le ?_ (ml_14_17 _ pl0_15 coy_15 wag_15 sd_y13 wa_y13 dp_y13 V_8 rfl (j_7) (⟨xg_x14, xs_x14, xw_x14, (FG.of e_15 rfl rfl), (FG.of e_15 rfl (by omega : le0_15 = ln)), (FG.of e_15 rfl rfl), (FG.of e_15 rfl rfl), hP_x14, ⟨by omega, by omega, by omega, by omega⟩, xa_x14, xb_x14, xd_x14, xe_x14, (FG.of e_15 rfl (by omega : say_15 = sm)), by omega⟩) (by omega) (by omega) (fs_y13) (fa_y13) (fun i h1 h2 => Or.inr (f14_y13 i h1 (by omega))) (by omega) ((((congrArg (fun z => fI z 18) e_15).trans rfl)).trans (congrArg nI (by omega))) (by omega) ((by rw [hK0]; exact fr_y13)))
    exact ⟨rfl, ⟨rfl, trivial⟩⟩
  · skip
    refine aw_iconst (v := 0) dX12_readsSum_12 (by decide) ?_
    refine aw_zreti dX12_readsSum_13 rfl (by first | exact Or.inl rfl | exact Or.inr rfl | assumption) (Nat.le_of_ble_eq_true rfl) (Nat.le_of_ble_eq_true rfl) ?_
    exact ⟨⟨(by first | exact Or.inl rfl | exact Or.inr rfl | assumption), Or.inl ⟨rfl, (Exists.imp (fun f z => ⟨z.1, z.2⟩) ((h_5.resolve_right (fun z => absurd (z.1.symm.trans c_12) (by decide))).2))⟩⟩, rfl, j_7⟩

