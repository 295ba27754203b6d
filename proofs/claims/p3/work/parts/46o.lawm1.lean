set_option maxHeartbeats 4000000 in
set_option maxRecDepth 100000 in
theorem r_wrongAt3 (l : Launch) (D : va_G) (b : Nat) (N : Nat) (V : Wd) (hN : 133 ≤ N) (cl : Nat) (hW : CR D b cl V) (n0 : Int32) (n1 : Int32) (pl ln : Nat) (hpl : FG b 14 pl V) (hln : FG b 15 ln V) (hb : pl ≤ 240 ∧ ln ≤ 240)  : MI l D b 0 jX12_wrongAt [.ref (b + 100), .int n0, .int n1] N V 0 0 (fun r N9 V9 => ((r = 0 ∨ r = 1) ∧ (∃ a9, pl ≤ a9 ∧ a9 ≤ 240 ∧ FG b 14 a9 V9 ∧ FG b 15 ln V9 ∧ V9 110 = V 110 ∧ (r = 0 ∧ fI (V9 100) 16 = -1000 * n0 - n1))) ∧ N = N9 ∧ JR D b N cl [(100, 100, 16, 16)] V V9) := by
  have hJ0 : JR D b N cl [(100, 100, 16, 16)] V V := JR.rf hW
  refine mw_of (by decide) (by simp [Value.category]) (Nat.le_of_ble_eq_true rfl) ?_
  show AW l D b jX12_wrongAt (fx_rm 0 0 0) none (fx_MQ D b 0 0 (fx_qi (fun r N9 V9 => ((r = 0 ∨ r = 1) ∧ (∃ a9, pl ≤ a9 ∧ a9 ≤ 240 ∧ FG b 14 a9 V9 ∧ FG b 15 ln V9 ∧ V9 110 = V 110 ∧ (r = 0 ∧ fI (V9 100) 16 = -1000 * n0 - n1))) ∧ N = N9 ∧ JR D b N cl [(100, 100, 16, 16)] V V9))) 0 [some (.ref (b + 100)), some (.int n0), some (.int n1)] [] N V 0 0
  obtain ⟨g_1, e_1⟩ := JR.get hJ0 cm_110
  obtain ⟨ftoldPeople_2, ftoldDoors_2, fwasDoors_2, ffault_2, fopen_2, flines_2, fmeantSet_2, fopenedNow_2, fvainNow_2, flowNow_2, fhighNow_2, fisKept_2, tad_2, pl0_2, le0_2, nu0_2, coy_2, wag_2, say_2, e_2, hntad_2, hnpl0_2, hnle0_2, hnnu0_2, hncoy_2, hnwag_2, hnsay_2⟩ := JR.get hJ0 cm_100
  have hq_p := FG.eq hpl e_2 rfl (by omega) (by omega)
  have hq_l := FG.eq hln e_2 rfl (by omega) (by omega)
  refine aw_aload_n dX12_wrongAt_0 rfl ?_
  refine aw_sipush (v := (-1000)) dX12_wrongAt_1 (by decide) ?_
  refine aw_iload_n dX12_wrongAt_4 rfl ?_
  refine aw_imul dX12_wrongAt_5 ?_
  refine aw_iload_n dX12_wrongAt_6 rfl ?_
  refine aw_isub dX12_wrongAt_7 ?_
  refine aw_put dX12_wrongAt_8 fp_X12_169 e_2 (by omega) rfl rfl (Nat.le_of_ble_eq_true rfl) rfl ?_
  refine aw_upR hJ0 cm_100 ⟨_, _, _, _, _, _, _, _, _, _, _, _, tad_2, pl0_2, le0_2, nu0_2, coy_2, wag_2, say_2, rfl, by omega, by omega, by omega, by omega, by omega, by omega, by omega⟩ (by decide) (WO (s := 16) (x := .int (((-1000) * n0) - n1)) e_2 rfl LM0 (by decide) (by decide) (by decide) (Or.inl (by decide))) (fun V_3 j_3 k_3 e_3 => ?_)
  refine aw_iconst (v := 0) dX12_wrongAt_11 (by decide) ?_
  refine aw_zreti dX12_wrongAt_12 rfl (by first | exact Or.inl rfl | exact Or.inr rfl | assumption) (Nat.le_of_ble_eq_true rfl) (Nat.le_of_ble_eq_true rfl) ?_
  exact ⟨⟨(by first | exact Or.inl rfl | exact Or.inr rfl | assumption), ⟨pl0_2, by omega, by omega, (FG.of e_3 rfl rfl), (FG.of e_3 rfl (by omega : le0_2 = ln)), (((k_3 _ (by decide)).trans e_1)).trans e_1.symm, ⟨rfl, ((congrArg (fun z => fI z 16) e_3).trans rfl)⟩⟩⟩, rfl, j_3⟩

set_option maxHeartbeats 4000000 in
set_option maxRecDepth 100000 in
theorem r_readsNumber3 (l : Launch) (D : va_G) (b : Nat) (N : Nat) (V : Wd) (hN : 133 ≤ N) (cl : Nat) (hW : CR D b cl V)  (pl ln : Nat) (hpl : FG b 14 pl V) (hln : FG b 15 ln V) (hb : pl ≤ 240 ∧ ln ≤ 240) (g sd wa : Nat → Int32) (hg : V 110 = cB D 260 g) (hsd : V 111 = cI D 260 sd) (hwa : V 112 = cI D 260 wa) (cm wt sm : Nat) (hcm : FG b 19 cm V) (hwt : FG b 20 wt V) (hsm : FG b 21 sm V) (hcw : cm ≤ 260 ∧ wt ≤ 260 ∧ sm ≤ 16) (hdq : ∃ q : Nat, q < 10 ∧ hereF g pl ln = nI (48 + q)) : MI l D b 2 jX12_readsNumber [.ref (b + 100)] N V 0 0 (fun r N9 V9 => ((r = 0 ∨ r = 1) ∧ (∃ a9, pl ≤ a9 ∧ a9 ≤ 240 ∧ FG b 14 a9 V9 ∧ FG b 15 ln V9 ∧ V9 110 = V 110 ∧ ((r = 0 ∧ ∃ f, num (gb g) ln 5 pl = .inl f ∧ fI (V9 100) 16 = f) ∨ (r = 1 ∧ (∃ v, num (gb g) ln 5 pl = .inr (a9, v)) ∧ pl < a9 ∧ FG b 19 cm V9 ∧ FG b 20 wt V9 ∧ FG b 21 sm V9 ∧ ∀ i, i ≠ 100 → V9 i = V i)))) ∧ N = N9 ∧ JR D b N cl [(100, 100, 17, 17), (100, 100, 14, 14), (100, 100, 16, 16)] V V9) := by
  have hJ0 : JR D b N cl [(100, 100, 17, 17), (100, 100, 14, 14), (100, 100, 16, 16)] V V := JR.rf hW
  refine mw_of (by decide) (by simp [Value.category]) (Nat.le_of_ble_eq_true rfl) ?_
  show AW l D b jX12_readsNumber (fx_rm 2 0 0) none (fx_MQ D b 0 0 (fx_qi (fun r N9 V9 => ((r = 0 ∨ r = 1) ∧ (∃ a9, pl ≤ a9 ∧ a9 ≤ 240 ∧ FG b 14 a9 V9 ∧ FG b 15 ln V9 ∧ V9 110 = V 110 ∧ ((r = 0 ∧ ∃ f, num (gb g) ln 5 pl = .inl f ∧ fI (V9 100) 16 = f) ∨ (r = 1 ∧ (∃ v, num (gb g) ln 5 pl = .inr (a9, v)) ∧ pl < a9 ∧ FG b 19 cm V9 ∧ FG b 20 wt V9 ∧ FG b 21 sm V9 ∧ ∀ i, i ≠ 100 → V9 i = V i)))) ∧ N = N9 ∧ JR D b N cl [(100, 100, 17, 17), (100, 100, 14, 14), (100, 100, 16, 16)] V V9))) 0 [some (.ref (b + 100)), none] [] N V 0 0
  obtain ⟨ftoldPeople_1, ftoldDoors_1, fwasDoors_1, ffault_1, fopen_1, flines_1, fmeantSet_1, fopenedNow_1, fvainNow_1, flowNow_1, fhighNow_1, fisKept_1, tad_1, pl0_1, le0_1, nu0_1, coy_1, wag_1, say_1, e_1, hntad_1, hnpl0_1, hnle0_1, hnnu0_1, hncoy_1, hnwag_1, hnsay_1⟩ := JR.get hJ0 cm_100
  have hq_p := FG.eq hpl e_1 rfl (by omega) (by omega)
  have hq_l := FG.eq hln e_1 rfl (by omega) (by omega)
  have hq_c := FG.eq hcm e_1 rfl (by omega) (by omega)
  have hq_w := FG.eq hwt e_1 rfl (by omega) (by omega)
  have hq_s := FG.eq hsm e_1 rfl (by omega) (by omega)
  have hd9 : isDg (hd (gb g) ln pl) = true := isDg_of8 rfl rfl hdq
  have hpl9 := isDg_hd hd9
  refine aw_aload_n dX12_readsNumber_0 rfl ?_
  refine aw_get dX12_readsNumber_1 fl_X12_159 e_1 (by omega) rfl ?_
  refine aw_istore_n (ls' := [some (.ref (b + 100)), some (.int (nI pl0_1))]) dX12_readsNumber_4 (Nat.le_of_ble_eq_true rfl) rfl ?_
  refine aw_aload_n dX12_readsNumber_5 rfl ?_
  refine aw_iconst (v := 0) dX12_readsNumber_6 (by decide) ?_
  refine aw_put dX12_readsNumber_7 fp_X12_175 e_1 (by omega) rfl rfl (Nat.le_of_ble_eq_true rfl) rfl ?_
  refine aw_upR hJ0 cm_100 ⟨_, _, _, _, _, _, _, _, _, _, _, _, tad_1, pl0_1, le0_1, 0, coy_1, wag_1, say_1, rfl, by omega, by omega, by omega, by omega, by omega, by omega, by omega⟩ (by decide) (WO (s := 17) (x := .int 0) e_1 rfl LM0 (by decide) (by decide) (by decide) (Or.inl (by decide))) (fun V_2 j_2 k_2 e_2 => ?_)
  have ml_10_3 : ∀ (m : Nat) (a10 : Nat) (q10 : Nat) (cc10 : Nat) (ww10 : Nat) (sx10 : Nat) (V10 : Wd), m = 240 - a10 → (JR D b N cl [(100, 100, 17, 17), (100, 100, 14, 14), (100, 100, 16, 16)] V V10) → (FG b 14 a10 V10) → (FG b 17 q10 V10) → (FG b 19 cc10 V10) → (FG b 20 ww10 V10) → (FG b 21 sx10 V10) → (FG b 15 ln V10) → (∀ i, i ≠ 100 → V10 i = V i) → ((pl ≤ a10 ∧ a10 ≤ 240 ∧ cc10 = cm ∧ ww10 = wt ∧ sx10 = sm) ∧ ((a10 = pl ∧ q10 = 0) ∨ (a10 = pl + 1 ∧ q10 < 10) ∨ (a10 = pl + 2 ∧ q10 < 100) ∨ (a10 = pl + 3 ∧ q10 < 1000) ∨ (a10 = pl + 4 ∧ q10 < 10000) ∨ (a10 = pl + 5 ∧ q10 < 100000))) → (numL (gb g) ln 5 pl (ln - a10) a10 q10 = numL (gb g) ln 5 pl (ln - pl) pl 0) → (a10 ≤ ln) → AW l D b jX12_readsNumber (fx_rm 2 0 0) none (fx_MQ D b 0 0 (fx_qi (fun r N9 V9 => ((r = 0 ∨ r = 1) ∧ (∃ a9, pl ≤ a9 ∧ a9 ≤ 240 ∧ FG b 14 a9 V9 ∧ FG b 15 ln V9 ∧ V9 110 = V 110 ∧ ((r = 0 ∧ ∃ f, num (gb g) ln 5 pl = .inl f ∧ fI (V9 100) 16 = f) ∨ (r = 1 ∧ (∃ v, num (gb g) ln 5 pl = .inr (a9, v)) ∧ pl < a9 ∧ FG b 19 cm V9 ∧ FG b 20 wt V9 ∧ FG b 21 sm V9 ∧ ∀ i, i ≠ 100 → V9 i = V i)))) ∧ N = N9 ∧ JR D b N cl [(100, 100, 17, 17), (100, 100, 14, 14), (100, 100, 16, 16)] V V9))) 10 [some (.ref (b + 100)), some (.int (nI pl0_1))] [] N V10 0 0 := by
    intro m; refine Nat.strongRecOn m ?_
    intro m mih_10_3 a10 q10 cc10 ww10 sx10 V10 hm10 i10_0 i10_1 i10_2 i10_3 i10_4 i10_5 i10_6 i10_7 i10_8 i10_9 i10_10
    obtain ⟨ftoldPeople_4, ftoldDoors_4, fwasDoors_4, ffault_4, fopen_4, flines_4, fmeantSet_4, fopenedNow_4, fvainNow_4, flowNow_4, fhighNow_4, fisKept_4, tad_4, pl0_4, le0_4, nu0_4, coy_4, wag_4, say_4, e_4, hntad_4, hnpl0_4, hnle0_4, hnnu0_4, hncoy_4, hnwag_4, hnsay_4⟩ := JR.get i10_0 cm_100
    have hq0_10 := FG.eq i10_1 e_4 rfl (by omega) (by omega)
    have hq1_10 := FG.eq i10_2 e_4 rfl (by omega) (by omega)
    have hq2_10 := FG.eq i10_3 e_4 rfl (by omega) (by omega)
    have hq3_10 := FG.eq i10_4 e_4 rfl (by omega) (by omega)
    have hq4_10 := FG.eq i10_5 e_4 rfl (by omega) (by omega)
    have hql_10 := FG.eq i10_6 e_4 rfl (by omega) (by omega)
    refine aw_aload_n dX12_readsNumber_10 rfl ?_
    refine aw_callVi (J' := jX12_isDigit) (As := []) (st := []) dX12_readsNumber_11 tb_1241 ok_X12_isDigit ⟨_, e_4⟩ (by omega) rfl rfl (r_isDigitB l D b N V10 hN cl i10_0.1 g ((i10_7 110 (by decide)).trans hg) pl0_4 le0_4 (FG.of e_4 rfl rfl) (FG.of e_4 rfl rfl) ⟨by omega, by omega⟩) rfl (Nat.le_of_ble_eq_true rfl) ⟨Nat.le_of_ble_eq_true rfl, Nat.le_of_ble_eq_true rfl, Nat.le_of_ble_eq_true rfl, Nat.le_of_ble_eq_true rfl⟩ (fun r_8 N_9 V_10 q_11 => ?_)
    obtain ⟨⟨z_7, h_6⟩, rfl, rfl⟩ := q_11
    refine aw_if_eq (tgt := 69) dX12_readsNumber_14 (by decide) (fun c_12 => ?_) (fun c_12 => ?_)
    · skip
      refine aw_iconst (v := 1) dX12_readsNumber_69 (by decide) ?_
      have hne : pl < pl0_4 := by rcases Nat.lt_or_ge pl pl0_4 with q | q; exact q; obtain ⟨z, hz, e⟩ := hdq; exact (dig_no (h_6.1 c_12) hz (by rw [show pl0_4 = pl by omega, show le0_4 = ln by omega]; exact e)).elim
      refine aw_zreti dX12_readsNumber_70 rfl (by first | exact Or.inl rfl | exact Or.inr rfl | assumption) (Nat.le_of_ble_eq_true rfl) (Nat.le_of_ble_eq_true rfl) ?_
      exact ⟨⟨(by first | exact Or.inl rfl | exact Or.inr rfl | assumption), ⟨pl0_4, by omega, by omega, (FG.of e_4 rfl rfl), (FG.of e_4 rfl (by omega : le0_4 = ln)), (((i10_7 110 (by decide)).trans hg)).trans hg.symm, Or.inr ⟨rfl, (by rw [hq0_10]; exact ⟨_, (num_in hd9).trans (i10_9.symm.trans (numL_stop (isDg_no8 hql_10 hq0_10 (h_6.1 c_12))))⟩), hne, (FG.of e_4 rfl (by omega : coy_4 = cm)), (FG.of e_4 rfl (by omega : wag_4 = wt)), (FG.of e_4 rfl (by omega : say_4 = sm)), fun i h100 => i10_7 i h100⟩⟩⟩, rfl, i10_0⟩
    · skip
      obtain ⟨z_13, hz_13, ez_13⟩ := h_6.2.resolve_left c_12
      have hlc_12 := here_ltd ez_13 (by omega)
      refine aw_aload_n dX12_readsNumber_17 rfl ?_
      refine aw_get dX12_readsNumber_18 fl_X12_159 e_4 (by omega) rfl ?_
      refine aw_iload_n dX12_readsNumber_21 rfl ?_
      refine aw_iconst (v := 5) dX12_readsNumber_22 (by decide) ?_
      refine aw_iadd dX12_readsNumber_23 ?_
      refine aw_eqi (y := nI (pl0_1 + 5)) (nI_add _ _) ?_
      refine aw_icmp_ne (tgt := 37) dX12_readsNumber_24 (by decide) (fun c_14 => ?_) (fun c_14 => ?_)
      · skip
        have nc_14 : ¬ (pl0_4 = (pl0_1 + 5)) := fun z => c_14 ((nI_eq (a := pl0_4) (b := (pl0_1 + 5)) (by omega) (by omega)).mpr z)
        refine aw_aload_n dX12_readsNumber_37 rfl ?_
        refine aw_bipush (v := 10) dX12_readsNumber_38 (by decide) ?_
        refine aw_aload_n dX12_readsNumber_40 rfl ?_
        refine aw_get dX12_readsNumber_41 fl_X12_175 e_4 (by omega) rfl ?_
        refine aw_imul dX12_readsNumber_44 ?_
        refine aw_eqi (y := nI (10 * nu0_4)) (pk_mul _ _) ?_
        refine aw_aload_n dX12_readsNumber_45 rfl ?_
        refine aw_callVi (J' := jX12_here) (As := []) (st := [.int (nI (10 * nu0_4)), .ref (b + 100)]) dX12_readsNumber_46 tb_1220 ok_X12_here ⟨_, e_4⟩ (by omega) rfl rfl (r_here l D b N V10 hN cl i10_0.1 g ((i10_7 110 (by decide)).trans hg) pl0_4 le0_4 (FG.of e_4 rfl rfl) (FG.of e_4 rfl rfl) ⟨by omega, by omega⟩) rfl (Nat.le_of_ble_eq_true rfl) ⟨Nat.le_of_ble_eq_true rfl, Nat.le_of_ble_eq_true rfl, Nat.le_of_ble_eq_true rfl, Nat.le_of_ble_eq_true rfl⟩ (fun r_17 N_18 V_19 q_20 => ?_)
        obtain ⟨h_16, rfl, rfl⟩ := q_20
        refine aw_eqi (h_16.trans ez_13) ?_
        refine aw_iadd dX12_readsNumber_49 ?_
        refine aw_eqi (y := nI ((10 * nu0_4) + (48 + z_13))) (nI_add _ _) ?_
        refine aw_bipush (v := 48) dX12_readsNumber_50 (by decide) ?_
        refine aw_isub dX12_readsNumber_52 ?_
        refine aw_eqi (y := (nI (((10 * nu0_4) + (48 + z_13)) - 48))) (pk_sub (a := ((10 * nu0_4) + (48 + z_13))) (b := 48) (by omega)) ?_
        refine aw_put dX12_readsNumber_53 fp_X12_175 e_4 (by omega) rfl rfl (Nat.le_of_ble_eq_true rfl) rfl ?_
        refine aw_upR i10_0 cm_100 ⟨_, _, _, _, _, _, _, _, _, _, _, _, tad_4, pl0_4, le0_4, (((10 * nu0_4) + (48 + z_13)) - 48), coy_4, wag_4, say_4, rfl, by omega, by omega, by omega, by omega, by omega, by omega, by omega⟩ (by decide) (WO (s := 17) (x := .int (nI (((10 * nu0_4) + (48 + z_13)) - 48))) e_4 rfl LM0 (by decide) (by decide) (by decide) (Or.inl (by decide))) (fun V_21 j_21 k_21 e_21 => ?_)
        refine aw_aload_n dX12_readsNumber_56 rfl ?_
        refine aw_aload_n dX12_readsNumber_57 rfl ?_
        refine aw_get dX12_readsNumber_58 fl_X12_159 e_21 (by omega) rfl ?_
        refine aw_iconst (v := 1) dX12_readsNumber_61 (by decide) ?_
        refine aw_iadd dX12_readsNumber_62 ?_
        refine aw_eqi (y := nI (pl0_4 + 1)) (nI_add _ _) ?_
        refine aw_put dX12_readsNumber_63 fp_X12_159 e_21 (by omega) rfl rfl (Nat.le_of_ble_eq_true rfl) rfl ?_
        refine aw_upR j_21 cm_100 ⟨_, _, _, _, _, _, _, _, _, _, _, _, tad_4, (pl0_4 + 1), le0_4, (((10 * nu0_4) + (48 + z_13)) - 48), coy_4, wag_4, say_4, rfl, by omega, by omega, by omega, by omega, by omega, by omega, by omega⟩ (by decide) (WO (s := 14) (x := .int (nI (pl0_4 + 1))) e_21 rfl (LMs LM0) (by decide) (by decide) (by decide) (Or.inl (by decide))) (fun V_22 j_22 k_22 e_22 => ?_)
        refine aw_goto (tgt := 10) dX12_readsNumber_66 (by decide) ?_
        refine aw_le ?_ (mih_10_3 _ (by omega) (pl0_4 + 1) (((10 * nu0_4) + (48 + z_13)) - 48) coy_4 wag_4 say_4 V_22 rfl (j_22) ((FG.of e_22 rfl rfl)) ((FG.of e_22 rfl rfl)) ((FG.of e_22 rfl rfl)) ((FG.of e_22 rfl rfl)) ((FG.of e_22 rfl rfl)) ((FG.of e_22 rfl (by omega : le0_4 = ln))) (fun i h100 => (k_22 i h100).trans ((k_21 i h100).trans (i10_7 i h100))) (by omega) ((by have t9 := numL_step (v := q10) (k := 5) (a0 := pl) (isDg_of8 hql_10 hq0_10 (h_6.2.resolve_left c_12)) (by omega) hz_13 (hd_is hql_10 hq0_10 rfl ez_13); rw [show 10 * q10 + z_13 = (((10 * nu0_4) + (48 + z_13)) - 48) by omega] at t9; have t8 := t9.symm.trans i10_9; rw [← hq0_10] at t8; exact t8)) (by omega))
        exact ⟨rfl, ⟨rfl, trivial⟩⟩
      · skip
        have nc_14 : pl0_4 = (pl0_1 + 5) := (nI_eq (a := pl0_4) (b := (pl0_1 + 5)) (by omega) (by omega)).mp c_14
        refine aw_aload_n dX12_readsNumber_27 rfl ?_
        refine aw_iconst (v := 2) dX12_readsNumber_28 (by decide) ?_
        refine aw_aload_n dX12_readsNumber_29 rfl ?_
        refine aw_get dX12_readsNumber_30 fl_X12_159 e_4 (by omega) rfl ?_
        refine aw_callVi (J' := jX12_wrongAt) (As := [.int 2, .int (nI pl0_4)]) (st := []) dX12_readsNumber_33 tb_1224 ok_X12_wrongAt ⟨_, e_4⟩ (by omega) rfl rfl (r_wrongAt3 l D b N V10 hN cl i10_0.1 2 (nI pl0_4) pl0_4 le0_4 (FG.of e_4 rfl rfl) (FG.of e_4 rfl rfl) ⟨by omega, by omega⟩) rfl (Nat.le_of_ble_eq_true rfl) ⟨Nat.le_of_ble_eq_true rfl, Nat.le_of_ble_eq_true rfl, Nat.le_of_ble_eq_true rfl, Nat.le_of_ble_eq_true rfl⟩ (fun r_37 N_38 V_27 q_39 => ?_)
        obtain ⟨⟨z_25, h_24⟩, rfl, q_23⟩ := q_39
        have j_26 := JR.trans i10_0 (JR.weak q_23 (Sub.cons (LMs (LMs LM0)) (by decide) (by decide) (by decide) (Or.inr ⟨by decide, by decide⟩) Sub.nil))
        obtain ⟨a_28, ha_29, hA_30, hF_31, hL_32, hz_33, hX_34⟩ := h_24
        obtain ⟨ftoldPeople_k35, ftoldDoors_k35, fwasDoors_k35, ffault_k35, fopen_k35, flines_k35, fmeantSet_k35, fopenedNow_k35, fvainNow_k35, flowNow_k35, fhighNow_k35, fisKept_k35, tad_k35, pl0_k35, le0_k35, nu0_k35, coy_k35, wag_k35, say_k35, e_k35, hntad_k35, hnpl0_k35, hnle0_k35, hnnu0_k35, hncoy_k35, hnwag_k35, hnsay_k35⟩ := JR.get j_26 cm_100
        have hqp_k35 := FG.eq hF_31 e_k35 rfl (by omega) (by omega)
        have hql_k35 := FG.eq hL_32 e_k35 rfl (by omega) (by omega)
        obtain ⟨rfl, hw_36⟩ := hX_34
        refine aw_zreti dX12_readsNumber_36 rfl (by first | exact Or.inl rfl | exact Or.inr rfl | assumption) (Nat.le_of_ble_eq_true rfl) (Nat.le_of_ble_eq_true rfl) ?_
        exact ⟨⟨(by first | exact Or.inl rfl | exact Or.inr rfl | assumption), ⟨pl0_k35, by omega, by omega, (FG.of e_k35 rfl rfl), (FG.of e_k35 rfl (by omega : le0_k35 = ln)), ((hz_33.trans ((i10_7 110 (by decide)).trans hg))).trans hg.symm, Or.inl ⟨rfl, _, (num_in hd9).trans (i10_9.symm.trans (numL_over (isDg_of8 hql_10 hq0_10 (h_6.2.resolve_left c_12)) (by omega))), (hw_36).trans (congrArg (fun q => flt 2 q) hq0_10)⟩⟩⟩, rfl, j_26⟩
  refine aw_le ?_ (ml_10_3 _ pl0_1 0 coy_1 wag_1 say_1 V_2 rfl (j_2) ((FG.of e_2 rfl rfl)) ((FG.of e_2 rfl rfl)) ((FG.of e_2 rfl rfl)) ((FG.of e_2 rfl rfl)) ((FG.of e_2 rfl rfl)) ((FG.of e_2 rfl (by omega : le0_1 = ln))) (fun i h100 => k_2 i h100) (by omega) ((by rw [hq_p])) (by omega))
  exact ⟨rfl, ⟨rfl, trivial⟩⟩

set_option maxHeartbeats 4000000 in
set_option maxRecDepth 100000 in
theorem r_opens3 (l : Launch) (D : va_G) (b : Nat) (N : Nat) (V : Wd) (hN : 133 ≤ N) (cl : Nat) (hW : CR D b cl V) (n0 : Int32) (o : Nat) (ho : o ≤ 15) (ftoldPeople_0 : Int32) (ftoldDoors_0 : Int32) (fwasDoors_0 : Int32) (ffault_0 : Int32) (fopen_0 : Int32) (flines_0 : Int32) (fmeantSet_0 : Int32) (fopenedNow_0 : Int32) (fvainNow_0 : Int32) (flowNow_0 : Int32) (fhighNow_0 : Int32) (fisKept_0 : Int32) (tad_0 : Nat) (pl0_0 : Nat) (le0_0 : Nat) (nu0_0 : Nat) (coy_0 : Nat) (wag_0 : Nat) (say_0 : Nat) (hn0 : tad_0 ≤ 260 ∧ pl0_0 ≤ 240 ∧ le0_0 ≤ 240 ∧ nu0_0 ≤ 99999 ∧ coy_0 ≤ 260 ∧ wag_0 ≤ 260 ∧ say_0 ≤ 16) (h100 : V 100 = cO 11 [.ref (b + 101), .ref (b + 102), .ref (b + 103), .ref (b + 104), .ref (b + 105), .ref (b + 106), .ref (b + 107), .ref (b + 108), .ref (b + 109), .int ftoldPeople_0, .int ftoldDoors_0, .int fwasDoors_0, .ref (b + 110), .int (nI tad_0), .int (nI pl0_0), .int (nI le0_0), .int ffault_0, .int (nI nu0_0), .int fopen_0, .int (nI coy_0), .int (nI wag_0), .int (nI say_0), .int (nI cl), .ref (b + 111), .ref (b + 112), .ref (b + 113), .ref (b + 114), .ref (b + 115), .ref (b + 116), .ref (b + 117), .ref (b + 118), .ref (b + 119), .ref (b + 120), .ref (b + 121), .ref (b + 122), .ref (b + 123), .int flines_0, .int fmeantSet_0, .int fopenedNow_0, .int fvainNow_0, .ref (b + 124), .ref (b + 125), .ref (b + 126), .ref (b + 127), .ref (b + 128), .int flowNow_0, .int fhighNow_0, .ref (b + 129), .ref (b + 130), .ref (b + 131), .ref (b + 132), .int fisKept_0]) (g sd wa : Nat → Int32) (hg : V 110 = cB D 260 g) (hsd : V 111 = cI D 260 sd) (hwa : V 112 = cI D 260 wa) (hw : wag_0 < 260) (hp : pl0_0 < 240) : MI l D b 1 jX12_opens [.ref (b + 100), .int (nI o)] N V 0 0 (fun r N9 V9 => ((r = 0 ∨ r = 1) ∧ ((r = 0 ∧ fopen_0 = 6 ∧ fI (V9 100) 16 = flt 5 pl0_0) ∨ (r = 1 ∧ ¬ fopen_0 = 6 ∧ V9 100 = cO 11 [.ref (b + 101), .ref (b + 102), .ref (b + 103), .ref (b + 104), .ref (b + 105), .ref (b + 106), .ref (b + 107), .ref (b + 108), .ref (b + 109), .int ftoldPeople_0, .int ftoldDoors_0, .int fwasDoors_0, .ref (b + 110), .int (nI tad_0), .int (nI (pl0_0 + 1)), .int (nI le0_0), .int ffault_0, .int (nI nu0_0), .int (fopen_0 + 1), .int (nI coy_0), .int (nI (wag_0 + 1)), .int (nI say_0), .int (nI cl), .ref (b + 111), .ref (b + 112), .ref (b + 113), .ref (b + 114), .ref (b + 115), .ref (b + 116), .ref (b + 117), .ref (b + 118), .ref (b + 119), .ref (b + 120), .ref (b + 121), .ref (b + 122), .ref (b + 123), .int flines_0, .int fmeantSet_0, .int fopenedNow_0, .int fvainNow_0, .ref (b + 124), .ref (b + 125), .ref (b + 126), .ref (b + 127), .ref (b + 128), .int flowNow_0, .int fhighNow_0, .ref (b + 129), .ref (b + 130), .ref (b + 131), .ref (b + 132), .int fisKept_0] ∧ V9 112 = cI D 260 (upd wa wag_0 (nI (1048576 * o))) ∧ ∀ i, i ≠ 100 → i ≠ 112 → V9 i = V i))) ∧ N = N9 ∧ JR D b N cl [(112, 112, 0, 1000000), (100, 100, 18, 18), (100, 100, 20, 20), (100, 100, 14, 14), (100, 100, 16, 16)] V V9) := by
  have hJ0 : JR D b N cl [(112, 112, 0, 1000000), (100, 100, 18, 18), (100, 100, 20, 20), (100, 100, 14, 14), (100, 100, 16, 16)] V V := JR.rf hW
  obtain ⟨hb_tad, hb_pl0, hb_le0, hb_nu0, hb_coy, hb_wag, hb_say⟩ := id hn0
  refine mw_of (by decide) (by simp [Value.category]) (Nat.le_of_ble_eq_true rfl) ?_
  show AW l D b jX12_opens (fx_rm 1 0 0) none (fx_MQ D b 0 0 (fx_qi (fun r N9 V9 => ((r = 0 ∨ r = 1) ∧ ((r = 0 ∧ fopen_0 = 6 ∧ fI (V9 100) 16 = flt 5 pl0_0) ∨ (r = 1 ∧ ¬ fopen_0 = 6 ∧ V9 100 = cO 11 [.ref (b + 101), .ref (b + 102), .ref (b + 103), .ref (b + 104), .ref (b + 105), .ref (b + 106), .ref (b + 107), .ref (b + 108), .ref (b + 109), .int ftoldPeople_0, .int ftoldDoors_0, .int fwasDoors_0, .ref (b + 110), .int (nI tad_0), .int (nI (pl0_0 + 1)), .int (nI le0_0), .int ffault_0, .int (nI nu0_0), .int (fopen_0 + 1), .int (nI coy_0), .int (nI (wag_0 + 1)), .int (nI say_0), .int (nI cl), .ref (b + 111), .ref (b + 112), .ref (b + 113), .ref (b + 114), .ref (b + 115), .ref (b + 116), .ref (b + 117), .ref (b + 118), .ref (b + 119), .ref (b + 120), .ref (b + 121), .ref (b + 122), .ref (b + 123), .int flines_0, .int fmeantSet_0, .int fopenedNow_0, .int fvainNow_0, .ref (b + 124), .ref (b + 125), .ref (b + 126), .ref (b + 127), .ref (b + 128), .int flowNow_0, .int fhighNow_0, .ref (b + 129), .ref (b + 130), .ref (b + 131), .ref (b + 132), .int fisKept_0] ∧ V9 112 = cI D 260 (upd wa wag_0 (nI (1048576 * o))) ∧ ∀ i, i ≠ 100 → i ≠ 112 → V9 i = V i))) ∧ N = N9 ∧ JR D b N cl [(112, 112, 0, 1000000), (100, 100, 18, 18), (100, 100, 20, 20), (100, 100, 14, 14), (100, 100, 16, 16)] V V9))) 0 [some (.ref (b + 100)), some (.int (nI o))] [] N V 0 0
  refine aw_aload_n dX12_opens_0 rfl ?_
  refine aw_get dX12_opens_1 fl_X12_186 h100 (by omega) rfl ?_
  refine aw_bipush (v := 6) dX12_opens_4 (by decide) ?_
  refine aw_icmp_ne (tgt := 19) dX12_opens_6 (by decide) (fun c_1 => ?_) (fun c_1 => ?_)
  · skip
    refine aw_aload_n dX12_opens_19 rfl ?_
    refine aw_aload_n dX12_opens_20 rfl ?_
    refine aw_get dX12_opens_21 fl_X12_186 h100 (by omega) rfl ?_
    refine aw_iconst (v := 1) dX12_opens_24 (by decide) ?_
    refine aw_iadd dX12_opens_25 ?_
    refine aw_put dX12_opens_26 fp_X12_186 h100 (by omega) rfl rfl (Nat.le_of_ble_eq_true rfl) rfl ?_
    refine aw_upR hJ0 cm_100 ⟨_, _, _, _, _, _, _, _, _, _, _, _, tad_0, pl0_0, le0_0, nu0_0, coy_0, wag_0, say_0, rfl, by omega, by omega, by omega, by omega, by omega, by omega, by omega⟩ (by decide) (WO (s := 18) (x := .int (fopen_0 + 1)) h100 rfl (LMs LM0) (by decide) (by decide) (by decide) (Or.inl (by decide))) (fun V_2 j_2 k_2 e_2 => ?_)
    refine aw_aload_n dX12_opens_29 rfl ?_
    refine aw_get dX12_opens_30 fl_X12_44 e_2 (by omega) rfl ?_
    refine aw_aload_n dX12_opens_33 rfl ?_
    refine aw_get dX12_opens_34 fl_X12_189 e_2 (by omega) rfl ?_
    refine aw_ldc (v := 1048576) dX12_opens_37 tb_1240 ?_
    refine aw_iload_n dX12_opens_39 rfl ?_
    refine aw_imul dX12_opens_40 ?_
    refine aw_eqi (y := nI (1048576 * o)) (pk_mul _ _) ?_
    refine aw_iast dX12_opens_41 ((k_2 _ (by decide)).trans hwa) (by omega) (vp_in_nI (n := wag_0) (by omega) (by omega)) ?_
    refine aw_upR j_2 cm_112 ⟨_, rfl⟩ (by decide) (WA LM0 (by decide) (by decide)) (fun V_3 j_3 k_3 e_3 => ?_)
    have e_4 : V_3 112 = cI D 260 (upd wa wag_0 (nI (1048576 * o))) := by rw [e_3, nI_clamp (n := wag_0) (by omega)]
    refine aw_aload_n dX12_opens_42 rfl ?_
    refine aw_aload_n dX12_opens_43 rfl ?_
    refine aw_get dX12_opens_44 fl_X12_189 ((k_3 _ (by decide)).trans e_2) (by omega) rfl ?_
    refine aw_iconst (v := 1) dX12_opens_47 (by decide) ?_
    refine aw_iadd dX12_opens_48 ?_
    refine aw_eqi (y := nI (wag_0 + 1)) (nI_add _ _) ?_
    refine aw_put dX12_opens_49 fp_X12_189 ((k_3 _ (by decide)).trans e_2) (by omega) rfl rfl (Nat.le_of_ble_eq_true rfl) rfl ?_
    refine aw_upR j_3 cm_100 ⟨_, _, _, _, _, _, _, _, _, _, _, _, tad_0, pl0_0, le0_0, nu0_0, coy_0, (wag_0 + 1), say_0, rfl, by omega, by omega, by omega, by omega, by omega, by omega, by omega⟩ (by decide) (WO (s := 20) (x := .int (nI (wag_0 + 1))) ((k_3 _ (by decide)).trans e_2) rfl (LMs (LMs LM0)) (by decide) (by decide) (by decide) (Or.inl (by decide))) (fun V_5 j_5 k_5 e_5 => ?_)
    refine aw_aload_n dX12_opens_52 rfl ?_
    refine aw_aload_n dX12_opens_53 rfl ?_
    refine aw_get dX12_opens_54 fl_X12_159 e_5 (by omega) rfl ?_
    refine aw_iconst (v := 1) dX12_opens_57 (by decide) ?_
    refine aw_iadd dX12_opens_58 ?_
    refine aw_eqi (y := nI (pl0_0 + 1)) (nI_add _ _) ?_
    refine aw_put dX12_opens_59 fp_X12_159 e_5 (by omega) rfl rfl (Nat.le_of_ble_eq_true rfl) rfl ?_
    refine aw_upR j_5 cm_100 ⟨_, _, _, _, _, _, _, _, _, _, _, _, tad_0, (pl0_0 + 1), le0_0, nu0_0, coy_0, (wag_0 + 1), say_0, rfl, by omega, by omega, by omega, by omega, by omega, by omega, by omega⟩ (by decide) (WO (s := 14) (x := .int (nI (pl0_0 + 1))) e_5 rfl (LMs (LMs (LMs LM0))) (by decide) (by decide) (by decide) (Or.inl (by decide))) (fun V_6 j_6 k_6 e_6 => ?_)
    refine aw_iconst (v := 1) dX12_opens_62 (by decide) ?_
    refine aw_zreti dX12_opens_63 rfl (by first | exact Or.inl rfl | exact Or.inr rfl | assumption) (Nat.le_of_ble_eq_true rfl) (Nat.le_of_ble_eq_true rfl) ?_
    exact ⟨⟨(by first | exact Or.inl rfl | exact Or.inr rfl | assumption), Or.inr ⟨rfl, c_1, e_6, ((k_6 _ (by decide)).trans ((k_5 _ (by decide)).trans e_4)), fun i h100 h112 => (k_6 i h100).trans ((k_5 i h100).trans ((k_3 i h112).trans (k_2 i h100)))⟩⟩, rfl, j_6⟩
  · skip
    refine aw_aload_n dX12_opens_9 rfl ?_
    refine aw_iconst (v := 5) dX12_opens_10 (by decide) ?_
    refine aw_aload_n dX12_opens_11 rfl ?_
    refine aw_get dX12_opens_12 fl_X12_159 h100 (by omega) rfl ?_
    refine aw_callVi (J' := jX12_wrongAt) (As := [.int 5, .int (nI pl0_0)]) (st := []) dX12_opens_15 tb_1224 ok_X12_wrongAt ⟨_, h100⟩ (by omega) rfl rfl (r_wrongAt3 l D b N V hN cl hJ0.1 5 (nI pl0_0) pl0_0 le0_0 (FG.of h100 rfl rfl) (FG.of h100 rfl rfl) ⟨by omega, by omega⟩) rfl (Nat.le_of_ble_eq_true rfl) ⟨Nat.le_of_ble_eq_true rfl, Nat.le_of_ble_eq_true rfl, Nat.le_of_ble_eq_true rfl, Nat.le_of_ble_eq_true rfl⟩ (fun r_21 N_22 V_11 q_23 => ?_)
    obtain ⟨⟨z_9, h_8⟩, rfl, q_7⟩ := q_23
    have j_10 := JR.trans hJ0 (JR.weak q_7 (Sub.cons (LMs (LMs (LMs (LMs LM0)))) (by decide) (by decide) (by decide) (Or.inr ⟨by decide, by decide⟩) Sub.nil))
    obtain ⟨a_12, ha_13, hA_14, hF_15, hL_16, hz_17, hX_18⟩ := h_8
    obtain ⟨ftoldPeople_k19, ftoldDoors_k19, fwasDoors_k19, ffault_k19, fopen_k19, flines_k19, fmeantSet_k19, fopenedNow_k19, fvainNow_k19, flowNow_k19, fhighNow_k19, fisKept_k19, tad_k19, pl0_k19, le0_k19, nu0_k19, coy_k19, wag_k19, say_k19, e_k19, hntad_k19, hnpl0_k19, hnle0_k19, hnnu0_k19, hncoy_k19, hnwag_k19, hnsay_k19⟩ := JR.get j_10 cm_100
    have hqp_k19 := FG.eq hF_15 e_k19 rfl (by omega) (by omega)
    have hql_k19 := FG.eq hL_16 e_k19 rfl (by omega) (by omega)
    obtain ⟨rfl, hw_20⟩ := hX_18
    refine aw_zreti dX12_opens_18 rfl (by first | exact Or.inl rfl | exact Or.inr rfl | assumption) (Nat.le_of_ble_eq_true rfl) (Nat.le_of_ble_eq_true rfl) ?_
    exact ⟨⟨(by first | exact Or.inl rfl | exact Or.inr rfl | assumption), Or.inl ⟨rfl, c_1, hw_20⟩⟩, rfl, j_10⟩

set_option maxHeartbeats 4000000 in
set_option maxRecDepth 100000 in
theorem r_factOf3 (l : Launch) (D : va_G) (b : Nat) (N : Nat) (V : Wd) (hN : 133 ≤ N) (cl : Nat) (hW : CR D b cl V) (n0 : Int32)  : MI l D b 0 jX12_factOf [.int n0] N V 0 0 (fun r N9 V9 => ((r = -1 ∨ ((∃ k : Nat, k < 10 ∧ r = nI k) ∧ 0 ≤ n0)) ∧ ((r = -1 ∧ fac n0 = false) ∨ (¬ r = -1 ∧ fac n0 = true))) ∧ N = N9 ∧ V = V9) := by
  have hJ0 : JR D b N cl [] V V := JR.rf hW
  refine mw_of (by decide) (by simp [Value.category]) (Nat.le_of_ble_eq_true rfl) ?_
  show AW l D b jX12_factOf (fx_rm 0 0 0) none (fx_MQ D b 0 0 (fx_qi (fun r N9 V9 => ((r = -1 ∨ ((∃ k : Nat, k < 10 ∧ r = nI k) ∧ 0 ≤ n0)) ∧ ((r = -1 ∧ fac n0 = false) ∨ (¬ r = -1 ∧ fac n0 = true))) ∧ N = N9 ∧ V = V9))) 0 [some (.int n0)] [] N V 0 0
  refine aw_iload_n dX12_factOf_0 rfl ?_
  by_cases sw_1 : n0 = 100
  · skip
    refine aw_eqi sw_1 ?_
    refine aw_tableIn (off := 97) (tgt := 98) dX12_factOf_1 (by decide) (by decide) (by decide) (by decide) ?_
    refine aw_iconst (v := 1) dX12_factOf_98 (by decide) ?_
    refine aw_ireti dX12_factOf_99 rfl (Nat.le_of_ble_eq_true rfl) (Nat.le_of_ble_eq_true rfl) ?_
    exact ⟨⟨Or.inr ⟨⟨1, by decide, rfl⟩, by rw [sw_1]; decide⟩, Or.inr ⟨by decide, by rw [sw_1]; decide⟩⟩, rfl, rfl⟩
  by_cases sw_2 : n0 = 101
  · skip
    refine aw_eqi sw_2 ?_
    refine aw_tableIn (off := 119) (tgt := 120) dX12_factOf_1 (by decide) (by decide) (by decide) (by decide) ?_
    refine aw_iconst (v := (-1)) dX12_factOf_120 (by decide) ?_
    refine aw_ireti dX12_factOf_121 rfl (Nat.le_of_ble_eq_true rfl) (Nat.le_of_ble_eq_true rfl) ?_
    exact ⟨⟨Or.inl rfl, Or.inl ⟨rfl, by rw [sw_2]; decide⟩⟩, rfl, rfl⟩
  by_cases sw_3 : n0 = 102
  · skip
    refine aw_eqi sw_3 ?_
    refine aw_tableIn (off := 99) (tgt := 100) dX12_factOf_1 (by decide) (by decide) (by decide) (by decide) ?_
    refine aw_iconst (v := 2) dX12_factOf_100 (by decide) ?_
    refine aw_ireti dX12_factOf_101 rfl (Nat.le_of_ble_eq_true rfl) (Nat.le_of_ble_eq_true rfl) ?_
    exact ⟨⟨Or.inr ⟨⟨2, by decide, rfl⟩, by rw [sw_3]; decide⟩, Or.inr ⟨by decide, by rw [sw_3]; decide⟩⟩, rfl, rfl⟩
  by_cases sw_4 : n0 = 103
  · skip
    refine aw_eqi sw_4 ?_
    refine aw_tableIn (off := 103) (tgt := 104) dX12_factOf_1 (by decide) (by decide) (by decide) (by decide) ?_
    refine aw_iconst (v := 4) dX12_factOf_104 (by decide) ?_
    refine aw_ireti dX12_factOf_105 rfl (Nat.le_of_ble_eq_true rfl) (Nat.le_of_ble_eq_true rfl) ?_
    exact ⟨⟨Or.inr ⟨⟨4, by decide, rfl⟩, by rw [sw_4]; decide⟩, Or.inr ⟨by decide, by rw [sw_4]; decide⟩⟩, rfl, rfl⟩
  by_cases sw_5 : n0 = 104
  · skip
    refine aw_eqi sw_5 ?_
    refine aw_tableIn (off := 119) (tgt := 120) dX12_factOf_1 (by decide) (by decide) (by decide) (by decide) ?_
    refine aw_iconst (v := (-1)) dX12_factOf_120 (by decide) ?_
    refine aw_ireti dX12_factOf_121 rfl (Nat.le_of_ble_eq_true rfl) (Nat.le_of_ble_eq_true rfl) ?_
    exact ⟨⟨Or.inl rfl, Or.inl ⟨rfl, by rw [sw_5]; decide⟩⟩, rfl, rfl⟩
  by_cases sw_6 : n0 = 105
  · skip
    refine aw_eqi sw_6 ?_
    refine aw_tableIn (off := 119) (tgt := 120) dX12_factOf_1 (by decide) (by decide) (by decide) (by decide) ?_
    refine aw_iconst (v := (-1)) dX12_factOf_120 (by decide) ?_
    refine aw_ireti dX12_factOf_121 rfl (Nat.le_of_ble_eq_true rfl) (Nat.le_of_ble_eq_true rfl) ?_
    exact ⟨⟨Or.inl rfl, Or.inl ⟨rfl, by rw [sw_6]; decide⟩⟩, rfl, rfl⟩
  by_cases sw_7 : n0 = 106
  · skip
    refine aw_eqi sw_7 ?_
    refine aw_tableIn (off := 119) (tgt := 120) dX12_factOf_1 (by decide) (by decide) (by decide) (by decide) ?_
    refine aw_iconst (v := (-1)) dX12_factOf_120 (by decide) ?_
    refine aw_ireti dX12_factOf_121 rfl (Nat.le_of_ble_eq_true rfl) (Nat.le_of_ble_eq_true rfl) ?_
    exact ⟨⟨Or.inl rfl, Or.inl ⟨rfl, by rw [sw_7]; decide⟩⟩, rfl, rfl⟩
  by_cases sw_8 : n0 = 107
  · skip
    refine aw_eqi sw_8 ?_
    refine aw_tableIn (off := 95) (tgt := 96) dX12_factOf_1 (by decide) (by decide) (by decide) (by decide) ?_
    refine aw_iconst (v := 0) dX12_factOf_96 (by decide) ?_
    refine aw_ireti dX12_factOf_97 rfl (Nat.le_of_ble_eq_true rfl) (Nat.le_of_ble_eq_true rfl) ?_
    exact ⟨⟨Or.inr ⟨⟨0, by decide, rfl⟩, by rw [sw_8]; decide⟩, Or.inr ⟨by decide, by rw [sw_8]; decide⟩⟩, rfl, rfl⟩
  by_cases sw_9 : n0 = 108
  · skip
    refine aw_eqi sw_9 ?_
    refine aw_tableIn (off := 119) (tgt := 120) dX12_factOf_1 (by decide) (by decide) (by decide) (by decide) ?_
    refine aw_iconst (v := (-1)) dX12_factOf_120 (by decide) ?_
    refine aw_ireti dX12_factOf_121 rfl (Nat.le_of_ble_eq_true rfl) (Nat.le_of_ble_eq_true rfl) ?_
    exact ⟨⟨Or.inl rfl, Or.inl ⟨rfl, by rw [sw_9]; decide⟩⟩, rfl, rfl⟩
  by_cases sw_10 : n0 = 109
  · skip
    refine aw_eqi sw_10 ?_
    refine aw_tableIn (off := 105) (tgt := 106) dX12_factOf_1 (by decide) (by decide) (by decide) (by decide) ?_
    refine aw_iconst (v := 5) dX12_factOf_106 (by decide) ?_
    refine aw_ireti dX12_factOf_107 rfl (Nat.le_of_ble_eq_true rfl) (Nat.le_of_ble_eq_true rfl) ?_
    exact ⟨⟨Or.inr ⟨⟨5, by decide, rfl⟩, by rw [sw_10]; decide⟩, Or.inr ⟨by decide, by rw [sw_10]; decide⟩⟩, rfl, rfl⟩
  by_cases sw_11 : n0 = 110
  · skip
    refine aw_eqi sw_11 ?_
    refine aw_tableIn (off := 107) (tgt := 108) dX12_factOf_1 (by decide) (by decide) (by decide) (by decide) ?_
    refine aw_bipush (v := 6) dX12_factOf_108 (by decide) ?_
    refine aw_ireti dX12_factOf_110 rfl (Nat.le_of_ble_eq_true rfl) (Nat.le_of_ble_eq_true rfl) ?_
    exact ⟨⟨Or.inr ⟨⟨6, by decide, rfl⟩, by rw [sw_11]; decide⟩, Or.inr ⟨by decide, by rw [sw_11]; decide⟩⟩, rfl, rfl⟩
  by_cases sw_12 : n0 = 111
  · skip
    refine aw_eqi sw_12 ?_
    refine aw_tableIn (off := 110) (tgt := 111) dX12_factOf_1 (by decide) (by decide) (by decide) (by decide) ?_
    refine aw_bipush (v := 7) dX12_factOf_111 (by decide) ?_
    refine aw_ireti dX12_factOf_113 rfl (Nat.le_of_ble_eq_true rfl) (Nat.le_of_ble_eq_true rfl) ?_
    exact ⟨⟨Or.inr ⟨⟨7, by decide, rfl⟩, by rw [sw_12]; decide⟩, Or.inr ⟨by decide, by rw [sw_12]; decide⟩⟩, rfl, rfl⟩
  by_cases sw_13 : n0 = 112
  · skip
    refine aw_eqi sw_13 ?_
    refine aw_tableIn (off := 119) (tgt := 120) dX12_factOf_1 (by decide) (by decide) (by decide) (by decide) ?_
    refine aw_iconst (v := (-1)) dX12_factOf_120 (by decide) ?_
    refine aw_ireti dX12_factOf_121 rfl (Nat.le_of_ble_eq_true rfl) (Nat.le_of_ble_eq_true rfl) ?_
    exact ⟨⟨Or.inl rfl, Or.inl ⟨rfl, by rw [sw_13]; decide⟩⟩, rfl, rfl⟩
  by_cases sw_14 : n0 = 113
  · skip
    refine aw_eqi sw_14 ?_
    refine aw_tableIn (off := 119) (tgt := 120) dX12_factOf_1 (by decide) (by decide) (by decide) (by decide) ?_
    refine aw_iconst (v := (-1)) dX12_factOf_120 (by decide) ?_
    refine aw_ireti dX12_factOf_121 rfl (Nat.le_of_ble_eq_true rfl) (Nat.le_of_ble_eq_true rfl) ?_
    exact ⟨⟨Or.inl rfl, Or.inl ⟨rfl, by rw [sw_14]; decide⟩⟩, rfl, rfl⟩
  by_cases sw_15 : n0 = 114
  · skip
    refine aw_eqi sw_15 ?_
    refine aw_tableIn (off := 119) (tgt := 120) dX12_factOf_1 (by decide) (by decide) (by decide) (by decide) ?_
    refine aw_iconst (v := (-1)) dX12_factOf_120 (by decide) ?_
    refine aw_ireti dX12_factOf_121 rfl (Nat.le_of_ble_eq_true rfl) (Nat.le_of_ble_eq_true rfl) ?_
    exact ⟨⟨Or.inl rfl, Or.inl ⟨rfl, by rw [sw_15]; decide⟩⟩, rfl, rfl⟩
  by_cases sw_16 : n0 = 115
  · skip
    refine aw_eqi sw_16 ?_
    refine aw_tableIn (off := 119) (tgt := 120) dX12_factOf_1 (by decide) (by decide) (by decide) (by decide) ?_
    refine aw_iconst (v := (-1)) dX12_factOf_120 (by decide) ?_
    refine aw_ireti dX12_factOf_121 rfl (Nat.le_of_ble_eq_true rfl) (Nat.le_of_ble_eq_true rfl) ?_
    exact ⟨⟨Or.inl rfl, Or.inl ⟨rfl, by rw [sw_16]; decide⟩⟩, rfl, rfl⟩
  by_cases sw_17 : n0 = 116
  · skip
    refine aw_eqi sw_17 ?_
    refine aw_tableIn (off := 113) (tgt := 114) dX12_factOf_1 (by decide) (by decide) (by decide) (by decide) ?_
    refine aw_bipush (v := 8) dX12_factOf_114 (by decide) ?_
    refine aw_ireti dX12_factOf_116 rfl (Nat.le_of_ble_eq_true rfl) (Nat.le_of_ble_eq_true rfl) ?_
    exact ⟨⟨Or.inr ⟨⟨8, by decide, rfl⟩, by rw [sw_17]; decide⟩, Or.inr ⟨by decide, by rw [sw_17]; decide⟩⟩, rfl, rfl⟩
  by_cases sw_18 : n0 = 117
  · skip
    refine aw_eqi sw_18 ?_
    refine aw_tableIn (off := 119) (tgt := 120) dX12_factOf_1 (by decide) (by decide) (by decide) (by decide) ?_
    refine aw_iconst (v := (-1)) dX12_factOf_120 (by decide) ?_
    refine aw_ireti dX12_factOf_121 rfl (Nat.le_of_ble_eq_true rfl) (Nat.le_of_ble_eq_true rfl) ?_
    exact ⟨⟨Or.inl rfl, Or.inl ⟨rfl, by rw [sw_18]; decide⟩⟩, rfl, rfl⟩
  by_cases sw_19 : n0 = 118
  · skip
    refine aw_eqi sw_19 ?_
    refine aw_tableIn (off := 101) (tgt := 102) dX12_factOf_1 (by decide) (by decide) (by decide) (by decide) ?_
    refine aw_iconst (v := 3) dX12_factOf_102 (by decide) ?_
    refine aw_ireti dX12_factOf_103 rfl (Nat.le_of_ble_eq_true rfl) (Nat.le_of_ble_eq_true rfl) ?_
    exact ⟨⟨Or.inr ⟨⟨3, by decide, rfl⟩, by rw [sw_19]; decide⟩, Or.inr ⟨by decide, by rw [sw_19]; decide⟩⟩, rfl, rfl⟩
  by_cases sw_20 : n0 = 119
  · skip
    refine aw_eqi sw_20 ?_
    refine aw_tableIn (off := 116) (tgt := 117) dX12_factOf_1 (by decide) (by decide) (by decide) (by decide) ?_
    refine aw_bipush (v := 9) dX12_factOf_117 (by decide) ?_
    refine aw_ireti dX12_factOf_119 rfl (Nat.le_of_ble_eq_true rfl) (Nat.le_of_ble_eq_true rfl) ?_
    exact ⟨⟨Or.inr ⟨⟨9, by decide, rfl⟩, by rw [sw_20]; decide⟩, Or.inr ⟨by decide, by rw [sw_20]; decide⟩⟩, rfl, rfl⟩
  have tsw_1 : n0.toInt ≠ 100 := fx_tne sw_1
  have tsw_2 : n0.toInt ≠ 101 := fx_tne sw_2
  have tsw_3 : n0.toInt ≠ 102 := fx_tne sw_3
  have tsw_4 : n0.toInt ≠ 103 := fx_tne sw_4
  have tsw_5 : n0.toInt ≠ 104 := fx_tne sw_5
  have tsw_6 : n0.toInt ≠ 105 := fx_tne sw_6
  have tsw_7 : n0.toInt ≠ 106 := fx_tne sw_7
  have tsw_8 : n0.toInt ≠ 107 := fx_tne sw_8
  have tsw_9 : n0.toInt ≠ 108 := fx_tne sw_9
  have tsw_10 : n0.toInt ≠ 109 := fx_tne sw_10
  have tsw_11 : n0.toInt ≠ 110 := fx_tne sw_11
  have tsw_12 : n0.toInt ≠ 111 := fx_tne sw_12
  have tsw_13 : n0.toInt ≠ 112 := fx_tne sw_13
  have tsw_14 : n0.toInt ≠ 113 := fx_tne sw_14
  have tsw_15 : n0.toInt ≠ 114 := fx_tne sw_15
  have tsw_16 : n0.toInt ≠ 115 := fx_tne sw_16
  have tsw_17 : n0.toInt ≠ 116 := fx_tne sw_17
  have tsw_18 : n0.toInt ≠ 117 := fx_tne sw_18
  have tsw_19 : n0.toInt ≠ 118 := fx_tne sw_19
  have tsw_20 : n0.toInt ≠ 119 := fx_tne sw_20
  refine aw_tableOut (tgt := 120) dX12_factOf_1 (by omega) (by decide) ?_
  refine aw_iconst (v := (-1)) dX12_factOf_120 (by decide) ?_
  refine aw_ireti dX12_factOf_121 rfl (Nat.le_of_ble_eq_true rfl) (Nat.le_of_ble_eq_true rfl) ?_
  exact ⟨⟨Or.inl rfl, Or.inl ⟨rfl, by rw [fac, decide_eq_false sw_8, decide_eq_false sw_1, decide_eq_false sw_3, decide_eq_false sw_19, decide_eq_false sw_4, decide_eq_false sw_10, decide_eq_false sw_11, decide_eq_false sw_12, decide_eq_false sw_17, decide_eq_false sw_20]; rfl⟩⟩, rfl, rfl⟩

set_option maxHeartbeats 4000000 in
set_option maxRecDepth 100000 in
theorem r_sumSign3 (l : Launch) (D : va_G) (b : Nat) (N : Nat) (V : Wd) (hN : 133 ≤ N) (cl : Nat) (hW : CR D b cl V) (n0 : Int32)  : MI l D b 0 jX12_sumSign [.int n0] N V 0 0 (fun r N9 V9 => ((r = -1 ∨ ((∃ k : Nat, (2 ≤ k ∧ k ≤ 6) ∧ r = nI k) ∧ 0 ≤ n0)) ∧ ((r = -1 ∧ opr n0 = false) ∨ (¬ r = -1 ∧ opr n0 = true))) ∧ N = N9 ∧ V = V9) := by
  have hJ0 : JR D b N cl [] V V := JR.rf hW
  refine mw_of (by decide) (by simp [Value.category]) (Nat.le_of_ble_eq_true rfl) ?_
  show AW l D b jX12_sumSign (fx_rm 0 0 0) none (fx_MQ D b 0 0 (fx_qi (fun r N9 V9 => ((r = -1 ∨ ((∃ k : Nat, (2 ≤ k ∧ k ≤ 6) ∧ r = nI k) ∧ 0 ≤ n0)) ∧ ((r = -1 ∧ opr n0 = false) ∨ (¬ r = -1 ∧ opr n0 = true))) ∧ N = N9 ∧ V = V9))) 0 [some (.int n0)] [] N V 0 0
  refine aw_iload_n dX12_sumSign_0 rfl ?_
  refine aw_bipush (v := 43) dX12_sumSign_1 (by decide) ?_
  refine aw_icmp_ne (tgt := 10) dX12_sumSign_3 (by decide) (fun c_1 => ?_) (fun c_1 => ?_)
  · skip
    refine aw_iload_n dX12_sumSign_10 rfl ?_
    refine aw_bipush (v := 45) dX12_sumSign_11 (by decide) ?_
    refine aw_icmp_ne (tgt := 20) dX12_sumSign_13 (by decide) (fun c_2 => ?_) (fun c_2 => ?_)
    · skip
      refine aw_iload_n dX12_sumSign_20 rfl ?_
      refine aw_bipush (v := 42) dX12_sumSign_21 (by decide) ?_
      refine aw_icmp_ne (tgt := 30) dX12_sumSign_23 (by decide) (fun c_3 => ?_) (fun c_3 => ?_)
      · skip
        refine aw_iload_n dX12_sumSign_30 rfl ?_
        refine aw_bipush (v := 47) dX12_sumSign_31 (by decide) ?_
        refine aw_icmp_ne (tgt := 40) dX12_sumSign_33 (by decide) (fun c_4 => ?_) (fun c_4 => ?_)
        · skip
          refine aw_iload_n dX12_sumSign_40 rfl ?_
          refine aw_bipush (v := 37) dX12_sumSign_41 (by decide) ?_
          refine aw_icmp_ne (tgt := 51) dX12_sumSign_43 (by decide) (fun c_5 => ?_) (fun c_5 => ?_)
          · skip
            refine aw_iconst (v := (-1)) dX12_sumSign_51 (by decide) ?_
            refine aw_ireti dX12_sumSign_52 rfl (Nat.le_of_ble_eq_true rfl) (Nat.le_of_ble_eq_true rfl) ?_
            exact ⟨⟨Or.inl rfl, Or.inl ⟨rfl, opr_f c_1 c_2 (mlt_f c_3 c_4 c_5)⟩⟩, rfl, rfl⟩
          · skip
            refine aw_bipush (v := 6) dX12_sumSign_46 (by decide) ?_
            refine aw_goto (tgt := 52) dX12_sumSign_48 (by decide) ?_
            refine aw_ireti dX12_sumSign_52 rfl (Nat.le_of_ble_eq_true rfl) (Nat.le_of_ble_eq_true rfl) ?_
            exact ⟨⟨Or.inr ⟨⟨6, by decide, rfl⟩, by rw [c_5]; decide⟩, Or.inr ⟨by decide, by rw [c_5]; decide⟩⟩, rfl, rfl⟩
        · skip
          refine aw_iconst (v := 5) dX12_sumSign_36 (by decide) ?_
          refine aw_goto (tgt := 52) dX12_sumSign_37 (by decide) ?_
          refine aw_ireti dX12_sumSign_52 rfl (Nat.le_of_ble_eq_true rfl) (Nat.le_of_ble_eq_true rfl) ?_
          exact ⟨⟨Or.inr ⟨⟨5, by decide, rfl⟩, by rw [c_4]; decide⟩, Or.inr ⟨by decide, by rw [c_4]; decide⟩⟩, rfl, rfl⟩
      · skip
        refine aw_iconst (v := 4) dX12_sumSign_26 (by decide) ?_
        refine aw_goto (tgt := 52) dX12_sumSign_27 (by decide) ?_
        refine aw_ireti dX12_sumSign_52 rfl (Nat.le_of_ble_eq_true rfl) (Nat.le_of_ble_eq_true rfl) ?_
        exact ⟨⟨Or.inr ⟨⟨4, by decide, rfl⟩, by rw [c_3]; decide⟩, Or.inr ⟨by decide, by rw [c_3]; decide⟩⟩, rfl, rfl⟩
    · skip
      refine aw_iconst (v := 3) dX12_sumSign_16 (by decide) ?_
      refine aw_goto (tgt := 52) dX12_sumSign_17 (by decide) ?_
      refine aw_ireti dX12_sumSign_52 rfl (Nat.le_of_ble_eq_true rfl) (Nat.le_of_ble_eq_true rfl) ?_
      exact ⟨⟨Or.inr ⟨⟨3, by decide, rfl⟩, by rw [c_2]; decide⟩, Or.inr ⟨by decide, by rw [c_2]; decide⟩⟩, rfl, rfl⟩
  · skip
    refine aw_iconst (v := 2) dX12_sumSign_6 (by decide) ?_
    refine aw_goto (tgt := 52) dX12_sumSign_7 (by decide) ?_
    refine aw_ireti dX12_sumSign_52 rfl (Nat.le_of_ble_eq_true rfl) (Nat.le_of_ble_eq_true rfl) ?_
    exact ⟨⟨Or.inr ⟨⟨2, by decide, rfl⟩, by rw [c_1]; decide⟩, Or.inr ⟨by decide, by rw [c_1]; decide⟩⟩, rfl, rfl⟩

set_option maxHeartbeats 4000000 in
set_option maxRecDepth 100000 in
theorem r_readsFactor3 (l : Launch) (D : va_G) (b : Nat) (N : Nat) (V : Wd) (hN : 133 ≤ N) (cl : Nat) (hW : CR D b cl V)  (bs d0 : Nat) (g sd wa : Nat → Int32) (pl ln cm wt sg : Nat) (dep : Nat → Nat) (sl sf sh st : Nat → Int32) (sm sk : Nat) (hX : PX D b V g pl ln cm wt sg sd wa dep sl sf sh st sm sk) (s : List Nat) (hO : fI (V 100) 18 = nI (dpt s)) (hO6 : (dpt s) ≤ 6) (hbw : bs ≤ wt) (hdp : dep cm + wgt wa bs = d0 + wgt wa wt) : MI l D b 3 jX12_readsFactor [.ref (b + 100)] N V 0 0 (fun r N9 V9 => ((r = 0 ∨ r = 1) ∧ ((r = 0 ∧ ∃ f, fI (V9 100) 16 = f ∧ RES (gb g) ln (0, pl, s) (.inl f)) ∨ (r = 1 ∧ (∃ (sd9 wa9 : Nat → Int32) (pl9 cm9 wt9 : Nat) (dep9 : Nat → Nat), PX D b V9 g pl9 ln cm9 wt9 sg sd9 wa9 dep9 sl sf sh st sm sk ∧ wt ≤ wt9 ∧ (∀ i, i < wt → wa9 i = wa i) ∧ (∀ i, wt ≤ i → i < wt9 → opOf (wa9 i) = 14) ∧ (∀ k, k < sg → sd9 k = sd k) ∧ dep9 cm9 + wgt wa9 bs = d0 + wgt wa9 wt9 + 1 ∧ pl < pl9 ∧ fI (V9 100) 18 = nI (dpt s + (wt9 - wt)) ∧ dpt s + (wt9 - wt) ≤ 6 ∧ ∀ o, RES (gb g) ln (1, pl9, rp (wt9 - wt) s) o → RES (gb g) ln (0, pl, s) o)))) ∧ N = N9 ∧ JR D b N cl [(111, 112, 0, 1000000), (100, 100, 19, 19), (100, 100, 14, 14), (100, 100, 16, 16), (100, 100, 17, 17), (100, 100, 18, 18), (100, 100, 20, 20)] V V9) := by
  have hJ0 : JR D b N cl [(111, 112, 0, 1000000), (100, 100, 19, 19), (100, 100, 14, 14), (100, 100, 16, 16), (100, 100, 17, 17), (100, 100, 18, 18), (100, 100, 20, 20)] V V := JR.rf hW
  refine mw_of (by decide) (by simp [Value.category]) (Nat.le_of_ble_eq_true rfl) ?_
  show AW l D b jX12_readsFactor (fx_rm 3 0 0) none (fx_MQ D b 0 0 (fx_qi (fun r N9 V9 => ((r = 0 ∨ r = 1) ∧ ((r = 0 ∧ ∃ f, fI (V9 100) 16 = f ∧ RES (gb g) ln (0, pl, s) (.inl f)) ∨ (r = 1 ∧ (∃ (sd9 wa9 : Nat → Int32) (pl9 cm9 wt9 : Nat) (dep9 : Nat → Nat), PX D b V9 g pl9 ln cm9 wt9 sg sd9 wa9 dep9 sl sf sh st sm sk ∧ wt ≤ wt9 ∧ (∀ i, i < wt → wa9 i = wa i) ∧ (∀ i, wt ≤ i → i < wt9 → opOf (wa9 i) = 14) ∧ (∀ k, k < sg → sd9 k = sd k) ∧ dep9 cm9 + wgt wa9 bs = d0 + wgt wa9 wt9 + 1 ∧ pl < pl9 ∧ fI (V9 100) 18 = nI (dpt s + (wt9 - wt)) ∧ dpt s + (wt9 - wt) ≤ 6 ∧ ∀ o, RES (gb g) ln (1, pl9, rp (wt9 - wt) s) o → RES (gb g) ln (0, pl, s) o)))) ∧ N = N9 ∧ JR D b N cl [(111, 112, 0, 1000000), (100, 100, 19, 19), (100, 100, 14, 14), (100, 100, 16, 16), (100, 100, 17, 17), (100, 100, 18, 18), (100, 100, 20, 20)] V V9))) 0 [some (.ref (b + 100)), none] [] N V 0 0
  obtain ⟨xg_x1, xs_x1, xw_x1, xp_x1, xl_x1, xc_x1, xt_x1, hP_x1, ⟨hB1_x1, hB2_x1, hB3_x1, hB4_x1⟩, xa_x1, xb_x1, xd_x1, xe_x1, xm_x1, hB5_x1⟩ := id hX
  obtain ⟨ftoldPeople_2, ftoldDoors_2, fwasDoors_2, ffault_2, fopen_2, flines_2, fmeantSet_2, fopenedNow_2, fvainNow_2, flowNow_2, fhighNow_2, fisKept_2, tad_2, pl0_2, le0_2, nu0_2, coy_2, wag_2, say_2, e_2, hntad_2, hnpl0_2, hnle0_2, hnnu0_2, hncoy_2, hnwag_2, hnsay_2⟩ := JR.get hJ0 cm_100
  have sb_x1pl := FG.eq xp_x1 e_2 rfl (by omega) (by omega)
  subst sb_x1pl
  have sb_x1cm := FG.eq xc_x1 e_2 rfl (by omega) (by omega)
  subst sb_x1cm
  have sb_x1wt := FG.eq xt_x1 e_2 rfl (by omega) (by omega)
  subst sb_x1wt
  have sb_x1ln := FG.eq xl_x1 e_2 rfl (by omega) (by omega)
  have hsg_x1 := hP_x1.2.1
  have sb_x1sm := FG.eq xm_x1 e_2 rfl (by omega) (by omega)
  have hof_3 : fopen_2 = nI (dpt s) := ((congrArg (fun z => fI z 18) e_2).trans rfl).symm.trans hO
  subst hof_3
  have ml_0_4 : ∀ (m : Nat) (p0 : Nat) (c0 : Nat) (w0 : Nat) (sd0 : Nat → Int32) (wa0 : Nat → Int32) (dp0 : Nat → Nat) (V0 : Wd), m = 240 - p0 → (JR D b N cl [(111, 112, 0, 1000000), (100, 100, 19, 19), (100, 100, 14, 14), (100, 100, 16, 16), (100, 100, 17, 17), (100, 100, 18, 18), (100, 100, 20, 20)] V V0) → (PX D b V0 g p0 ln c0 w0 sg sd0 wa0 dp0 sl sf sh st sm sk) → (pl0_2 ≤ p0) → (c0 = coy_2) → (wag_2 ≤ w0) → (∀ k, k < sg → sd0 k = sd k) → (dp0 c0 + wgt wa0 bs = d0 + wgt wa0 w0) → (∀ i, i < wag_2 → wa0 i = wa i) → (∀ i, wag_2 ≤ i → i < w0 → opOf (wa0 i) = 14) → (fI (V0 100) 18 = nI (dpt s + (w0 - wag_2))) → (dpt s + (w0 - wag_2) ≤ 6) → (∀ o, RES (gb g) ln (0, p0, rp (w0 - wag_2) s) o → RES (gb g) ln (0, pl0_2, s) o) → AW l D b jX12_readsFactor (fx_rm 3 0 0) none (fx_MQ D b 0 0 (fx_qi (fun r N9 V9 => ((r = 0 ∨ r = 1) ∧ ((r = 0 ∧ ∃ f, fI (V9 100) 16 = f ∧ RES (gb g) ln (0, pl0_2, s) (.inl f)) ∨ (r = 1 ∧ (∃ (sd9 wa9 : Nat → Int32) (pl9 cm9 wt9 : Nat) (dep9 : Nat → Nat), PX D b V9 g pl9 ln cm9 wt9 sg sd9 wa9 dep9 sl sf sh st sm sk ∧ wag_2 ≤ wt9 ∧ (∀ i, i < wag_2 → wa9 i = wa i) ∧ (∀ i, wag_2 ≤ i → i < wt9 → opOf (wa9 i) = 14) ∧ (∀ k, k < sg → sd9 k = sd k) ∧ dep9 cm9 + wgt wa9 bs = d0 + wgt wa9 wt9 + 1 ∧ pl0_2 < pl9 ∧ fI (V9 100) 18 = nI (dpt s + (wt9 - wag_2)) ∧ dpt s + (wt9 - wag_2) ≤ 6 ∧ ∀ o, RES (gb g) ln (1, pl9, rp (wt9 - wag_2) s) o → RES (gb g) ln (0, pl0_2, s) o)))) ∧ N = N9 ∧ JR D b N cl [(111, 112, 0, 1000000), (100, 100, 19, 19), (100, 100, 14, 14), (100, 100, 16, 16), (100, 100, 17, 17), (100, 100, 18, 18), (100, 100, 20, 20)] V V9))) 0 [some (.ref (b + 100)), none] [] N V0 0 0 := by
    intro m; refine Nat.strongRecOn m ?_
    intro m mih_0_4 p0 c0 w0 sd0 wa0 dp0 V0 hm0 i0_0 i0_1 i0_2 i0_3 i0_4 i0_5 i0_6 i0_7 i0_8 i0_9 i0_10 i0_11
    obtain ⟨xg_x5, xs_x5, xw_x5, xp_x5, xl_x5, xc_x5, xt_x5, hP_x5, ⟨hB1_x5, hB2_x5, hB3_x5, hB4_x5⟩, xa_x5, xb_x5, xd_x5, xe_x5, xm_x5, hB5_x5⟩ := i0_1
    obtain ⟨ftoldPeople_6, ftoldDoors_6, fwasDoors_6, ffault_6, fopen_6, flines_6, fmeantSet_6, fopenedNow_6, fvainNow_6, flowNow_6, fhighNow_6, fisKept_6, tad_6, pl0_6, le0_6, nu0_6, coy_6, wag_6, say_6, e_6, hntad_6, hnpl0_6, hnle0_6, hnnu0_6, hncoy_6, hnwag_6, hnsay_6⟩ := JR.get i0_0 cm_100
    clear hntad_2 hnpl0_2 hnle0_2 hnnu0_2 hncoy_2 hnwag_2 hnsay_2
    have sb_x5pl := FG.eq xp_x5 e_6 rfl (by omega) (by omega)
    subst sb_x5pl
    have sb_x5cm := FG.eq xc_x5 e_6 rfl (by omega) (by omega)
    subst sb_x5cm
    have sb_x5wt := FG.eq xt_x5 e_6 rfl (by omega) (by omega)
    subst sb_x5wt
    have sb_x5ln := FG.eq xl_x5 e_6 rfl (by omega) (by omega)
    have hsg_x5 := hP_x5.2.1
    have sb_x5sm := FG.eq xm_x5 e_6 rfl (by omega) (by omega)
    have hof_7 : fopen_6 = nI (dpt s + (wag_6 - wag_2)) := ((congrArg (fun z => fI z 18) e_6).trans rfl).symm.trans i0_9
    subst hof_7
    refine aw_aload_n dX12_readsFactor_0 rfl ?_
    refine aw_callVi (J' := jX12_here) (As := []) (st := []) dX12_readsFactor_1 tb_1220 ok_X12_here ⟨_, e_6⟩ (by omega) rfl rfl (r_here l D b N V0 hN cl i0_0.1 g xg_x5 pl0_6 le0_6 (FG.of e_6 rfl rfl) (FG.of e_6 rfl rfl) ⟨by omega, by omega⟩) rfl (Nat.le_of_ble_eq_true rfl) ⟨Nat.le_of_ble_eq_true rfl, Nat.le_of_ble_eq_true rfl, Nat.le_of_ble_eq_true rfl, Nat.le_of_ble_eq_true rfl⟩ (fun r_10 N_11 V_12 q_13 => ?_)
    obtain ⟨h_9, rfl, rfl⟩ := q_13
    refine aw_bipush (v := 91) dX12_readsFactor_4 (by decide) ?_
    refine aw_icmp_ne (tgt := 20) dX12_readsFactor_6 (by decide) (fun c_14 => ?_) (fun c_14 => ?_)
    · skip
      refine aw_aload_n dX12_readsFactor_20 rfl ?_
      refine aw_callVi (J' := jX12_isDigit) (As := []) (st := []) dX12_readsFactor_21 tb_1241 ok_X12_isDigit ⟨_, e_6⟩ (by omega) rfl rfl (r_isDigitB l D b N V0 hN cl i0_0.1 g xg_x5 pl0_6 le0_6 (FG.of e_6 rfl rfl) (FG.of e_6 rfl rfl) ⟨by omega, by omega⟩) rfl (Nat.le_of_ble_eq_true rfl) ⟨Nat.le_of_ble_eq_true rfl, Nat.le_of_ble_eq_true rfl, Nat.le_of_ble_eq_true rfl, Nat.le_of_ble_eq_true rfl⟩ (fun r_18 N_19 V_20 q_21 => ?_)
      obtain ⟨⟨z_17, h_16⟩, rfl, rfl⟩ := q_21
      refine aw_if_eq (tgt := 47) dX12_readsFactor_24 (by decide) (fun c_22 => ?_) (fun c_22 => ?_)
      · skip
        refine aw_aload_n dX12_readsFactor_47 rfl ?_
        refine aw_callVi (J' := jX12_here) (As := []) (st := []) dX12_readsFactor_48 tb_1220 ok_X12_here ⟨_, e_6⟩ (by omega) rfl rfl (r_here l D b N V0 hN cl i0_0.1 g xg_x5 pl0_6 le0_6 (FG.of e_6 rfl rfl) (FG.of e_6 rfl rfl) ⟨by omega, by omega⟩) rfl (Nat.le_of_ble_eq_true rfl) ⟨Nat.le_of_ble_eq_true rfl, Nat.le_of_ble_eq_true rfl, Nat.le_of_ble_eq_true rfl, Nat.le_of_ble_eq_true rfl⟩ (fun r_25 N_26 V_27 q_28 => ?_)
        obtain ⟨h_24, rfl, rfl⟩ := q_28
        refine aw_callSi (J' := jX12_factOf) (As := [.int r_25]) (st := []) dX12_readsFactor_51 tb_1253 ok_X12_factOf rfl (r_factOf3 l D b N V0 hN cl i0_0.1 r_25) rfl (Nat.le_of_ble_eq_true rfl) ⟨Nat.le_of_ble_eq_true rfl, Nat.le_of_ble_eq_true rfl, Nat.le_of_ble_eq_true rfl, Nat.le_of_ble_eq_true rfl⟩ (fun r_31 N_32 V_33 q_34 => ?_)
        obtain ⟨h_30, rfl, rfl⟩ := q_34
        refine aw_istore_n (ls' := [some (.ref (b + 100)), some (.int r_31)]) dX12_readsFactor_54 (Nat.le_of_ble_eq_true rfl) rfl ?_
        refine aw_iload_n dX12_readsFactor_55 rfl ?_
        refine aw_iconst (v := (-1)) dX12_readsFactor_56 (by decide) ?_
        refine aw_icmp_ne (tgt := 70) dX12_readsFactor_57 (by decide) (fun c_35 => ?_) (fun c_35 => ?_)
        · skip
          obtain ⟨⟨z_36, hz_36, ez_36⟩, hnz_36⟩ := h_30.1.resolve_left c_35
          have hlc_35 := here_lt0 h_24 hnz_36
          subst ez_36
          refine aw_aload_n dX12_readsFactor_70 rfl ?_
          refine aw_iconst (v := 1) dX12_readsFactor_71 (by decide) ?_
          refine aw_iload_n dX12_readsFactor_72 rfl ?_
          refine aw_callVv (J' := jX12_notes) (As := [.int 1, .int (nI z_36)]) (st := []) dX12_readsFactor_73 tb_1249 ok_X12_notes ⟨_, e_6⟩ (by omega) rfl rfl (r_notes l D b N V0 hN cl i0_0.1 1 (nI z_36) 1 z_36 (by omega) (by omega) ftoldPeople_6 ftoldDoors_6 fwasDoors_6 ffault_6 (nI (dpt s + (wag_6 - wag_2))) flines_6 fmeantSet_6 fopenedNow_6 fvainNow_6 flowNow_6 fhighNow_6 fisKept_6 tad_6 pl0_6 le0_6 nu0_6 coy_6 wag_6 say_6 ⟨by omega, by omega, by omega, by omega, by omega, by omega, by omega⟩ e_6 g sd0 wa0 xg_x5 xs_x5 xw_x5 (by omega)) rfl (Nat.le_of_ble_eq_true rfl) ⟨Nat.le_of_ble_eq_true rfl, Nat.le_of_ble_eq_true rfl, Nat.le_of_ble_eq_true rfl, Nat.le_of_ble_eq_true rfl⟩ (fun  N_44 V_40 q_45 => ?_)
          obtain ⟨h_38, rfl, q_37⟩ := q_45
          have j_39 := JR.trans i0_0 (JR.weak q_37 (Sub.cons LM0 (by decide) (by decide) (by decide) (Or.inl rfl) (Sub.cons (LMs LM0) (by decide) (by decide) (by decide) (Or.inr ⟨by decide, by decide⟩) Sub.nil)))
          obtain ⟨hN_41, hN_42, hN_43⟩ := h_38
          have hQ := PS.emit hP_x5 1 z_36 (dp0 coy_6 + 1) (by omega) (by omega) (by omega) (by omega) (by omega) (by omega) (by omega)
          have hds : dset dp0 (coy_6 + 1) (dp0 coy_6 + 1) (coy_6 + 1) = dp0 coy_6 + 1 := dset_s
          refine aw_aload_n dX12_readsFactor_76 rfl ?_
          refine aw_aload_n dX12_readsFactor_77 rfl ?_
          refine aw_get dX12_readsFactor_78 fl_X12_159 hN_41 (by omega) rfl ?_
          refine aw_iconst (v := 1) dX12_readsFactor_81 (by decide) ?_
          refine aw_iadd dX12_readsFactor_82 ?_
          refine aw_eqi (y := nI (pl0_6 + 1)) (nI_add _ _) ?_
          refine aw_put dX12_readsFactor_83 fp_X12_159 hN_41 (by omega) rfl rfl (Nat.le_of_ble_eq_true rfl) rfl ?_
          refine aw_upR j_39 cm_100 ⟨_, _, _, _, _, _, _, _, _, _, _, _, tad_6, (pl0_6 + 1), le0_6, nu0_6, (coy_6 + 1), wag_6, say_6, rfl, by omega, by omega, by omega, by omega, by omega, by omega, by omega⟩ (by decide) (WO (s := 14) (x := .int (nI (pl0_6 + 1))) hN_41 rfl (LMs (LMs LM0)) (by decide) (by decide) (by decide) (Or.inl (by decide))) (fun V_46 j_46 k_46 e_46 => ?_)
          refine aw_iconst (v := 1) dX12_readsFactor_86 (by decide) ?_
          refine aw_zreti dX12_readsFactor_87 rfl (by first | exact Or.inl rfl | exact Or.inr rfl | assumption) (Nat.le_of_ble_eq_true rfl) (Nat.le_of_ble_eq_true rfl) ?_
          exact ⟨⟨(by first | exact Or.inl rfl | exact Or.inr rfl | assumption), Or.inr ⟨rfl, ⟨(upd sd0 coy_6 (nI (1048576 * 1 + z_36))), wa0, (pl0_6 + 1), (coy_6 + 1), wag_6, (dset dp0 (coy_6 + 1) (dp0 coy_6 + 1)), ⟨((k_46 _ (by decide)).trans ((hN_43 _ (by decide) (by decide)).trans xg_x5)), ((k_46 _ (by decide)).trans hN_42), ((k_46 _ (by decide)).trans ((hN_43 _ (by decide) (by decide)).trans xw_x5)), (FG.of e_46 rfl rfl), (FG.of e_46 rfl (by omega : le0_6 = ln)), (FG.of e_46 rfl rfl), (FG.of e_46 rfl rfl), hQ, ⟨by omega, by omega, by omega, by omega⟩, ((k_46 _ (by decide)).trans ((hN_43 _ (by decide) (by decide)).trans xa_x5)), ((k_46 _ (by decide)).trans ((hN_43 _ (by decide) (by decide)).trans xb_x5)), ((k_46 _ (by decide)).trans ((hN_43 _ (by decide) (by decide)).trans xd_x5)), ((k_46 _ (by decide)).trans ((hN_43 _ (by decide) (by decide)).trans xe_x5)), (FG.of e_46 rfl (by omega : say_6 = sm)), by omega⟩, by omega, i0_7, (fun i h1 h2 => i0_8 i h1 (by omega)), (fun k hk => (pk_un (by omega)).trans (i0_5 k hk)), by omega, by omega, (((congrArg (fun z => fI z 18) e_46).trans rfl)).trans (congrArg nI (by omega)), by omega, fun o q => i0_11 o (F_let ((congrArg fac (hd_eqr sb_x5ln rfl h_24)).symm.trans ((h_30.2.resolve_left (fun z => c_35 z.1)).2)) q)⟩⟩⟩, rfl, j_46⟩
        · skip
          refine aw_aload_n dX12_readsFactor_60 rfl ?_
          refine aw_iconst (v := 1) dX12_readsFactor_61 (by decide) ?_
          refine aw_aload_n dX12_readsFactor_62 rfl ?_
          refine aw_get dX12_readsFactor_63 fl_X12_159 e_6 (by omega) rfl ?_
          refine aw_callVi (J' := jX12_wrongAt) (As := [.int 1, .int (nI pl0_6)]) (st := []) dX12_readsFactor_66 tb_1224 ok_X12_wrongAt ⟨_, e_6⟩ (by omega) rfl rfl (r_wrongAt3 l D b N V0 hN cl i0_0.1 1 (nI pl0_6) pl0_6 le0_6 (FG.of e_6 rfl rfl) (FG.of e_6 rfl rfl) ⟨by omega, by omega⟩) rfl (Nat.le_of_ble_eq_true rfl) ⟨Nat.le_of_ble_eq_true rfl, Nat.le_of_ble_eq_true rfl, Nat.le_of_ble_eq_true rfl, Nat.le_of_ble_eq_true rfl⟩ (fun r_61 N_62 V_51 q_63 => ?_)
          obtain ⟨⟨z_49, h_48⟩, rfl, q_47⟩ := q_63
          have j_50 := JR.trans i0_0 (JR.weak q_47 (Sub.cons (LMs (LMs (LMs LM0))) (by decide) (by decide) (by decide) (Or.inr ⟨by decide, by decide⟩) Sub.nil))
          obtain ⟨a_52, ha_53, hA_54, hF_55, hL_56, hz_57, hX_58⟩ := h_48
          obtain ⟨ftoldPeople_k59, ftoldDoors_k59, fwasDoors_k59, ffault_k59, fopen_k59, flines_k59, fmeantSet_k59, fopenedNow_k59, fvainNow_k59, flowNow_k59, fhighNow_k59, fisKept_k59, tad_k59, pl0_k59, le0_k59, nu0_k59, coy_k59, wag_k59, say_k59, e_k59, hntad_k59, hnpl0_k59, hnle0_k59, hnnu0_k59, hncoy_k59, hnwag_k59, hnsay_k59⟩ := JR.get j_50 cm_100
          have hqp_k59 := FG.eq hF_55 e_k59 rfl (by omega) (by omega)
          have hql_k59 := FG.eq hL_56 e_k59 rfl (by omega) (by omega)
          obtain ⟨rfl, hw_60⟩ := hX_58
          refine aw_zreti dX12_readsFactor_69 rfl (by first | exact Or.inl rfl | exact Or.inr rfl | assumption) (Nat.le_of_ble_eq_true rfl) (Nat.le_of_ble_eq_true rfl) ?_
          exact ⟨⟨(by first | exact Or.inl rfl | exact Or.inr rfl | assumption), Or.inl ⟨rfl, ⟨_, hw_60, i0_11 _ (F_no (hd_isnt sb_x5ln rfl h_9 c_14) (isDg_no8 sb_x5ln rfl (h_16.1 c_22)) ((congrArg fac (hd_eqr sb_x5ln rfl h_24)).symm.trans ((h_30.2.resolve_right (fun z => z.1 c_35)).2)))⟩⟩⟩, rfl, j_50⟩
      · skip
        obtain ⟨z_64, hz_64, ez_64⟩ := h_16.2.resolve_left c_22
        have hlc_22 := here_ltd ez_64 (by omega)
        refine aw_aload_n dX12_readsFactor_27 rfl ?_
        refine aw_callVi (J' := jX12_readsNumber) (As := []) (st := []) dX12_readsFactor_28 tb_1245 ok_X12_readsNumber ⟨_, e_6⟩ (by omega) rfl rfl (r_readsNumber3 l D b N V0 hN cl i0_0.1 pl0_6 le0_6 (FG.of e_6 rfl rfl) (FG.of e_6 rfl rfl) ⟨by omega, by omega⟩ g sd0 wa0 xg_x5 xs_x5 xw_x5 coy_6 wag_6 say_6 (FG.of e_6 rfl rfl) (FG.of e_6 rfl rfl) (FG.of e_6 rfl rfl) ⟨by omega, by omega, by omega⟩ ⟨_, by omega, ez_64⟩) rfl (Nat.le_of_ble_eq_true rfl) ⟨Nat.le_of_ble_eq_true rfl, Nat.le_of_ble_eq_true rfl, Nat.le_of_ble_eq_true rfl, Nat.le_of_ble_eq_true rfl⟩ (fun r_78 N_79 V_69 q_80 => ?_)
        obtain ⟨⟨z_67, h_66⟩, rfl, q_65⟩ := q_80
        have j_68 := JR.trans i0_0 (JR.weak q_65 (Sub.cons (LMs (LMs (LMs (LMs LM0)))) (by decide) (by decide) (by decide) (Or.inr ⟨by decide, by decide⟩) (Sub.cons (LMs (LMs LM0)) (by decide) (by decide) (by decide) (Or.inr ⟨by decide, by decide⟩) (Sub.cons (LMs (LMs (LMs LM0))) (by decide) (by decide) (by decide) (Or.inr ⟨by decide, by decide⟩) Sub.nil))))
        obtain ⟨a_70, ha_71, hA_72, hF_73, hL_74, hz_75, hX_76⟩ := h_66
        obtain ⟨ftoldPeople_k77, ftoldDoors_k77, fwasDoors_k77, ffault_k77, fopen_k77, flines_k77, fmeantSet_k77, fopenedNow_k77, fvainNow_k77, flowNow_k77, fhighNow_k77, fisKept_k77, tad_k77, pl0_k77, le0_k77, nu0_k77, coy_k77, wag_k77, say_k77, e_k77, hntad_k77, hnpl0_k77, hnle0_k77, hnnu0_k77, hncoy_k77, hnwag_k77, hnsay_k77⟩ := JR.get j_68 cm_100
        have hqp_k77 := FG.eq hF_73 e_k77 rfl (by omega) (by omega)
        have hql_k77 := FG.eq hL_74 e_k77 rfl (by omega) (by omega)
        refine aw_if_ne (tgt := 36) dX12_readsFactor_31 (by decide) (fun c_81 => ?_) (fun c_81 => ?_)
        · skip
          obtain ⟨hN_82, hN_83, hN_84, hN_85, hN_86⟩ := ((hX_76.imp And.left (fun z => z.2.2)).resolve_left c_81)
          have hqs_k77 := FG.eq hN_85 e_k77 rfl (by omega) (by omega)
          have hqc_k77 := FG.eq hN_83 e_k77 rfl (by omega) (by omega)
          have hqw_k77 := FG.eq hN_84 e_k77 rfl (by omega) (by omega)
          have hP_k77 : PS sd0 wa0 sg coy_k77 wag_k77 dp0 := by rw [hqc_k77, hqw_k77]; exact hP_x5
          have hgrow := hN_82
          have hdc : dp0 coy_k77 = dp0 coy_6 := congrArg _ hqc_k77
          have hwc : wgt wa0 wag_k77 = wgt wa0 wag_6 := congrArg _ hqw_k77
          have hof_87 : fopen_k77 = nI (dpt s + (wag_6 - wag_2)) := ((congrArg (fun z => fI z 18) e_k77).trans rfl).symm.trans ((JR.fI q_65 (by decide) (by decide) (nfc (by omega) (nfc (by omega) (nfc (by omega) nf0)))).trans ((congrArg (fun z => fI z 18) e_6).trans rfl))
          subst hof_87
          obtain ⟨v9, e9⟩ := (hX_76.resolve_left (fun z => c_81 z.1)).2.1
          rw [sb_x5ln] at e9
          rw [← hqp_k77] at e9
          refine aw_aload_n dX12_readsFactor_36 rfl ?_
          refine aw_iconst (v := 0) dX12_readsFactor_37 (by decide) ?_
          refine aw_aload_n dX12_readsFactor_38 rfl ?_
          refine aw_get dX12_readsFactor_39 fl_X12_175 e_k77 (by omega) rfl ?_
          refine aw_callVv (J' := jX12_notes) (As := [.int 0, .int (nI nu0_k77)]) (st := []) dX12_readsFactor_42 tb_1249 ok_X12_notes ⟨_, e_k77⟩ (by omega) rfl rfl (r_notes l D b N V_69 hN cl j_68.1 0 (nI nu0_k77) 0 nu0_k77 (by omega) (by omega) ftoldPeople_k77 ftoldDoors_k77 fwasDoors_k77 ffault_k77 (nI (dpt s + (wag_6 - wag_2))) flines_k77 fmeantSet_k77 fopenedNow_k77 fvainNow_k77 flowNow_k77 fhighNow_k77 fisKept_k77 tad_k77 pl0_k77 le0_k77 nu0_k77 coy_k77 wag_k77 say_k77 ⟨by omega, by omega, by omega, by omega, by omega, by omega, by omega⟩ e_k77 g sd0 wa0 ((hN_86 _ (by decide)).trans xg_x5) ((hN_86 _ (by decide)).trans xs_x5) ((hN_86 _ (by decide)).trans xw_x5) (by omega)) rfl (Nat.le_of_ble_eq_true rfl) ⟨Nat.le_of_ble_eq_true rfl, Nat.le_of_ble_eq_true rfl, Nat.le_of_ble_eq_true rfl, Nat.le_of_ble_eq_true rfl⟩ (fun  N_95 V_91 q_96 => ?_)
          obtain ⟨h_89, rfl, q_88⟩ := q_96
          have j_90 := JR.trans j_68 (JR.weak q_88 (Sub.cons LM0 (by decide) (by decide) (by decide) (Or.inl rfl) (Sub.cons (LMs LM0) (by decide) (by decide) (by decide) (Or.inr ⟨by decide, by decide⟩) Sub.nil)))
          obtain ⟨hN_92, hN_93, hN_94⟩ := h_89
          have hQ := PS.emit hP_k77 0 nu0_k77 (dp0 coy_k77 + 1) (by omega) (by omega) (by omega) (by omega) (by omega) (by omega) (by omega)
          have hds : dset dp0 (coy_k77 + 1) (dp0 coy_k77 + 1) (coy_k77 + 1) = dp0 coy_k77 + 1 := dset_s
          refine aw_iconst (v := 1) dX12_readsFactor_45 (by decide) ?_
          refine aw_zreti dX12_readsFactor_46 rfl (by first | exact Or.inl rfl | exact Or.inr rfl | assumption) (Nat.le_of_ble_eq_true rfl) (Nat.le_of_ble_eq_true rfl) ?_
          exact ⟨⟨(by first | exact Or.inl rfl | exact Or.inr rfl | assumption), Or.inr ⟨rfl, ⟨(upd sd0 coy_k77 (nI (1048576 * 0 + nu0_k77))), wa0, pl0_k77, (coy_k77 + 1), wag_k77, (dset dp0 (coy_k77 + 1) (dp0 coy_k77 + 1)), ⟨((hN_94 _ (by decide) (by decide)).trans ((hN_86 _ (by decide)).trans xg_x5)), hN_93, ((hN_94 _ (by decide) (by decide)).trans ((hN_86 _ (by decide)).trans xw_x5)), (FG.of hN_92 rfl rfl), (FG.of hN_92 rfl (by omega : le0_k77 = ln)), (FG.of hN_92 rfl rfl), (FG.of hN_92 rfl rfl), hQ, ⟨by omega, by omega, by omega, by omega⟩, ((hN_94 _ (by decide) (by decide)).trans ((hN_86 _ (by decide)).trans xa_x5)), ((hN_94 _ (by decide) (by decide)).trans ((hN_86 _ (by decide)).trans xb_x5)), ((hN_94 _ (by decide) (by decide)).trans ((hN_86 _ (by decide)).trans xd_x5)), ((hN_94 _ (by decide) (by decide)).trans ((hN_86 _ (by decide)).trans xe_x5)), (FG.of hN_92 rfl (by omega : say_k77 = sm)), by omega⟩, by omega, i0_7, (fun i h1 h2 => i0_8 i h1 (by omega)), (fun k hk => (pk_un (by omega)).trans (i0_5 k hk)), by omega, by omega, (((congrArg (fun z => fI z 18) hN_92).trans rfl)).trans (congrArg nI (by omega)), by omega, fun o q => i0_11 o (F_num (isDg_of8 sb_x5ln rfl (h_16.2.resolve_left c_22)) e9 (hqw_k77 ▸ q))⟩⟩⟩, rfl, j_90⟩
        · skip
          refine aw_iconst (v := 0) dX12_readsFactor_34 (by decide) ?_
          refine aw_zreti dX12_readsFactor_35 rfl (by first | exact Or.inl rfl | exact Or.inr rfl | assumption) (Nat.le_of_ble_eq_true rfl) (Nat.le_of_ble_eq_true rfl) ?_
          exact ⟨⟨(by first | exact Or.inl rfl | exact Or.inr rfl | assumption), Or.inl ⟨rfl, (Exists.imp (fun f z => ⟨z.2, i0_11 _ (F_numf (isDg_of8 sb_x5ln rfl (h_16.2.resolve_left c_22)) (sb_x5ln ▸ z.1))⟩) ((hX_76.resolve_right (fun z => absurd (z.1.symm.trans c_81) (by decide))).2))⟩⟩, rfl, j_68⟩
    · skip
      have hlc_14 := here_lt h_9 c_14 (by decide)
      refine aw_aload_n dX12_readsFactor_9 rfl ?_
      refine aw_bipush (v := 14) dX12_readsFactor_10 (by decide) ?_
      refine aw_callVi (J' := jX12_opens) (As := [.int 14]) (st := []) dX12_readsFactor_12 tb_1236 ok_X12_opens ⟨_, e_6⟩ (by omega) rfl rfl (r_opens3 l D b N V0 hN cl i0_0.1 14 14 (by omega) ftoldPeople_6 ftoldDoors_6 fwasDoors_6 ffault_6 (nI (dpt s + (wag_6 - wag_2))) flines_6 fmeantSet_6 fopenedNow_6 fvainNow_6 flowNow_6 fhighNow_6 fisKept_6 tad_6 pl0_6 le0_6 nu0_6 coy_6 wag_6 say_6 ⟨by omega, by omega, by omega, by omega, by omega, by omega, by omega⟩ e_6 g sd0 wa0 xg_x5 xs_x5 xw_x5 (by omega) (by omega)) rfl (Nat.le_of_ble_eq_true rfl) ⟨Nat.le_of_ble_eq_true rfl, Nat.le_of_ble_eq_true rfl, Nat.le_of_ble_eq_true rfl, Nat.le_of_ble_eq_true rfl⟩ (fun r_102 N_103 V_101 q_104 => ?_)
      obtain ⟨⟨z_99, h_98⟩, rfl, q_97⟩ := q_104
      have j_100 := JR.trans i0_0 (JR.weak q_97 (Sub.cons LM0 (by decide) (by decide) (by decide) (Or.inl rfl) (Sub.cons (LMs (LMs (LMs (LMs (LMs LM0))))) (by decide) (by decide) (by decide) (Or.inr ⟨by decide, by decide⟩) (Sub.cons (LMs (LMs (LMs (LMs (LMs (LMs LM0)))))) (by decide) (by decide) (by decide) (Or.inr ⟨by decide, by decide⟩) (Sub.cons (LMs (LMs LM0)) (by decide) (by decide) (by decide) (Or.inr ⟨by decide, by decide⟩) (Sub.cons (LMs (LMs (LMs LM0))) (by decide) (by decide) (by decide) (Or.inr ⟨by decide, by decide⟩) Sub.nil))))))
      refine aw_if_ne (tgt := 0) dX12_readsFactor_15 (by decide) (fun c_105 => ?_) (fun c_105 => ?_)
      · skip
        obtain ⟨hO_106, hO_107, hO_108⟩ := ((h_98.imp And.left (fun z => z.2.2)).resolve_left c_105)
        have hO_109 := PS.push hP_x5 14 (by decide) (by decide) (by decide)
        have whO_109 : wgt (upd wa0 wag_6 (nI (1048576 * 14))) (wag_6 + 1) = wgt wa0 wag_6 + 0 := by rw [wgt_push, show nI (1048576 * 14) = nI (1048576 * 14 + 0) from rfl, opOf_nI (by decide) (by decide)]; rfl
        rw [nI_1] at hO_106
        have h6 : ¬ (dpt s + (wag_6 - wag_2)) = 6 := fun e => (h_98.resolve_left (fun z => c_105 z.1)).2.1 (congrArg nI e)
        have hcg := (wgt_pushc (wa := wa0) (w := wag_6) (n := bs) (z := 14) (by decide) (by omega)).1
        have hk9 : (wag_6 + 1) - wag_2 = (wag_6 - wag_2) + 1 := by omega
        refine aw_le ?_ (mih_0_4 _ (by omega) (pl0_6 + 1) coy_6 (wag_6 + 1) sd0 (upd wa0 wag_6 (nI (1048576 * 14))) dp0 V_101 rfl (j_100) (⟨((hO_108 _ (by decide) (by decide)).trans xg_x5), ((hO_108 _ (by decide) (by decide)).trans xs_x5), hO_107, (FG.of hO_106 rfl rfl), (FG.of hO_106 rfl (by omega : le0_6 = ln)), (FG.of hO_106 rfl rfl), (FG.of hO_106 rfl rfl), hO_109, ⟨by omega, by omega, by omega, by omega⟩, ((hO_108 _ (by decide) (by decide)).trans xa_x5), ((hO_108 _ (by decide) (by decide)).trans xb_x5), ((hO_108 _ (by decide) (by decide)).trans xd_x5), ((hO_108 _ (by decide) (by decide)).trans xe_x5), (FG.of hO_106 rfl (by omega : say_6 = sm)), by omega⟩) (by omega) (by omega) (by omega) (i0_5) (by omega) (agu i0_7 (by omega)) (op14 i0_8) ((((congrArg (fun z => fI z 18) hO_106).trans rfl)).trans (congrArg nI (by omega))) (by omega) ((by rw [hk9]; exact fun o q => i0_11 o (F_open (hd_is sb_x5ln rfl h_9 c_14) (by rw [dpt_rp]; omega) q))))
        exact ⟨rfl, trivial⟩
      · skip
        refine aw_iconst (v := 0) dX12_readsFactor_18 (by decide) ?_
        refine aw_zreti dX12_readsFactor_19 rfl (by first | exact Or.inl rfl | exact Or.inr rfl | assumption) (Nat.le_of_ble_eq_true rfl) (Nat.le_of_ble_eq_true rfl) ?_
        exact ⟨⟨(by first | exact Or.inl rfl | exact Or.inr rfl | assumption), Or.inl ⟨rfl, ⟨_, ((h_98.resolve_right (fun z => absurd (z.1.symm.trans c_105) (by decide))).2.2), i0_11 _ (F_deep (hd_is sb_x5ln rfl h_9 c_14) (by have h9 := (nI_eq (b := 6) (by omega) (by omega)).mp ((h_98.resolve_right (fun z => absurd (z.1.symm.trans c_105) (by decide))).2.1); rw [dpt_rp]; omega))⟩⟩⟩, rfl, j_100⟩
  refine aw_le ?_ (ml_0_4 _ pl0_2 coy_2 wag_2 sd wa dep V rfl (hJ0) (⟨xg_x1, xs_x1, xw_x1, (FG.of e_2 rfl rfl), (FG.of e_2 rfl (by omega : le0_2 = ln)), (FG.of e_2 rfl rfl), (FG.of e_2 rfl rfl), hP_x1, ⟨by omega, by omega, by omega, by omega⟩, xa_x1, xb_x1, xd_x1, xe_x1, (FG.of e_2 rfl (by omega : say_2 = sm)), by omega⟩) (by omega) (by omega) (by omega) (fun k hk => rfl) (by omega) (fun i hi => rfl) (fun i h1 h2 => absurd h2 (by omega)) ((((congrArg (fun z => fI z 18) e_2).trans rfl)).trans (congrArg nI (by omega))) (by omega) ((by rw [Nat.sub_self]; exact fun o q => q)))
  exact ⟨rfl, trivial⟩

