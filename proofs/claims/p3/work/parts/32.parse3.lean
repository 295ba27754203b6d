set_option maxHeartbeats 4000000 in
set_option maxRecDepth 100000 in
theorem r_isDigitB (l : Launch) (D : va_G) (b : Nat) (N : Nat) (V : Wd) (hN : 133 ≤ N) (cl : Nat) (hW : CR D b cl V)  (g : Nat → Int32) (hg : V 110 = cB D 260 g) (pl ln : Nat) (hpl : FG b 14 pl V) (hln : FG b 15 ln V) (hb : pl ≤ 240 ∧ ln ≤ 240) : MI l D b 1 jX12_isDigit [.ref (b + 100)] N V 0 0 (fun r N9 V9 => ((r = 0 ∨ r = 1) ∧ ((r = 0 → (hereF g pl ln < 48 ∨ 57 < hereF g pl ln)) ∧ (r = 0 ∨ ∃ q : Nat, q < 10 ∧ hereF g pl ln = nI (48 + q)))) ∧ N = N9 ∧ V = V9) := by
  have hJ0 : JR D b N cl [] V V := JR.rf hW
  refine mw_of (by decide) (by simp [Value.category]) (Nat.le_of_ble_eq_true rfl) ?_
  show AW l D b jX12_isDigit (fx_rm 1 0 0) none (fx_MQ D b 0 0 (fx_qi (fun r N9 V9 => ((r = 0 ∨ r = 1) ∧ ((r = 0 → (hereF g pl ln < 48 ∨ 57 < hereF g pl ln)) ∧ (r = 0 ∨ ∃ q : Nat, q < 10 ∧ hereF g pl ln = nI (48 + q)))) ∧ N = N9 ∧ V = V9))) 0 [some (.ref (b + 100))] [] N V 0 0
  obtain ⟨ftoldPeople_1, ftoldDoors_1, fwasDoors_1, ffault_1, fopen_1, flines_1, fmeantSet_1, fopenedNow_1, fvainNow_1, flowNow_1, fhighNow_1, fisKept_1, tad_1, pl0_1, le0_1, nu0_1, coy_1, wag_1, say_1, e_1, hntad_1, hnpl0_1, hnle0_1, hnnu0_1, hncoy_1, hnwag_1, hnsay_1⟩ := JR.get hJ0 cm_100
  have hq_p := FG.eq hpl e_1 rfl (by omega) (by omega)
  have hq_l := FG.eq hln e_1 rfl (by omega) (by omega)
  refine aw_aload_n dX12_isDigit_0 rfl ?_
  refine aw_callVi (J' := jX12_here) (As := []) (st := []) dX12_isDigit_1 tb_1220 ok_X12_here ⟨_, e_1⟩ (by omega) rfl rfl (r_here l D b N V hN cl hJ0.1 g hg pl0_1 le0_1 (FG.of e_1 rfl rfl) (FG.of e_1 rfl rfl) ⟨by omega, by omega⟩) rfl (Nat.le_of_ble_eq_true rfl) ⟨Nat.le_of_ble_eq_true rfl, Nat.le_of_ble_eq_true rfl, Nat.le_of_ble_eq_true rfl, Nat.le_of_ble_eq_true rfl⟩ (fun r_4 N_5 V_6 q_7 => ?_)
  obtain ⟨h_3, rfl, rfl⟩ := q_7
  refine aw_bipush (v := 48) dX12_isDigit_4 (by decide) ?_
  refine aw_icmp_lt (tgt := 22) dX12_isDigit_6 (by decide) (fun c_8 => ?_) (fun c_8 => ?_)
  · skip
    refine aw_iconst (v := 0) dX12_isDigit_22 (by decide) ?_
    refine aw_zreti dX12_isDigit_23 rfl (by first | exact Or.inl rfl | exact Or.inr rfl | assumption) (Nat.le_of_ble_eq_true rfl) (Nat.le_of_ble_eq_true rfl) ?_
    exact ⟨⟨(by first | exact Or.inl rfl | exact Or.inr rfl | assumption), ⟨fun _ => Or.inl (by rw [← hq_p, ← hq_l, ← h_3]; exact c_8), Or.inl rfl⟩⟩, rfl, rfl⟩
  · skip
    refine aw_aload_n dX12_isDigit_9 rfl ?_
    refine aw_callVi (J' := jX12_here) (As := []) (st := []) dX12_isDigit_10 tb_1220 ok_X12_here ⟨_, e_1⟩ (by omega) rfl rfl (r_here l D b N V hN cl hJ0.1 g hg pl0_1 le0_1 (FG.of e_1 rfl rfl) (FG.of e_1 rfl rfl) ⟨by omega, by omega⟩) rfl (Nat.le_of_ble_eq_true rfl) ⟨Nat.le_of_ble_eq_true rfl, Nat.le_of_ble_eq_true rfl, Nat.le_of_ble_eq_true rfl, Nat.le_of_ble_eq_true rfl⟩ (fun r_11 N_12 V_13 q_14 => ?_)
    obtain ⟨h_10, rfl, rfl⟩ := q_14
    refine aw_bipush (v := 57) dX12_isDigit_13 (by decide) ?_
    refine aw_icmp_gt (tgt := 22) dX12_isDigit_15 (by decide) (fun c_15 => ?_) (fun c_15 => ?_)
    · skip
      refine aw_iconst (v := 0) dX12_isDigit_22 (by decide) ?_
      refine aw_zreti dX12_isDigit_23 rfl (by first | exact Or.inl rfl | exact Or.inr rfl | assumption) (Nat.le_of_ble_eq_true rfl) (Nat.le_of_ble_eq_true rfl) ?_
      exact ⟨⟨(by first | exact Or.inl rfl | exact Or.inr rfl | assumption), ⟨fun _ => Or.inr (by rw [← hq_p, ← hq_l, ← h_10]; exact c_15), Or.inl rfl⟩⟩, rfl, rfl⟩
    · skip
      refine aw_iconst (v := 1) dX12_isDigit_18 (by decide) ?_
      refine aw_goto (tgt := 23) dX12_isDigit_19 (by decide) ?_
      refine aw_zreti dX12_isDigit_23 rfl (by first | exact Or.inl rfl | exact Or.inr rfl | assumption) (Nat.le_of_ble_eq_true rfl) (Nat.le_of_ble_eq_true rfl) ?_
      exact ⟨⟨(by first | exact Or.inl rfl | exact Or.inr rfl | assumption), ⟨fun z => absurd z (by decide), Or.inr (by rw [← hq_p, ← hq_l]; exact dig_of h_3 h_10 c_8 c_15)⟩⟩, rfl, rfl⟩

set_option maxHeartbeats 4000000 in
set_option maxRecDepth 100000 in
theorem r_readsNumber (l : Launch) (D : va_G) (b : Nat) (N : Nat) (V : Wd) (hN : 133 ≤ N) (cl : Nat) (hW : CR D b cl V)  (pl ln : Nat) (hpl : FG b 14 pl V) (hln : FG b 15 ln V) (hb : pl ≤ 240 ∧ ln ≤ 240) (g sd wa : Nat → Int32) (hg : V 110 = cB D 260 g) (hsd : V 111 = cI D 260 sd) (hwa : V 112 = cI D 260 wa) (cm wt sm : Nat) (hcm : FG b 19 cm V) (hwt : FG b 20 wt V) (hsm : FG b 21 sm V) (hcw : cm ≤ 260 ∧ wt ≤ 260 ∧ sm ≤ 16) (hd : ∃ q : Nat, q < 10 ∧ hereF g pl ln = nI (48 + q)) : MI l D b 2 jX12_readsNumber [.ref (b + 100)] N V 0 0 (fun r N9 V9 => ((r = 0 ∨ r = 1) ∧ (∃ a9, pl ≤ a9 ∧ a9 ≤ 240 ∧ FG b 14 a9 V9 ∧ FG b 15 ln V9 ∧ V9 110 = V 110 ∧ (r = 0 ∨ (pl < a9 ∧ FG b 19 cm V9 ∧ FG b 20 wt V9 ∧ FG b 21 sm V9 ∧ ∀ i, i ≠ 100 → V9 i = V i)))) ∧ N = N9 ∧ JR D b N cl [(100, 100, 17, 17), (100, 100, 14, 14), (100, 100, 16, 16)] V V9) := by
  have hJ0 : JR D b N cl [(100, 100, 17, 17), (100, 100, 14, 14), (100, 100, 16, 16)] V V := JR.rf hW
  refine mw_of (by decide) (by simp [Value.category]) (Nat.le_of_ble_eq_true rfl) ?_
  show AW l D b jX12_readsNumber (fx_rm 2 0 0) none (fx_MQ D b 0 0 (fx_qi (fun r N9 V9 => ((r = 0 ∨ r = 1) ∧ (∃ a9, pl ≤ a9 ∧ a9 ≤ 240 ∧ FG b 14 a9 V9 ∧ FG b 15 ln V9 ∧ V9 110 = V 110 ∧ (r = 0 ∨ (pl < a9 ∧ FG b 19 cm V9 ∧ FG b 20 wt V9 ∧ FG b 21 sm V9 ∧ ∀ i, i ≠ 100 → V9 i = V i)))) ∧ N = N9 ∧ JR D b N cl [(100, 100, 17, 17), (100, 100, 14, 14), (100, 100, 16, 16)] V V9))) 0 [some (.ref (b + 100)), none] [] N V 0 0
  obtain ⟨ftoldPeople_1, ftoldDoors_1, fwasDoors_1, ffault_1, fopen_1, flines_1, fmeantSet_1, fopenedNow_1, fvainNow_1, flowNow_1, fhighNow_1, fisKept_1, tad_1, pl0_1, le0_1, nu0_1, coy_1, wag_1, say_1, e_1, hntad_1, hnpl0_1, hnle0_1, hnnu0_1, hncoy_1, hnwag_1, hnsay_1⟩ := JR.get hJ0 cm_100
  have hq_p := FG.eq hpl e_1 rfl (by omega) (by omega)
  have hq_l := FG.eq hln e_1 rfl (by omega) (by omega)
  have hq_c := FG.eq hcm e_1 rfl (by omega) (by omega)
  have hq_w := FG.eq hwt e_1 rfl (by omega) (by omega)
  have hq_s := FG.eq hsm e_1 rfl (by omega) (by omega)
  refine aw_aload_n dX12_readsNumber_0 rfl ?_
  refine aw_get dX12_readsNumber_1 fl_X12_159 e_1 (by omega) rfl ?_
  refine aw_istore_n (ls' := [some (.ref (b + 100)), some (.int (nI pl0_1))]) dX12_readsNumber_4 (Nat.le_of_ble_eq_true rfl) rfl ?_
  refine aw_aload_n dX12_readsNumber_5 rfl ?_
  refine aw_iconst (v := 0) dX12_readsNumber_6 (by decide) ?_
  refine aw_put dX12_readsNumber_7 fp_X12_175 e_1 (by omega) rfl rfl (Nat.le_of_ble_eq_true rfl) rfl ?_
  refine aw_upR hJ0 cm_100 ⟨_, _, _, _, _, _, _, _, _, _, _, _, tad_1, pl0_1, le0_1, 0, coy_1, wag_1, say_1, rfl, by omega, by omega, by omega, by omega, by omega, by omega, by omega⟩ (by decide) (WO (s := 17) (x := .int 0) e_1 rfl LM0 (by decide) (by decide) (by decide) (Or.inl (by decide))) (fun V_2 j_2 k_2 e_2 => ?_)
  have ml_10_3 : ∀ (m : Nat) (a10 : Nat) (q10 : Nat) (cc10 : Nat) (ww10 : Nat) (sx10 : Nat) (V10 : Wd), m = 240 - a10 → (JR D b N cl [(100, 100, 17, 17), (100, 100, 14, 14), (100, 100, 16, 16)] V V10) → (FG b 14 a10 V10) → (FG b 17 q10 V10) → (FG b 19 cc10 V10) → (FG b 20 ww10 V10) → (FG b 21 sx10 V10) → (FG b 15 ln V10) → (∀ i, i ≠ 100 → V10 i = V i) → ((pl ≤ a10 ∧ a10 ≤ 240 ∧ cc10 = cm ∧ ww10 = wt ∧ sx10 = sm) ∧ ((a10 = pl ∧ q10 = 0) ∨ (a10 = pl + 1 ∧ q10 < 10) ∨ (a10 = pl + 2 ∧ q10 < 100) ∨ (a10 = pl + 3 ∧ q10 < 1000) ∨ (a10 = pl + 4 ∧ q10 < 10000) ∨ (a10 = pl + 5 ∧ q10 < 100000))) → AW l D b jX12_readsNumber (fx_rm 2 0 0) none (fx_MQ D b 0 0 (fx_qi (fun r N9 V9 => ((r = 0 ∨ r = 1) ∧ (∃ a9, pl ≤ a9 ∧ a9 ≤ 240 ∧ FG b 14 a9 V9 ∧ FG b 15 ln V9 ∧ V9 110 = V 110 ∧ (r = 0 ∨ (pl < a9 ∧ FG b 19 cm V9 ∧ FG b 20 wt V9 ∧ FG b 21 sm V9 ∧ ∀ i, i ≠ 100 → V9 i = V i)))) ∧ N = N9 ∧ JR D b N cl [(100, 100, 17, 17), (100, 100, 14, 14), (100, 100, 16, 16)] V V9))) 10 [some (.ref (b + 100)), some (.int (nI pl0_1))] [] N V10 0 0 := by
    intro m; refine Nat.strongRecOn m ?_
    intro m mih_10_3 a10 q10 cc10 ww10 sx10 V10 hm10 i10_0 i10_1 i10_2 i10_3 i10_4 i10_5 i10_6 i10_7 i10_8
    obtain ⟨ftoldPeople_4, ftoldDoors_4, fwasDoors_4, ffault_4, fopen_4, flines_4, fmeantSet_4, fopenedNow_4, fvainNow_4, flowNow_4, fhighNow_4, fisKept_4, tad_4, pl0_4, le0_4, nu0_4, coy_4, wag_4, say_4, e_4, hntad_4, hnpl0_4, hnle0_4, hnnu0_4, hncoy_4, hnwag_4, hnsay_4⟩ := JR.get i10_0 cm_100
    have hq0_10 := FG.eq i10_1 e_4 rfl (by omega) (by omega)
    have hq1_10 := FG.eq i10_2 e_4 rfl (by omega) (by omega)
    have hq2_10 := FG.eq i10_3 e_4 rfl (by omega) (by omega)
    have hq3_10 := FG.eq i10_4 e_4 rfl (by omega) (by omega)
    have hq4_10 := FG.eq i10_5 e_4 rfl (by omega) (by omega)
    have hql_10 := FG.eq i10_6 e_4 rfl (by omega) (by omega)
    refine aw_aload_n dX12_readsNumber_10 rfl ?_
    refine aw_callVi (J' := jX12_isDigit) (As := []) (st := []) dX12_readsNumber_11 tb_1241 ok_X12_isDigit ⟨_, e_4⟩ (by omega) rfl rfl (r_isDigitB l D b N V10 hN cl i10_0.1 g ((i10_7 110 (by decide)).trans hg) pl0_4 le0_4 (FG.of e_4 rfl rfl) (FG.of e_4 rfl rfl) ⟨by omega, by omega⟩) rfl (Nat.le_of_ble_eq_true rfl) ⟨Nat.le_of_ble_eq_true rfl, Nat.le_of_ble_eq_true rfl, Nat.le_of_ble_eq_true rfl, Nat.le_of_ble_eq_true rfl⟩ (fun r_8 N_9 V_10 q_11 => ?_)
    obtain ⟨⟨z_7, h_6⟩, rfl, rfl⟩ := q_11
    refine aw_if_eq (tgt := 69) dX12_readsNumber_14 (by decide) (fun c_12 => ?_) (fun c_12 => ?_)
    · skip
      refine aw_iconst (v := 1) dX12_readsNumber_69 (by decide) ?_
      have hne : pl < pl0_4 := by rcases Nat.lt_or_ge pl pl0_4 with q | q; exact q; obtain ⟨z, hz, e⟩ := hd; exact (dig_no (h_6.1 c_12) hz (by rw [show pl0_4 = pl by omega, show le0_4 = ln by omega]; exact e)).elim
      refine aw_zreti dX12_readsNumber_70 rfl (by first | exact Or.inl rfl | exact Or.inr rfl | assumption) (Nat.le_of_ble_eq_true rfl) (Nat.le_of_ble_eq_true rfl) ?_
      exact ⟨⟨(by first | exact Or.inl rfl | exact Or.inr rfl | assumption), ⟨pl0_4, by omega, by omega, (FG.of e_4 rfl rfl), (FG.of e_4 rfl (by omega : le0_4 = ln)), (((i10_7 110 (by decide)).trans hg)).trans hg.symm, Or.inr ⟨hne, (FG.of e_4 rfl (by omega : coy_4 = cm)), (FG.of e_4 rfl (by omega : wag_4 = wt)), (FG.of e_4 rfl (by omega : say_4 = sm)), fun i h100 => i10_7 i h100⟩⟩⟩, rfl, i10_0⟩
    · skip
      obtain ⟨z_13, hz_13, ez_13⟩ := h_6.2.resolve_left c_12
      have hlc_12 := here_ltd ez_13 (by omega)
      refine aw_aload_n dX12_readsNumber_17 rfl ?_
      refine aw_get dX12_readsNumber_18 fl_X12_159 e_4 (by omega) rfl ?_
      refine aw_iload_n dX12_readsNumber_21 rfl ?_
      refine aw_iconst (v := 5) dX12_readsNumber_22 (by decide) ?_
      refine aw_iadd dX12_readsNumber_23 ?_
      refine aw_eqi (y := nI (pl0_1 + 5)) (nI_add _ _) ?_
      refine aw_icmp_ne (tgt := 37) dX12_readsNumber_24 (by decide) (fun c_14 => ?_) (fun c_14 => ?_)
      · skip
        have nc_14 : ¬ (pl0_4 = (pl0_1 + 5)) := fun z => c_14 ((nI_eq (a := pl0_4) (b := (pl0_1 + 5)) (by omega) (by omega)).mpr z)
        refine aw_aload_n dX12_readsNumber_37 rfl ?_
        refine aw_bipush (v := 10) dX12_readsNumber_38 (by decide) ?_
        refine aw_aload_n dX12_readsNumber_40 rfl ?_
        refine aw_get dX12_readsNumber_41 fl_X12_175 e_4 (by omega) rfl ?_
        refine aw_imul dX12_readsNumber_44 ?_
        refine aw_eqi (y := nI (10 * nu0_4)) (pk_mul _ _) ?_
        refine aw_aload_n dX12_readsNumber_45 rfl ?_
        refine aw_callVi (J' := jX12_here) (As := []) (st := [.int (nI (10 * nu0_4)), .ref (b + 100)]) dX12_readsNumber_46 tb_1220 ok_X12_here ⟨_, e_4⟩ (by omega) rfl rfl (r_here l D b N V10 hN cl i10_0.1 g ((i10_7 110 (by decide)).trans hg) pl0_4 le0_4 (FG.of e_4 rfl rfl) (FG.of e_4 rfl rfl) ⟨by omega, by omega⟩) rfl (Nat.le_of_ble_eq_true rfl) ⟨Nat.le_of_ble_eq_true rfl, Nat.le_of_ble_eq_true rfl, Nat.le_of_ble_eq_true rfl, Nat.le_of_ble_eq_true rfl⟩ (fun r_17 N_18 V_19 q_20 => ?_)
        obtain ⟨h_16, rfl, rfl⟩ := q_20
        refine aw_eqi (h_16.trans ez_13) ?_
        refine aw_iadd dX12_readsNumber_49 ?_
        refine aw_eqi (y := nI ((10 * nu0_4) + (48 + z_13))) (nI_add _ _) ?_
        refine aw_bipush (v := 48) dX12_readsNumber_50 (by decide) ?_
        refine aw_isub dX12_readsNumber_52 ?_
        refine aw_eqi (y := (nI (((10 * nu0_4) + (48 + z_13)) - 48))) (pk_sub (a := ((10 * nu0_4) + (48 + z_13))) (b := 48) (by omega)) ?_
        refine aw_put dX12_readsNumber_53 fp_X12_175 e_4 (by omega) rfl rfl (Nat.le_of_ble_eq_true rfl) rfl ?_
        refine aw_upR i10_0 cm_100 ⟨_, _, _, _, _, _, _, _, _, _, _, _, tad_4, pl0_4, le0_4, (((10 * nu0_4) + (48 + z_13)) - 48), coy_4, wag_4, say_4, rfl, by omega, by omega, by omega, by omega, by omega, by omega, by omega⟩ (by decide) (WO (s := 17) (x := .int (nI (((10 * nu0_4) + (48 + z_13)) - 48))) e_4 rfl LM0 (by decide) (by decide) (by decide) (Or.inl (by decide))) (fun V_21 j_21 k_21 e_21 => ?_)
        refine aw_aload_n dX12_readsNumber_56 rfl ?_
        refine aw_aload_n dX12_readsNumber_57 rfl ?_
        refine aw_get dX12_readsNumber_58 fl_X12_159 e_21 (by omega) rfl ?_
        refine aw_iconst (v := 1) dX12_readsNumber_61 (by decide) ?_
        refine aw_iadd dX12_readsNumber_62 ?_
        refine aw_eqi (y := nI (pl0_4 + 1)) (nI_add _ _) ?_
        refine aw_put dX12_readsNumber_63 fp_X12_159 e_21 (by omega) rfl rfl (Nat.le_of_ble_eq_true rfl) rfl ?_
        refine aw_upR j_21 cm_100 ⟨_, _, _, _, _, _, _, _, _, _, _, _, tad_4, (pl0_4 + 1), le0_4, (((10 * nu0_4) + (48 + z_13)) - 48), coy_4, wag_4, say_4, rfl, by omega, by omega, by omega, by omega, by omega, by omega, by omega⟩ (by decide) (WO (s := 14) (x := .int (nI (pl0_4 + 1))) e_21 rfl (LMs LM0) (by decide) (by decide) (by decide) (Or.inl (by decide))) (fun V_22 j_22 k_22 e_22 => ?_)
        refine aw_goto (tgt := 10) dX12_readsNumber_66 (by decide) ?_
        refine aw_le ?_ (mih_10_3 _ (by omega) (pl0_4 + 1) (((10 * nu0_4) + (48 + z_13)) - 48) coy_4 wag_4 say_4 V_22 rfl (j_22) ((FG.of e_22 rfl rfl)) ((FG.of e_22 rfl rfl)) ((FG.of e_22 rfl rfl)) ((FG.of e_22 rfl rfl)) ((FG.of e_22 rfl rfl)) ((FG.of e_22 rfl (by omega : le0_4 = ln))) (fun i h100 => (k_22 i h100).trans ((k_21 i h100).trans (i10_7 i h100))) (by omega))
        exact ⟨rfl, ⟨rfl, trivial⟩⟩
      · skip
        have nc_14 : pl0_4 = (pl0_1 + 5) := (nI_eq (a := pl0_4) (b := (pl0_1 + 5)) (by omega) (by omega)).mp c_14
        refine aw_aload_n dX12_readsNumber_27 rfl ?_
        refine aw_iconst (v := 2) dX12_readsNumber_28 (by decide) ?_
        refine aw_aload_n dX12_readsNumber_29 rfl ?_
        refine aw_get dX12_readsNumber_30 fl_X12_159 e_4 (by omega) rfl ?_
        refine aw_callVi (J' := jX12_wrongAt) (As := [.int 2, .int (nI pl0_4)]) (st := []) dX12_readsNumber_33 tb_1224 ok_X12_wrongAt ⟨_, e_4⟩ (by omega) rfl rfl (r_wrongAt l D b N V10 hN cl i10_0.1 2 (nI pl0_4) pl0_4 le0_4 (FG.of e_4 rfl rfl) (FG.of e_4 rfl rfl) ⟨by omega, by omega⟩) rfl (Nat.le_of_ble_eq_true rfl) ⟨Nat.le_of_ble_eq_true rfl, Nat.le_of_ble_eq_true rfl, Nat.le_of_ble_eq_true rfl, Nat.le_of_ble_eq_true rfl⟩ (fun r_36 N_37 V_27 q_38 => ?_)
        obtain ⟨⟨z_25, h_24⟩, rfl, q_23⟩ := q_38
        have j_26 := JR.trans i10_0 (JR.weak q_23 (Sub.cons (LMs (LMs LM0)) (by decide) (by decide) (by decide) (Or.inr ⟨by decide, by decide⟩) Sub.nil))
        obtain ⟨a_28, ha_29, hA_30, hF_31, hL_32, hz_33, hX_34⟩ := h_24
        obtain ⟨ftoldPeople_k35, ftoldDoors_k35, fwasDoors_k35, ffault_k35, fopen_k35, flines_k35, fmeantSet_k35, fopenedNow_k35, fvainNow_k35, flowNow_k35, fhighNow_k35, fisKept_k35, tad_k35, pl0_k35, le0_k35, nu0_k35, coy_k35, wag_k35, say_k35, e_k35, hntad_k35, hnpl0_k35, hnle0_k35, hnnu0_k35, hncoy_k35, hnwag_k35, hnsay_k35⟩ := JR.get j_26 cm_100
        have hqp_k35 := FG.eq hF_31 e_k35 rfl (by omega) (by omega)
        have hql_k35 := FG.eq hL_32 e_k35 rfl (by omega) (by omega)
        obtain rfl := hX_34
        refine aw_zreti dX12_readsNumber_36 rfl (by first | exact Or.inl rfl | exact Or.inr rfl | assumption) (Nat.le_of_ble_eq_true rfl) (Nat.le_of_ble_eq_true rfl) ?_
        exact ⟨⟨(by first | exact Or.inl rfl | exact Or.inr rfl | assumption), ⟨pl0_k35, by omega, by omega, (FG.of e_k35 rfl rfl), (FG.of e_k35 rfl (by omega : le0_k35 = ln)), ((hz_33.trans ((i10_7 110 (by decide)).trans hg))).trans hg.symm, Or.inl rfl⟩⟩, rfl, j_26⟩
  refine aw_le ?_ (ml_10_3 _ pl0_1 0 coy_1 wag_1 say_1 V_2 rfl (j_2) ((FG.of e_2 rfl rfl)) ((FG.of e_2 rfl rfl)) ((FG.of e_2 rfl rfl)) ((FG.of e_2 rfl rfl)) ((FG.of e_2 rfl rfl)) ((FG.of e_2 rfl (by omega : le0_1 = ln))) (fun i h100 => k_2 i h100) (by omega))
  exact ⟨rfl, ⟨rfl, trivial⟩⟩

set_option maxHeartbeats 4000000 in
set_option maxRecDepth 100000 in
theorem r_readsFactor (l : Launch) (D : va_G) (b : Nat) (N : Nat) (V : Wd) (hN : 133 ≤ N) (cl : Nat) (hW : CR D b cl V)  (bs d0 : Nat) (g sd wa : Nat → Int32) (pl ln cm wt sg : Nat) (dep : Nat → Nat) (sl sf sh st : Nat → Int32) (sm sk : Nat) (hX : PX D b V g pl ln cm wt sg sd wa dep sl sf sh st sm sk) (hbw : bs ≤ wt) (hdp : dep cm + wgt wa bs = d0 + wgt wa wt) : MI l D b 3 jX12_readsFactor [.ref (b + 100)] N V 0 0 (fun r N9 V9 => ((r = 0 ∨ r = 1) ∧ (r = 0 ∨ (∃ (sd9 wa9 : Nat → Int32) (pl9 cm9 wt9 : Nat) (dep9 : Nat → Nat), PX D b V9 g pl9 ln cm9 wt9 sg sd9 wa9 dep9 sl sf sh st sm sk ∧ wt ≤ wt9 ∧ (∀ i, i < wt → wa9 i = wa i) ∧ (∀ i, wt ≤ i → i < wt9 → opOf (wa9 i) = 14) ∧ (∀ k, k < sg → sd9 k = sd k) ∧ dep9 cm9 + wgt wa9 bs = d0 + wgt wa9 wt9 + 1 ∧ pl < pl9))) ∧ N = N9 ∧ JR D b N cl [(111, 112, 0, 1000000), (100, 100, 19, 19), (100, 100, 14, 14), (100, 100, 16, 16), (100, 100, 17, 17), (100, 100, 18, 18), (100, 100, 20, 20)] V V9) := by
  have hJ0 : JR D b N cl [(111, 112, 0, 1000000), (100, 100, 19, 19), (100, 100, 14, 14), (100, 100, 16, 16), (100, 100, 17, 17), (100, 100, 18, 18), (100, 100, 20, 20)] V V := JR.rf hW
  refine mw_of (by decide) (by simp [Value.category]) (Nat.le_of_ble_eq_true rfl) ?_
  show AW l D b jX12_readsFactor (fx_rm 3 0 0) none (fx_MQ D b 0 0 (fx_qi (fun r N9 V9 => ((r = 0 ∨ r = 1) ∧ (r = 0 ∨ (∃ (sd9 wa9 : Nat → Int32) (pl9 cm9 wt9 : Nat) (dep9 : Nat → Nat), PX D b V9 g pl9 ln cm9 wt9 sg sd9 wa9 dep9 sl sf sh st sm sk ∧ wt ≤ wt9 ∧ (∀ i, i < wt → wa9 i = wa i) ∧ (∀ i, wt ≤ i → i < wt9 → opOf (wa9 i) = 14) ∧ (∀ k, k < sg → sd9 k = sd k) ∧ dep9 cm9 + wgt wa9 bs = d0 + wgt wa9 wt9 + 1 ∧ pl < pl9))) ∧ N = N9 ∧ JR D b N cl [(111, 112, 0, 1000000), (100, 100, 19, 19), (100, 100, 14, 14), (100, 100, 16, 16), (100, 100, 17, 17), (100, 100, 18, 18), (100, 100, 20, 20)] V V9))) 0 [some (.ref (b + 100)), none] [] N V 0 0
  obtain ⟨xg_x1, xs_x1, xw_x1, xp_x1, xl_x1, xc_x1, xt_x1, hP_x1, ⟨hB1_x1, hB2_x1, hB3_x1, hB4_x1⟩, xa_x1, xb_x1, xd_x1, xe_x1, xm_x1, hB5_x1⟩ := id hX
  obtain ⟨ftoldPeople_2, ftoldDoors_2, fwasDoors_2, ffault_2, fopen_2, flines_2, fmeantSet_2, fopenedNow_2, fvainNow_2, flowNow_2, fhighNow_2, fisKept_2, tad_2, pl0_2, le0_2, nu0_2, coy_2, wag_2, say_2, e_2, hntad_2, hnpl0_2, hnle0_2, hnnu0_2, hncoy_2, hnwag_2, hnsay_2⟩ := JR.get hJ0 cm_100
  have sb_x1pl := FG.eq xp_x1 e_2 rfl (by omega) (by omega)
  subst sb_x1pl
  have sb_x1cm := FG.eq xc_x1 e_2 rfl (by omega) (by omega)
  subst sb_x1cm
  have sb_x1wt := FG.eq xt_x1 e_2 rfl (by omega) (by omega)
  subst sb_x1wt
  have sb_x1ln := FG.eq xl_x1 e_2 rfl (by omega) (by omega)
  have hsg_x1 := hP_x1.2.1
  have sb_x1sm := FG.eq xm_x1 e_2 rfl (by omega) (by omega)
  have ml_0_3 : ∀ (m : Nat) (p0 : Nat) (c0 : Nat) (w0 : Nat) (sd0 : Nat → Int32) (wa0 : Nat → Int32) (dp0 : Nat → Nat) (V0 : Wd), m = 240 - p0 → (JR D b N cl [(111, 112, 0, 1000000), (100, 100, 19, 19), (100, 100, 14, 14), (100, 100, 16, 16), (100, 100, 17, 17), (100, 100, 18, 18), (100, 100, 20, 20)] V V0) → (PX D b V0 g p0 ln c0 w0 sg sd0 wa0 dp0 sl sf sh st sm sk) → (pl0_2 ≤ p0) → (c0 = coy_2) → (wag_2 ≤ w0) → (∀ k, k < sg → sd0 k = sd k) → (dp0 c0 + wgt wa0 bs = d0 + wgt wa0 w0) → (∀ i, i < wag_2 → wa0 i = wa i) → (∀ i, wag_2 ≤ i → i < w0 → opOf (wa0 i) = 14) → AW l D b jX12_readsFactor (fx_rm 3 0 0) none (fx_MQ D b 0 0 (fx_qi (fun r N9 V9 => ((r = 0 ∨ r = 1) ∧ (r = 0 ∨ (∃ (sd9 wa9 : Nat → Int32) (pl9 cm9 wt9 : Nat) (dep9 : Nat → Nat), PX D b V9 g pl9 ln cm9 wt9 sg sd9 wa9 dep9 sl sf sh st sm sk ∧ wag_2 ≤ wt9 ∧ (∀ i, i < wag_2 → wa9 i = wa i) ∧ (∀ i, wag_2 ≤ i → i < wt9 → opOf (wa9 i) = 14) ∧ (∀ k, k < sg → sd9 k = sd k) ∧ dep9 cm9 + wgt wa9 bs = d0 + wgt wa9 wt9 + 1 ∧ pl0_2 < pl9))) ∧ N = N9 ∧ JR D b N cl [(111, 112, 0, 1000000), (100, 100, 19, 19), (100, 100, 14, 14), (100, 100, 16, 16), (100, 100, 17, 17), (100, 100, 18, 18), (100, 100, 20, 20)] V V9))) 0 [some (.ref (b + 100)), none] [] N V0 0 0 := by
    intro m; refine Nat.strongRecOn m ?_
    intro m mih_0_3 p0 c0 w0 sd0 wa0 dp0 V0 hm0 i0_0 i0_1 i0_2 i0_3 i0_4 i0_5 i0_6 i0_7 i0_8
    obtain ⟨xg_x4, xs_x4, xw_x4, xp_x4, xl_x4, xc_x4, xt_x4, hP_x4, ⟨hB1_x4, hB2_x4, hB3_x4, hB4_x4⟩, xa_x4, xb_x4, xd_x4, xe_x4, xm_x4, hB5_x4⟩ := i0_1
    obtain ⟨ftoldPeople_5, ftoldDoors_5, fwasDoors_5, ffault_5, fopen_5, flines_5, fmeantSet_5, fopenedNow_5, fvainNow_5, flowNow_5, fhighNow_5, fisKept_5, tad_5, pl0_5, le0_5, nu0_5, coy_5, wag_5, say_5, e_5, hntad_5, hnpl0_5, hnle0_5, hnnu0_5, hncoy_5, hnwag_5, hnsay_5⟩ := JR.get i0_0 cm_100
    clear hntad_2 hnpl0_2 hnle0_2 hnnu0_2 hncoy_2 hnwag_2 hnsay_2
    have sb_x4pl := FG.eq xp_x4 e_5 rfl (by omega) (by omega)
    subst sb_x4pl
    have sb_x4cm := FG.eq xc_x4 e_5 rfl (by omega) (by omega)
    subst sb_x4cm
    have sb_x4wt := FG.eq xt_x4 e_5 rfl (by omega) (by omega)
    subst sb_x4wt
    have sb_x4ln := FG.eq xl_x4 e_5 rfl (by omega) (by omega)
    have hsg_x4 := hP_x4.2.1
    have sb_x4sm := FG.eq xm_x4 e_5 rfl (by omega) (by omega)
    refine aw_aload_n dX12_readsFactor_0 rfl ?_
    refine aw_callVi (J' := jX12_here) (As := []) (st := []) dX12_readsFactor_1 tb_1220 ok_X12_here ⟨_, e_5⟩ (by omega) rfl rfl (r_here l D b N V0 hN cl i0_0.1 g xg_x4 pl0_5 le0_5 (FG.of e_5 rfl rfl) (FG.of e_5 rfl rfl) ⟨by omega, by omega⟩) rfl (Nat.le_of_ble_eq_true rfl) ⟨Nat.le_of_ble_eq_true rfl, Nat.le_of_ble_eq_true rfl, Nat.le_of_ble_eq_true rfl, Nat.le_of_ble_eq_true rfl⟩ (fun r_8 N_9 V_10 q_11 => ?_)
    obtain ⟨h_7, rfl, rfl⟩ := q_11
    refine aw_bipush (v := 91) dX12_readsFactor_4 (by decide) ?_
    refine aw_icmp_ne (tgt := 20) dX12_readsFactor_6 (by decide) (fun c_12 => ?_) (fun c_12 => ?_)
    · skip
      refine aw_aload_n dX12_readsFactor_20 rfl ?_
      refine aw_callVi (J' := jX12_isDigit) (As := []) (st := []) dX12_readsFactor_21 tb_1241 ok_X12_isDigit ⟨_, e_5⟩ (by omega) rfl rfl (r_isDigit l D b N V0 hN cl i0_0.1 g xg_x4 pl0_5 le0_5 (FG.of e_5 rfl rfl) (FG.of e_5 rfl rfl) ⟨by omega, by omega⟩) rfl (Nat.le_of_ble_eq_true rfl) ⟨Nat.le_of_ble_eq_true rfl, Nat.le_of_ble_eq_true rfl, Nat.le_of_ble_eq_true rfl, Nat.le_of_ble_eq_true rfl⟩ (fun r_16 N_17 V_18 q_19 => ?_)
      obtain ⟨⟨z_15, h_14⟩, rfl, rfl⟩ := q_19
      refine aw_if_eq (tgt := 47) dX12_readsFactor_24 (by decide) (fun c_20 => ?_) (fun c_20 => ?_)
      · skip
        refine aw_aload_n dX12_readsFactor_47 rfl ?_
        refine aw_callVi (J' := jX12_here) (As := []) (st := []) dX12_readsFactor_48 tb_1220 ok_X12_here ⟨_, e_5⟩ (by omega) rfl rfl (r_here l D b N V0 hN cl i0_0.1 g xg_x4 pl0_5 le0_5 (FG.of e_5 rfl rfl) (FG.of e_5 rfl rfl) ⟨by omega, by omega⟩) rfl (Nat.le_of_ble_eq_true rfl) ⟨Nat.le_of_ble_eq_true rfl, Nat.le_of_ble_eq_true rfl, Nat.le_of_ble_eq_true rfl, Nat.le_of_ble_eq_true rfl⟩ (fun r_23 N_24 V_25 q_26 => ?_)
        obtain ⟨h_22, rfl, rfl⟩ := q_26
        refine aw_callSi (J' := jX12_factOf) (As := [.int r_23]) (st := []) dX12_readsFactor_51 tb_1253 ok_X12_factOf rfl (r_factOf l D b N V0 hN cl i0_0.1 r_23) rfl (Nat.le_of_ble_eq_true rfl) ⟨Nat.le_of_ble_eq_true rfl, Nat.le_of_ble_eq_true rfl, Nat.le_of_ble_eq_true rfl, Nat.le_of_ble_eq_true rfl⟩ (fun r_29 N_30 V_31 q_32 => ?_)
        obtain ⟨h_28, rfl, rfl⟩ := q_32
        refine aw_istore_n (ls' := [some (.ref (b + 100)), some (.int r_29)]) dX12_readsFactor_54 (Nat.le_of_ble_eq_true rfl) rfl ?_
        refine aw_iload_n dX12_readsFactor_55 rfl ?_
        refine aw_iconst (v := (-1)) dX12_readsFactor_56 (by decide) ?_
        refine aw_icmp_ne (tgt := 70) dX12_readsFactor_57 (by decide) (fun c_33 => ?_) (fun c_33 => ?_)
        · skip
          obtain ⟨⟨z_34, hz_34, ez_34⟩, hnz_34⟩ := h_28.resolve_left c_33
          have hlc_33 := here_lt0 h_22 hnz_34
          subst ez_34
          refine aw_aload_n dX12_readsFactor_70 rfl ?_
          refine aw_iconst (v := 1) dX12_readsFactor_71 (by decide) ?_
          refine aw_iload_n dX12_readsFactor_72 rfl ?_
          refine aw_callVv (J' := jX12_notes) (As := [.int 1, .int (nI z_34)]) (st := []) dX12_readsFactor_73 tb_1249 ok_X12_notes ⟨_, e_5⟩ (by omega) rfl rfl (r_notes l D b N V0 hN cl i0_0.1 1 (nI z_34) 1 z_34 (by omega) (by omega) ftoldPeople_5 ftoldDoors_5 fwasDoors_5 ffault_5 fopen_5 flines_5 fmeantSet_5 fopenedNow_5 fvainNow_5 flowNow_5 fhighNow_5 fisKept_5 tad_5 pl0_5 le0_5 nu0_5 coy_5 wag_5 say_5 ⟨by omega, by omega, by omega, by omega, by omega, by omega, by omega⟩ e_5 g sd0 wa0 xg_x4 xs_x4 xw_x4 (by omega)) rfl (Nat.le_of_ble_eq_true rfl) ⟨Nat.le_of_ble_eq_true rfl, Nat.le_of_ble_eq_true rfl, Nat.le_of_ble_eq_true rfl, Nat.le_of_ble_eq_true rfl⟩ (fun  N_42 V_38 q_43 => ?_)
          obtain ⟨h_36, rfl, q_35⟩ := q_43
          have j_37 := JR.trans i0_0 (JR.weak q_35 (Sub.cons LM0 (by decide) (by decide) (by decide) (Or.inl rfl) (Sub.cons (LMs LM0) (by decide) (by decide) (by decide) (Or.inr ⟨by decide, by decide⟩) Sub.nil)))
          obtain ⟨hN_39, hN_40, hN_41⟩ := h_36
          have hQ := PS.emit hP_x4 1 z_34 (dp0 coy_5 + 1) (by omega) (by omega) (by omega) (by omega) (by omega) (by omega) (by omega)
          have hds : dset dp0 (coy_5 + 1) (dp0 coy_5 + 1) (coy_5 + 1) = dp0 coy_5 + 1 := dset_s
          refine aw_aload_n dX12_readsFactor_76 rfl ?_
          refine aw_aload_n dX12_readsFactor_77 rfl ?_
          refine aw_get dX12_readsFactor_78 fl_X12_159 hN_39 (by omega) rfl ?_
          refine aw_iconst (v := 1) dX12_readsFactor_81 (by decide) ?_
          refine aw_iadd dX12_readsFactor_82 ?_
          refine aw_eqi (y := nI (pl0_5 + 1)) (nI_add _ _) ?_
          refine aw_put dX12_readsFactor_83 fp_X12_159 hN_39 (by omega) rfl rfl (Nat.le_of_ble_eq_true rfl) rfl ?_
          refine aw_upR j_37 cm_100 ⟨_, _, _, _, _, _, _, _, _, _, _, _, tad_5, (pl0_5 + 1), le0_5, nu0_5, (coy_5 + 1), wag_5, say_5, rfl, by omega, by omega, by omega, by omega, by omega, by omega, by omega⟩ (by decide) (WO (s := 14) (x := .int (nI (pl0_5 + 1))) hN_39 rfl (LMs (LMs LM0)) (by decide) (by decide) (by decide) (Or.inl (by decide))) (fun V_44 j_44 k_44 e_44 => ?_)
          refine aw_iconst (v := 1) dX12_readsFactor_86 (by decide) ?_
          refine aw_zreti dX12_readsFactor_87 rfl (by first | exact Or.inl rfl | exact Or.inr rfl | assumption) (Nat.le_of_ble_eq_true rfl) (Nat.le_of_ble_eq_true rfl) ?_
          exact ⟨⟨(by first | exact Or.inl rfl | exact Or.inr rfl | assumption), Or.inr ⟨(upd sd0 coy_5 (nI (1048576 * 1 + z_34))), wa0, (pl0_5 + 1), (coy_5 + 1), wag_5, (dset dp0 (coy_5 + 1) (dp0 coy_5 + 1)), ⟨((k_44 _ (by decide)).trans ((hN_41 _ (by decide) (by decide)).trans xg_x4)), ((k_44 _ (by decide)).trans hN_40), ((k_44 _ (by decide)).trans ((hN_41 _ (by decide) (by decide)).trans xw_x4)), (FG.of e_44 rfl rfl), (FG.of e_44 rfl (by omega : le0_5 = ln)), (FG.of e_44 rfl rfl), (FG.of e_44 rfl rfl), hQ, ⟨by omega, by omega, by omega, by omega⟩, ((k_44 _ (by decide)).trans ((hN_41 _ (by decide) (by decide)).trans xa_x4)), ((k_44 _ (by decide)).trans ((hN_41 _ (by decide) (by decide)).trans xb_x4)), ((k_44 _ (by decide)).trans ((hN_41 _ (by decide) (by decide)).trans xd_x4)), ((k_44 _ (by decide)).trans ((hN_41 _ (by decide) (by decide)).trans xe_x4)), (FG.of e_44 rfl (by omega : say_5 = sm)), by omega⟩, by omega, i0_7, (fun i h1 h2 => i0_8 i h1 (by omega)), (fun k hk => (pk_un (by omega)).trans (i0_5 k hk)), by omega, by omega⟩⟩, rfl, j_44⟩
        · skip
          refine aw_aload_n dX12_readsFactor_60 rfl ?_
          refine aw_iconst (v := 1) dX12_readsFactor_61 (by decide) ?_
          refine aw_aload_n dX12_readsFactor_62 rfl ?_
          refine aw_get dX12_readsFactor_63 fl_X12_159 e_5 (by omega) rfl ?_
          refine aw_callVi (J' := jX12_wrongAt) (As := [.int 1, .int (nI pl0_5)]) (st := []) dX12_readsFactor_66 tb_1224 ok_X12_wrongAt ⟨_, e_5⟩ (by omega) rfl rfl (r_wrongAt l D b N V0 hN cl i0_0.1 1 (nI pl0_5) pl0_5 le0_5 (FG.of e_5 rfl rfl) (FG.of e_5 rfl rfl) ⟨by omega, by omega⟩) rfl (Nat.le_of_ble_eq_true rfl) ⟨Nat.le_of_ble_eq_true rfl, Nat.le_of_ble_eq_true rfl, Nat.le_of_ble_eq_true rfl, Nat.le_of_ble_eq_true rfl⟩ (fun r_58 N_59 V_49 q_60 => ?_)
          obtain ⟨⟨z_47, h_46⟩, rfl, q_45⟩ := q_60
          have j_48 := JR.trans i0_0 (JR.weak q_45 (Sub.cons (LMs (LMs (LMs LM0))) (by decide) (by decide) (by decide) (Or.inr ⟨by decide, by decide⟩) Sub.nil))
          obtain ⟨a_50, ha_51, hA_52, hF_53, hL_54, hz_55, hX_56⟩ := h_46
          obtain ⟨ftoldPeople_k57, ftoldDoors_k57, fwasDoors_k57, ffault_k57, fopen_k57, flines_k57, fmeantSet_k57, fopenedNow_k57, fvainNow_k57, flowNow_k57, fhighNow_k57, fisKept_k57, tad_k57, pl0_k57, le0_k57, nu0_k57, coy_k57, wag_k57, say_k57, e_k57, hntad_k57, hnpl0_k57, hnle0_k57, hnnu0_k57, hncoy_k57, hnwag_k57, hnsay_k57⟩ := JR.get j_48 cm_100
          have hqp_k57 := FG.eq hF_53 e_k57 rfl (by omega) (by omega)
          have hql_k57 := FG.eq hL_54 e_k57 rfl (by omega) (by omega)
          obtain rfl := hX_56
          refine aw_zreti dX12_readsFactor_69 rfl (by first | exact Or.inl rfl | exact Or.inr rfl | assumption) (Nat.le_of_ble_eq_true rfl) (Nat.le_of_ble_eq_true rfl) ?_
          exact ⟨⟨(by first | exact Or.inl rfl | exact Or.inr rfl | assumption), Or.inl rfl⟩, rfl, j_48⟩
      · skip
        obtain ⟨z_61, hz_61, ez_61⟩ := h_14.resolve_left c_20
        have hlc_20 := here_ltd ez_61 (by omega)
        refine aw_aload_n dX12_readsFactor_27 rfl ?_
        refine aw_callVi (J' := jX12_readsNumber) (As := []) (st := []) dX12_readsFactor_28 tb_1245 ok_X12_readsNumber ⟨_, e_5⟩ (by omega) rfl rfl (r_readsNumber l D b N V0 hN cl i0_0.1 pl0_5 le0_5 (FG.of e_5 rfl rfl) (FG.of e_5 rfl rfl) ⟨by omega, by omega⟩ g sd0 wa0 xg_x4 xs_x4 xw_x4 coy_5 wag_5 say_5 (FG.of e_5 rfl rfl) (FG.of e_5 rfl rfl) (FG.of e_5 rfl rfl) ⟨by omega, by omega, by omega⟩ ⟨_, by omega, ez_61⟩) rfl (Nat.le_of_ble_eq_true rfl) ⟨Nat.le_of_ble_eq_true rfl, Nat.le_of_ble_eq_true rfl, Nat.le_of_ble_eq_true rfl, Nat.le_of_ble_eq_true rfl⟩ (fun r_75 N_76 V_66 q_77 => ?_)
        obtain ⟨⟨z_64, h_63⟩, rfl, q_62⟩ := q_77
        have j_65 := JR.trans i0_0 (JR.weak q_62 (Sub.cons (LMs (LMs (LMs (LMs LM0)))) (by decide) (by decide) (by decide) (Or.inr ⟨by decide, by decide⟩) (Sub.cons (LMs (LMs LM0)) (by decide) (by decide) (by decide) (Or.inr ⟨by decide, by decide⟩) (Sub.cons (LMs (LMs (LMs LM0))) (by decide) (by decide) (by decide) (Or.inr ⟨by decide, by decide⟩) Sub.nil))))
        obtain ⟨a_67, ha_68, hA_69, hF_70, hL_71, hz_72, hX_73⟩ := h_63
        obtain ⟨ftoldPeople_k74, ftoldDoors_k74, fwasDoors_k74, ffault_k74, fopen_k74, flines_k74, fmeantSet_k74, fopenedNow_k74, fvainNow_k74, flowNow_k74, fhighNow_k74, fisKept_k74, tad_k74, pl0_k74, le0_k74, nu0_k74, coy_k74, wag_k74, say_k74, e_k74, hntad_k74, hnpl0_k74, hnle0_k74, hnnu0_k74, hncoy_k74, hnwag_k74, hnsay_k74⟩ := JR.get j_65 cm_100
        have hqp_k74 := FG.eq hF_70 e_k74 rfl (by omega) (by omega)
        have hql_k74 := FG.eq hL_71 e_k74 rfl (by omega) (by omega)
        refine aw_if_ne (tgt := 36) dX12_readsFactor_31 (by decide) (fun c_78 => ?_) (fun c_78 => ?_)
        · skip
          obtain ⟨hN_79, hN_80, hN_81, hN_82, hN_83⟩ := (hX_73.resolve_left c_78)
          have hqs_k74 := FG.eq hN_82 e_k74 rfl (by omega) (by omega)
          have hqc_k74 := FG.eq hN_80 e_k74 rfl (by omega) (by omega)
          have hqw_k74 := FG.eq hN_81 e_k74 rfl (by omega) (by omega)
          have hP_k74 : PS sd0 wa0 sg coy_k74 wag_k74 dp0 := by rw [hqc_k74, hqw_k74]; exact hP_x4
          have hgrow := hN_79
          have hdc : dp0 coy_k74 = dp0 coy_5 := congrArg _ hqc_k74
          have hwc : wgt wa0 wag_k74 = wgt wa0 wag_5 := congrArg _ hqw_k74
          refine aw_aload_n dX12_readsFactor_36 rfl ?_
          refine aw_iconst (v := 0) dX12_readsFactor_37 (by decide) ?_
          refine aw_aload_n dX12_readsFactor_38 rfl ?_
          refine aw_get dX12_readsFactor_39 fl_X12_175 e_k74 (by omega) rfl ?_
          refine aw_callVv (J' := jX12_notes) (As := [.int 0, .int (nI nu0_k74)]) (st := []) dX12_readsFactor_42 tb_1249 ok_X12_notes ⟨_, e_k74⟩ (by omega) rfl rfl (r_notes l D b N V_66 hN cl j_65.1 0 (nI nu0_k74) 0 nu0_k74 (by omega) (by omega) ftoldPeople_k74 ftoldDoors_k74 fwasDoors_k74 ffault_k74 fopen_k74 flines_k74 fmeantSet_k74 fopenedNow_k74 fvainNow_k74 flowNow_k74 fhighNow_k74 fisKept_k74 tad_k74 pl0_k74 le0_k74 nu0_k74 coy_k74 wag_k74 say_k74 ⟨by omega, by omega, by omega, by omega, by omega, by omega, by omega⟩ e_k74 g sd0 wa0 ((hN_83 _ (by decide)).trans xg_x4) ((hN_83 _ (by decide)).trans xs_x4) ((hN_83 _ (by decide)).trans xw_x4) (by omega)) rfl (Nat.le_of_ble_eq_true rfl) ⟨Nat.le_of_ble_eq_true rfl, Nat.le_of_ble_eq_true rfl, Nat.le_of_ble_eq_true rfl, Nat.le_of_ble_eq_true rfl⟩ (fun  N_91 V_87 q_92 => ?_)
          obtain ⟨h_85, rfl, q_84⟩ := q_92
          have j_86 := JR.trans j_65 (JR.weak q_84 (Sub.cons LM0 (by decide) (by decide) (by decide) (Or.inl rfl) (Sub.cons (LMs LM0) (by decide) (by decide) (by decide) (Or.inr ⟨by decide, by decide⟩) Sub.nil)))
          obtain ⟨hN_88, hN_89, hN_90⟩ := h_85
          have hQ := PS.emit hP_k74 0 nu0_k74 (dp0 coy_k74 + 1) (by omega) (by omega) (by omega) (by omega) (by omega) (by omega) (by omega)
          have hds : dset dp0 (coy_k74 + 1) (dp0 coy_k74 + 1) (coy_k74 + 1) = dp0 coy_k74 + 1 := dset_s
          refine aw_iconst (v := 1) dX12_readsFactor_45 (by decide) ?_
          refine aw_zreti dX12_readsFactor_46 rfl (by first | exact Or.inl rfl | exact Or.inr rfl | assumption) (Nat.le_of_ble_eq_true rfl) (Nat.le_of_ble_eq_true rfl) ?_
          exact ⟨⟨(by first | exact Or.inl rfl | exact Or.inr rfl | assumption), Or.inr ⟨(upd sd0 coy_k74 (nI (1048576 * 0 + nu0_k74))), wa0, pl0_k74, (coy_k74 + 1), wag_k74, (dset dp0 (coy_k74 + 1) (dp0 coy_k74 + 1)), ⟨((hN_90 _ (by decide) (by decide)).trans ((hN_83 _ (by decide)).trans xg_x4)), hN_89, ((hN_90 _ (by decide) (by decide)).trans ((hN_83 _ (by decide)).trans xw_x4)), (FG.of hN_88 rfl rfl), (FG.of hN_88 rfl (by omega : le0_k74 = ln)), (FG.of hN_88 rfl rfl), (FG.of hN_88 rfl rfl), hQ, ⟨by omega, by omega, by omega, by omega⟩, ((hN_90 _ (by decide) (by decide)).trans ((hN_83 _ (by decide)).trans xa_x4)), ((hN_90 _ (by decide) (by decide)).trans ((hN_83 _ (by decide)).trans xb_x4)), ((hN_90 _ (by decide) (by decide)).trans ((hN_83 _ (by decide)).trans xd_x4)), ((hN_90 _ (by decide) (by decide)).trans ((hN_83 _ (by decide)).trans xe_x4)), (FG.of hN_88 rfl (by omega : say_k74 = sm)), by omega⟩, by omega, i0_7, (fun i h1 h2 => i0_8 i h1 (by omega)), (fun k hk => (pk_un (by omega)).trans (i0_5 k hk)), by omega, by omega⟩⟩, rfl, j_86⟩
        · skip
          refine aw_iconst (v := 0) dX12_readsFactor_34 (by decide) ?_
          refine aw_zreti dX12_readsFactor_35 rfl (by first | exact Or.inl rfl | exact Or.inr rfl | assumption) (Nat.le_of_ble_eq_true rfl) (Nat.le_of_ble_eq_true rfl) ?_
          exact ⟨⟨(by first | exact Or.inl rfl | exact Or.inr rfl | assumption), Or.inl rfl⟩, rfl, j_65⟩
    · skip
      have hlc_12 := here_lt h_7 c_12 (by decide)
      refine aw_aload_n dX12_readsFactor_9 rfl ?_
      refine aw_bipush (v := 14) dX12_readsFactor_10 (by decide) ?_
      refine aw_callVi (J' := jX12_opens) (As := [.int 14]) (st := []) dX12_readsFactor_12 tb_1236 ok_X12_opens ⟨_, e_5⟩ (by omega) rfl rfl (r_opens l D b N V0 hN cl i0_0.1 14 14 (by omega) ftoldPeople_5 ftoldDoors_5 fwasDoors_5 ffault_5 fopen_5 flines_5 fmeantSet_5 fopenedNow_5 fvainNow_5 flowNow_5 fhighNow_5 fisKept_5 tad_5 pl0_5 le0_5 nu0_5 coy_5 wag_5 say_5 ⟨by omega, by omega, by omega, by omega, by omega, by omega, by omega⟩ e_5 g sd0 wa0 xg_x4 xs_x4 xw_x4 (by omega) (by omega)) rfl (Nat.le_of_ble_eq_true rfl) ⟨Nat.le_of_ble_eq_true rfl, Nat.le_of_ble_eq_true rfl, Nat.le_of_ble_eq_true rfl, Nat.le_of_ble_eq_true rfl⟩ (fun r_98 N_99 V_97 q_100 => ?_)
      obtain ⟨⟨z_95, h_94⟩, rfl, q_93⟩ := q_100
      have j_96 := JR.trans i0_0 (JR.weak q_93 (Sub.cons LM0 (by decide) (by decide) (by decide) (Or.inl rfl) (Sub.cons (LMs (LMs (LMs (LMs (LMs LM0))))) (by decide) (by decide) (by decide) (Or.inr ⟨by decide, by decide⟩) (Sub.cons (LMs (LMs (LMs (LMs (LMs (LMs LM0)))))) (by decide) (by decide) (by decide) (Or.inr ⟨by decide, by decide⟩) (Sub.cons (LMs (LMs LM0)) (by decide) (by decide) (by decide) (Or.inr ⟨by decide, by decide⟩) (Sub.cons (LMs (LMs (LMs LM0))) (by decide) (by decide) (by decide) (Or.inr ⟨by decide, by decide⟩) Sub.nil))))))
      refine aw_if_ne (tgt := 0) dX12_readsFactor_15 (by decide) (fun c_101 => ?_) (fun c_101 => ?_)
      · skip
        obtain ⟨hO_102, hO_103, hO_104⟩ := (h_94.resolve_left c_101)
        have hO_105 := PS.push hP_x4 14 (by decide) (by decide) (by decide)
        have whO_105 : wgt (upd wa0 wag_5 (nI (1048576 * 14))) (wag_5 + 1) = wgt wa0 wag_5 + 0 := by rw [wgt_push, show nI (1048576 * 14) = nI (1048576 * 14 + 0) from rfl, opOf_nI (by decide) (by decide)]; rfl
        have hcg := (wgt_pushc (wa := wa0) (w := wag_5) (n := bs) (z := 14) (by decide) (by omega)).1
        refine aw_le ?_ (mih_0_3 _ (by omega) (pl0_5 + 1) coy_5 (wag_5 + 1) sd0 (upd wa0 wag_5 (nI (1048576 * 14))) dp0 V_97 rfl (j_96) (⟨((hO_104 _ (by decide) (by decide)).trans xg_x4), ((hO_104 _ (by decide) (by decide)).trans xs_x4), hO_103, (FG.of hO_102 rfl rfl), (FG.of hO_102 rfl (by omega : le0_5 = ln)), (FG.of hO_102 rfl rfl), (FG.of hO_102 rfl rfl), hO_105, ⟨by omega, by omega, by omega, by omega⟩, ((hO_104 _ (by decide) (by decide)).trans xa_x4), ((hO_104 _ (by decide) (by decide)).trans xb_x4), ((hO_104 _ (by decide) (by decide)).trans xd_x4), ((hO_104 _ (by decide) (by decide)).trans xe_x4), (FG.of hO_102 rfl (by omega : say_5 = sm)), by omega⟩) (by omega) (by omega) (by omega) (i0_5) (by omega) (agu i0_7 (by omega)) (op14 i0_8))
        exact ⟨rfl, trivial⟩
      · skip
        refine aw_iconst (v := 0) dX12_readsFactor_18 (by decide) ?_
        refine aw_zreti dX12_readsFactor_19 rfl (by first | exact Or.inl rfl | exact Or.inr rfl | assumption) (Nat.le_of_ble_eq_true rfl) (Nat.le_of_ble_eq_true rfl) ?_
        exact ⟨⟨(by first | exact Or.inl rfl | exact Or.inr rfl | assumption), Or.inl rfl⟩, rfl, j_96⟩
  refine aw_le ?_ (ml_0_3 _ pl0_2 coy_2 wag_2 sd wa dep V rfl (hJ0) (⟨xg_x1, xs_x1, xw_x1, (FG.of e_2 rfl rfl), (FG.of e_2 rfl (by omega : le0_2 = ln)), (FG.of e_2 rfl rfl), (FG.of e_2 rfl rfl), hP_x1, ⟨by omega, by omega, by omega, by omega⟩, xa_x1, xb_x1, xd_x1, xe_x1, (FG.of e_2 rfl (by omega : say_2 = sm)), by omega⟩) (by omega) (by omega) (by omega) (fun k hk => rfl) (by omega) (fun i hi => rfl) (fun i h1 h2 => absurd h2 (by omega)))
  exact ⟨rfl, trivial⟩
