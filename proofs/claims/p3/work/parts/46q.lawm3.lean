set_option maxHeartbeats 4000000 in
set_option maxRecDepth 100000 in
theorem r_endsPiece3 (l : Launch) (D : va_G) (b : Nat) (N : Nat) (V : Wd) (hN : 133 ≤ N) (cl : Nat) (hW : CR D b cl V)   (g sd wa : Nat → Int32) (pl ln cm wt sg : Nat) (dep : Nat → Nat) (sl sf sh st : Nat → Int32) (sm sk : Nat) (hX : PX D b V g pl ln cm wt sg sd wa dep sl sf sh st sm sk)  (hO : fI (V 100) 18 = nI (dpt (fl wa wt))) (hO6 : (dpt (fl wa wt)) ≤ 6) (hd1 : dep cm = 1) (h13 : opOf (wa 0) = 13) (hw1 : 1 ≤ wt) : MV l D b 1 jX12_endsPiece [.ref (b + 100)] N V 0 0 (fun N9 V9 => (∃ (sd9 : Nat → Int32) (pl9 cm9 wt9 : Nat) (dep9 : Nat → Nat), PX D b V9 g pl9 ln cm9 wt9 sg sd9 wa dep9 sl sf sh st sm sk ∧ pl9 = pl ∧ wt9 ≤ wt ∧ 1 ≤ wt9 ∧ (∀ k, k < sg → sd9 k = sd k) ∧ dep9 cm9 = 1 ∧ opOf (wa (wt9 - 1)) ≠ 10 ∧ fI (V9 100) 18 = nI (dpt (fl wa wt9)) ∧ dpt (fl wa wt9) ≤ 6 ∧ ∀ o, RES (gb g) ln (3, pl, fl wa wt9) o → RES (gb g) ln (3, pl, fl wa wt) o) ∧ N = N9 ∧ JR D b N cl [(111, 111, 0, 1000000), (100, 100, 19, 19), (100, 100, 20, 20), (100, 100, 18, 18)] V V9) := by
  have hJ0 : JR D b N cl [(111, 111, 0, 1000000), (100, 100, 19, 19), (100, 100, 20, 20), (100, 100, 18, 18)] V V := JR.rf hW
  refine mw_of (by decide) (by simp [Value.category]) (Nat.le_of_ble_eq_true rfl) ?_
  show AW l D b jX12_endsPiece (fx_rm 1 0 0) none (fx_MQ D b 0 0 (fx_qv (fun N9 V9 => (∃ (sd9 : Nat → Int32) (pl9 cm9 wt9 : Nat) (dep9 : Nat → Nat), PX D b V9 g pl9 ln cm9 wt9 sg sd9 wa dep9 sl sf sh st sm sk ∧ pl9 = pl ∧ wt9 ≤ wt ∧ 1 ≤ wt9 ∧ (∀ k, k < sg → sd9 k = sd k) ∧ dep9 cm9 = 1 ∧ opOf (wa (wt9 - 1)) ≠ 10 ∧ fI (V9 100) 18 = nI (dpt (fl wa wt9)) ∧ dpt (fl wa wt9) ≤ 6 ∧ ∀ o, RES (gb g) ln (3, pl, fl wa wt9) o → RES (gb g) ln (3, pl, fl wa wt) o) ∧ N = N9 ∧ JR D b N cl [(111, 111, 0, 1000000), (100, 100, 19, 19), (100, 100, 20, 20), (100, 100, 18, 18)] V V9))) 0 [some (.ref (b + 100))] [] N V 0 0
  obtain ⟨xg_x1, xs_x1, xw_x1, xp_x1, xl_x1, xc_x1, xt_x1, hP_x1, ⟨hB1_x1, hB2_x1, hB3_x1, hB4_x1⟩, xa_x1, xb_x1, xd_x1, xe_x1, xm_x1, hB5_x1⟩ := id hX
  obtain ⟨ftoldPeople_2, ftoldDoors_2, fwasDoors_2, ffault_2, fopen_2, flines_2, fmeantSet_2, fopenedNow_2, fvainNow_2, flowNow_2, fhighNow_2, fisKept_2, tad_2, pl0_2, le0_2, nu0_2, coy_2, wag_2, say_2, e_2, hntad_2, hnpl0_2, hnle0_2, hnnu0_2, hncoy_2, hnwag_2, hnsay_2⟩ := JR.get hJ0 cm_100
  have sb_x1pl := FG.eq xp_x1 e_2 rfl (by omega) (by omega)
  subst sb_x1pl
  have sb_x1cm := FG.eq xc_x1 e_2 rfl (by omega) (by omega)
  subst sb_x1cm
  have sb_x1wt := FG.eq xt_x1 e_2 rfl (by omega) (by omega)
  subst sb_x1wt
  have sb_x1ln := FG.eq xl_x1 e_2 rfl (by omega) (by omega)
  have hsg_x1 := hP_x1.2.1
  have sb_x1sm := FG.eq xm_x1 e_2 rfl (by omega) (by omega)
  have hof_3 : fopen_2 = nI (dpt (fl wa wag_2)) := ((congrArg (fun z => fI z 18) e_2).trans rfl).symm.trans hO
  subst hof_3
  have ml_0_4 : ∀ (m : Nat) (p0 : Nat) (c0 : Nat) (w0 : Nat) (sd0 : Nat → Int32) (dp0 : Nat → Nat) (V0 : Wd), m = w0 → (JR D b N cl [(111, 111, 0, 1000000), (100, 100, 19, 19), (100, 100, 20, 20), (100, 100, 18, 18)] V V0) → (PX D b V0 g p0 ln c0 w0 sg sd0 wa dp0 sl sf sh st sm sk) → (p0 = pl0_2) → (w0 ≤ wag_2) → (1 ≤ w0) → (∀ k, k < sg → sd0 k = sd k) → (dp0 c0 = 1) → (fI (V0 100) 18 = nI (dpt (fl wa w0))) → (dpt (fl wa w0) ≤ 6) → (∀ o, RES (gb g) ln (3, pl0_2, fl wa w0) o → RES (gb g) ln (3, pl0_2, fl wa wag_2) o) → AW l D b jX12_endsPiece (fx_rm 1 0 0) none (fx_MQ D b 0 0 (fx_qv (fun N9 V9 => (∃ (sd9 : Nat → Int32) (pl9 cm9 wt9 : Nat) (dep9 : Nat → Nat), PX D b V9 g pl9 ln cm9 wt9 sg sd9 wa dep9 sl sf sh st sm sk ∧ pl9 = pl0_2 ∧ wt9 ≤ wag_2 ∧ 1 ≤ wt9 ∧ (∀ k, k < sg → sd9 k = sd k) ∧ dep9 cm9 = 1 ∧ opOf (wa (wt9 - 1)) ≠ 10 ∧ fI (V9 100) 18 = nI (dpt (fl wa wt9)) ∧ dpt (fl wa wt9) ≤ 6 ∧ ∀ o, RES (gb g) ln (3, pl0_2, fl wa wt9) o → RES (gb g) ln (3, pl0_2, fl wa wag_2) o) ∧ N = N9 ∧ JR D b N cl [(111, 111, 0, 1000000), (100, 100, 19, 19), (100, 100, 20, 20), (100, 100, 18, 18)] V V9))) 0 [some (.ref (b + 100))] [] N V0 0 0 := by
    intro m; refine Nat.strongRecOn m ?_
    intro m mih_0_4 p0 c0 w0 sd0 dp0 V0 hm0 i0_0 i0_1 i0_2 i0_3 i0_4 i0_5 i0_6 i0_7 i0_8 i0_9
    obtain ⟨xg_x5, xs_x5, xw_x5, xp_x5, xl_x5, xc_x5, xt_x5, hP_x5, ⟨hB1_x5, hB2_x5, hB3_x5, hB4_x5⟩, xa_x5, xb_x5, xd_x5, xe_x5, xm_x5, hB5_x5⟩ := i0_1
    obtain ⟨ftoldPeople_6, ftoldDoors_6, fwasDoors_6, ffault_6, fopen_6, flines_6, fmeantSet_6, fopenedNow_6, fvainNow_6, flowNow_6, fhighNow_6, fisKept_6, tad_6, pl0_6, le0_6, nu0_6, coy_6, wag_6, say_6, e_6, hntad_6, hnpl0_6, hnle0_6, hnnu0_6, hncoy_6, hnwag_6, hnsay_6⟩ := JR.get i0_0 cm_100
    clear hntad_2 hnpl0_2 hnle0_2 hnnu0_2 hncoy_2 hnwag_2 hnsay_2
    have sb_x5pl := FG.eq xp_x5 e_6 rfl (by omega) (by omega)
    subst sb_x5pl
    have sb_x5cm := FG.eq xc_x5 e_6 rfl (by omega) (by omega)
    subst sb_x5cm
    have sb_x5wt := FG.eq xt_x5 e_6 rfl (by omega) (by omega)
    subst sb_x5wt
    have sb_x5ln := FG.eq xl_x5 e_6 rfl (by omega) (by omega)
    have hsg_x5 := hP_x5.2.1
    have sb_x5sm := FG.eq xm_x5 e_6 rfl (by omega) (by omega)
    have hof_7 : fopen_6 = nI (dpt (fl wa wag_6)) := ((congrArg (fun z => fI z 18) e_6).trans rfl).symm.trans i0_7
    subst hof_7
    refine aw_aload_n dX12_endsPiece_0 rfl ?_
    refine aw_callVi (J' := jX12_waitTop) (As := []) (st := []) dX12_endsPiece_1 tb_1263 ok_X12_waitTop ⟨_, e_6⟩ (by omega) rfl rfl (r_waitTop l D b N V0 hN cl i0_0.1 ftoldPeople_6 ftoldDoors_6 fwasDoors_6 ffault_6 (nI (dpt (fl wa wag_6))) flines_6 fmeantSet_6 fopenedNow_6 fvainNow_6 flowNow_6 fhighNow_6 fisKept_6 tad_6 pl0_6 le0_6 nu0_6 coy_6 wag_6 say_6 ⟨by omega, by omega, by omega, by omega, by omega, by omega, by omega⟩ e_6 wa xw_x5 (fun q => by obtain ⟨o, a, e1, e2, e3, e4, _⟩ := PS.top hP_x5 q; exact ⟨o, a, e1, e2, e3, e4⟩)) rfl (Nat.le_of_ble_eq_true rfl) ⟨Nat.le_of_ble_eq_true rfl, Nat.le_of_ble_eq_true rfl, Nat.le_of_ble_eq_true rfl, Nat.le_of_ble_eq_true rfl⟩ (fun r_10 N_11 V_12 q_13 => ?_)
    obtain ⟨h_9, rfl, rfl⟩ := q_13
    rcases h_9 with ⟨g_14, e_15⟩ | ⟨g_16, e_17⟩
    · skip
      refine aw_eqi (y := (-1)) e_15 ?_
      refine aw_bipush (v := 10) dX12_endsPiece_4 (by decide) ?_
      refine aw_icmp_ne (tgt := 39) dX12_endsPiece_6 (by decide) (fun c_18 => ?_) (fun c_18 => ?_)
      rotate_left
      · exact absurd c_18 (by decide)
      refine aw_vreti dX12_endsPiece_39 rfl (Nat.le_of_ble_eq_true rfl) (Nat.le_of_ble_eq_true rfl) ?_
      exact ⟨⟨sd0, pl0_6, coy_6, wag_6, dp0, ⟨xg_x5, xs_x5, xw_x5, (FG.of e_6 rfl rfl), (FG.of e_6 rfl (by omega : le0_6 = ln)), (FG.of e_6 rfl rfl), (FG.of e_6 rfl rfl), hP_x5, ⟨by omega, by omega, by omega, by omega⟩, xa_x5, xb_x5, xd_x5, xe_x5, (FG.of e_6 rfl (by omega : say_6 = sm)), by omega⟩, by omega, by omega, by omega, i0_5, by omega, by omega, (((congrArg (fun z => fI z 18) e_6).trans rfl)).trans (congrArg nI (by omega)), by omega, i0_9⟩, rfl, i0_0⟩
    · skip
      refine aw_eqi (y := (nI (opOf (wa (wag_6 - 1))))) e_17 ?_
      obtain ⟨o_u_19, a_u_19, he_u_19, ha_u_19, h2_u_19, h14_u_19, hj_u_19⟩ := PS.top hP_x5 g_16
      have ho_u_19 : opOf (wa (wag_6 - 1)) = o_u_19 := by rw [he_u_19]; exact opOf_nI (by omega) (by omega)
      refine aw_eqi (y := nI o_u_19) (by rw [ho_u_19]) ?_
      refine aw_bipush (v := 10) dX12_endsPiece_4 (by decide) ?_
      refine aw_icmp_ne (tgt := 39) dX12_endsPiece_6 (by decide) (fun c_20 => ?_) (fun c_20 => ?_)
      · skip
        have nc_20 : ¬ (o_u_19 = 10) := fun z => c_20 ((nI_eq (a := o_u_19) (b := 10) (by omega) (by omega)).mpr z)
        refine aw_vreti dX12_endsPiece_39 rfl (Nat.le_of_ble_eq_true rfl) (Nat.le_of_ble_eq_true rfl) ?_
        exact ⟨⟨sd0, pl0_6, coy_6, wag_6, dp0, ⟨xg_x5, xs_x5, xw_x5, (FG.of e_6 rfl rfl), (FG.of e_6 rfl (by omega : le0_6 = ln)), (FG.of e_6 rfl rfl), (FG.of e_6 rfl rfl), hP_x5, ⟨by omega, by omega, by omega, by omega⟩, xa_x5, xb_x5, xd_x5, xe_x5, (FG.of e_6 rfl (by omega : say_6 = sm)), by omega⟩, by omega, by omega, by omega, i0_5, by omega, by omega, (((congrArg (fun z => fI z 18) e_6).trans rfl)).trans (congrArg nI (by omega)), by omega, i0_9⟩, rfl, i0_0⟩
      · skip
        have nc_20 : o_u_19 = 10 := (nI_eq (a := o_u_19) (b := 10) (by omega) (by omega)).mp c_20
        refine aw_aload_n dX12_endsPiece_9 rfl ?_
        refine aw_bipush (v := 10) dX12_endsPiece_10 (by decide) ?_
        refine aw_iconst (v := 0) dX12_endsPiece_12 (by decide) ?_
        refine aw_callVv (J' := jX12_notes) (As := [.int 10, .int 0]) (st := []) dX12_endsPiece_13 tb_1249 ok_X12_notes ⟨_, e_6⟩ (by omega) rfl rfl (r_notes l D b N V0 hN cl i0_0.1 10 0 10 0 (by omega) (by omega) ftoldPeople_6 ftoldDoors_6 fwasDoors_6 ffault_6 (nI (dpt (fl wa wag_6))) flines_6 fmeantSet_6 fopenedNow_6 fvainNow_6 flowNow_6 fhighNow_6 fisKept_6 tad_6 pl0_6 le0_6 nu0_6 coy_6 wag_6 say_6 ⟨by omega, by omega, by omega, by omega, by omega, by omega, by omega⟩ e_6 g sd0 wa xg_x5 xs_x5 xw_x5 (by omega)) rfl (Nat.le_of_ble_eq_true rfl) ⟨Nat.le_of_ble_eq_true rfl, Nat.le_of_ble_eq_true rfl, Nat.le_of_ble_eq_true rfl, Nat.le_of_ble_eq_true rfl⟩ (fun  N_28 V_24 q_29 => ?_)
        obtain ⟨h_22, rfl, q_21⟩ := q_29
        have j_23 := JR.trans i0_0 (JR.weak q_21 (Sub.cons LM0 (by decide) (by decide) (by decide) (Or.inl rfl) (Sub.cons (LMs LM0) (by decide) (by decide) (by decide) (Or.inr ⟨by decide, by decide⟩) Sub.nil)))
        obtain ⟨hN_25, hN_26, hN_27⟩ := h_22
        have hz : wag_6 - 1 ≠ 0 := fun e => by rw [e] at ho_u_19; omega
        have hpop := wgt_pop (wa := wa) (n := wag_6) (by omega)
        rw [ho_u_19, if_pos (by omega)] at hpop
        have hQ := PS.emit hP_x5 10 0 1 (by omega) (by omega) (by omega) (by omega) (by omega) (by omega) (by omega)
        have hds : dset dp0 (coy_6 + 1) 1 (coy_6 + 1) = 1 := dset_s
        have hfl : fl wa wag_6 = 4 :: fl wa (wag_6 - 1) := fl_10 (by omega) (by omega)
        have hfd : dpt (fl wa wag_6) = dpt (fl wa (wag_6 - 1)) + 1 := by rw [hfl]; rfl
        refine aw_aload_n dX12_endsPiece_16 rfl ?_
        refine aw_aload_n dX12_endsPiece_17 rfl ?_
        refine aw_get dX12_endsPiece_18 fl_X12_189 hN_25 (by omega) rfl ?_
        refine aw_iconst (v := 1) dX12_endsPiece_21 (by decide) ?_
        refine aw_isub dX12_endsPiece_22 ?_
        refine aw_eqi (y := (nI (wag_6 - 1))) (pk_sub (a := wag_6) (b := 1) (by omega)) ?_
        refine aw_put dX12_endsPiece_23 fp_X12_189 hN_25 (by omega) rfl rfl (Nat.le_of_ble_eq_true rfl) rfl ?_
        refine aw_upR j_23 cm_100 ⟨_, _, _, _, _, _, _, _, _, _, _, _, tad_6, pl0_6, le0_6, nu0_6, (coy_6 + 1), (wag_6 - 1), say_6, rfl, by omega, by omega, by omega, by omega, by omega, by omega, by omega⟩ (by decide) (WO (s := 20) (x := .int (nI (wag_6 - 1))) hN_25 rfl (LMs (LMs LM0)) (by decide) (by decide) (by decide) (Or.inl (by decide))) (fun V_30 j_30 k_30 e_30 => ?_)
        refine aw_aload_n dX12_endsPiece_26 rfl ?_
        refine aw_aload_n dX12_endsPiece_27 rfl ?_
        refine aw_get dX12_endsPiece_28 fl_X12_186 e_30 (by omega) rfl ?_
        refine aw_iconst (v := 1) dX12_endsPiece_31 (by decide) ?_
        refine aw_isub dX12_endsPiece_32 ?_
        refine aw_eqi (y := (nI ((dpt (fl wa wag_6)) - 1))) (pk_sub (a := (dpt (fl wa wag_6))) (b := 1) (by omega)) ?_
        refine aw_put dX12_endsPiece_33 fp_X12_186 e_30 (by omega) rfl rfl (Nat.le_of_ble_eq_true rfl) rfl ?_
        refine aw_upR j_30 cm_100 ⟨_, _, _, _, _, _, _, _, _, _, _, _, tad_6, pl0_6, le0_6, nu0_6, (coy_6 + 1), (wag_6 - 1), say_6, rfl, by omega, by omega, by omega, by omega, by omega, by omega, by omega⟩ (by decide) (WO (s := 18) (x := .int (nI ((dpt (fl wa wag_6)) - 1))) e_30 rfl (LMs (LMs (LMs LM0))) (by decide) (by decide) (by decide) (Or.inl (by decide))) (fun V_31 j_31 k_31 e_31 => ?_)
        have hR := PS.pop hQ (by omega) (by rw [ho_u_19]; omega)
        refine aw_goto (tgt := 0) dX12_endsPiece_36 (by decide) ?_
        refine aw_le ?_ (mih_0_4 _ (by omega) pl0_6 (coy_6 + 1) (wag_6 - 1) (upd sd0 coy_6 (nI (1048576 * 10 + 0))) (dset dp0 (coy_6 + 1) 1) V_31 rfl (j_31) (⟨((k_31 _ (by decide)).trans ((k_30 _ (by decide)).trans ((hN_27 _ (by decide) (by decide)).trans xg_x5))), ((k_31 _ (by decide)).trans ((k_30 _ (by decide)).trans hN_26)), ((k_31 _ (by decide)).trans ((k_30 _ (by decide)).trans ((hN_27 _ (by decide) (by decide)).trans xw_x5))), (FG.of e_31 rfl rfl), (FG.of e_31 rfl (by omega : le0_6 = ln)), (FG.of e_31 rfl rfl), (FG.of e_31 rfl rfl), hR, ⟨by omega, by omega, by omega, by omega⟩, ((k_31 _ (by decide)).trans ((k_30 _ (by decide)).trans ((hN_27 _ (by decide) (by decide)).trans xa_x5))), ((k_31 _ (by decide)).trans ((k_30 _ (by decide)).trans ((hN_27 _ (by decide) (by decide)).trans xb_x5))), ((k_31 _ (by decide)).trans ((k_30 _ (by decide)).trans ((hN_27 _ (by decide) (by decide)).trans xd_x5))), ((k_31 _ (by decide)).trans ((k_30 _ (by decide)).trans ((hN_27 _ (by decide) (by decide)).trans xe_x5))), (FG.of e_31 rfl (by omega : say_6 = sm)), by omega⟩) (by omega) (by omega) (by omega) (fun k hk => (pk_un (by omega)).trans (i0_5 k hk)) (by omega) ((((congrArg (fun z => fI z 18) e_31).trans rfl)).trans (congrArg nI (by omega))) (by omega) (fun o q => i0_9 o (by rw [hfl]; exact A_not q)))
        exact ⟨rfl, trivial⟩
  refine aw_le ?_ (ml_0_4 _ pl0_2 coy_2 wag_2 sd dep V rfl (hJ0) (⟨xg_x1, xs_x1, xw_x1, (FG.of e_2 rfl rfl), (FG.of e_2 rfl (by omega : le0_2 = ln)), (FG.of e_2 rfl rfl), (FG.of e_2 rfl rfl), hP_x1, ⟨by omega, by omega, by omega, by omega⟩, xa_x1, xb_x1, xd_x1, xe_x1, (FG.of e_2 rfl (by omega : say_2 = sm)), by omega⟩) (by omega) (by omega) (by omega) (fun k hk => rfl) (by omega) ((((congrArg (fun z => fI z 18) e_2).trans rfl)).trans (congrArg nI (by omega))) (by omega) (fun o q => q))
  exact ⟨rfl, trivial⟩

set_option maxHeartbeats 4000000 in
set_option maxRecDepth 100000 in
theorem r_lands3 (l : Launch) (D : va_G) (b : Nat) (N : Nat) (V : Wd) (hN : 133 ≤ N) (cl : Nat) (hW : CR D b cl V) (n0 : Int32)  (g sd wa : Nat → Int32) (pl ln cm wt sg : Nat) (dep : Nat → Nat) (sl sf sh st : Nat → Int32) (sm sk : Nat) (hX : PX D b V g pl ln cm wt sg sd wa dep sl sf sh st sm sk) (hd1 : dep cm = 1) (h13 : opOf (wa 0) = 13) (hw1 : 1 ≤ wt) : MV l D b 1 jX12_lands [.ref (b + 100), .int n0] N V 0 0 (fun N9 V9 => (∃ (sd9 : Nat → Int32) (pl9 cm9 wt9 : Nat) (dep9 : Nat → Nat), PX D b V9 g pl9 ln cm9 wt9 sg sd9 wa dep9 sl sf sh st sm sk ∧ pl9 = pl ∧ cm9 = cm ∧ wt9 ≤ wt ∧ 1 ≤ wt9 ∧ (∀ k, k < sg → sd9 k = sd k) ∧ dep9 cm9 = 1 ∧ opOf (wa (wt9 - 1)) ≠ 11 ∧ (n0 = 0 ∨ opOf (wa (wt9 - 1)) ≠ 12) ∧ (∀ i, wt9 ≤ i → i < wt → opOf (wa i) = 11 ∨ opOf (wa i) = 12)) ∧ N = N9 ∧ JR D b N cl [(111, 111, 0, 1000000), (100, 100, 20, 20)] V V9) := by
  have hJ0 : JR D b N cl [(111, 111, 0, 1000000), (100, 100, 20, 20)] V V := JR.rf hW
  refine mw_of (by decide) (by simp [Value.category]) (Nat.le_of_ble_eq_true rfl) ?_
  show AW l D b jX12_lands (fx_rm 1 0 0) none (fx_MQ D b 0 0 (fx_qv (fun N9 V9 => (∃ (sd9 : Nat → Int32) (pl9 cm9 wt9 : Nat) (dep9 : Nat → Nat), PX D b V9 g pl9 ln cm9 wt9 sg sd9 wa dep9 sl sf sh st sm sk ∧ pl9 = pl ∧ cm9 = cm ∧ wt9 ≤ wt ∧ 1 ≤ wt9 ∧ (∀ k, k < sg → sd9 k = sd k) ∧ dep9 cm9 = 1 ∧ opOf (wa (wt9 - 1)) ≠ 11 ∧ (n0 = 0 ∨ opOf (wa (wt9 - 1)) ≠ 12) ∧ (∀ i, wt9 ≤ i → i < wt → opOf (wa i) = 11 ∨ opOf (wa i) = 12)) ∧ N = N9 ∧ JR D b N cl [(111, 111, 0, 1000000), (100, 100, 20, 20)] V V9))) 0 [some (.ref (b + 100)), some (.int n0), none] [] N V 0 0
  obtain ⟨xg_x1, xs_x1, xw_x1, xp_x1, xl_x1, xc_x1, xt_x1, hP_x1, ⟨hB1_x1, hB2_x1, hB3_x1, hB4_x1⟩, xa_x1, xb_x1, xd_x1, xe_x1, xm_x1, hB5_x1⟩ := id hX
  obtain ⟨ftoldPeople_2, ftoldDoors_2, fwasDoors_2, ffault_2, fopen_2, flines_2, fmeantSet_2, fopenedNow_2, fvainNow_2, flowNow_2, fhighNow_2, fisKept_2, tad_2, pl0_2, le0_2, nu0_2, coy_2, wag_2, say_2, e_2, hntad_2, hnpl0_2, hnle0_2, hnnu0_2, hncoy_2, hnwag_2, hnsay_2⟩ := JR.get hJ0 cm_100
  have sb_x1pl := FG.eq xp_x1 e_2 rfl (by omega) (by omega)
  subst sb_x1pl
  have sb_x1cm := FG.eq xc_x1 e_2 rfl (by omega) (by omega)
  subst sb_x1cm
  have sb_x1wt := FG.eq xt_x1 e_2 rfl (by omega) (by omega)
  subst sb_x1wt
  have sb_x1ln := FG.eq xl_x1 e_2 rfl (by omega) (by omega)
  have hsg_x1 := hP_x1.2.1
  have sb_x1sm := FG.eq xm_x1 e_2 rfl (by omega) (by omega)
  have ml_0_3 : ∀ (m : Nat) (p0 : Nat) (c0 : Nat) (w0 : Nat) (sd0 : Nat → Int32) (dp0 : Nat → Nat) (V0 : Wd), m = w0 → (JR D b N cl [(111, 111, 0, 1000000), (100, 100, 20, 20)] V V0) → (PX D b V0 g p0 ln c0 w0 sg sd0 wa dp0 sl sf sh st sm sk) → (p0 = pl0_2) → (c0 = coy_2) → (w0 ≤ wag_2) → (1 ≤ w0) → (∀ k, k < sg → sd0 k = sd k) → (dp0 c0 = 1) → (∀ i, w0 ≤ i → i < wag_2 → opOf (wa i) = 11 ∨ opOf (wa i) = 12) → AW l D b jX12_lands (fx_rm 1 0 0) none (fx_MQ D b 0 0 (fx_qv (fun N9 V9 => (∃ (sd9 : Nat → Int32) (pl9 cm9 wt9 : Nat) (dep9 : Nat → Nat), PX D b V9 g pl9 ln cm9 wt9 sg sd9 wa dep9 sl sf sh st sm sk ∧ pl9 = pl0_2 ∧ cm9 = coy_2 ∧ wt9 ≤ wag_2 ∧ 1 ≤ wt9 ∧ (∀ k, k < sg → sd9 k = sd k) ∧ dep9 cm9 = 1 ∧ opOf (wa (wt9 - 1)) ≠ 11 ∧ (n0 = 0 ∨ opOf (wa (wt9 - 1)) ≠ 12) ∧ (∀ i, wt9 ≤ i → i < wag_2 → opOf (wa i) = 11 ∨ opOf (wa i) = 12)) ∧ N = N9 ∧ JR D b N cl [(111, 111, 0, 1000000), (100, 100, 20, 20)] V V9))) 0 [some (.ref (b + 100)), some (.int n0), none] [] N V0 0 0 := by
    intro m; refine Nat.strongRecOn m ?_
    intro m mih_0_3 p0 c0 w0 sd0 dp0 V0 hm0 i0_0 i0_1 i0_2 i0_3 i0_4 i0_5 i0_6 i0_7 i0_8
    obtain ⟨xg_x4, xs_x4, xw_x4, xp_x4, xl_x4, xc_x4, xt_x4, hP_x4, ⟨hB1_x4, hB2_x4, hB3_x4, hB4_x4⟩, xa_x4, xb_x4, xd_x4, xe_x4, xm_x4, hB5_x4⟩ := i0_1
    obtain ⟨ftoldPeople_5, ftoldDoors_5, fwasDoors_5, ffault_5, fopen_5, flines_5, fmeantSet_5, fopenedNow_5, fvainNow_5, flowNow_5, fhighNow_5, fisKept_5, tad_5, pl0_5, le0_5, nu0_5, coy_5, wag_5, say_5, e_5, hntad_5, hnpl0_5, hnle0_5, hnnu0_5, hncoy_5, hnwag_5, hnsay_5⟩ := JR.get i0_0 cm_100
    clear hntad_2 hnpl0_2 hnle0_2 hnnu0_2 hncoy_2 hnwag_2 hnsay_2
    have sb_x4pl := FG.eq xp_x4 e_5 rfl (by omega) (by omega)
    subst sb_x4pl
    have sb_x4cm := FG.eq xc_x4 e_5 rfl (by omega) (by omega)
    subst sb_x4cm
    have sb_x4wt := FG.eq xt_x4 e_5 rfl (by omega) (by omega)
    subst sb_x4wt
    have sb_x4ln := FG.eq xl_x4 e_5 rfl (by omega) (by omega)
    have hsg_x4 := hP_x4.2.1
    have sb_x4sm := FG.eq xm_x4 e_5 rfl (by omega) (by omega)
    refine aw_aload_n dX12_lands_0 rfl ?_
    refine aw_callVi (J' := jX12_waitTop) (As := []) (st := []) dX12_lands_1 tb_1263 ok_X12_waitTop ⟨_, e_5⟩ (by omega) rfl rfl (r_waitTop l D b N V0 hN cl i0_0.1 ftoldPeople_5 ftoldDoors_5 fwasDoors_5 ffault_5 fopen_5 flines_5 fmeantSet_5 fopenedNow_5 fvainNow_5 flowNow_5 fhighNow_5 fisKept_5 tad_5 pl0_5 le0_5 nu0_5 coy_5 wag_5 say_5 ⟨by omega, by omega, by omega, by omega, by omega, by omega, by omega⟩ e_5 wa xw_x4 (fun q => by obtain ⟨o, a, e1, e2, e3, e4, _⟩ := PS.top hP_x4 q; exact ⟨o, a, e1, e2, e3, e4⟩)) rfl (Nat.le_of_ble_eq_true rfl) ⟨Nat.le_of_ble_eq_true rfl, Nat.le_of_ble_eq_true rfl, Nat.le_of_ble_eq_true rfl, Nat.le_of_ble_eq_true rfl⟩ (fun r_8 N_9 V_10 q_11 => ?_)
    obtain ⟨h_7, rfl, rfl⟩ := q_11
    rcases h_7 with ⟨g_12, e_13⟩ | ⟨g_14, e_15⟩
    · skip
      refine aw_eqi (y := (-1)) e_13 ?_
      refine aw_bipush (v := 11) dX12_lands_4 (by decide) ?_
      refine aw_icmp_eq (tgt := 22) dX12_lands_6 (by decide) (fun c_16 => ?_) (fun c_16 => ?_)
      · exact absurd c_16 (by decide)
      refine aw_iload_n dX12_lands_9 rfl ?_
      refine aw_if_eq (tgt := 73) dX12_lands_10 (by decide) (fun c_17 => ?_) (fun c_17 => ?_)
      · skip
        refine aw_vreti dX12_lands_73 rfl (Nat.le_of_ble_eq_true rfl) (Nat.le_of_ble_eq_true rfl) ?_
        exact ⟨⟨sd0, pl0_5, coy_5, wag_5, dp0, ⟨xg_x4, xs_x4, xw_x4, (FG.of e_5 rfl rfl), (FG.of e_5 rfl (by omega : le0_5 = ln)), (FG.of e_5 rfl rfl), (FG.of e_5 rfl rfl), hP_x4, ⟨by omega, by omega, by omega, by omega⟩, xa_x4, xb_x4, xd_x4, xe_x4, (FG.of e_5 rfl (by omega : say_5 = sm)), by omega⟩, by omega, by omega, by omega, by omega, i0_6, by omega, by omega, (by first | exact Or.inl c_17 | omega), i0_8⟩, rfl, i0_0⟩
      · skip
        refine aw_aload_n dX12_lands_13 rfl ?_
        refine aw_callVi (J' := jX12_waitTop) (As := []) (st := []) dX12_lands_14 tb_1263 ok_X12_waitTop ⟨_, e_5⟩ (by omega) rfl rfl (r_waitTop l D b N V0 hN cl i0_0.1 ftoldPeople_5 ftoldDoors_5 fwasDoors_5 ffault_5 fopen_5 flines_5 fmeantSet_5 fopenedNow_5 fvainNow_5 flowNow_5 fhighNow_5 fisKept_5 tad_5 pl0_5 le0_5 nu0_5 coy_5 wag_5 say_5 ⟨by omega, by omega, by omega, by omega, by omega, by omega, by omega⟩ e_5 wa xw_x4 (fun q => by obtain ⟨o, a, e1, e2, e3, e4, _⟩ := PS.top hP_x4 q; exact ⟨o, a, e1, e2, e3, e4⟩)) rfl (Nat.le_of_ble_eq_true rfl) ⟨Nat.le_of_ble_eq_true rfl, Nat.le_of_ble_eq_true rfl, Nat.le_of_ble_eq_true rfl, Nat.le_of_ble_eq_true rfl⟩ (fun r_20 N_21 V_22 q_23 => ?_)
        obtain ⟨h_19, rfl, rfl⟩ := q_23
        refine aw_eqi (y := -1) ((h_19.resolve_right (fun z => by omega)).2) ?_
        refine aw_bipush (v := 12) dX12_lands_17 (by decide) ?_
        refine aw_icmp_ne (tgt := 73) dX12_lands_19 (by decide) (fun c_24 => ?_) (fun c_24 => ?_)
        rotate_left
        · exact absurd c_24 (by decide)
        refine aw_vreti dX12_lands_73 rfl (Nat.le_of_ble_eq_true rfl) (Nat.le_of_ble_eq_true rfl) ?_
        exact ⟨⟨sd0, pl0_5, coy_5, wag_5, dp0, ⟨xg_x4, xs_x4, xw_x4, (FG.of e_5 rfl rfl), (FG.of e_5 rfl (by omega : le0_5 = ln)), (FG.of e_5 rfl rfl), (FG.of e_5 rfl rfl), hP_x4, ⟨by omega, by omega, by omega, by omega⟩, xa_x4, xb_x4, xd_x4, xe_x4, (FG.of e_5 rfl (by omega : say_5 = sm)), by omega⟩, by omega, by omega, by omega, by omega, i0_6, by omega, by omega, (by first | exact Or.inl c_17 | omega), i0_8⟩, rfl, i0_0⟩
    · skip
      refine aw_eqi (y := (nI (opOf (wa (wag_5 - 1))))) e_15 ?_
      obtain ⟨o_u_25, a_u_25, he_u_25, ha_u_25, h2_u_25, h14_u_25, hj_u_25⟩ := PS.top hP_x4 g_14
      have ho_u_25 : opOf (wa (wag_5 - 1)) = o_u_25 := by rw [he_u_25]; exact opOf_nI (by omega) (by omega)
      refine aw_eqi (y := nI o_u_25) (by rw [ho_u_25]) ?_
      refine aw_bipush (v := 11) dX12_lands_4 (by decide) ?_
      refine aw_icmp_eq (tgt := 22) dX12_lands_6 (by decide) (fun c_26 => ?_) (fun c_26 => ?_)
      · skip
        have nc_26 : o_u_25 = 11 := (nI_eq (a := o_u_25) (b := 11) (by omega) (by omega)).mp c_26
        have hz : wag_5 - 1 ≠ 0 := fun e => by rw [e] at ho_u_25; omega
        obtain ⟨ja1, ja2, o2, v2, js, jv, jo⟩ := (hj_u_25.resolve_left (by omega)).resolve_left (by omega)
        have hmn := wgt_mono (wa := wa) (m := wag_5 - 1) (n := wag_5) (by omega)
        refine aw_aload_n dX12_lands_22 rfl ?_
        refine aw_get dX12_lands_23 fl_X12_44 e_5 (by omega) rfl ?_
        refine aw_aload_n dX12_lands_26 rfl ?_
        refine aw_get dX12_lands_27 fl_X12_189 e_5 (by omega) rfl ?_
        refine aw_iconst (v := 1) dX12_lands_30 (by decide) ?_
        refine aw_isub dX12_lands_31 ?_
        refine aw_eqi (y := (nI (wag_5 - 1))) (pk_sub (a := wag_5) (b := 1) (by omega)) ?_
        refine aw_iald (v := (wa (wag_5 - 1))) dX12_lands_32 xw_x4 (by omega) (vp_in_nI (n := (wag_5 - 1)) (by omega) (by omega)) (congrArg wa (nI_clamp (n := (wag_5 - 1)) (by omega))) ?_
        refine aw_eqi he_u_25 ?_
        refine aw_ldc (v := 1048576) dX12_lands_33 tb_1240 ?_
        refine aw_irem dX12_lands_35 (by decide) ?_
        refine aw_eqi (y := (nI a_u_25)) (un_rem (by omega) (by omega)) ?_
        refine aw_istore_n (ls' := [some (.ref (b + 100)), some (.int n0), some (.int (nI a_u_25))]) dX12_lands_36 (Nat.le_of_ble_eq_true rfl) rfl ?_
        refine aw_aload_n dX12_lands_37 rfl ?_
        refine aw_get dX12_lands_38 fl_X12_41 e_5 (by omega) rfl ?_
        refine aw_iload_n dX12_lands_41 rfl ?_
        refine aw_ldc (v := 1048576) dX12_lands_42 tb_1240 ?_
        refine aw_aload_n dX12_lands_44 rfl ?_
        refine aw_get dX12_lands_45 fl_X12_41 e_5 (by omega) rfl ?_
        refine aw_iload_n dX12_lands_48 rfl ?_
        refine aw_iald (v := (sd0 a_u_25)) dX12_lands_49 xs_x4 (by omega) (vp_in_nI (n := a_u_25) (by omega) (by omega)) (congrArg sd0 (nI_clamp (n := a_u_25) (by omega))) ?_
        refine aw_eqi js ?_
        refine aw_ldc (v := 1048576) dX12_lands_50 tb_1240 ?_
        refine aw_idiv dX12_lands_52 (by decide) ?_
        refine aw_eqi (y := (nI o2)) (un_div jv (by omega)) ?_
        refine aw_imul dX12_lands_53 ?_
        refine aw_eqi (y := nI (1048576 * o2)) (pk_mul _ _) ?_
        refine aw_aload_n dX12_lands_54 rfl ?_
        refine aw_get dX12_lands_55 fl_X12_182 e_5 (by omega) rfl ?_
        refine aw_iadd dX12_lands_58 ?_
        refine aw_eqi (y := nI ((1048576 * o2) + coy_5)) (nI_add _ _) ?_
        refine aw_iast dX12_lands_59 xs_x4 (by omega) (vp_in_nI (n := a_u_25) (by omega) (by omega)) ?_
        refine aw_upR i0_0 cm_111 ⟨_, rfl⟩ (by decide) (WA LM0 (by decide) (by decide)) (fun V_27 j_27 k_27 e_27 => ?_)
        have e_28 : V_27 111 = cI D 260 (upd sd0 a_u_25 (nI ((1048576 * o2) + coy_5))) := by rw [e_27, nI_clamp (n := a_u_25) (by omega)]
        refine aw_aload_n dX12_lands_60 rfl ?_
        refine aw_aload_n dX12_lands_61 rfl ?_
        refine aw_get dX12_lands_62 fl_X12_189 ((k_27 _ (by decide)).trans e_5) (by omega) rfl ?_
        refine aw_iconst (v := 1) dX12_lands_65 (by decide) ?_
        refine aw_isub dX12_lands_66 ?_
        refine aw_eqi (y := (nI (wag_5 - 1))) (pk_sub (a := wag_5) (b := 1) (by omega)) ?_
        refine aw_put dX12_lands_67 fp_X12_189 ((k_27 _ (by decide)).trans e_5) (by omega) rfl rfl (Nat.le_of_ble_eq_true rfl) rfl ?_
        refine aw_upR j_27 cm_100 ⟨_, _, _, _, _, _, _, _, _, _, _, _, tad_5, pl0_5, le0_5, nu0_5, coy_5, (wag_5 - 1), say_5, rfl, by omega, by omega, by omega, by omega, by omega, by omega, by omega⟩ (by decide) (WO (s := 20) (x := .int (nI (wag_5 - 1))) ((k_27 _ (by decide)).trans e_5) rfl (LMs LM0) (by decide) (by decide) (by decide) (Or.inl (by decide))) (fun V_29 j_29 k_29 e_29 => ?_)
        have hR := PS.land hP_x4 (by omega) he_u_25 (by omega) ja1 ja2 js jv jo (by omega)
        refine aw_goto (tgt := 0) dX12_lands_70 (by decide) ?_
        refine aw_le ?_ (mih_0_3 _ (by omega) pl0_5 coy_5 (wag_5 - 1) (upd sd0 a_u_25 (nI ((1048576 * o2) + coy_5))) dp0 V_29 rfl (j_29) (⟨((k_29 _ (by decide)).trans ((k_27 _ (by decide)).trans xg_x4)), ((k_29 _ (by decide)).trans e_28), ((k_29 _ (by decide)).trans ((k_27 _ (by decide)).trans xw_x4)), (FG.of e_29 rfl rfl), (FG.of e_29 rfl (by omega : le0_5 = ln)), (FG.of e_29 rfl rfl), (FG.of e_29 rfl rfl), hR, ⟨by omega, by omega, by omega, by omega⟩, ((k_29 _ (by decide)).trans ((k_27 _ (by decide)).trans xa_x4)), ((k_29 _ (by decide)).trans ((k_27 _ (by decide)).trans xb_x4)), ((k_29 _ (by decide)).trans ((k_27 _ (by decide)).trans xd_x4)), ((k_29 _ (by decide)).trans ((k_27 _ (by decide)).trans xe_x4)), (FG.of e_29 rfl (by omega : say_5 = sm)), by omega⟩) (by omega) (by omega) (by omega) (by omega) (fun k hk => (pk_un (by omega)).trans (i0_6 k hk)) (by omega) (fun i h1 h2 => if e : i = wag_5 - 1 then (by rw [e, ho_u_25]; omega) else i0_8 i (by omega) h2))
        exact ⟨rfl, ⟨rfl, trivial⟩⟩
      · skip
        have nc_26 : ¬ (o_u_25 = 11) := fun z => c_26 ((nI_eq (a := o_u_25) (b := 11) (by omega) (by omega)).mpr z)
        refine aw_iload_n dX12_lands_9 rfl ?_
        refine aw_if_eq (tgt := 73) dX12_lands_10 (by decide) (fun c_30 => ?_) (fun c_30 => ?_)
        · skip
          refine aw_vreti dX12_lands_73 rfl (Nat.le_of_ble_eq_true rfl) (Nat.le_of_ble_eq_true rfl) ?_
          exact ⟨⟨sd0, pl0_5, coy_5, wag_5, dp0, ⟨xg_x4, xs_x4, xw_x4, (FG.of e_5 rfl rfl), (FG.of e_5 rfl (by omega : le0_5 = ln)), (FG.of e_5 rfl rfl), (FG.of e_5 rfl rfl), hP_x4, ⟨by omega, by omega, by omega, by omega⟩, xa_x4, xb_x4, xd_x4, xe_x4, (FG.of e_5 rfl (by omega : say_5 = sm)), by omega⟩, by omega, by omega, by omega, by omega, i0_6, by omega, by omega, (by first | exact Or.inl c_30 | omega), i0_8⟩, rfl, i0_0⟩
        · skip
          refine aw_aload_n dX12_lands_13 rfl ?_
          refine aw_callVi (J' := jX12_waitTop) (As := []) (st := []) dX12_lands_14 tb_1263 ok_X12_waitTop ⟨_, e_5⟩ (by omega) rfl rfl (r_waitTop l D b N V0 hN cl i0_0.1 ftoldPeople_5 ftoldDoors_5 fwasDoors_5 ffault_5 fopen_5 flines_5 fmeantSet_5 fopenedNow_5 fvainNow_5 flowNow_5 fhighNow_5 fisKept_5 tad_5 pl0_5 le0_5 nu0_5 coy_5 wag_5 say_5 ⟨by omega, by omega, by omega, by omega, by omega, by omega, by omega⟩ e_5 wa xw_x4 (fun q => by obtain ⟨o, a, e1, e2, e3, e4, _⟩ := PS.top hP_x4 q; exact ⟨o, a, e1, e2, e3, e4⟩)) rfl (Nat.le_of_ble_eq_true rfl) ⟨Nat.le_of_ble_eq_true rfl, Nat.le_of_ble_eq_true rfl, Nat.le_of_ble_eq_true rfl, Nat.le_of_ble_eq_true rfl⟩ (fun r_33 N_34 V_35 q_36 => ?_)
          obtain ⟨h_32, rfl, rfl⟩ := q_36
          refine aw_eqi (y := nI o_u_25) (((h_32.resolve_left (fun z => by omega)).2).trans (by rw [ho_u_25])) ?_
          refine aw_bipush (v := 12) dX12_lands_17 (by decide) ?_
          refine aw_icmp_ne (tgt := 73) dX12_lands_19 (by decide) (fun c_37 => ?_) (fun c_37 => ?_)
          · skip
            have nc_37 : ¬ (o_u_25 = 12) := fun z => c_37 ((nI_eq (a := o_u_25) (b := 12) (by omega) (by omega)).mpr z)
            refine aw_vreti dX12_lands_73 rfl (Nat.le_of_ble_eq_true rfl) (Nat.le_of_ble_eq_true rfl) ?_
            exact ⟨⟨sd0, pl0_5, coy_5, wag_5, dp0, ⟨xg_x4, xs_x4, xw_x4, (FG.of e_5 rfl rfl), (FG.of e_5 rfl (by omega : le0_5 = ln)), (FG.of e_5 rfl rfl), (FG.of e_5 rfl rfl), hP_x4, ⟨by omega, by omega, by omega, by omega⟩, xa_x4, xb_x4, xd_x4, xe_x4, (FG.of e_5 rfl (by omega : say_5 = sm)), by omega⟩, by omega, by omega, by omega, by omega, i0_6, by omega, by omega, (by first | exact Or.inl c_30 | omega), i0_8⟩, rfl, i0_0⟩
          · skip
            have nc_37 : o_u_25 = 12 := (nI_eq (a := o_u_25) (b := 12) (by omega) (by omega)).mp c_37
            have hz : wag_5 - 1 ≠ 0 := fun e => by rw [e] at ho_u_25; omega
            obtain ⟨ja1, ja2, o2, v2, js, jv, jo⟩ := (hj_u_25.resolve_left (by omega)).resolve_left (by omega)
            have hmn := wgt_mono (wa := wa) (m := wag_5 - 1) (n := wag_5) (by omega)
            refine aw_aload_n dX12_lands_22 rfl ?_
            refine aw_get dX12_lands_23 fl_X12_44 e_5 (by omega) rfl ?_
            refine aw_aload_n dX12_lands_26 rfl ?_
            refine aw_get dX12_lands_27 fl_X12_189 e_5 (by omega) rfl ?_
            refine aw_iconst (v := 1) dX12_lands_30 (by decide) ?_
            refine aw_isub dX12_lands_31 ?_
            refine aw_eqi (y := (nI (wag_5 - 1))) (pk_sub (a := wag_5) (b := 1) (by omega)) ?_
            refine aw_iald (v := (wa (wag_5 - 1))) dX12_lands_32 xw_x4 (by omega) (vp_in_nI (n := (wag_5 - 1)) (by omega) (by omega)) (congrArg wa (nI_clamp (n := (wag_5 - 1)) (by omega))) ?_
            refine aw_eqi he_u_25 ?_
            refine aw_ldc (v := 1048576) dX12_lands_33 tb_1240 ?_
            refine aw_irem dX12_lands_35 (by decide) ?_
            refine aw_eqi (y := (nI a_u_25)) (un_rem (by omega) (by omega)) ?_
            refine aw_istore_n (ls' := [some (.ref (b + 100)), some (.int n0), some (.int (nI a_u_25))]) dX12_lands_36 (Nat.le_of_ble_eq_true rfl) rfl ?_
            refine aw_aload_n dX12_lands_37 rfl ?_
            refine aw_get dX12_lands_38 fl_X12_41 e_5 (by omega) rfl ?_
            refine aw_iload_n dX12_lands_41 rfl ?_
            refine aw_ldc (v := 1048576) dX12_lands_42 tb_1240 ?_
            refine aw_aload_n dX12_lands_44 rfl ?_
            refine aw_get dX12_lands_45 fl_X12_41 e_5 (by omega) rfl ?_
            refine aw_iload_n dX12_lands_48 rfl ?_
            refine aw_iald (v := (sd0 a_u_25)) dX12_lands_49 xs_x4 (by omega) (vp_in_nI (n := a_u_25) (by omega) (by omega)) (congrArg sd0 (nI_clamp (n := a_u_25) (by omega))) ?_
            refine aw_eqi js ?_
            refine aw_ldc (v := 1048576) dX12_lands_50 tb_1240 ?_
            refine aw_idiv dX12_lands_52 (by decide) ?_
            refine aw_eqi (y := (nI o2)) (un_div jv (by omega)) ?_
            refine aw_imul dX12_lands_53 ?_
            refine aw_eqi (y := nI (1048576 * o2)) (pk_mul _ _) ?_
            refine aw_aload_n dX12_lands_54 rfl ?_
            refine aw_get dX12_lands_55 fl_X12_182 e_5 (by omega) rfl ?_
            refine aw_iadd dX12_lands_58 ?_
            refine aw_eqi (y := nI ((1048576 * o2) + coy_5)) (nI_add _ _) ?_
            refine aw_iast dX12_lands_59 xs_x4 (by omega) (vp_in_nI (n := a_u_25) (by omega) (by omega)) ?_
            refine aw_upR i0_0 cm_111 ⟨_, rfl⟩ (by decide) (WA LM0 (by decide) (by decide)) (fun V_38 j_38 k_38 e_38 => ?_)
            have e_39 : V_38 111 = cI D 260 (upd sd0 a_u_25 (nI ((1048576 * o2) + coy_5))) := by rw [e_38, nI_clamp (n := a_u_25) (by omega)]
            refine aw_aload_n dX12_lands_60 rfl ?_
            refine aw_aload_n dX12_lands_61 rfl ?_
            refine aw_get dX12_lands_62 fl_X12_189 ((k_38 _ (by decide)).trans e_5) (by omega) rfl ?_
            refine aw_iconst (v := 1) dX12_lands_65 (by decide) ?_
            refine aw_isub dX12_lands_66 ?_
            refine aw_eqi (y := (nI (wag_5 - 1))) (pk_sub (a := wag_5) (b := 1) (by omega)) ?_
            refine aw_put dX12_lands_67 fp_X12_189 ((k_38 _ (by decide)).trans e_5) (by omega) rfl rfl (Nat.le_of_ble_eq_true rfl) rfl ?_
            refine aw_upR j_38 cm_100 ⟨_, _, _, _, _, _, _, _, _, _, _, _, tad_5, pl0_5, le0_5, nu0_5, coy_5, (wag_5 - 1), say_5, rfl, by omega, by omega, by omega, by omega, by omega, by omega, by omega⟩ (by decide) (WO (s := 20) (x := .int (nI (wag_5 - 1))) ((k_38 _ (by decide)).trans e_5) rfl (LMs LM0) (by decide) (by decide) (by decide) (Or.inl (by decide))) (fun V_40 j_40 k_40 e_40 => ?_)
            have hR := PS.land hP_x4 (by omega) he_u_25 (by omega) ja1 ja2 js jv jo (by omega)
            refine aw_goto (tgt := 0) dX12_lands_70 (by decide) ?_
            refine aw_le ?_ (mih_0_3 _ (by omega) pl0_5 coy_5 (wag_5 - 1) (upd sd0 a_u_25 (nI ((1048576 * o2) + coy_5))) dp0 V_40 rfl (j_40) (⟨((k_40 _ (by decide)).trans ((k_38 _ (by decide)).trans xg_x4)), ((k_40 _ (by decide)).trans e_39), ((k_40 _ (by decide)).trans ((k_38 _ (by decide)).trans xw_x4)), (FG.of e_40 rfl rfl), (FG.of e_40 rfl (by omega : le0_5 = ln)), (FG.of e_40 rfl rfl), (FG.of e_40 rfl rfl), hR, ⟨by omega, by omega, by omega, by omega⟩, ((k_40 _ (by decide)).trans ((k_38 _ (by decide)).trans xa_x4)), ((k_40 _ (by decide)).trans ((k_38 _ (by decide)).trans xb_x4)), ((k_40 _ (by decide)).trans ((k_38 _ (by decide)).trans xd_x4)), ((k_40 _ (by decide)).trans ((k_38 _ (by decide)).trans xe_x4)), (FG.of e_40 rfl (by omega : say_5 = sm)), by omega⟩) (by omega) (by omega) (by omega) (by omega) (fun k hk => (pk_un (by omega)).trans (i0_6 k hk)) (by omega) (fun i h1 h2 => if e : i = wag_5 - 1 then (by rw [e, ho_u_25]; omega) else i0_8 i (by omega) h2))
            exact ⟨rfl, ⟨rfl, trivial⟩⟩
  refine aw_le ?_ (ml_0_3 _ pl0_2 coy_2 wag_2 sd dep V rfl (hJ0) (⟨xg_x1, xs_x1, xw_x1, (FG.of e_2 rfl rfl), (FG.of e_2 rfl (by omega : le0_2 = ln)), (FG.of e_2 rfl rfl), (FG.of e_2 rfl rfl), hP_x1, ⟨by omega, by omega, by omega, by omega⟩, xa_x1, xb_x1, xd_x1, xe_x1, (FG.of e_2 rfl (by omega : say_2 = sm)), by omega⟩) (by omega) (by omega) (by omega) (by omega) (fun k hk => rfl) (by omega) (fun i h1 h2 => absurd h2 (by omega)))
  exact ⟨rfl, ⟨rfl, trivial⟩⟩

set_option maxHeartbeats 4000000 in
set_option maxRecDepth 100000 in
theorem r_readsCompared3 (l : Launch) (D : va_G) (b : Nat) (N : Nat) (V : Wd) (hN : 133 ≤ N) (cl : Nat) (hW : CR D b cl V)   (g sd wa : Nat → Int32) (pl ln cm wt sg : Nat) (dep : Nat → Nat) (sl sf sh st : Nat → Int32) (sm sk : Nat) (hX : PX D b V g pl ln cm wt sg sd wa dep sl sf sh st sm sk)  (hO : fI (V 100) 18 = nI (dpt (fl wa wt))) (hO6 : (dpt (fl wa wt)) ≤ 6) (hd0 : dep cm = 0) (h13 : opOf (wa 0) = 13) (hw1 : 1 ≤ wt) (hbt : 10 ≤ opOf (wa (wt - 1))) (n33 : ¬ hd (gb g) ln pl = 33) (n40 : ¬ hd (gb g) ln pl = 40) : MI l D b 5 jX12_readsCompared [.ref (b + 100)] N V 0 0 (fun r N9 V9 => ((r = 0 ∨ r = 1) ∧ ((r = 0 ∧ ∃ f, fI (V9 100) 16 = f ∧ RES (gb g) ln (2, pl, (fl wa wt)) (.inl f)) ∨ (r = 1 ∧ (∃ (sd9 wa9 : Nat → Int32) (pl9 cm9 wt9 : Nat) (dep9 : Nat → Nat), PX D b V9 g pl9 ln cm9 wt9 sg sd9 wa9 dep9 sl sf sh st sm sk ∧ wt9 ≤ wt ∧ 1 ≤ wt9 ∧ (∀ i, i < wt → wa9 i = wa i) ∧ (∀ k, k < sg → sd9 k = sd k) ∧ dep9 cm9 = 1 ∧ pl < pl9 ∧ fI (V9 100) 18 = nI (dpt (fl wa9 wt9)) ∧ dpt (fl wa9 wt9) ≤ 6 ∧ (∀ o, RES (gb g) ln (3, pl9, fl wa9 wt9) o → RES (gb g) ln (2, pl, fl wa wt) o) ∧ opOf (wa9 (wt9 - 1)) ≠ 10)))) ∧ N = N9 ∧ JR D b N cl [(111, 112, 0, 1000000), (100, 100, 19, 19), (100, 100, 14, 14), (100, 100, 16, 16), (100, 100, 17, 17), (100, 100, 18, 18), (100, 100, 20, 20)] V V9) := by
  have hJ0 : JR D b N cl [(111, 112, 0, 1000000), (100, 100, 19, 19), (100, 100, 14, 14), (100, 100, 16, 16), (100, 100, 17, 17), (100, 100, 18, 18), (100, 100, 20, 20)] V V := JR.rf hW
  refine mw_of (by decide) (by simp [Value.category]) (Nat.le_of_ble_eq_true rfl) ?_
  show AW l D b jX12_readsCompared (fx_rm 5 0 0) none (fx_MQ D b 0 0 (fx_qi (fun r N9 V9 => ((r = 0 ∨ r = 1) ∧ ((r = 0 ∧ ∃ f, fI (V9 100) 16 = f ∧ RES (gb g) ln (2, pl, (fl wa wt)) (.inl f)) ∨ (r = 1 ∧ (∃ (sd9 wa9 : Nat → Int32) (pl9 cm9 wt9 : Nat) (dep9 : Nat → Nat), PX D b V9 g pl9 ln cm9 wt9 sg sd9 wa9 dep9 sl sf sh st sm sk ∧ wt9 ≤ wt ∧ 1 ≤ wt9 ∧ (∀ i, i < wt → wa9 i = wa i) ∧ (∀ k, k < sg → sd9 k = sd k) ∧ dep9 cm9 = 1 ∧ pl < pl9 ∧ fI (V9 100) 18 = nI (dpt (fl wa9 wt9)) ∧ dpt (fl wa9 wt9) ≤ 6 ∧ (∀ o, RES (gb g) ln (3, pl9, fl wa9 wt9) o → RES (gb g) ln (2, pl, fl wa wt) o) ∧ opOf (wa9 (wt9 - 1)) ≠ 10)))) ∧ N = N9 ∧ JR D b N cl [(111, 112, 0, 1000000), (100, 100, 19, 19), (100, 100, 14, 14), (100, 100, 16, 16), (100, 100, 17, 17), (100, 100, 18, 18), (100, 100, 20, 20)] V V9))) 0 [some (.ref (b + 100)), none] [] N V 0 0
  obtain ⟨xg_x1, xs_x1, xw_x1, xp_x1, xl_x1, xc_x1, xt_x1, hP_x1, ⟨hB1_x1, hB2_x1, hB3_x1, hB4_x1⟩, xa_x1, xb_x1, xd_x1, xe_x1, xm_x1, hB5_x1⟩ := id hX
  obtain ⟨ftoldPeople_2, ftoldDoors_2, fwasDoors_2, ffault_2, fopen_2, flines_2, fmeantSet_2, fopenedNow_2, fvainNow_2, flowNow_2, fhighNow_2, fisKept_2, tad_2, pl0_2, le0_2, nu0_2, coy_2, wag_2, say_2, e_2, hntad_2, hnpl0_2, hnle0_2, hnnu0_2, hncoy_2, hnwag_2, hnsay_2⟩ := JR.get hJ0 cm_100
  have sb_x1pl := FG.eq xp_x1 e_2 rfl (by omega) (by omega)
  subst sb_x1pl
  have sb_x1cm := FG.eq xc_x1 e_2 rfl (by omega) (by omega)
  subst sb_x1cm
  have sb_x1wt := FG.eq xt_x1 e_2 rfl (by omega) (by omega)
  subst sb_x1wt
  have sb_x1ln := FG.eq xl_x1 e_2 rfl (by omega) (by omega)
  have hsg_x1 := hP_x1.2.1
  have sb_x1sm := FG.eq xm_x1 e_2 rfl (by omega) (by omega)
  have hof_3 : fopen_2 = nI (dpt (fl wa wag_2)) := ((congrArg (fun z => fI z 18) e_2).trans rfl).symm.trans hO
  subst hof_3
  have hd19 : dpt (1 :: (fl wa wag_2)) = dpt (fl wa wag_2) := dpt_1 rfl
  have hd29 : dpt (2 :: (fl wa wag_2)) = dpt (fl wa wag_2) := dpt_2 rfl
  refine aw_aload_n dX12_readsCompared_0 rfl ?_
  refine aw_callVi (J' := jX12_readsSum) (As := []) (st := []) dX12_readsCompared_1 tb_1228 ok_X12_readsSum ⟨_, e_2⟩ (by omega) rfl rfl (r_readsSum3 l D b N V hN cl hJ0.1 g sd wa pl0_2 ln coy_2 wag_2 sg dep sl sf sh st sm sk ⟨xg_x1, xs_x1, xw_x1, (FG.of e_2 rfl rfl), (FG.of e_2 rfl (by omega : le0_2 = ln)), (FG.of e_2 rfl rfl), (FG.of e_2 rfl rfl), hP_x1, ⟨by omega, by omega, by omega, by omega⟩, xa_x1, xb_x1, xd_x1, xe_x1, (FG.of e_2 rfl (by omega : say_2 = sm)), by omega⟩ (1 :: (fl wa wag_2)) (((congrArg (fun z => fI z 18) e_2).trans rfl).trans (congrArg nI (dpt_1 rfl).symm)) (by have h9 : (dpt (fl wa wag_2)) = (dpt (1 :: (fl wa wag_2))) := (dpt_1 rfl).symm; omega) (Or.inr hbt)) rfl (Nat.le_of_ble_eq_true rfl) ⟨Nat.le_of_ble_eq_true rfl, Nat.le_of_ble_eq_true rfl, Nat.le_of_ble_eq_true rfl, Nat.le_of_ble_eq_true rfl⟩ (fun r_9 N_10 V_8 q_11 => ?_)
  obtain ⟨⟨z_6, h_5⟩, rfl, q_4⟩ := q_11
  have j_7 := JR.trans hJ0 (JR.weak q_4 (Sub.cons LM0 (by decide) (by decide) (by decide) (Or.inl rfl) (Sub.cons (LMs LM0) (by decide) (by decide) (by decide) (Or.inr ⟨by decide, by decide⟩) (Sub.cons (LMs (LMs LM0)) (by decide) (by decide) (by decide) (Or.inr ⟨by decide, by decide⟩) (Sub.cons (LMs (LMs (LMs LM0))) (by decide) (by decide) (by decide) (Or.inr ⟨by decide, by decide⟩) (Sub.cons (LMs (LMs (LMs (LMs LM0)))) (by decide) (by decide) (by decide) (Or.inr ⟨by decide, by decide⟩) (Sub.cons (LMs (LMs (LMs (LMs (LMs LM0))))) (by decide) (by decide) (by decide) (Or.inr ⟨by decide, by decide⟩) (Sub.cons (LMs (LMs (LMs (LMs (LMs (LMs LM0)))))) (by decide) (by decide) (by decide) (Or.inr ⟨by decide, by decide⟩) Sub.nil))))))))
  refine aw_if_ne (tgt := 9) dX12_readsCompared_4 (by decide) (fun c_12 => ?_) (fun c_12 => ?_)
  · skip
    obtain ⟨sd_y13, wa_y13, pl_y13, cm_y13, wt_y13, dp_y13, hX_y13, sw_y13, sa_y13, ss_y13, sd9_y13, sp_y13, oo_y13, sr_y13, so_y13⟩ := ((h_5.imp And.left And.right).resolve_left c_12)
    obtain ⟨xg_x14, xs_x14, xw_x14, xp_x14, xl_x14, xc_x14, xt_x14, hP_x14, ⟨hB1_x14, hB2_x14, hB3_x14, hB4_x14⟩, xa_x14, xb_x14, xd_x14, xe_x14, xm_x14, hB5_x14⟩ := hX_y13
    obtain ⟨ftoldPeople_15, ftoldDoors_15, fwasDoors_15, ffault_15, fopen_15, flines_15, fmeantSet_15, fopenedNow_15, fvainNow_15, flowNow_15, fhighNow_15, fisKept_15, tad_15, pl0_15, le0_15, nu0_15, coy_15, wag_15, say_15, e_15, hntad_15, hnpl0_15, hnle0_15, hnnu0_15, hncoy_15, hnwag_15, hnsay_15⟩ := JR.get j_7 cm_100
    clear hntad_2 hnpl0_2 hnle0_2 hnnu0_2 hncoy_2 hnwag_2 hnsay_2
    have sb_x14pl := FG.eq xp_x14 e_15 rfl (by omega) (by omega)
    subst sb_x14pl
    have sb_x14cm := FG.eq xc_x14 e_15 rfl (by omega) (by omega)
    subst sb_x14cm
    have sb_x14wt := FG.eq xt_x14 e_15 rfl (by omega) (by omega)
    subst sb_x14wt
    have sb_x14ln := FG.eq xl_x14 e_15 rfl (by omega) (by omega)
    have hsg_x14 := hP_x14.2.1
    have sb_x14sm := FG.eq xm_x14 e_15 rfl (by omega) (by omega)
    have hof_16 : fopen_15 = nI (dpt (1 :: (fl wa wag_2))) := ((congrArg (fun z => fI z 18) e_15).trans rfl).symm.trans oo_y13
    subst hof_16
    refine aw_aload_n dX12_readsCompared_9 rfl ?_
    refine aw_callVi (J' := jX12_here) (As := []) (st := []) dX12_readsCompared_10 tb_1220 ok_X12_here ⟨_, e_15⟩ (by omega) rfl rfl (r_here l D b N V_8 hN cl j_7.1 g xg_x14 pl0_15 le0_15 (FG.of e_15 rfl rfl) (FG.of e_15 rfl rfl) ⟨by omega, by omega⟩) rfl (Nat.le_of_ble_eq_true rfl) ⟨Nat.le_of_ble_eq_true rfl, Nat.le_of_ble_eq_true rfl, Nat.le_of_ble_eq_true rfl, Nat.le_of_ble_eq_true rfl⟩ (fun r_19 N_20 V_21 q_22 => ?_)
    obtain ⟨h_18, rfl, rfl⟩ := q_22
    refine aw_bipush (v := 60) dX12_readsCompared_13 (by decide) ?_
    refine aw_icmp_ne (tgt := 23) dX12_readsCompared_15 (by decide) (fun c_23 => ?_) (fun c_23 => ?_)
    · skip
      refine aw_aload_n dX12_readsCompared_23 rfl ?_
      refine aw_callVi (J' := jX12_here) (As := []) (st := []) dX12_readsCompared_24 tb_1220 ok_X12_here ⟨_, e_15⟩ (by omega) rfl rfl (r_here l D b N V_8 hN cl j_7.1 g xg_x14 pl0_15 le0_15 (FG.of e_15 rfl rfl) (FG.of e_15 rfl rfl) ⟨by omega, by omega⟩) rfl (Nat.le_of_ble_eq_true rfl) ⟨Nat.le_of_ble_eq_true rfl, Nat.le_of_ble_eq_true rfl, Nat.le_of_ble_eq_true rfl, Nat.le_of_ble_eq_true rfl⟩ (fun r_26 N_27 V_28 q_29 => ?_)
      obtain ⟨h_25, rfl, rfl⟩ := q_29
      refine aw_bipush (v := 62) dX12_readsCompared_27 (by decide) ?_
      refine aw_icmp_ne (tgt := 37) dX12_readsCompared_29 (by decide) (fun c_30 => ?_) (fun c_30 => ?_)
      · skip
        refine aw_aload_n dX12_readsCompared_37 rfl ?_
        refine aw_callVi (J' := jX12_here) (As := []) (st := []) dX12_readsCompared_38 tb_1220 ok_X12_here ⟨_, e_15⟩ (by omega) rfl rfl (r_here l D b N V_8 hN cl j_7.1 g xg_x14 pl0_15 le0_15 (FG.of e_15 rfl rfl) (FG.of e_15 rfl rfl) ⟨by omega, by omega⟩) rfl (Nat.le_of_ble_eq_true rfl) ⟨Nat.le_of_ble_eq_true rfl, Nat.le_of_ble_eq_true rfl, Nat.le_of_ble_eq_true rfl, Nat.le_of_ble_eq_true rfl⟩ (fun r_33 N_34 V_35 q_36 => ?_)
        obtain ⟨h_32, rfl, rfl⟩ := q_36
        refine aw_bipush (v := 61) dX12_readsCompared_41 (by decide) ?_
        refine aw_icmp_ne (tgt := 51) dX12_readsCompared_43 (by decide) (fun c_37 => ?_) (fun c_37 => ?_)
        · skip
          refine aw_iconst (v := (-1)) dX12_readsCompared_51 (by decide) ?_
          refine aw_istore_n (ls' := [some (.ref (b + 100)), some (.int (-1))]) dX12_readsCompared_52 (Nat.le_of_ble_eq_true rfl) rfl ?_
          refine aw_iload_n dX12_readsCompared_53 rfl ?_
          refine aw_iconst (v := (-1)) dX12_readsCompared_54 (by decide) ?_
          refine aw_icmp_ne (tgt := 68) dX12_readsCompared_55 (by decide) (fun c_38 => ?_) (fun c_38 => ?_)
          · exact absurd rfl c_38
          refine aw_aload_n dX12_readsCompared_58 rfl ?_
          refine aw_iconst (v := 1) dX12_readsCompared_59 (by decide) ?_
          refine aw_aload_n dX12_readsCompared_60 rfl ?_
          refine aw_get dX12_readsCompared_61 fl_X12_159 e_15 (by omega) rfl ?_
          refine aw_callVi (J' := jX12_wrongAt) (As := [.int 1, .int (nI pl0_15)]) (st := []) dX12_readsCompared_64 tb_1224 ok_X12_wrongAt ⟨_, e_15⟩ (by omega) rfl rfl (r_wrongAt3 l D b N V_8 hN cl j_7.1 1 (nI pl0_15) pl0_15 le0_15 (FG.of e_15 rfl rfl) (FG.of e_15 rfl rfl) ⟨by omega, by omega⟩) rfl (Nat.le_of_ble_eq_true rfl) ⟨Nat.le_of_ble_eq_true rfl, Nat.le_of_ble_eq_true rfl, Nat.le_of_ble_eq_true rfl, Nat.le_of_ble_eq_true rfl⟩ (fun r_53 N_54 V_43 q_55 => ?_)
          obtain ⟨⟨z_41, h_40⟩, rfl, q_39⟩ := q_55
          have j_42 := JR.trans j_7 (JR.weak q_39 (Sub.cons (LMs (LMs (LMs LM0))) (by decide) (by decide) (by decide) (Or.inr ⟨by decide, by decide⟩) Sub.nil))
          obtain ⟨a_44, ha_45, hA_46, hF_47, hL_48, hz_49, hX_50⟩ := h_40
          obtain ⟨ftoldPeople_k51, ftoldDoors_k51, fwasDoors_k51, ffault_k51, fopen_k51, flines_k51, fmeantSet_k51, fopenedNow_k51, fvainNow_k51, flowNow_k51, fhighNow_k51, fisKept_k51, tad_k51, pl0_k51, le0_k51, nu0_k51, coy_k51, wag_k51, say_k51, e_k51, hntad_k51, hnpl0_k51, hnle0_k51, hnnu0_k51, hncoy_k51, hnwag_k51, hnsay_k51⟩ := JR.get j_42 cm_100
          have hqp_k51 := FG.eq hF_47 e_k51 rfl (by omega) (by omega)
          have hql_k51 := FG.eq hL_48 e_k51 rfl (by omega) (by omega)
          obtain ⟨rfl, hw_52⟩ := hX_50
          refine aw_zreti dX12_readsCompared_67 rfl (by first | exact Or.inl rfl | exact Or.inr rfl | assumption) (Nat.le_of_ble_eq_true rfl) (Nat.le_of_ble_eq_true rfl) ?_
          exact ⟨⟨(by first | exact Or.inl rfl | exact Or.inr rfl | assumption), Or.inl ⟨rfl, ⟨_, hw_52, T_cmp n33 n40 (sr_y13 _ (O_ncmp so_y13 (cmr_f (hd_isnt sb_x14ln rfl h_18 c_23) (hd_isnt sb_x14ln rfl h_25 c_30) (hd_isnt sb_x14ln rfl h_32 c_37))))⟩⟩⟩, rfl, j_42⟩
        · skip
          have hlc_37 := here_lt h_32 c_37 (by decide)
          refine aw_bipush (v := 9) dX12_readsCompared_46 (by decide) ?_
          refine aw_goto (tgt := 52) dX12_readsCompared_48 (by decide) ?_
          refine aw_istore_n (ls' := [some (.ref (b + 100)), some (.int 9)]) dX12_readsCompared_52 (Nat.le_of_ble_eq_true rfl) rfl ?_
          refine aw_iload_n dX12_readsCompared_53 rfl ?_
          refine aw_iconst (v := (-1)) dX12_readsCompared_54 (by decide) ?_
          refine aw_icmp_ne (tgt := 68) dX12_readsCompared_55 (by decide) (fun c_56 => ?_) (fun c_56 => ?_)
          rotate_left
          · exact absurd c_56 (by decide)
          refine aw_aload_n dX12_readsCompared_68 rfl ?_
          refine aw_aload_n dX12_readsCompared_69 rfl ?_
          refine aw_get dX12_readsCompared_70 fl_X12_159 e_15 (by omega) rfl ?_
          refine aw_iconst (v := 1) dX12_readsCompared_73 (by decide) ?_
          refine aw_iadd dX12_readsCompared_74 ?_
          refine aw_eqi (y := nI (pl0_15 + 1)) (nI_add _ _) ?_
          refine aw_put dX12_readsCompared_75 fp_X12_159 e_15 (by omega) rfl rfl (Nat.le_of_ble_eq_true rfl) rfl ?_
          refine aw_upR j_7 cm_100 ⟨_, _, _, _, _, _, _, _, _, _, _, _, tad_15, (pl0_15 + 1), le0_15, nu0_15, coy_15, wag_15, say_15, rfl, by omega, by omega, by omega, by omega, by omega, by omega, by omega⟩ (by decide) (WO (s := 14) (x := .int (nI (pl0_15 + 1))) e_15 rfl (LMs (LMs LM0)) (by decide) (by decide) (by decide) (Or.inl (by decide))) (fun V_57 j_57 k_57 e_57 => ?_)
          have hb2 : 10 ≤ opOf (wa_y13 (wag_15 - 1)) := by rw [show wag_15 = wag_2 by omega, sa_y13 (wag_2 - 1) (by omega)]; exact hbt
          refine aw_aload_n dX12_readsCompared_78 rfl ?_
          refine aw_callVi (J' := jX12_readsSum) (As := []) (st := []) dX12_readsCompared_79 tb_1228 ok_X12_readsSum ⟨_, e_57⟩ (by omega) rfl rfl (r_readsSum3 l D b N V_57 hN cl j_57.1 g sd_y13 wa_y13 (pl0_15 + 1) ln coy_15 wag_15 sg dp_y13 sl sf sh st sm (sk + 1) ⟨((k_57 _ (by decide)).trans xg_x14), ((k_57 _ (by decide)).trans xs_x14), ((k_57 _ (by decide)).trans xw_x14), (FG.of e_57 rfl rfl), (FG.of e_57 rfl (by omega : le0_15 = ln)), (FG.of e_57 rfl rfl), (FG.of e_57 rfl rfl), hP_x14, ⟨by omega, by omega, by omega, by omega⟩, ((k_57 _ (by decide)).trans xa_x14), ((k_57 _ (by decide)).trans xb_x14), ((k_57 _ (by decide)).trans xd_x14), ((k_57 _ (by decide)).trans xe_x14), (FG.of e_57 rfl (by omega : say_15 = sm)), by omega⟩ (2 :: (fl wa wag_2)) (((congrArg (fun z => fI z 18) e_57).trans rfl).trans (congrArg nI ((dpt_1 rfl).trans (dpt_2 rfl).symm))) (by have h9 : (dpt (1 :: (fl wa wag_2))) = (dpt (2 :: (fl wa wag_2))) := ((dpt_1 rfl).trans (dpt_2 rfl).symm); omega) (Or.inr hb2)) rfl (Nat.le_of_ble_eq_true rfl) ⟨Nat.le_of_ble_eq_true rfl, Nat.le_of_ble_eq_true rfl, Nat.le_of_ble_eq_true rfl, Nat.le_of_ble_eq_true rfl⟩ (fun r_63 N_64 V_62 q_65 => ?_)
          obtain ⟨⟨z_60, h_59⟩, rfl, q_58⟩ := q_65
          have j_61 := JR.trans j_57 (JR.weak q_58 (Sub.cons LM0 (by decide) (by decide) (by decide) (Or.inl rfl) (Sub.cons (LMs LM0) (by decide) (by decide) (by decide) (Or.inr ⟨by decide, by decide⟩) (Sub.cons (LMs (LMs LM0)) (by decide) (by decide) (by decide) (Or.inr ⟨by decide, by decide⟩) (Sub.cons (LMs (LMs (LMs LM0))) (by decide) (by decide) (by decide) (Or.inr ⟨by decide, by decide⟩) (Sub.cons (LMs (LMs (LMs (LMs LM0)))) (by decide) (by decide) (by decide) (Or.inr ⟨by decide, by decide⟩) (Sub.cons (LMs (LMs (LMs (LMs (LMs LM0))))) (by decide) (by decide) (by decide) (Or.inr ⟨by decide, by decide⟩) (Sub.cons (LMs (LMs (LMs (LMs (LMs (LMs LM0)))))) (by decide) (by decide) (by decide) (Or.inr ⟨by decide, by decide⟩) Sub.nil))))))))
          refine aw_if_ne (tgt := 87) dX12_readsCompared_82 (by decide) (fun c_66 => ?_) (fun c_66 => ?_)
          · skip
            obtain ⟨sd_y67, wa_y67, pl_y67, cm_y67, wt_y67, dp_y67, hX_y67, sw_y67, sa_y67, ss_y67, sd9_y67, sp_y67, oo_y67, sr_y67, so_y67⟩ := ((h_59.imp And.left And.right).resolve_left c_66)
            obtain ⟨xg_x68, xs_x68, xw_x68, xp_x68, xl_x68, xc_x68, xt_x68, hP_x68, ⟨hB1_x68, hB2_x68, hB3_x68, hB4_x68⟩, xa_x68, xb_x68, xd_x68, xe_x68, xm_x68, hB5_x68⟩ := hX_y67
            obtain ⟨ftoldPeople_69, ftoldDoors_69, fwasDoors_69, ffault_69, fopen_69, flines_69, fmeantSet_69, fopenedNow_69, fvainNow_69, flowNow_69, fhighNow_69, fisKept_69, tad_69, pl0_69, le0_69, nu0_69, coy_69, wag_69, say_69, e_69, hntad_69, hnpl0_69, hnle0_69, hnnu0_69, hncoy_69, hnwag_69, hnsay_69⟩ := JR.get j_61 cm_100
            clear hntad_15 hnpl0_15 hnle0_15 hnnu0_15 hncoy_15 hnwag_15 hnsay_15
            have sb_x68pl := FG.eq xp_x68 e_69 rfl (by omega) (by omega)
            subst sb_x68pl
            have sb_x68cm := FG.eq xc_x68 e_69 rfl (by omega) (by omega)
            subst sb_x68cm
            have sb_x68wt := FG.eq xt_x68 e_69 rfl (by omega) (by omega)
            subst sb_x68wt
            have sb_x68ln := FG.eq xl_x68 e_69 rfl (by omega) (by omega)
            have hsg_x68 := hP_x68.2.1
            have sb_x68sm := FG.eq xm_x68 e_69 rfl (by omega) (by omega)
            have hof_70 : fopen_69 = nI (dpt (2 :: (fl wa wag_2))) := ((congrArg (fun z => fI z 18) e_69).trans rfl).symm.trans oo_y67
            subst hof_70
            refine aw_aload_n dX12_readsCompared_87 rfl ?_
            refine aw_iload_n dX12_readsCompared_88 rfl ?_
            refine aw_iconst (v := 0) dX12_readsCompared_89 (by decide) ?_
            refine aw_callVv (J' := jX12_notes) (As := [.int 9, .int 0]) (st := []) dX12_readsCompared_90 tb_1249 ok_X12_notes ⟨_, e_69⟩ (by omega) rfl rfl (r_notes l D b N V_62 hN cl j_61.1 9 0 9 0 (by omega) (by omega) ftoldPeople_69 ftoldDoors_69 fwasDoors_69 ffault_69 (nI (dpt (2 :: (fl wa wag_2)))) flines_69 fmeantSet_69 fopenedNow_69 fvainNow_69 flowNow_69 fhighNow_69 fisKept_69 tad_69 pl0_69 le0_69 nu0_69 coy_69 wag_69 say_69 ⟨by omega, by omega, by omega, by omega, by omega, by omega, by omega⟩ e_69 g sd_y67 wa_y67 xg_x68 xs_x68 xw_x68 (by omega)) rfl (Nat.le_of_ble_eq_true rfl) ⟨Nat.le_of_ble_eq_true rfl, Nat.le_of_ble_eq_true rfl, Nat.le_of_ble_eq_true rfl, Nat.le_of_ble_eq_true rfl⟩ (fun  N_78 V_74 q_79 => ?_)
            obtain ⟨h_72, rfl, q_71⟩ := q_79
            have j_73 := JR.trans j_61 (JR.weak q_71 (Sub.cons LM0 (by decide) (by decide) (by decide) (Or.inl rfl) (Sub.cons (LMs LM0) (by decide) (by decide) (by decide) (Or.inr ⟨by decide, by decide⟩) Sub.nil)))
            obtain ⟨hN_75, hN_76, hN_77⟩ := h_72
            have hQ := PS.emit hP_x68 9 0 1 (by omega) (by omega) (by omega) (by omega) (by omega) (by omega) (by omega)
            have hds : dset dp_y67 (coy_69 + 1) 1 (coy_69 + 1) = 1 := dset_s
            have hfl9 : (fl wa wag_2) = (fl wa_y67 wag_69) := by rw [show wag_69 = wag_2 by omega]; exact (fl_congr (agr sa_y13 sa_y67 (by omega))).symm
            refine aw_aload_n dX12_readsCompared_93 rfl ?_
            refine aw_callVv (J' := jX12_endsPiece) (As := []) (st := []) dX12_readsCompared_94 tb_1279 ok_X12_endsPiece ⟨_, hN_75⟩ (by omega) rfl rfl (r_endsPiece3 l D b N V_74 hN cl j_73.1 g (upd sd_y67 coy_69 (nI (1048576 * 9 + 0))) wa_y67 pl0_69 ln (coy_69 + 1) wag_69 sg (dset dp_y67 (coy_69 + 1) 1) sl sf sh st sm sk ⟨((hN_77 _ (by decide) (by decide)).trans xg_x68), hN_76, ((hN_77 _ (by decide) (by decide)).trans xw_x68), (FG.of hN_75 rfl rfl), (FG.of hN_75 rfl (by omega : le0_69 = ln)), (FG.of hN_75 rfl rfl), (FG.of hN_75 rfl rfl), hQ, ⟨by omega, by omega, by omega, by omega⟩, ((hN_77 _ (by decide) (by decide)).trans xa_x68), ((hN_77 _ (by decide) (by decide)).trans xb_x68), ((hN_77 _ (by decide) (by decide)).trans xd_x68), ((hN_77 _ (by decide) (by decide)).trans xe_x68), (FG.of hN_75 rfl (by omega : say_69 = sm)), by omega⟩  (((congrArg (fun z => fI z 18) hN_75).trans rfl).trans (congrArg nI ((dpt_2 rfl).trans (congrArg dpt hfl9)))) (by have h9 : (dpt (2 :: (fl wa wag_2))) = (dpt (fl wa_y67 wag_69)) := ((dpt_2 rfl).trans (congrArg dpt hfl9)); omega) (by omega) (by rw [sa_y67 0 (by omega), sa_y13 0 (by omega)]; exact h13) (by omega)) rfl (Nat.le_of_ble_eq_true rfl) ⟨Nat.le_of_ble_eq_true rfl, Nat.le_of_ble_eq_true rfl, Nat.le_of_ble_eq_true rfl, Nat.le_of_ble_eq_true rfl⟩ (fun  N_84 V_83 q_85 => ?_)
            obtain ⟨h_81, rfl, q_80⟩ := q_85
            have j_82 := JR.trans j_73 (JR.weak q_80 (Sub.cons LM0 (by decide) (by decide) (by decide) (Or.inl rfl) (Sub.cons (LMs LM0) (by decide) (by decide) (by decide) (Or.inr ⟨by decide, by decide⟩) (Sub.cons (LMs (LMs (LMs (LMs (LMs (LMs LM0)))))) (by decide) (by decide) (by decide) (Or.inr ⟨by decide, by decide⟩) (Sub.cons (LMs (LMs (LMs (LMs (LMs LM0))))) (by decide) (by decide) (by decide) (Or.inr ⟨by decide, by decide⟩) Sub.nil)))))
            obtain ⟨sd_y86, pl_y86, cm_y86, wt_y86, dp_y86, hX_y86, qp_y86, qw_y86, q1_y86, qs_y86, qd_y86, qe_y86, oo_y86, o6_y86, er_y86⟩ := h_81
            obtain ⟨xg_x87, xs_x87, xw_x87, xp_x87, xl_x87, xc_x87, xt_x87, hP_x87, ⟨hB1_x87, hB2_x87, hB3_x87, hB4_x87⟩, xa_x87, xb_x87, xd_x87, xe_x87, xm_x87, hB5_x87⟩ := hX_y86
            obtain ⟨ftoldPeople_88, ftoldDoors_88, fwasDoors_88, ffault_88, fopen_88, flines_88, fmeantSet_88, fopenedNow_88, fvainNow_88, flowNow_88, fhighNow_88, fisKept_88, tad_88, pl0_88, le0_88, nu0_88, coy_88, wag_88, say_88, e_88, hntad_88, hnpl0_88, hnle0_88, hnnu0_88, hncoy_88, hnwag_88, hnsay_88⟩ := JR.get j_82 cm_100
            clear hntad_69 hnpl0_69 hnle0_69 hnnu0_69 hncoy_69 hnwag_69 hnsay_69
            have sb_x87pl := FG.eq xp_x87 e_88 rfl (by omega) (by omega)
            subst sb_x87pl
            have sb_x87cm := FG.eq xc_x87 e_88 rfl (by omega) (by omega)
            subst sb_x87cm
            have sb_x87wt := FG.eq xt_x87 e_88 rfl (by omega) (by omega)
            subst sb_x87wt
            have sb_x87ln := FG.eq xl_x87 e_88 rfl (by omega) (by omega)
            have hsg_x87 := hP_x87.2.1
            have sb_x87sm := FG.eq xm_x87 e_88 rfl (by omega) (by omega)
            have hof_89 : fopen_88 = nI (dpt (fl wa_y67 wag_88)) := ((congrArg (fun z => fI z 18) e_88).trans rfl).symm.trans oo_y86
            subst hof_89
            refine aw_iconst (v := 1) dX12_readsCompared_97 (by decide) ?_
            refine aw_zreti dX12_readsCompared_98 rfl (by first | exact Or.inl rfl | exact Or.inr rfl | assumption) (Nat.le_of_ble_eq_true rfl) (Nat.le_of_ble_eq_true rfl) ?_
            exact ⟨⟨(by first | exact Or.inl rfl | exact Or.inr rfl | assumption), Or.inr ⟨rfl, ⟨sd_y86, wa_y67, pl0_88, coy_88, wag_88, dp_y86, ⟨xg_x87, xs_x87, xw_x87, (FG.of e_88 rfl rfl), (FG.of e_88 rfl (by omega : le0_88 = ln)), (FG.of e_88 rfl rfl), (FG.of e_88 rfl rfl), hP_x87, ⟨by omega, by omega, by omega, by omega⟩, xa_x87, xb_x87, xd_x87, xe_x87, (FG.of e_88 rfl (by omega : say_88 = sm)), by omega⟩, by omega, by omega, agr sa_y13 sa_y67 (by omega), (fun k hk => (((qs_y86 k hk).trans (pk_un (by omega))).trans (ss_y67 k hk)).trans (ss_y13 k hk)), by omega, by omega, (((congrArg (fun z => fI z 18) e_88).trans rfl)).trans (congrArg nI (by omega)), o6_y86, (fun o q => T_cmp n33 n40 (sr_y13 _ (O_cmp so_y13 (cmr_t (Or.inr (Or.inr (hd_is sb_x14ln rfl h_32 c_37)))) (sr_y67 _ (O_r so_y67 (by rw [hfl9]; exact er_y86 o (by rw [qp_y86] at q; exact q))))))), qe_y86⟩⟩⟩, rfl, j_82⟩
          · skip
            refine aw_iconst (v := 0) dX12_readsCompared_85 (by decide) ?_
            refine aw_zreti dX12_readsCompared_86 rfl (by first | exact Or.inl rfl | exact Or.inr rfl | assumption) (Nat.le_of_ble_eq_true rfl) (Nat.le_of_ble_eq_true rfl) ?_
            exact ⟨⟨(by first | exact Or.inl rfl | exact Or.inr rfl | assumption), Or.inl ⟨rfl, (Exists.imp (fun f z => ⟨z.1, T_cmp n33 n40 (sr_y13 _ (O_cmp so_y13 (cmr_t (Or.inr (Or.inr (hd_is sb_x14ln rfl h_32 c_37)))) z.2))⟩) ((h_59.resolve_right (fun z => absurd (z.1.symm.trans c_66) (by decide))).2))⟩⟩, rfl, j_61⟩
      · skip
        have hlc_30 := here_lt h_25 c_30 (by decide)
        refine aw_bipush (v := 8) dX12_readsCompared_32 (by decide) ?_
        refine aw_goto (tgt := 52) dX12_readsCompared_34 (by decide) ?_
        refine aw_istore_n (ls' := [some (.ref (b + 100)), some (.int 8)]) dX12_readsCompared_52 (Nat.le_of_ble_eq_true rfl) rfl ?_
        refine aw_iload_n dX12_readsCompared_53 rfl ?_
        refine aw_iconst (v := (-1)) dX12_readsCompared_54 (by decide) ?_
        refine aw_icmp_ne (tgt := 68) dX12_readsCompared_55 (by decide) (fun c_90 => ?_) (fun c_90 => ?_)
        rotate_left
        · exact absurd c_90 (by decide)
        refine aw_aload_n dX12_readsCompared_68 rfl ?_
        refine aw_aload_n dX12_readsCompared_69 rfl ?_
        refine aw_get dX12_readsCompared_70 fl_X12_159 e_15 (by omega) rfl ?_
        refine aw_iconst (v := 1) dX12_readsCompared_73 (by decide) ?_
        refine aw_iadd dX12_readsCompared_74 ?_
        refine aw_eqi (y := nI (pl0_15 + 1)) (nI_add _ _) ?_
        refine aw_put dX12_readsCompared_75 fp_X12_159 e_15 (by omega) rfl rfl (Nat.le_of_ble_eq_true rfl) rfl ?_
        refine aw_upR j_7 cm_100 ⟨_, _, _, _, _, _, _, _, _, _, _, _, tad_15, (pl0_15 + 1), le0_15, nu0_15, coy_15, wag_15, say_15, rfl, by omega, by omega, by omega, by omega, by omega, by omega, by omega⟩ (by decide) (WO (s := 14) (x := .int (nI (pl0_15 + 1))) e_15 rfl (LMs (LMs LM0)) (by decide) (by decide) (by decide) (Or.inl (by decide))) (fun V_91 j_91 k_91 e_91 => ?_)
        have hb2 : 10 ≤ opOf (wa_y13 (wag_15 - 1)) := by rw [show wag_15 = wag_2 by omega, sa_y13 (wag_2 - 1) (by omega)]; exact hbt
        refine aw_aload_n dX12_readsCompared_78 rfl ?_
        refine aw_callVi (J' := jX12_readsSum) (As := []) (st := []) dX12_readsCompared_79 tb_1228 ok_X12_readsSum ⟨_, e_91⟩ (by omega) rfl rfl (r_readsSum3 l D b N V_91 hN cl j_91.1 g sd_y13 wa_y13 (pl0_15 + 1) ln coy_15 wag_15 sg dp_y13 sl sf sh st sm (sk + 1) ⟨((k_91 _ (by decide)).trans xg_x14), ((k_91 _ (by decide)).trans xs_x14), ((k_91 _ (by decide)).trans xw_x14), (FG.of e_91 rfl rfl), (FG.of e_91 rfl (by omega : le0_15 = ln)), (FG.of e_91 rfl rfl), (FG.of e_91 rfl rfl), hP_x14, ⟨by omega, by omega, by omega, by omega⟩, ((k_91 _ (by decide)).trans xa_x14), ((k_91 _ (by decide)).trans xb_x14), ((k_91 _ (by decide)).trans xd_x14), ((k_91 _ (by decide)).trans xe_x14), (FG.of e_91 rfl (by omega : say_15 = sm)), by omega⟩ (2 :: (fl wa wag_2)) (((congrArg (fun z => fI z 18) e_91).trans rfl).trans (congrArg nI ((dpt_1 rfl).trans (dpt_2 rfl).symm))) (by have h9 : (dpt (1 :: (fl wa wag_2))) = (dpt (2 :: (fl wa wag_2))) := ((dpt_1 rfl).trans (dpt_2 rfl).symm); omega) (Or.inr hb2)) rfl (Nat.le_of_ble_eq_true rfl) ⟨Nat.le_of_ble_eq_true rfl, Nat.le_of_ble_eq_true rfl, Nat.le_of_ble_eq_true rfl, Nat.le_of_ble_eq_true rfl⟩ (fun r_97 N_98 V_96 q_99 => ?_)
        obtain ⟨⟨z_94, h_93⟩, rfl, q_92⟩ := q_99
        have j_95 := JR.trans j_91 (JR.weak q_92 (Sub.cons LM0 (by decide) (by decide) (by decide) (Or.inl rfl) (Sub.cons (LMs LM0) (by decide) (by decide) (by decide) (Or.inr ⟨by decide, by decide⟩) (Sub.cons (LMs (LMs LM0)) (by decide) (by decide) (by decide) (Or.inr ⟨by decide, by decide⟩) (Sub.cons (LMs (LMs (LMs LM0))) (by decide) (by decide) (by decide) (Or.inr ⟨by decide, by decide⟩) (Sub.cons (LMs (LMs (LMs (LMs LM0)))) (by decide) (by decide) (by decide) (Or.inr ⟨by decide, by decide⟩) (Sub.cons (LMs (LMs (LMs (LMs (LMs LM0))))) (by decide) (by decide) (by decide) (Or.inr ⟨by decide, by decide⟩) (Sub.cons (LMs (LMs (LMs (LMs (LMs (LMs LM0)))))) (by decide) (by decide) (by decide) (Or.inr ⟨by decide, by decide⟩) Sub.nil))))))))
        refine aw_if_ne (tgt := 87) dX12_readsCompared_82 (by decide) (fun c_100 => ?_) (fun c_100 => ?_)
        · skip
          obtain ⟨sd_y101, wa_y101, pl_y101, cm_y101, wt_y101, dp_y101, hX_y101, sw_y101, sa_y101, ss_y101, sd9_y101, sp_y101, oo_y101, sr_y101, so_y101⟩ := ((h_93.imp And.left And.right).resolve_left c_100)
          obtain ⟨xg_x102, xs_x102, xw_x102, xp_x102, xl_x102, xc_x102, xt_x102, hP_x102, ⟨hB1_x102, hB2_x102, hB3_x102, hB4_x102⟩, xa_x102, xb_x102, xd_x102, xe_x102, xm_x102, hB5_x102⟩ := hX_y101
          obtain ⟨ftoldPeople_103, ftoldDoors_103, fwasDoors_103, ffault_103, fopen_103, flines_103, fmeantSet_103, fopenedNow_103, fvainNow_103, flowNow_103, fhighNow_103, fisKept_103, tad_103, pl0_103, le0_103, nu0_103, coy_103, wag_103, say_103, e_103, hntad_103, hnpl0_103, hnle0_103, hnnu0_103, hncoy_103, hnwag_103, hnsay_103⟩ := JR.get j_95 cm_100
          clear hntad_15 hnpl0_15 hnle0_15 hnnu0_15 hncoy_15 hnwag_15 hnsay_15
          have sb_x102pl := FG.eq xp_x102 e_103 rfl (by omega) (by omega)
          subst sb_x102pl
          have sb_x102cm := FG.eq xc_x102 e_103 rfl (by omega) (by omega)
          subst sb_x102cm
          have sb_x102wt := FG.eq xt_x102 e_103 rfl (by omega) (by omega)
          subst sb_x102wt
          have sb_x102ln := FG.eq xl_x102 e_103 rfl (by omega) (by omega)
          have hsg_x102 := hP_x102.2.1
          have sb_x102sm := FG.eq xm_x102 e_103 rfl (by omega) (by omega)
          have hof_104 : fopen_103 = nI (dpt (2 :: (fl wa wag_2))) := ((congrArg (fun z => fI z 18) e_103).trans rfl).symm.trans oo_y101
          subst hof_104
          refine aw_aload_n dX12_readsCompared_87 rfl ?_
          refine aw_iload_n dX12_readsCompared_88 rfl ?_
          refine aw_iconst (v := 0) dX12_readsCompared_89 (by decide) ?_
          refine aw_callVv (J' := jX12_notes) (As := [.int 8, .int 0]) (st := []) dX12_readsCompared_90 tb_1249 ok_X12_notes ⟨_, e_103⟩ (by omega) rfl rfl (r_notes l D b N V_96 hN cl j_95.1 8 0 8 0 (by omega) (by omega) ftoldPeople_103 ftoldDoors_103 fwasDoors_103 ffault_103 (nI (dpt (2 :: (fl wa wag_2)))) flines_103 fmeantSet_103 fopenedNow_103 fvainNow_103 flowNow_103 fhighNow_103 fisKept_103 tad_103 pl0_103 le0_103 nu0_103 coy_103 wag_103 say_103 ⟨by omega, by omega, by omega, by omega, by omega, by omega, by omega⟩ e_103 g sd_y101 wa_y101 xg_x102 xs_x102 xw_x102 (by omega)) rfl (Nat.le_of_ble_eq_true rfl) ⟨Nat.le_of_ble_eq_true rfl, Nat.le_of_ble_eq_true rfl, Nat.le_of_ble_eq_true rfl, Nat.le_of_ble_eq_true rfl⟩ (fun  N_112 V_108 q_113 => ?_)
          obtain ⟨h_106, rfl, q_105⟩ := q_113
          have j_107 := JR.trans j_95 (JR.weak q_105 (Sub.cons LM0 (by decide) (by decide) (by decide) (Or.inl rfl) (Sub.cons (LMs LM0) (by decide) (by decide) (by decide) (Or.inr ⟨by decide, by decide⟩) Sub.nil)))
          obtain ⟨hN_109, hN_110, hN_111⟩ := h_106
          have hQ := PS.emit hP_x102 8 0 1 (by omega) (by omega) (by omega) (by omega) (by omega) (by omega) (by omega)
          have hds : dset dp_y101 (coy_103 + 1) 1 (coy_103 + 1) = 1 := dset_s
          have hfl9 : (fl wa wag_2) = (fl wa_y101 wag_103) := by rw [show wag_103 = wag_2 by omega]; exact (fl_congr (agr sa_y13 sa_y101 (by omega))).symm
          refine aw_aload_n dX12_readsCompared_93 rfl ?_
          refine aw_callVv (J' := jX12_endsPiece) (As := []) (st := []) dX12_readsCompared_94 tb_1279 ok_X12_endsPiece ⟨_, hN_109⟩ (by omega) rfl rfl (r_endsPiece3 l D b N V_108 hN cl j_107.1 g (upd sd_y101 coy_103 (nI (1048576 * 8 + 0))) wa_y101 pl0_103 ln (coy_103 + 1) wag_103 sg (dset dp_y101 (coy_103 + 1) 1) sl sf sh st sm sk ⟨((hN_111 _ (by decide) (by decide)).trans xg_x102), hN_110, ((hN_111 _ (by decide) (by decide)).trans xw_x102), (FG.of hN_109 rfl rfl), (FG.of hN_109 rfl (by omega : le0_103 = ln)), (FG.of hN_109 rfl rfl), (FG.of hN_109 rfl rfl), hQ, ⟨by omega, by omega, by omega, by omega⟩, ((hN_111 _ (by decide) (by decide)).trans xa_x102), ((hN_111 _ (by decide) (by decide)).trans xb_x102), ((hN_111 _ (by decide) (by decide)).trans xd_x102), ((hN_111 _ (by decide) (by decide)).trans xe_x102), (FG.of hN_109 rfl (by omega : say_103 = sm)), by omega⟩  (((congrArg (fun z => fI z 18) hN_109).trans rfl).trans (congrArg nI ((dpt_2 rfl).trans (congrArg dpt hfl9)))) (by have h9 : (dpt (2 :: (fl wa wag_2))) = (dpt (fl wa_y101 wag_103)) := ((dpt_2 rfl).trans (congrArg dpt hfl9)); omega) (by omega) (by rw [sa_y101 0 (by omega), sa_y13 0 (by omega)]; exact h13) (by omega)) rfl (Nat.le_of_ble_eq_true rfl) ⟨Nat.le_of_ble_eq_true rfl, Nat.le_of_ble_eq_true rfl, Nat.le_of_ble_eq_true rfl, Nat.le_of_ble_eq_true rfl⟩ (fun  N_118 V_117 q_119 => ?_)
          obtain ⟨h_115, rfl, q_114⟩ := q_119
          have j_116 := JR.trans j_107 (JR.weak q_114 (Sub.cons LM0 (by decide) (by decide) (by decide) (Or.inl rfl) (Sub.cons (LMs LM0) (by decide) (by decide) (by decide) (Or.inr ⟨by decide, by decide⟩) (Sub.cons (LMs (LMs (LMs (LMs (LMs (LMs LM0)))))) (by decide) (by decide) (by decide) (Or.inr ⟨by decide, by decide⟩) (Sub.cons (LMs (LMs (LMs (LMs (LMs LM0))))) (by decide) (by decide) (by decide) (Or.inr ⟨by decide, by decide⟩) Sub.nil)))))
          obtain ⟨sd_y120, pl_y120, cm_y120, wt_y120, dp_y120, hX_y120, qp_y120, qw_y120, q1_y120, qs_y120, qd_y120, qe_y120, oo_y120, o6_y120, er_y120⟩ := h_115
          obtain ⟨xg_x121, xs_x121, xw_x121, xp_x121, xl_x121, xc_x121, xt_x121, hP_x121, ⟨hB1_x121, hB2_x121, hB3_x121, hB4_x121⟩, xa_x121, xb_x121, xd_x121, xe_x121, xm_x121, hB5_x121⟩ := hX_y120
          obtain ⟨ftoldPeople_122, ftoldDoors_122, fwasDoors_122, ffault_122, fopen_122, flines_122, fmeantSet_122, fopenedNow_122, fvainNow_122, flowNow_122, fhighNow_122, fisKept_122, tad_122, pl0_122, le0_122, nu0_122, coy_122, wag_122, say_122, e_122, hntad_122, hnpl0_122, hnle0_122, hnnu0_122, hncoy_122, hnwag_122, hnsay_122⟩ := JR.get j_116 cm_100
          clear hntad_103 hnpl0_103 hnle0_103 hnnu0_103 hncoy_103 hnwag_103 hnsay_103
          have sb_x121pl := FG.eq xp_x121 e_122 rfl (by omega) (by omega)
          subst sb_x121pl
          have sb_x121cm := FG.eq xc_x121 e_122 rfl (by omega) (by omega)
          subst sb_x121cm
          have sb_x121wt := FG.eq xt_x121 e_122 rfl (by omega) (by omega)
          subst sb_x121wt
          have sb_x121ln := FG.eq xl_x121 e_122 rfl (by omega) (by omega)
          have hsg_x121 := hP_x121.2.1
          have sb_x121sm := FG.eq xm_x121 e_122 rfl (by omega) (by omega)
          have hof_123 : fopen_122 = nI (dpt (fl wa_y101 wag_122)) := ((congrArg (fun z => fI z 18) e_122).trans rfl).symm.trans oo_y120
          subst hof_123
          refine aw_iconst (v := 1) dX12_readsCompared_97 (by decide) ?_
          refine aw_zreti dX12_readsCompared_98 rfl (by first | exact Or.inl rfl | exact Or.inr rfl | assumption) (Nat.le_of_ble_eq_true rfl) (Nat.le_of_ble_eq_true rfl) ?_
          exact ⟨⟨(by first | exact Or.inl rfl | exact Or.inr rfl | assumption), Or.inr ⟨rfl, ⟨sd_y120, wa_y101, pl0_122, coy_122, wag_122, dp_y120, ⟨xg_x121, xs_x121, xw_x121, (FG.of e_122 rfl rfl), (FG.of e_122 rfl (by omega : le0_122 = ln)), (FG.of e_122 rfl rfl), (FG.of e_122 rfl rfl), hP_x121, ⟨by omega, by omega, by omega, by omega⟩, xa_x121, xb_x121, xd_x121, xe_x121, (FG.of e_122 rfl (by omega : say_122 = sm)), by omega⟩, by omega, by omega, agr sa_y13 sa_y101 (by omega), (fun k hk => (((qs_y120 k hk).trans (pk_un (by omega))).trans (ss_y101 k hk)).trans (ss_y13 k hk)), by omega, by omega, (((congrArg (fun z => fI z 18) e_122).trans rfl)).trans (congrArg nI (by omega)), o6_y120, (fun o q => T_cmp n33 n40 (sr_y13 _ (O_cmp so_y13 (cmr_t (Or.inr (Or.inl (hd_is sb_x14ln rfl h_25 c_30)))) (sr_y101 _ (O_r so_y101 (by rw [hfl9]; exact er_y120 o (by rw [qp_y120] at q; exact q))))))), qe_y120⟩⟩⟩, rfl, j_116⟩
        · skip
          refine aw_iconst (v := 0) dX12_readsCompared_85 (by decide) ?_
          refine aw_zreti dX12_readsCompared_86 rfl (by first | exact Or.inl rfl | exact Or.inr rfl | assumption) (Nat.le_of_ble_eq_true rfl) (Nat.le_of_ble_eq_true rfl) ?_
          exact ⟨⟨(by first | exact Or.inl rfl | exact Or.inr rfl | assumption), Or.inl ⟨rfl, (Exists.imp (fun f z => ⟨z.1, T_cmp n33 n40 (sr_y13 _ (O_cmp so_y13 (cmr_t (Or.inr (Or.inl (hd_is sb_x14ln rfl h_25 c_30)))) z.2))⟩) ((h_93.resolve_right (fun z => absurd (z.1.symm.trans c_100) (by decide))).2))⟩⟩, rfl, j_95⟩
    · skip
      have hlc_23 := here_lt h_18 c_23 (by decide)
      refine aw_bipush (v := 7) dX12_readsCompared_18 (by decide) ?_
      refine aw_goto (tgt := 52) dX12_readsCompared_20 (by decide) ?_
      refine aw_istore_n (ls' := [some (.ref (b + 100)), some (.int 7)]) dX12_readsCompared_52 (Nat.le_of_ble_eq_true rfl) rfl ?_
      refine aw_iload_n dX12_readsCompared_53 rfl ?_
      refine aw_iconst (v := (-1)) dX12_readsCompared_54 (by decide) ?_
      refine aw_icmp_ne (tgt := 68) dX12_readsCompared_55 (by decide) (fun c_124 => ?_) (fun c_124 => ?_)
      rotate_left
      · exact absurd c_124 (by decide)
      refine aw_aload_n dX12_readsCompared_68 rfl ?_
      refine aw_aload_n dX12_readsCompared_69 rfl ?_
      refine aw_get dX12_readsCompared_70 fl_X12_159 e_15 (by omega) rfl ?_
      refine aw_iconst (v := 1) dX12_readsCompared_73 (by decide) ?_
      refine aw_iadd dX12_readsCompared_74 ?_
      refine aw_eqi (y := nI (pl0_15 + 1)) (nI_add _ _) ?_
      refine aw_put dX12_readsCompared_75 fp_X12_159 e_15 (by omega) rfl rfl (Nat.le_of_ble_eq_true rfl) rfl ?_
      refine aw_upR j_7 cm_100 ⟨_, _, _, _, _, _, _, _, _, _, _, _, tad_15, (pl0_15 + 1), le0_15, nu0_15, coy_15, wag_15, say_15, rfl, by omega, by omega, by omega, by omega, by omega, by omega, by omega⟩ (by decide) (WO (s := 14) (x := .int (nI (pl0_15 + 1))) e_15 rfl (LMs (LMs LM0)) (by decide) (by decide) (by decide) (Or.inl (by decide))) (fun V_125 j_125 k_125 e_125 => ?_)
      have hb2 : 10 ≤ opOf (wa_y13 (wag_15 - 1)) := by rw [show wag_15 = wag_2 by omega, sa_y13 (wag_2 - 1) (by omega)]; exact hbt
      refine aw_aload_n dX12_readsCompared_78 rfl ?_
      refine aw_callVi (J' := jX12_readsSum) (As := []) (st := []) dX12_readsCompared_79 tb_1228 ok_X12_readsSum ⟨_, e_125⟩ (by omega) rfl rfl (r_readsSum3 l D b N V_125 hN cl j_125.1 g sd_y13 wa_y13 (pl0_15 + 1) ln coy_15 wag_15 sg dp_y13 sl sf sh st sm (sk + 1) ⟨((k_125 _ (by decide)).trans xg_x14), ((k_125 _ (by decide)).trans xs_x14), ((k_125 _ (by decide)).trans xw_x14), (FG.of e_125 rfl rfl), (FG.of e_125 rfl (by omega : le0_15 = ln)), (FG.of e_125 rfl rfl), (FG.of e_125 rfl rfl), hP_x14, ⟨by omega, by omega, by omega, by omega⟩, ((k_125 _ (by decide)).trans xa_x14), ((k_125 _ (by decide)).trans xb_x14), ((k_125 _ (by decide)).trans xd_x14), ((k_125 _ (by decide)).trans xe_x14), (FG.of e_125 rfl (by omega : say_15 = sm)), by omega⟩ (2 :: (fl wa wag_2)) (((congrArg (fun z => fI z 18) e_125).trans rfl).trans (congrArg nI ((dpt_1 rfl).trans (dpt_2 rfl).symm))) (by have h9 : (dpt (1 :: (fl wa wag_2))) = (dpt (2 :: (fl wa wag_2))) := ((dpt_1 rfl).trans (dpt_2 rfl).symm); omega) (Or.inr hb2)) rfl (Nat.le_of_ble_eq_true rfl) ⟨Nat.le_of_ble_eq_true rfl, Nat.le_of_ble_eq_true rfl, Nat.le_of_ble_eq_true rfl, Nat.le_of_ble_eq_true rfl⟩ (fun r_131 N_132 V_130 q_133 => ?_)
      obtain ⟨⟨z_128, h_127⟩, rfl, q_126⟩ := q_133
      have j_129 := JR.trans j_125 (JR.weak q_126 (Sub.cons LM0 (by decide) (by decide) (by decide) (Or.inl rfl) (Sub.cons (LMs LM0) (by decide) (by decide) (by decide) (Or.inr ⟨by decide, by decide⟩) (Sub.cons (LMs (LMs LM0)) (by decide) (by decide) (by decide) (Or.inr ⟨by decide, by decide⟩) (Sub.cons (LMs (LMs (LMs LM0))) (by decide) (by decide) (by decide) (Or.inr ⟨by decide, by decide⟩) (Sub.cons (LMs (LMs (LMs (LMs LM0)))) (by decide) (by decide) (by decide) (Or.inr ⟨by decide, by decide⟩) (Sub.cons (LMs (LMs (LMs (LMs (LMs LM0))))) (by decide) (by decide) (by decide) (Or.inr ⟨by decide, by decide⟩) (Sub.cons (LMs (LMs (LMs (LMs (LMs (LMs LM0)))))) (by decide) (by decide) (by decide) (Or.inr ⟨by decide, by decide⟩) Sub.nil))))))))
      refine aw_if_ne (tgt := 87) dX12_readsCompared_82 (by decide) (fun c_134 => ?_) (fun c_134 => ?_)
      · skip
        obtain ⟨sd_y135, wa_y135, pl_y135, cm_y135, wt_y135, dp_y135, hX_y135, sw_y135, sa_y135, ss_y135, sd9_y135, sp_y135, oo_y135, sr_y135, so_y135⟩ := ((h_127.imp And.left And.right).resolve_left c_134)
        obtain ⟨xg_x136, xs_x136, xw_x136, xp_x136, xl_x136, xc_x136, xt_x136, hP_x136, ⟨hB1_x136, hB2_x136, hB3_x136, hB4_x136⟩, xa_x136, xb_x136, xd_x136, xe_x136, xm_x136, hB5_x136⟩ := hX_y135
        obtain ⟨ftoldPeople_137, ftoldDoors_137, fwasDoors_137, ffault_137, fopen_137, flines_137, fmeantSet_137, fopenedNow_137, fvainNow_137, flowNow_137, fhighNow_137, fisKept_137, tad_137, pl0_137, le0_137, nu0_137, coy_137, wag_137, say_137, e_137, hntad_137, hnpl0_137, hnle0_137, hnnu0_137, hncoy_137, hnwag_137, hnsay_137⟩ := JR.get j_129 cm_100
        clear hntad_15 hnpl0_15 hnle0_15 hnnu0_15 hncoy_15 hnwag_15 hnsay_15
        have sb_x136pl := FG.eq xp_x136 e_137 rfl (by omega) (by omega)
        subst sb_x136pl
        have sb_x136cm := FG.eq xc_x136 e_137 rfl (by omega) (by omega)
        subst sb_x136cm
        have sb_x136wt := FG.eq xt_x136 e_137 rfl (by omega) (by omega)
        subst sb_x136wt
        have sb_x136ln := FG.eq xl_x136 e_137 rfl (by omega) (by omega)
        have hsg_x136 := hP_x136.2.1
        have sb_x136sm := FG.eq xm_x136 e_137 rfl (by omega) (by omega)
        have hof_138 : fopen_137 = nI (dpt (2 :: (fl wa wag_2))) := ((congrArg (fun z => fI z 18) e_137).trans rfl).symm.trans oo_y135
        subst hof_138
        refine aw_aload_n dX12_readsCompared_87 rfl ?_
        refine aw_iload_n dX12_readsCompared_88 rfl ?_
        refine aw_iconst (v := 0) dX12_readsCompared_89 (by decide) ?_
        refine aw_callVv (J' := jX12_notes) (As := [.int 7, .int 0]) (st := []) dX12_readsCompared_90 tb_1249 ok_X12_notes ⟨_, e_137⟩ (by omega) rfl rfl (r_notes l D b N V_130 hN cl j_129.1 7 0 7 0 (by omega) (by omega) ftoldPeople_137 ftoldDoors_137 fwasDoors_137 ffault_137 (nI (dpt (2 :: (fl wa wag_2)))) flines_137 fmeantSet_137 fopenedNow_137 fvainNow_137 flowNow_137 fhighNow_137 fisKept_137 tad_137 pl0_137 le0_137 nu0_137 coy_137 wag_137 say_137 ⟨by omega, by omega, by omega, by omega, by omega, by omega, by omega⟩ e_137 g sd_y135 wa_y135 xg_x136 xs_x136 xw_x136 (by omega)) rfl (Nat.le_of_ble_eq_true rfl) ⟨Nat.le_of_ble_eq_true rfl, Nat.le_of_ble_eq_true rfl, Nat.le_of_ble_eq_true rfl, Nat.le_of_ble_eq_true rfl⟩ (fun  N_146 V_142 q_147 => ?_)
        obtain ⟨h_140, rfl, q_139⟩ := q_147
        have j_141 := JR.trans j_129 (JR.weak q_139 (Sub.cons LM0 (by decide) (by decide) (by decide) (Or.inl rfl) (Sub.cons (LMs LM0) (by decide) (by decide) (by decide) (Or.inr ⟨by decide, by decide⟩) Sub.nil)))
        obtain ⟨hN_143, hN_144, hN_145⟩ := h_140
        have hQ := PS.emit hP_x136 7 0 1 (by omega) (by omega) (by omega) (by omega) (by omega) (by omega) (by omega)
        have hds : dset dp_y135 (coy_137 + 1) 1 (coy_137 + 1) = 1 := dset_s
        have hfl9 : (fl wa wag_2) = (fl wa_y135 wag_137) := by rw [show wag_137 = wag_2 by omega]; exact (fl_congr (agr sa_y13 sa_y135 (by omega))).symm
        refine aw_aload_n dX12_readsCompared_93 rfl ?_
        refine aw_callVv (J' := jX12_endsPiece) (As := []) (st := []) dX12_readsCompared_94 tb_1279 ok_X12_endsPiece ⟨_, hN_143⟩ (by omega) rfl rfl (r_endsPiece3 l D b N V_142 hN cl j_141.1 g (upd sd_y135 coy_137 (nI (1048576 * 7 + 0))) wa_y135 pl0_137 ln (coy_137 + 1) wag_137 sg (dset dp_y135 (coy_137 + 1) 1) sl sf sh st sm sk ⟨((hN_145 _ (by decide) (by decide)).trans xg_x136), hN_144, ((hN_145 _ (by decide) (by decide)).trans xw_x136), (FG.of hN_143 rfl rfl), (FG.of hN_143 rfl (by omega : le0_137 = ln)), (FG.of hN_143 rfl rfl), (FG.of hN_143 rfl rfl), hQ, ⟨by omega, by omega, by omega, by omega⟩, ((hN_145 _ (by decide) (by decide)).trans xa_x136), ((hN_145 _ (by decide) (by decide)).trans xb_x136), ((hN_145 _ (by decide) (by decide)).trans xd_x136), ((hN_145 _ (by decide) (by decide)).trans xe_x136), (FG.of hN_143 rfl (by omega : say_137 = sm)), by omega⟩  (((congrArg (fun z => fI z 18) hN_143).trans rfl).trans (congrArg nI ((dpt_2 rfl).trans (congrArg dpt hfl9)))) (by have h9 : (dpt (2 :: (fl wa wag_2))) = (dpt (fl wa_y135 wag_137)) := ((dpt_2 rfl).trans (congrArg dpt hfl9)); omega) (by omega) (by rw [sa_y135 0 (by omega), sa_y13 0 (by omega)]; exact h13) (by omega)) rfl (Nat.le_of_ble_eq_true rfl) ⟨Nat.le_of_ble_eq_true rfl, Nat.le_of_ble_eq_true rfl, Nat.le_of_ble_eq_true rfl, Nat.le_of_ble_eq_true rfl⟩ (fun  N_152 V_151 q_153 => ?_)
        obtain ⟨h_149, rfl, q_148⟩ := q_153
        have j_150 := JR.trans j_141 (JR.weak q_148 (Sub.cons LM0 (by decide) (by decide) (by decide) (Or.inl rfl) (Sub.cons (LMs LM0) (by decide) (by decide) (by decide) (Or.inr ⟨by decide, by decide⟩) (Sub.cons (LMs (LMs (LMs (LMs (LMs (LMs LM0)))))) (by decide) (by decide) (by decide) (Or.inr ⟨by decide, by decide⟩) (Sub.cons (LMs (LMs (LMs (LMs (LMs LM0))))) (by decide) (by decide) (by decide) (Or.inr ⟨by decide, by decide⟩) Sub.nil)))))
        obtain ⟨sd_y154, pl_y154, cm_y154, wt_y154, dp_y154, hX_y154, qp_y154, qw_y154, q1_y154, qs_y154, qd_y154, qe_y154, oo_y154, o6_y154, er_y154⟩ := h_149
        obtain ⟨xg_x155, xs_x155, xw_x155, xp_x155, xl_x155, xc_x155, xt_x155, hP_x155, ⟨hB1_x155, hB2_x155, hB3_x155, hB4_x155⟩, xa_x155, xb_x155, xd_x155, xe_x155, xm_x155, hB5_x155⟩ := hX_y154
        obtain ⟨ftoldPeople_156, ftoldDoors_156, fwasDoors_156, ffault_156, fopen_156, flines_156, fmeantSet_156, fopenedNow_156, fvainNow_156, flowNow_156, fhighNow_156, fisKept_156, tad_156, pl0_156, le0_156, nu0_156, coy_156, wag_156, say_156, e_156, hntad_156, hnpl0_156, hnle0_156, hnnu0_156, hncoy_156, hnwag_156, hnsay_156⟩ := JR.get j_150 cm_100
        clear hntad_137 hnpl0_137 hnle0_137 hnnu0_137 hncoy_137 hnwag_137 hnsay_137
        have sb_x155pl := FG.eq xp_x155 e_156 rfl (by omega) (by omega)
        subst sb_x155pl
        have sb_x155cm := FG.eq xc_x155 e_156 rfl (by omega) (by omega)
        subst sb_x155cm
        have sb_x155wt := FG.eq xt_x155 e_156 rfl (by omega) (by omega)
        subst sb_x155wt
        have sb_x155ln := FG.eq xl_x155 e_156 rfl (by omega) (by omega)
        have hsg_x155 := hP_x155.2.1
        have sb_x155sm := FG.eq xm_x155 e_156 rfl (by omega) (by omega)
        have hof_157 : fopen_156 = nI (dpt (fl wa_y135 wag_156)) := ((congrArg (fun z => fI z 18) e_156).trans rfl).symm.trans oo_y154
        subst hof_157
        refine aw_iconst (v := 1) dX12_readsCompared_97 (by decide) ?_
        refine aw_zreti dX12_readsCompared_98 rfl (by first | exact Or.inl rfl | exact Or.inr rfl | assumption) (Nat.le_of_ble_eq_true rfl) (Nat.le_of_ble_eq_true rfl) ?_
        exact ⟨⟨(by first | exact Or.inl rfl | exact Or.inr rfl | assumption), Or.inr ⟨rfl, ⟨sd_y154, wa_y135, pl0_156, coy_156, wag_156, dp_y154, ⟨xg_x155, xs_x155, xw_x155, (FG.of e_156 rfl rfl), (FG.of e_156 rfl (by omega : le0_156 = ln)), (FG.of e_156 rfl rfl), (FG.of e_156 rfl rfl), hP_x155, ⟨by omega, by omega, by omega, by omega⟩, xa_x155, xb_x155, xd_x155, xe_x155, (FG.of e_156 rfl (by omega : say_156 = sm)), by omega⟩, by omega, by omega, agr sa_y13 sa_y135 (by omega), (fun k hk => (((qs_y154 k hk).trans (pk_un (by omega))).trans (ss_y135 k hk)).trans (ss_y13 k hk)), by omega, by omega, (((congrArg (fun z => fI z 18) e_156).trans rfl)).trans (congrArg nI (by omega)), o6_y154, (fun o q => T_cmp n33 n40 (sr_y13 _ (O_cmp so_y13 (cmr_t (Or.inl (hd_is sb_x14ln rfl h_18 c_23))) (sr_y135 _ (O_r so_y135 (by rw [hfl9]; exact er_y154 o (by rw [qp_y154] at q; exact q))))))), qe_y154⟩⟩⟩, rfl, j_150⟩
      · skip
        refine aw_iconst (v := 0) dX12_readsCompared_85 (by decide) ?_
        refine aw_zreti dX12_readsCompared_86 rfl (by first | exact Or.inl rfl | exact Or.inr rfl | assumption) (Nat.le_of_ble_eq_true rfl) (Nat.le_of_ble_eq_true rfl) ?_
        exact ⟨⟨(by first | exact Or.inl rfl | exact Or.inr rfl | assumption), Or.inl ⟨rfl, (Exists.imp (fun f z => ⟨z.1, T_cmp n33 n40 (sr_y13 _ (O_cmp so_y13 (cmr_t (Or.inl (hd_is sb_x14ln rfl h_18 c_23))) z.2))⟩) ((h_127.resolve_right (fun z => absurd (z.1.symm.trans c_134) (by decide))).2))⟩⟩, rfl, j_129⟩
  · skip
    refine aw_iconst (v := 0) dX12_readsCompared_7 (by decide) ?_
    refine aw_zreti dX12_readsCompared_8 rfl (by first | exact Or.inl rfl | exact Or.inr rfl | assumption) (Nat.le_of_ble_eq_true rfl) (Nat.le_of_ble_eq_true rfl) ?_
    exact ⟨⟨(by first | exact Or.inl rfl | exact Or.inr rfl | assumption), Or.inl ⟨rfl, (Exists.imp (fun f z => ⟨z.1, T_cmp n33 n40 z.2⟩) ((h_5.resolve_right (fun z => absurd (z.1.symm.trans c_12) (by decide))).2))⟩⟩, rfl, j_7⟩

