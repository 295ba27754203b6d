set_option maxHeartbeats 4000000 in
set_option maxRecDepth 100000 in
theorem r_closesSums (l : Launch) (D : va_G) (b : Nat) (N : Nat) (V : Wd) (hN : 133 ≤ N) (cl : Nat) (hW : CR D b cl V) (n0 : Int32) (bs d0 : Nat) (g sd wa : Nat → Int32) (pl ln cm wt sg : Nat) (dep : Nat → Nat) (sl sf sh st : Nat → Int32) (sm sk : Nat) (hX : PX D b V g pl ln cm wt sg sd wa dep sl sf sh st sm sk) (hbw : bs ≤ wt) (hdp : dep cm + wgt wa bs = d0 + wgt wa wt + 1) (hbt : bs = 0 ∨ 10 ≤ opOf (wa (bs - 1))) : MV l D b 1 jX12_closesSums [.ref (b + 100), .int n0] N V 0 0 (fun N9 V9 => (∃ (sd9 : Nat → Int32) (pl9 cm9 wt9 : Nat) (dep9 : Nat → Nat), PX D b V9 g pl9 ln cm9 wt9 sg sd9 wa dep9 sl sf sh st sm sk ∧ pl9 = pl ∧ bs ≤ wt9 ∧ wt9 ≤ wt ∧ (∀ k, k < sg → sd9 k = sd k) ∧ dep9 cm9 + wgt wa bs = d0 + wgt wa wt9 + 1 ∧ (∀ i, wt9 ≤ i → i < wt → opOf (wa i) ≤ 6) ∧ (wt9 = 0 ∨ opOf (wa (wt9 - 1)) < 4 ∨ 6 < opOf (wa (wt9 - 1))) ∧ (n0 = 0 ∨ wt9 = 0 ∨ opOf (wa (wt9 - 1)) < 2 ∨ 6 < opOf (wa (wt9 - 1)))) ∧ N = N9 ∧ JR D b N cl [(111, 111, 0, 1000000), (100, 100, 19, 19), (100, 100, 20, 20)] V V9) := by
  have hJ0 : JR D b N cl [(111, 111, 0, 1000000), (100, 100, 19, 19), (100, 100, 20, 20)] V V := JR.rf hW
  refine mw_of (by decide) (by simp [Value.category]) (Nat.le_of_ble_eq_true rfl) ?_
  show AW l D b jX12_closesSums (fx_rm 1 0 0) none (fx_MQ D b 0 0 (fx_qv (fun N9 V9 => (∃ (sd9 : Nat → Int32) (pl9 cm9 wt9 : Nat) (dep9 : Nat → Nat), PX D b V9 g pl9 ln cm9 wt9 sg sd9 wa dep9 sl sf sh st sm sk ∧ pl9 = pl ∧ bs ≤ wt9 ∧ wt9 ≤ wt ∧ (∀ k, k < sg → sd9 k = sd k) ∧ dep9 cm9 + wgt wa bs = d0 + wgt wa wt9 + 1 ∧ (∀ i, wt9 ≤ i → i < wt → opOf (wa i) ≤ 6) ∧ (wt9 = 0 ∨ opOf (wa (wt9 - 1)) < 4 ∨ 6 < opOf (wa (wt9 - 1))) ∧ (n0 = 0 ∨ wt9 = 0 ∨ opOf (wa (wt9 - 1)) < 2 ∨ 6 < opOf (wa (wt9 - 1)))) ∧ N = N9 ∧ JR D b N cl [(111, 111, 0, 1000000), (100, 100, 19, 19), (100, 100, 20, 20)] V V9))) 0 [some (.ref (b + 100)), some (.int n0)] [] N V 0 0
  obtain ⟨xg_x1, xs_x1, xw_x1, xp_x1, xl_x1, xc_x1, xt_x1, hP_x1, ⟨hB1_x1, hB2_x1, hB3_x1, hB4_x1⟩, xa_x1, xb_x1, xd_x1, xe_x1, xm_x1, hB5_x1⟩ := id hX
  obtain ⟨ftoldPeople_2, ftoldDoors_2, fwasDoors_2, ffault_2, fopen_2, flines_2, fmeantSet_2, fopenedNow_2, fvainNow_2, flowNow_2, fhighNow_2, fisKept_2, tad_2, pl0_2, le0_2, nu0_2, coy_2, wag_2, say_2, e_2, hntad_2, hnpl0_2, hnle0_2, hnnu0_2, hncoy_2, hnwag_2, hnsay_2⟩ := JR.get hJ0 cm_100
  have sb_x1pl := FG.eq xp_x1 e_2 rfl (by omega) (by omega)
  subst sb_x1pl
  have sb_x1cm := FG.eq xc_x1 e_2 rfl (by omega) (by omega)
  subst sb_x1cm
  have sb_x1wt := FG.eq xt_x1 e_2 rfl (by omega) (by omega)
  subst sb_x1wt
  have sb_x1ln := FG.eq xl_x1 e_2 rfl (by omega) (by omega)
  have hsg_x1 := hP_x1.2.1
  have sb_x1sm := FG.eq xm_x1 e_2 rfl (by omega) (by omega)
  have ml_0_3 : ∀ (m : Nat) (p0 : Nat) (c0 : Nat) (w0 : Nat) (sd0 : Nat → Int32) (dp0 : Nat → Nat) (V0 : Wd), m = w0 → (JR D b N cl [(111, 111, 0, 1000000), (100, 100, 19, 19), (100, 100, 20, 20)] V V0) → (PX D b V0 g p0 ln c0 w0 sg sd0 wa dp0 sl sf sh st sm sk) → (p0 = pl0_2) → (bs ≤ w0) → (w0 ≤ wag_2) → (∀ k, k < sg → sd0 k = sd k) → (dp0 c0 + wgt wa bs = d0 + wgt wa w0 + 1) → (∀ i, w0 ≤ i → i < wag_2 → opOf (wa i) ≤ 6) → AW l D b jX12_closesSums (fx_rm 1 0 0) none (fx_MQ D b 0 0 (fx_qv (fun N9 V9 => (∃ (sd9 : Nat → Int32) (pl9 cm9 wt9 : Nat) (dep9 : Nat → Nat), PX D b V9 g pl9 ln cm9 wt9 sg sd9 wa dep9 sl sf sh st sm sk ∧ pl9 = pl0_2 ∧ bs ≤ wt9 ∧ wt9 ≤ wag_2 ∧ (∀ k, k < sg → sd9 k = sd k) ∧ dep9 cm9 + wgt wa bs = d0 + wgt wa wt9 + 1 ∧ (∀ i, wt9 ≤ i → i < wag_2 → opOf (wa i) ≤ 6) ∧ (wt9 = 0 ∨ opOf (wa (wt9 - 1)) < 4 ∨ 6 < opOf (wa (wt9 - 1))) ∧ (n0 = 0 ∨ wt9 = 0 ∨ opOf (wa (wt9 - 1)) < 2 ∨ 6 < opOf (wa (wt9 - 1)))) ∧ N = N9 ∧ JR D b N cl [(111, 111, 0, 1000000), (100, 100, 19, 19), (100, 100, 20, 20)] V V9))) 0 [some (.ref (b + 100)), some (.int n0)] [] N V0 0 0 := by
    intro m; refine Nat.strongRecOn m ?_
    intro m mih_0_3 p0 c0 w0 sd0 dp0 V0 hm0 i0_0 i0_1 i0_2 i0_3 i0_4 i0_5 i0_6 i0_7
    obtain ⟨xg_x4, xs_x4, xw_x4, xp_x4, xl_x4, xc_x4, xt_x4, hP_x4, ⟨hB1_x4, hB2_x4, hB3_x4, hB4_x4⟩, xa_x4, xb_x4, xd_x4, xe_x4, xm_x4, hB5_x4⟩ := i0_1
    obtain ⟨ftoldPeople_5, ftoldDoors_5, fwasDoors_5, ffault_5, fopen_5, flines_5, fmeantSet_5, fopenedNow_5, fvainNow_5, flowNow_5, fhighNow_5, fisKept_5, tad_5, pl0_5, le0_5, nu0_5, coy_5, wag_5, say_5, e_5, hntad_5, hnpl0_5, hnle0_5, hnnu0_5, hncoy_5, hnwag_5, hnsay_5⟩ := JR.get i0_0 cm_100
    clear hntad_2 hnpl0_2 hnle0_2 hnnu0_2 hncoy_2 hnwag_2 hnsay_2
    have sb_x4pl := FG.eq xp_x4 e_5 rfl (by omega) (by omega)
    subst sb_x4pl
    have sb_x4cm := FG.eq xc_x4 e_5 rfl (by omega) (by omega)
    subst sb_x4cm
    have sb_x4wt := FG.eq xt_x4 e_5 rfl (by omega) (by omega)
    subst sb_x4wt
    have sb_x4ln := FG.eq xl_x4 e_5 rfl (by omega) (by omega)
    have hsg_x4 := hP_x4.2.1
    have sb_x4sm := FG.eq xm_x4 e_5 rfl (by omega) (by omega)
    refine aw_aload_n dX12_closesSums_0 rfl ?_
    refine aw_callVi (J' := jX12_waitTop) (As := []) (st := []) dX12_closesSums_1 tb_1263 ok_X12_waitTop ⟨_, e_5⟩ (by omega) rfl rfl (r_waitTop l D b N V0 hN cl i0_0.1 ftoldPeople_5 ftoldDoors_5 fwasDoors_5 ffault_5 fopen_5 flines_5 fmeantSet_5 fopenedNow_5 fvainNow_5 flowNow_5 fhighNow_5 fisKept_5 tad_5 pl0_5 le0_5 nu0_5 coy_5 wag_5 say_5 ⟨by omega, by omega, by omega, by omega, by omega, by omega, by omega⟩ e_5 wa xw_x4 (fun q => by obtain ⟨o, a, e1, e2, e3, e4, _⟩ := PS.top hP_x4 q; exact ⟨o, a, e1, e2, e3, e4⟩)) rfl (Nat.le_of_ble_eq_true rfl) ⟨Nat.le_of_ble_eq_true rfl, Nat.le_of_ble_eq_true rfl, Nat.le_of_ble_eq_true rfl, Nat.le_of_ble_eq_true rfl⟩ (fun r_8 N_9 V_10 q_11 => ?_)
    obtain ⟨h_7, rfl, rfl⟩ := q_11
    rcases h_7 with ⟨g_12, e_13⟩ | ⟨g_14, e_15⟩
    · skip
      refine aw_eqi (y := (-1)) e_13 ?_
      refine aw_iconst (v := 4) dX12_closesSums_4 (by decide) ?_
      refine aw_icmp_lt (tgt := 17) dX12_closesSums_5 (by decide) (fun c_16 => ?_) (fun c_16 => ?_)
      rotate_left
      · exact absurd (by decide) c_16
      refine aw_iload_n dX12_closesSums_17 rfl ?_
      refine aw_if_eq (tgt := 59) dX12_closesSums_18 (by decide) (fun c_17 => ?_) (fun c_17 => ?_)
      · skip
        refine aw_vreti dX12_closesSums_59 rfl (Nat.le_of_ble_eq_true rfl) (Nat.le_of_ble_eq_true rfl) ?_
        exact ⟨⟨sd0, pl0_5, coy_5, wag_5, dp0, ⟨xg_x4, xs_x4, xw_x4, (FG.of e_5 rfl rfl), (FG.of e_5 rfl (by omega : le0_5 = ln)), (FG.of e_5 rfl rfl), (FG.of e_5 rfl rfl), hP_x4, ⟨by omega, by omega, by omega, by omega⟩, xa_x4, xb_x4, xd_x4, xe_x4, (FG.of e_5 rfl (by omega : say_5 = sm)), by omega⟩, by omega, by omega, by omega, i0_5, by omega, i0_7, by omega, (by first | exact Or.inl c_17 | omega)⟩, rfl, i0_0⟩
      · skip
        refine aw_aload_n dX12_closesSums_21 rfl ?_
        refine aw_callVi (J' := jX12_waitTop) (As := []) (st := []) dX12_closesSums_22 tb_1263 ok_X12_waitTop ⟨_, e_5⟩ (by omega) rfl rfl (r_waitTop l D b N V0 hN cl i0_0.1 ftoldPeople_5 ftoldDoors_5 fwasDoors_5 ffault_5 fopen_5 flines_5 fmeantSet_5 fopenedNow_5 fvainNow_5 flowNow_5 fhighNow_5 fisKept_5 tad_5 pl0_5 le0_5 nu0_5 coy_5 wag_5 say_5 ⟨by omega, by omega, by omega, by omega, by omega, by omega, by omega⟩ e_5 wa xw_x4 (fun q => by obtain ⟨o, a, e1, e2, e3, e4, _⟩ := PS.top hP_x4 q; exact ⟨o, a, e1, e2, e3, e4⟩)) rfl (Nat.le_of_ble_eq_true rfl) ⟨Nat.le_of_ble_eq_true rfl, Nat.le_of_ble_eq_true rfl, Nat.le_of_ble_eq_true rfl, Nat.le_of_ble_eq_true rfl⟩ (fun r_20 N_21 V_22 q_23 => ?_)
        obtain ⟨h_19, rfl, rfl⟩ := q_23
        refine aw_eqi (y := -1) ((h_19.resolve_right (fun z => by omega)).2) ?_
        refine aw_iconst (v := 2) dX12_closesSums_25 (by decide) ?_
        refine aw_icmp_eq (tgt := 37) dX12_closesSums_26 (by decide) (fun c_24 => ?_) (fun c_24 => ?_)
        · exact absurd c_24 (by decide)
        refine aw_aload_n dX12_closesSums_29 rfl ?_
        refine aw_callVi (J' := jX12_waitTop) (As := []) (st := []) dX12_closesSums_30 tb_1263 ok_X12_waitTop ⟨_, e_5⟩ (by omega) rfl rfl (r_waitTop l D b N V0 hN cl i0_0.1 ftoldPeople_5 ftoldDoors_5 fwasDoors_5 ffault_5 fopen_5 flines_5 fmeantSet_5 fopenedNow_5 fvainNow_5 flowNow_5 fhighNow_5 fisKept_5 tad_5 pl0_5 le0_5 nu0_5 coy_5 wag_5 say_5 ⟨by omega, by omega, by omega, by omega, by omega, by omega, by omega⟩ e_5 wa xw_x4 (fun q => by obtain ⟨o, a, e1, e2, e3, e4, _⟩ := PS.top hP_x4 q; exact ⟨o, a, e1, e2, e3, e4⟩)) rfl (Nat.le_of_ble_eq_true rfl) ⟨Nat.le_of_ble_eq_true rfl, Nat.le_of_ble_eq_true rfl, Nat.le_of_ble_eq_true rfl, Nat.le_of_ble_eq_true rfl⟩ (fun r_27 N_28 V_29 q_30 => ?_)
        obtain ⟨h_26, rfl, rfl⟩ := q_30
        refine aw_eqi (y := -1) ((h_26.resolve_right (fun z => by omega)).2) ?_
        refine aw_iconst (v := 3) dX12_closesSums_33 (by decide) ?_
        refine aw_icmp_ne (tgt := 59) dX12_closesSums_34 (by decide) (fun c_31 => ?_) (fun c_31 => ?_)
        rotate_left
        · exact absurd c_31 (by decide)
        refine aw_vreti dX12_closesSums_59 rfl (Nat.le_of_ble_eq_true rfl) (Nat.le_of_ble_eq_true rfl) ?_
        exact ⟨⟨sd0, pl0_5, coy_5, wag_5, dp0, ⟨xg_x4, xs_x4, xw_x4, (FG.of e_5 rfl rfl), (FG.of e_5 rfl (by omega : le0_5 = ln)), (FG.of e_5 rfl rfl), (FG.of e_5 rfl rfl), hP_x4, ⟨by omega, by omega, by omega, by omega⟩, xa_x4, xb_x4, xd_x4, xe_x4, (FG.of e_5 rfl (by omega : say_5 = sm)), by omega⟩, by omega, by omega, by omega, i0_5, by omega, i0_7, by omega, (by first | exact Or.inl c_17 | omega)⟩, rfl, i0_0⟩
    · skip
      refine aw_eqi (y := (nI (opOf (wa (wag_5 - 1))))) e_15 ?_
      obtain ⟨o_u_32, a_u_32, he_u_32, ha_u_32, h2_u_32, h14_u_32, hj_u_32⟩ := PS.top hP_x4 g_14
      have ho_u_32 : opOf (wa (wag_5 - 1)) = o_u_32 := by rw [he_u_32]; exact opOf_nI (by omega) (by omega)
      refine aw_eqi (y := nI o_u_32) (by rw [ho_u_32]) ?_
      refine aw_iconst (v := 4) dX12_closesSums_4 (by decide) ?_
      refine aw_icmp_lt (tgt := 17) dX12_closesSums_5 (by decide) (fun c_33 => ?_) (fun c_33 => ?_)
      · skip
        have nc_33 : o_u_32 < 4 := (nI_ltI (a := o_u_32) (b := 4) (by omega) (by omega)).mp c_33
        refine aw_iload_n dX12_closesSums_17 rfl ?_
        refine aw_if_eq (tgt := 59) dX12_closesSums_18 (by decide) (fun c_34 => ?_) (fun c_34 => ?_)
        · skip
          refine aw_vreti dX12_closesSums_59 rfl (Nat.le_of_ble_eq_true rfl) (Nat.le_of_ble_eq_true rfl) ?_
          exact ⟨⟨sd0, pl0_5, coy_5, wag_5, dp0, ⟨xg_x4, xs_x4, xw_x4, (FG.of e_5 rfl rfl), (FG.of e_5 rfl (by omega : le0_5 = ln)), (FG.of e_5 rfl rfl), (FG.of e_5 rfl rfl), hP_x4, ⟨by omega, by omega, by omega, by omega⟩, xa_x4, xb_x4, xd_x4, xe_x4, (FG.of e_5 rfl (by omega : say_5 = sm)), by omega⟩, by omega, by omega, by omega, i0_5, by omega, i0_7, by omega, (by first | exact Or.inl c_34 | omega)⟩, rfl, i0_0⟩
        · skip
          refine aw_aload_n dX12_closesSums_21 rfl ?_
          refine aw_callVi (J' := jX12_waitTop) (As := []) (st := []) dX12_closesSums_22 tb_1263 ok_X12_waitTop ⟨_, e_5⟩ (by omega) rfl rfl (r_waitTop l D b N V0 hN cl i0_0.1 ftoldPeople_5 ftoldDoors_5 fwasDoors_5 ffault_5 fopen_5 flines_5 fmeantSet_5 fopenedNow_5 fvainNow_5 flowNow_5 fhighNow_5 fisKept_5 tad_5 pl0_5 le0_5 nu0_5 coy_5 wag_5 say_5 ⟨by omega, by omega, by omega, by omega, by omega, by omega, by omega⟩ e_5 wa xw_x4 (fun q => by obtain ⟨o, a, e1, e2, e3, e4, _⟩ := PS.top hP_x4 q; exact ⟨o, a, e1, e2, e3, e4⟩)) rfl (Nat.le_of_ble_eq_true rfl) ⟨Nat.le_of_ble_eq_true rfl, Nat.le_of_ble_eq_true rfl, Nat.le_of_ble_eq_true rfl, Nat.le_of_ble_eq_true rfl⟩ (fun r_37 N_38 V_39 q_40 => ?_)
          obtain ⟨h_36, rfl, rfl⟩ := q_40
          refine aw_eqi (y := nI o_u_32) (((h_36.resolve_left (fun z => by omega)).2).trans (by rw [ho_u_32])) ?_
          refine aw_iconst (v := 2) dX12_closesSums_25 (by decide) ?_
          refine aw_icmp_eq (tgt := 37) dX12_closesSums_26 (by decide) (fun c_41 => ?_) (fun c_41 => ?_)
          · skip
            have nc_41 : o_u_32 = 2 := (nI_eq (a := o_u_32) (b := 2) (by omega) (by omega)).mp c_41
            refine aw_aload_n dX12_closesSums_37 rfl ?_
            refine aw_aload_n dX12_closesSums_38 rfl ?_
            refine aw_callVi (J' := jX12_waitTop) (As := []) (st := [.ref (b + 100)]) dX12_closesSums_39 tb_1263 ok_X12_waitTop ⟨_, e_5⟩ (by omega) rfl rfl (r_waitTop l D b N V0 hN cl i0_0.1 ftoldPeople_5 ftoldDoors_5 fwasDoors_5 ffault_5 fopen_5 flines_5 fmeantSet_5 fopenedNow_5 fvainNow_5 flowNow_5 fhighNow_5 fisKept_5 tad_5 pl0_5 le0_5 nu0_5 coy_5 wag_5 say_5 ⟨by omega, by omega, by omega, by omega, by omega, by omega, by omega⟩ e_5 wa xw_x4 (fun q => by obtain ⟨o, a, e1, e2, e3, e4, _⟩ := PS.top hP_x4 q; exact ⟨o, a, e1, e2, e3, e4⟩)) rfl (Nat.le_of_ble_eq_true rfl) ⟨Nat.le_of_ble_eq_true rfl, Nat.le_of_ble_eq_true rfl, Nat.le_of_ble_eq_true rfl, Nat.le_of_ble_eq_true rfl⟩ (fun r_44 N_45 V_46 q_47 => ?_)
            obtain ⟨h_43, rfl, rfl⟩ := q_47
            refine aw_eqi (y := nI o_u_32) (((h_43.resolve_left (fun z => by omega)).2).trans (by rw [ho_u_32])) ?_
            refine aw_iconst (v := 0) dX12_closesSums_42 (by decide) ?_
            refine aw_callVv (J' := jX12_notes) (As := [.int (nI o_u_32), .int 0]) (st := []) dX12_closesSums_43 tb_1249 ok_X12_notes ⟨_, e_5⟩ (by omega) rfl rfl (r_notes l D b N V0 hN cl i0_0.1 (nI o_u_32) 0 o_u_32 0 (by omega) (by omega) ftoldPeople_5 ftoldDoors_5 fwasDoors_5 ffault_5 fopen_5 flines_5 fmeantSet_5 fopenedNow_5 fvainNow_5 flowNow_5 fhighNow_5 fisKept_5 tad_5 pl0_5 le0_5 nu0_5 coy_5 wag_5 say_5 ⟨by omega, by omega, by omega, by omega, by omega, by omega, by omega⟩ e_5 g sd0 wa xg_x4 xs_x4 xw_x4 (by omega)) rfl (Nat.le_of_ble_eq_true rfl) ⟨Nat.le_of_ble_eq_true rfl, Nat.le_of_ble_eq_true rfl, Nat.le_of_ble_eq_true rfl, Nat.le_of_ble_eq_true rfl⟩ (fun  N_55 V_51 q_56 => ?_)
            obtain ⟨h_49, rfl, q_48⟩ := q_56
            have j_50 := JR.trans i0_0 (JR.weak q_48 (Sub.cons LM0 (by decide) (by decide) (by decide) (Or.inl rfl) (Sub.cons (LMs LM0) (by decide) (by decide) (by decide) (Or.inr ⟨by decide, by decide⟩) Sub.nil)))
            obtain ⟨hN_52, hN_53, hN_54⟩ := h_49
            have hbw2 : bs < wag_5 := by rcases Nat.lt_or_ge bs wag_5 with q | q; exact q; exact absurd hbt (by rw [show bs = wag_5 by omega, ho_u_32]; omega)
            have hpop := wgt_pop (wa := wa) (n := wag_5) (by omega)
            rw [ho_u_32, if_pos (by omega)] at hpop
            have hmn := wgt_mono (wa := wa) (m := bs) (n := wag_5 - 1) (by omega)
            have hQ := PS.emit hP_x4 o_u_32 0 (dp0 coy_5 - 1) (by omega) (by decide) (by omega) (by omega) (by omega) (by omega) (by omega)
            have hds : dset dp0 (coy_5 + 1) (dp0 coy_5 - 1) (coy_5 + 1) = dp0 coy_5 - 1 := dset_s
            refine aw_aload_n dX12_closesSums_46 rfl ?_
            refine aw_aload_n dX12_closesSums_47 rfl ?_
            refine aw_get dX12_closesSums_48 fl_X12_189 hN_52 (by omega) rfl ?_
            refine aw_iconst (v := 1) dX12_closesSums_51 (by decide) ?_
            refine aw_isub dX12_closesSums_52 ?_
            refine aw_eqi (y := (nI (wag_5 - 1))) (pk_sub (a := wag_5) (b := 1) (by omega)) ?_
            refine aw_put dX12_closesSums_53 fp_X12_189 hN_52 (by omega) rfl rfl (Nat.le_of_ble_eq_true rfl) rfl ?_
            refine aw_upR j_50 cm_100 ⟨_, _, _, _, _, _, _, _, _, _, _, _, tad_5, pl0_5, le0_5, nu0_5, (coy_5 + 1), (wag_5 - 1), say_5, rfl, by omega, by omega, by omega, by omega, by omega, by omega, by omega⟩ (by decide) (WO (s := 20) (x := .int (nI (wag_5 - 1))) hN_52 rfl (LMs (LMs LM0)) (by decide) (by decide) (by decide) (Or.inl (by decide))) (fun V_57 j_57 k_57 e_57 => ?_)
            have hR := PS.pop hQ (by omega) (by rw [ho_u_32]; omega)
            refine aw_goto (tgt := 0) dX12_closesSums_56 (by decide) ?_
            refine aw_le ?_ (mih_0_3 _ (by omega) pl0_5 (coy_5 + 1) (wag_5 - 1) (upd sd0 coy_5 (nI (1048576 * o_u_32 + 0))) (dset dp0 (coy_5 + 1) (dp0 coy_5 - 1)) V_57 rfl (j_57) (⟨((k_57 _ (by decide)).trans ((hN_54 _ (by decide) (by decide)).trans xg_x4)), ((k_57 _ (by decide)).trans hN_53), ((k_57 _ (by decide)).trans ((hN_54 _ (by decide) (by decide)).trans xw_x4)), (FG.of e_57 rfl rfl), (FG.of e_57 rfl (by omega : le0_5 = ln)), (FG.of e_57 rfl rfl), (FG.of e_57 rfl rfl), hR, ⟨by omega, by omega, by omega, by omega⟩, ((k_57 _ (by decide)).trans ((hN_54 _ (by decide) (by decide)).trans xa_x4)), ((k_57 _ (by decide)).trans ((hN_54 _ (by decide) (by decide)).trans xb_x4)), ((k_57 _ (by decide)).trans ((hN_54 _ (by decide) (by decide)).trans xd_x4)), ((k_57 _ (by decide)).trans ((hN_54 _ (by decide) (by decide)).trans xe_x4)), (FG.of e_57 rfl (by omega : say_5 = sm)), by omega⟩) (by omega) (by omega) (by omega) (fun k hk => (pk_un (by omega)).trans (i0_5 k hk)) (by omega) (fun i h1 h2 => if e : i = wag_5 - 1 then (by rw [e, ho_u_32]; omega) else i0_7 i (by omega) h2))
            exact ⟨rfl, ⟨rfl, trivial⟩⟩
          · skip
            have nc_41 : ¬ (o_u_32 = 2) := fun z => c_41 ((nI_eq (a := o_u_32) (b := 2) (by omega) (by omega)).mpr z)
            refine aw_aload_n dX12_closesSums_29 rfl ?_
            refine aw_callVi (J' := jX12_waitTop) (As := []) (st := []) dX12_closesSums_30 tb_1263 ok_X12_waitTop ⟨_, e_5⟩ (by omega) rfl rfl (r_waitTop l D b N V0 hN cl i0_0.1 ftoldPeople_5 ftoldDoors_5 fwasDoors_5 ffault_5 fopen_5 flines_5 fmeantSet_5 fopenedNow_5 fvainNow_5 flowNow_5 fhighNow_5 fisKept_5 tad_5 pl0_5 le0_5 nu0_5 coy_5 wag_5 say_5 ⟨by omega, by omega, by omega, by omega, by omega, by omega, by omega⟩ e_5 wa xw_x4 (fun q => by obtain ⟨o, a, e1, e2, e3, e4, _⟩ := PS.top hP_x4 q; exact ⟨o, a, e1, e2, e3, e4⟩)) rfl (Nat.le_of_ble_eq_true rfl) ⟨Nat.le_of_ble_eq_true rfl, Nat.le_of_ble_eq_true rfl, Nat.le_of_ble_eq_true rfl, Nat.le_of_ble_eq_true rfl⟩ (fun r_60 N_61 V_62 q_63 => ?_)
            obtain ⟨h_59, rfl, rfl⟩ := q_63
            refine aw_eqi (y := nI o_u_32) (((h_59.resolve_left (fun z => by omega)).2).trans (by rw [ho_u_32])) ?_
            refine aw_iconst (v := 3) dX12_closesSums_33 (by decide) ?_
            refine aw_icmp_ne (tgt := 59) dX12_closesSums_34 (by decide) (fun c_64 => ?_) (fun c_64 => ?_)
            · skip
              have nc_64 : ¬ (o_u_32 = 3) := fun z => c_64 ((nI_eq (a := o_u_32) (b := 3) (by omega) (by omega)).mpr z)
              refine aw_vreti dX12_closesSums_59 rfl (Nat.le_of_ble_eq_true rfl) (Nat.le_of_ble_eq_true rfl) ?_
              exact ⟨⟨sd0, pl0_5, coy_5, wag_5, dp0, ⟨xg_x4, xs_x4, xw_x4, (FG.of e_5 rfl rfl), (FG.of e_5 rfl (by omega : le0_5 = ln)), (FG.of e_5 rfl rfl), (FG.of e_5 rfl rfl), hP_x4, ⟨by omega, by omega, by omega, by omega⟩, xa_x4, xb_x4, xd_x4, xe_x4, (FG.of e_5 rfl (by omega : say_5 = sm)), by omega⟩, by omega, by omega, by omega, i0_5, by omega, i0_7, by omega, (by first | exact Or.inl c_34 | omega)⟩, rfl, i0_0⟩
            · skip
              have nc_64 : o_u_32 = 3 := (nI_eq (a := o_u_32) (b := 3) (by omega) (by omega)).mp c_64
              refine aw_aload_n dX12_closesSums_37 rfl ?_
              refine aw_aload_n dX12_closesSums_38 rfl ?_
              refine aw_callVi (J' := jX12_waitTop) (As := []) (st := [.ref (b + 100)]) dX12_closesSums_39 tb_1263 ok_X12_waitTop ⟨_, e_5⟩ (by omega) rfl rfl (r_waitTop l D b N V0 hN cl i0_0.1 ftoldPeople_5 ftoldDoors_5 fwasDoors_5 ffault_5 fopen_5 flines_5 fmeantSet_5 fopenedNow_5 fvainNow_5 flowNow_5 fhighNow_5 fisKept_5 tad_5 pl0_5 le0_5 nu0_5 coy_5 wag_5 say_5 ⟨by omega, by omega, by omega, by omega, by omega, by omega, by omega⟩ e_5 wa xw_x4 (fun q => by obtain ⟨o, a, e1, e2, e3, e4, _⟩ := PS.top hP_x4 q; exact ⟨o, a, e1, e2, e3, e4⟩)) rfl (Nat.le_of_ble_eq_true rfl) ⟨Nat.le_of_ble_eq_true rfl, Nat.le_of_ble_eq_true rfl, Nat.le_of_ble_eq_true rfl, Nat.le_of_ble_eq_true rfl⟩ (fun r_67 N_68 V_69 q_70 => ?_)
              obtain ⟨h_66, rfl, rfl⟩ := q_70
              refine aw_eqi (y := nI o_u_32) (((h_66.resolve_left (fun z => by omega)).2).trans (by rw [ho_u_32])) ?_
              refine aw_iconst (v := 0) dX12_closesSums_42 (by decide) ?_
              refine aw_callVv (J' := jX12_notes) (As := [.int (nI o_u_32), .int 0]) (st := []) dX12_closesSums_43 tb_1249 ok_X12_notes ⟨_, e_5⟩ (by omega) rfl rfl (r_notes l D b N V0 hN cl i0_0.1 (nI o_u_32) 0 o_u_32 0 (by omega) (by omega) ftoldPeople_5 ftoldDoors_5 fwasDoors_5 ffault_5 fopen_5 flines_5 fmeantSet_5 fopenedNow_5 fvainNow_5 flowNow_5 fhighNow_5 fisKept_5 tad_5 pl0_5 le0_5 nu0_5 coy_5 wag_5 say_5 ⟨by omega, by omega, by omega, by omega, by omega, by omega, by omega⟩ e_5 g sd0 wa xg_x4 xs_x4 xw_x4 (by omega)) rfl (Nat.le_of_ble_eq_true rfl) ⟨Nat.le_of_ble_eq_true rfl, Nat.le_of_ble_eq_true rfl, Nat.le_of_ble_eq_true rfl, Nat.le_of_ble_eq_true rfl⟩ (fun  N_78 V_74 q_79 => ?_)
              obtain ⟨h_72, rfl, q_71⟩ := q_79
              have j_73 := JR.trans i0_0 (JR.weak q_71 (Sub.cons LM0 (by decide) (by decide) (by decide) (Or.inl rfl) (Sub.cons (LMs LM0) (by decide) (by decide) (by decide) (Or.inr ⟨by decide, by decide⟩) Sub.nil)))
              obtain ⟨hN_75, hN_76, hN_77⟩ := h_72
              have hbw2 : bs < wag_5 := by rcases Nat.lt_or_ge bs wag_5 with q | q; exact q; exact absurd hbt (by rw [show bs = wag_5 by omega, ho_u_32]; omega)
              have hpop := wgt_pop (wa := wa) (n := wag_5) (by omega)
              rw [ho_u_32, if_pos (by omega)] at hpop
              have hmn := wgt_mono (wa := wa) (m := bs) (n := wag_5 - 1) (by omega)
              have hQ := PS.emit hP_x4 o_u_32 0 (dp0 coy_5 - 1) (by omega) (by decide) (by omega) (by omega) (by omega) (by omega) (by omega)
              have hds : dset dp0 (coy_5 + 1) (dp0 coy_5 - 1) (coy_5 + 1) = dp0 coy_5 - 1 := dset_s
              refine aw_aload_n dX12_closesSums_46 rfl ?_
              refine aw_aload_n dX12_closesSums_47 rfl ?_
              refine aw_get dX12_closesSums_48 fl_X12_189 hN_75 (by omega) rfl ?_
              refine aw_iconst (v := 1) dX12_closesSums_51 (by decide) ?_
              refine aw_isub dX12_closesSums_52 ?_
              refine aw_eqi (y := (nI (wag_5 - 1))) (pk_sub (a := wag_5) (b := 1) (by omega)) ?_
              refine aw_put dX12_closesSums_53 fp_X12_189 hN_75 (by omega) rfl rfl (Nat.le_of_ble_eq_true rfl) rfl ?_
              refine aw_upR j_73 cm_100 ⟨_, _, _, _, _, _, _, _, _, _, _, _, tad_5, pl0_5, le0_5, nu0_5, (coy_5 + 1), (wag_5 - 1), say_5, rfl, by omega, by omega, by omega, by omega, by omega, by omega, by omega⟩ (by decide) (WO (s := 20) (x := .int (nI (wag_5 - 1))) hN_75 rfl (LMs (LMs LM0)) (by decide) (by decide) (by decide) (Or.inl (by decide))) (fun V_80 j_80 k_80 e_80 => ?_)
              have hR := PS.pop hQ (by omega) (by rw [ho_u_32]; omega)
              refine aw_goto (tgt := 0) dX12_closesSums_56 (by decide) ?_
              refine aw_le ?_ (mih_0_3 _ (by omega) pl0_5 (coy_5 + 1) (wag_5 - 1) (upd sd0 coy_5 (nI (1048576 * o_u_32 + 0))) (dset dp0 (coy_5 + 1) (dp0 coy_5 - 1)) V_80 rfl (j_80) (⟨((k_80 _ (by decide)).trans ((hN_77 _ (by decide) (by decide)).trans xg_x4)), ((k_80 _ (by decide)).trans hN_76), ((k_80 _ (by decide)).trans ((hN_77 _ (by decide) (by decide)).trans xw_x4)), (FG.of e_80 rfl rfl), (FG.of e_80 rfl (by omega : le0_5 = ln)), (FG.of e_80 rfl rfl), (FG.of e_80 rfl rfl), hR, ⟨by omega, by omega, by omega, by omega⟩, ((k_80 _ (by decide)).trans ((hN_77 _ (by decide) (by decide)).trans xa_x4)), ((k_80 _ (by decide)).trans ((hN_77 _ (by decide) (by decide)).trans xb_x4)), ((k_80 _ (by decide)).trans ((hN_77 _ (by decide) (by decide)).trans xd_x4)), ((k_80 _ (by decide)).trans ((hN_77 _ (by decide) (by decide)).trans xe_x4)), (FG.of e_80 rfl (by omega : say_5 = sm)), by omega⟩) (by omega) (by omega) (by omega) (fun k hk => (pk_un (by omega)).trans (i0_5 k hk)) (by omega) (fun i h1 h2 => if e : i = wag_5 - 1 then (by rw [e, ho_u_32]; omega) else i0_7 i (by omega) h2))
              exact ⟨rfl, ⟨rfl, trivial⟩⟩
      · skip
        have nc_33 : ¬ (o_u_32 < 4) := fun z => c_33 ((nI_ltI (a := o_u_32) (b := 4) (by omega) (by omega)).mpr z)
        refine aw_aload_n dX12_closesSums_8 rfl ?_
        refine aw_callVi (J' := jX12_waitTop) (As := []) (st := []) dX12_closesSums_9 tb_1263 ok_X12_waitTop ⟨_, e_5⟩ (by omega) rfl rfl (r_waitTop l D b N V0 hN cl i0_0.1 ftoldPeople_5 ftoldDoors_5 fwasDoors_5 ffault_5 fopen_5 flines_5 fmeantSet_5 fopenedNow_5 fvainNow_5 flowNow_5 fhighNow_5 fisKept_5 tad_5 pl0_5 le0_5 nu0_5 coy_5 wag_5 say_5 ⟨by omega, by omega, by omega, by omega, by omega, by omega, by omega⟩ e_5 wa xw_x4 (fun q => by obtain ⟨o, a, e1, e2, e3, e4, _⟩ := PS.top hP_x4 q; exact ⟨o, a, e1, e2, e3, e4⟩)) rfl (Nat.le_of_ble_eq_true rfl) ⟨Nat.le_of_ble_eq_true rfl, Nat.le_of_ble_eq_true rfl, Nat.le_of_ble_eq_true rfl, Nat.le_of_ble_eq_true rfl⟩ (fun r_83 N_84 V_85 q_86 => ?_)
        obtain ⟨h_82, rfl, rfl⟩ := q_86
        refine aw_eqi (y := nI o_u_32) (((h_82.resolve_left (fun z => by omega)).2).trans (by rw [ho_u_32])) ?_
        refine aw_bipush (v := 6) dX12_closesSums_12 (by decide) ?_
        refine aw_icmp_le (tgt := 37) dX12_closesSums_14 (by decide) (fun c_87 => ?_) (fun c_87 => ?_)
        · skip
          have nc_87 : o_u_32 ≤ 6 := (nI_leI (a := o_u_32) (b := 6) (by omega) (by omega)).mp c_87
          refine aw_aload_n dX12_closesSums_37 rfl ?_
          refine aw_aload_n dX12_closesSums_38 rfl ?_
          refine aw_callVi (J' := jX12_waitTop) (As := []) (st := [.ref (b + 100)]) dX12_closesSums_39 tb_1263 ok_X12_waitTop ⟨_, e_5⟩ (by omega) rfl rfl (r_waitTop l D b N V0 hN cl i0_0.1 ftoldPeople_5 ftoldDoors_5 fwasDoors_5 ffault_5 fopen_5 flines_5 fmeantSet_5 fopenedNow_5 fvainNow_5 flowNow_5 fhighNow_5 fisKept_5 tad_5 pl0_5 le0_5 nu0_5 coy_5 wag_5 say_5 ⟨by omega, by omega, by omega, by omega, by omega, by omega, by omega⟩ e_5 wa xw_x4 (fun q => by obtain ⟨o, a, e1, e2, e3, e4, _⟩ := PS.top hP_x4 q; exact ⟨o, a, e1, e2, e3, e4⟩)) rfl (Nat.le_of_ble_eq_true rfl) ⟨Nat.le_of_ble_eq_true rfl, Nat.le_of_ble_eq_true rfl, Nat.le_of_ble_eq_true rfl, Nat.le_of_ble_eq_true rfl⟩ (fun r_90 N_91 V_92 q_93 => ?_)
          obtain ⟨h_89, rfl, rfl⟩ := q_93
          refine aw_eqi (y := nI o_u_32) (((h_89.resolve_left (fun z => by omega)).2).trans (by rw [ho_u_32])) ?_
          refine aw_iconst (v := 0) dX12_closesSums_42 (by decide) ?_
          refine aw_callVv (J' := jX12_notes) (As := [.int (nI o_u_32), .int 0]) (st := []) dX12_closesSums_43 tb_1249 ok_X12_notes ⟨_, e_5⟩ (by omega) rfl rfl (r_notes l D b N V0 hN cl i0_0.1 (nI o_u_32) 0 o_u_32 0 (by omega) (by omega) ftoldPeople_5 ftoldDoors_5 fwasDoors_5 ffault_5 fopen_5 flines_5 fmeantSet_5 fopenedNow_5 fvainNow_5 flowNow_5 fhighNow_5 fisKept_5 tad_5 pl0_5 le0_5 nu0_5 coy_5 wag_5 say_5 ⟨by omega, by omega, by omega, by omega, by omega, by omega, by omega⟩ e_5 g sd0 wa xg_x4 xs_x4 xw_x4 (by omega)) rfl (Nat.le_of_ble_eq_true rfl) ⟨Nat.le_of_ble_eq_true rfl, Nat.le_of_ble_eq_true rfl, Nat.le_of_ble_eq_true rfl, Nat.le_of_ble_eq_true rfl⟩ (fun  N_101 V_97 q_102 => ?_)
          obtain ⟨h_95, rfl, q_94⟩ := q_102
          have j_96 := JR.trans i0_0 (JR.weak q_94 (Sub.cons LM0 (by decide) (by decide) (by decide) (Or.inl rfl) (Sub.cons (LMs LM0) (by decide) (by decide) (by decide) (Or.inr ⟨by decide, by decide⟩) Sub.nil)))
          obtain ⟨hN_98, hN_99, hN_100⟩ := h_95
          have hbw2 : bs < wag_5 := by rcases Nat.lt_or_ge bs wag_5 with q | q; exact q; exact absurd hbt (by rw [show bs = wag_5 by omega, ho_u_32]; omega)
          have hpop := wgt_pop (wa := wa) (n := wag_5) (by omega)
          rw [ho_u_32, if_pos (by omega)] at hpop
          have hmn := wgt_mono (wa := wa) (m := bs) (n := wag_5 - 1) (by omega)
          have hQ := PS.emit hP_x4 o_u_32 0 (dp0 coy_5 - 1) (by omega) (by decide) (by omega) (by omega) (by omega) (by omega) (by omega)
          have hds : dset dp0 (coy_5 + 1) (dp0 coy_5 - 1) (coy_5 + 1) = dp0 coy_5 - 1 := dset_s
          refine aw_aload_n dX12_closesSums_46 rfl ?_
          refine aw_aload_n dX12_closesSums_47 rfl ?_
          refine aw_get dX12_closesSums_48 fl_X12_189 hN_98 (by omega) rfl ?_
          refine aw_iconst (v := 1) dX12_closesSums_51 (by decide) ?_
          refine aw_isub dX12_closesSums_52 ?_
          refine aw_eqi (y := (nI (wag_5 - 1))) (pk_sub (a := wag_5) (b := 1) (by omega)) ?_
          refine aw_put dX12_closesSums_53 fp_X12_189 hN_98 (by omega) rfl rfl (Nat.le_of_ble_eq_true rfl) rfl ?_
          refine aw_upR j_96 cm_100 ⟨_, _, _, _, _, _, _, _, _, _, _, _, tad_5, pl0_5, le0_5, nu0_5, (coy_5 + 1), (wag_5 - 1), say_5, rfl, by omega, by omega, by omega, by omega, by omega, by omega, by omega⟩ (by decide) (WO (s := 20) (x := .int (nI (wag_5 - 1))) hN_98 rfl (LMs (LMs LM0)) (by decide) (by decide) (by decide) (Or.inl (by decide))) (fun V_103 j_103 k_103 e_103 => ?_)
          have hR := PS.pop hQ (by omega) (by rw [ho_u_32]; omega)
          refine aw_goto (tgt := 0) dX12_closesSums_56 (by decide) ?_
          refine aw_le ?_ (mih_0_3 _ (by omega) pl0_5 (coy_5 + 1) (wag_5 - 1) (upd sd0 coy_5 (nI (1048576 * o_u_32 + 0))) (dset dp0 (coy_5 + 1) (dp0 coy_5 - 1)) V_103 rfl (j_103) (⟨((k_103 _ (by decide)).trans ((hN_100 _ (by decide) (by decide)).trans xg_x4)), ((k_103 _ (by decide)).trans hN_99), ((k_103 _ (by decide)).trans ((hN_100 _ (by decide) (by decide)).trans xw_x4)), (FG.of e_103 rfl rfl), (FG.of e_103 rfl (by omega : le0_5 = ln)), (FG.of e_103 rfl rfl), (FG.of e_103 rfl rfl), hR, ⟨by omega, by omega, by omega, by omega⟩, ((k_103 _ (by decide)).trans ((hN_100 _ (by decide) (by decide)).trans xa_x4)), ((k_103 _ (by decide)).trans ((hN_100 _ (by decide) (by decide)).trans xb_x4)), ((k_103 _ (by decide)).trans ((hN_100 _ (by decide) (by decide)).trans xd_x4)), ((k_103 _ (by decide)).trans ((hN_100 _ (by decide) (by decide)).trans xe_x4)), (FG.of e_103 rfl (by omega : say_5 = sm)), by omega⟩) (by omega) (by omega) (by omega) (fun k hk => (pk_un (by omega)).trans (i0_5 k hk)) (by omega) (fun i h1 h2 => if e : i = wag_5 - 1 then (by rw [e, ho_u_32]; omega) else i0_7 i (by omega) h2))
          exact ⟨rfl, ⟨rfl, trivial⟩⟩
        · skip
          have nc_87 : ¬ (o_u_32 ≤ 6) := fun z => c_87 ((nI_leI (a := o_u_32) (b := 6) (by omega) (by omega)).mpr z)
          refine aw_iload_n dX12_closesSums_17 rfl ?_
          refine aw_if_eq (tgt := 59) dX12_closesSums_18 (by decide) (fun c_104 => ?_) (fun c_104 => ?_)
          · skip
            refine aw_vreti dX12_closesSums_59 rfl (Nat.le_of_ble_eq_true rfl) (Nat.le_of_ble_eq_true rfl) ?_
            exact ⟨⟨sd0, pl0_5, coy_5, wag_5, dp0, ⟨xg_x4, xs_x4, xw_x4, (FG.of e_5 rfl rfl), (FG.of e_5 rfl (by omega : le0_5 = ln)), (FG.of e_5 rfl rfl), (FG.of e_5 rfl rfl), hP_x4, ⟨by omega, by omega, by omega, by omega⟩, xa_x4, xb_x4, xd_x4, xe_x4, (FG.of e_5 rfl (by omega : say_5 = sm)), by omega⟩, by omega, by omega, by omega, i0_5, by omega, i0_7, by omega, (by first | exact Or.inl c_104 | omega)⟩, rfl, i0_0⟩
          · skip
            refine aw_aload_n dX12_closesSums_21 rfl ?_
            refine aw_callVi (J' := jX12_waitTop) (As := []) (st := []) dX12_closesSums_22 tb_1263 ok_X12_waitTop ⟨_, e_5⟩ (by omega) rfl rfl (r_waitTop l D b N V0 hN cl i0_0.1 ftoldPeople_5 ftoldDoors_5 fwasDoors_5 ffault_5 fopen_5 flines_5 fmeantSet_5 fopenedNow_5 fvainNow_5 flowNow_5 fhighNow_5 fisKept_5 tad_5 pl0_5 le0_5 nu0_5 coy_5 wag_5 say_5 ⟨by omega, by omega, by omega, by omega, by omega, by omega, by omega⟩ e_5 wa xw_x4 (fun q => by obtain ⟨o, a, e1, e2, e3, e4, _⟩ := PS.top hP_x4 q; exact ⟨o, a, e1, e2, e3, e4⟩)) rfl (Nat.le_of_ble_eq_true rfl) ⟨Nat.le_of_ble_eq_true rfl, Nat.le_of_ble_eq_true rfl, Nat.le_of_ble_eq_true rfl, Nat.le_of_ble_eq_true rfl⟩ (fun r_107 N_108 V_109 q_110 => ?_)
            obtain ⟨h_106, rfl, rfl⟩ := q_110
            refine aw_eqi (y := nI o_u_32) (((h_106.resolve_left (fun z => by omega)).2).trans (by rw [ho_u_32])) ?_
            refine aw_iconst (v := 2) dX12_closesSums_25 (by decide) ?_
            refine aw_icmp_eq (tgt := 37) dX12_closesSums_26 (by decide) (fun c_111 => ?_) (fun c_111 => ?_)
            · skip
              have nc_111 : o_u_32 = 2 := (nI_eq (a := o_u_32) (b := 2) (by omega) (by omega)).mp c_111
              refine aw_aload_n dX12_closesSums_37 rfl ?_
              refine aw_aload_n dX12_closesSums_38 rfl ?_
              refine aw_callVi (J' := jX12_waitTop) (As := []) (st := [.ref (b + 100)]) dX12_closesSums_39 tb_1263 ok_X12_waitTop ⟨_, e_5⟩ (by omega) rfl rfl (r_waitTop l D b N V0 hN cl i0_0.1 ftoldPeople_5 ftoldDoors_5 fwasDoors_5 ffault_5 fopen_5 flines_5 fmeantSet_5 fopenedNow_5 fvainNow_5 flowNow_5 fhighNow_5 fisKept_5 tad_5 pl0_5 le0_5 nu0_5 coy_5 wag_5 say_5 ⟨by omega, by omega, by omega, by omega, by omega, by omega, by omega⟩ e_5 wa xw_x4 (fun q => by obtain ⟨o, a, e1, e2, e3, e4, _⟩ := PS.top hP_x4 q; exact ⟨o, a, e1, e2, e3, e4⟩)) rfl (Nat.le_of_ble_eq_true rfl) ⟨Nat.le_of_ble_eq_true rfl, Nat.le_of_ble_eq_true rfl, Nat.le_of_ble_eq_true rfl, Nat.le_of_ble_eq_true rfl⟩ (fun r_114 N_115 V_116 q_117 => ?_)
              obtain ⟨h_113, rfl, rfl⟩ := q_117
              refine aw_eqi (y := nI o_u_32) (((h_113.resolve_left (fun z => by omega)).2).trans (by rw [ho_u_32])) ?_
              refine aw_iconst (v := 0) dX12_closesSums_42 (by decide) ?_
              refine aw_callVv (J' := jX12_notes) (As := [.int (nI o_u_32), .int 0]) (st := []) dX12_closesSums_43 tb_1249 ok_X12_notes ⟨_, e_5⟩ (by omega) rfl rfl (r_notes l D b N V0 hN cl i0_0.1 (nI o_u_32) 0 o_u_32 0 (by omega) (by omega) ftoldPeople_5 ftoldDoors_5 fwasDoors_5 ffault_5 fopen_5 flines_5 fmeantSet_5 fopenedNow_5 fvainNow_5 flowNow_5 fhighNow_5 fisKept_5 tad_5 pl0_5 le0_5 nu0_5 coy_5 wag_5 say_5 ⟨by omega, by omega, by omega, by omega, by omega, by omega, by omega⟩ e_5 g sd0 wa xg_x4 xs_x4 xw_x4 (by omega)) rfl (Nat.le_of_ble_eq_true rfl) ⟨Nat.le_of_ble_eq_true rfl, Nat.le_of_ble_eq_true rfl, Nat.le_of_ble_eq_true rfl, Nat.le_of_ble_eq_true rfl⟩ (fun  N_125 V_121 q_126 => ?_)
              obtain ⟨h_119, rfl, q_118⟩ := q_126
              have j_120 := JR.trans i0_0 (JR.weak q_118 (Sub.cons LM0 (by decide) (by decide) (by decide) (Or.inl rfl) (Sub.cons (LMs LM0) (by decide) (by decide) (by decide) (Or.inr ⟨by decide, by decide⟩) Sub.nil)))
              obtain ⟨hN_122, hN_123, hN_124⟩ := h_119
              have hbw2 : bs < wag_5 := by rcases Nat.lt_or_ge bs wag_5 with q | q; exact q; exact absurd hbt (by rw [show bs = wag_5 by omega, ho_u_32]; omega)
              have hpop := wgt_pop (wa := wa) (n := wag_5) (by omega)
              rw [ho_u_32, if_pos (by omega)] at hpop
              have hmn := wgt_mono (wa := wa) (m := bs) (n := wag_5 - 1) (by omega)
              have hQ := PS.emit hP_x4 o_u_32 0 (dp0 coy_5 - 1) (by omega) (by decide) (by omega) (by omega) (by omega) (by omega) (by omega)
              have hds : dset dp0 (coy_5 + 1) (dp0 coy_5 - 1) (coy_5 + 1) = dp0 coy_5 - 1 := dset_s
              refine aw_aload_n dX12_closesSums_46 rfl ?_
              refine aw_aload_n dX12_closesSums_47 rfl ?_
              refine aw_get dX12_closesSums_48 fl_X12_189 hN_122 (by omega) rfl ?_
              refine aw_iconst (v := 1) dX12_closesSums_51 (by decide) ?_
              refine aw_isub dX12_closesSums_52 ?_
              refine aw_eqi (y := (nI (wag_5 - 1))) (pk_sub (a := wag_5) (b := 1) (by omega)) ?_
              refine aw_put dX12_closesSums_53 fp_X12_189 hN_122 (by omega) rfl rfl (Nat.le_of_ble_eq_true rfl) rfl ?_
              refine aw_upR j_120 cm_100 ⟨_, _, _, _, _, _, _, _, _, _, _, _, tad_5, pl0_5, le0_5, nu0_5, (coy_5 + 1), (wag_5 - 1), say_5, rfl, by omega, by omega, by omega, by omega, by omega, by omega, by omega⟩ (by decide) (WO (s := 20) (x := .int (nI (wag_5 - 1))) hN_122 rfl (LMs (LMs LM0)) (by decide) (by decide) (by decide) (Or.inl (by decide))) (fun V_127 j_127 k_127 e_127 => ?_)
              have hR := PS.pop hQ (by omega) (by rw [ho_u_32]; omega)
              refine aw_goto (tgt := 0) dX12_closesSums_56 (by decide) ?_
              refine aw_le ?_ (mih_0_3 _ (by omega) pl0_5 (coy_5 + 1) (wag_5 - 1) (upd sd0 coy_5 (nI (1048576 * o_u_32 + 0))) (dset dp0 (coy_5 + 1) (dp0 coy_5 - 1)) V_127 rfl (j_127) (⟨((k_127 _ (by decide)).trans ((hN_124 _ (by decide) (by decide)).trans xg_x4)), ((k_127 _ (by decide)).trans hN_123), ((k_127 _ (by decide)).trans ((hN_124 _ (by decide) (by decide)).trans xw_x4)), (FG.of e_127 rfl rfl), (FG.of e_127 rfl (by omega : le0_5 = ln)), (FG.of e_127 rfl rfl), (FG.of e_127 rfl rfl), hR, ⟨by omega, by omega, by omega, by omega⟩, ((k_127 _ (by decide)).trans ((hN_124 _ (by decide) (by decide)).trans xa_x4)), ((k_127 _ (by decide)).trans ((hN_124 _ (by decide) (by decide)).trans xb_x4)), ((k_127 _ (by decide)).trans ((hN_124 _ (by decide) (by decide)).trans xd_x4)), ((k_127 _ (by decide)).trans ((hN_124 _ (by decide) (by decide)).trans xe_x4)), (FG.of e_127 rfl (by omega : say_5 = sm)), by omega⟩) (by omega) (by omega) (by omega) (fun k hk => (pk_un (by omega)).trans (i0_5 k hk)) (by omega) (fun i h1 h2 => if e : i = wag_5 - 1 then (by rw [e, ho_u_32]; omega) else i0_7 i (by omega) h2))
              exact ⟨rfl, ⟨rfl, trivial⟩⟩
            · skip
              have nc_111 : ¬ (o_u_32 = 2) := fun z => c_111 ((nI_eq (a := o_u_32) (b := 2) (by omega) (by omega)).mpr z)
              refine aw_aload_n dX12_closesSums_29 rfl ?_
              refine aw_callVi (J' := jX12_waitTop) (As := []) (st := []) dX12_closesSums_30 tb_1263 ok_X12_waitTop ⟨_, e_5⟩ (by omega) rfl rfl (r_waitTop l D b N V0 hN cl i0_0.1 ftoldPeople_5 ftoldDoors_5 fwasDoors_5 ffault_5 fopen_5 flines_5 fmeantSet_5 fopenedNow_5 fvainNow_5 flowNow_5 fhighNow_5 fisKept_5 tad_5 pl0_5 le0_5 nu0_5 coy_5 wag_5 say_5 ⟨by omega, by omega, by omega, by omega, by omega, by omega, by omega⟩ e_5 wa xw_x4 (fun q => by obtain ⟨o, a, e1, e2, e3, e4, _⟩ := PS.top hP_x4 q; exact ⟨o, a, e1, e2, e3, e4⟩)) rfl (Nat.le_of_ble_eq_true rfl) ⟨Nat.le_of_ble_eq_true rfl, Nat.le_of_ble_eq_true rfl, Nat.le_of_ble_eq_true rfl, Nat.le_of_ble_eq_true rfl⟩ (fun r_130 N_131 V_132 q_133 => ?_)
              obtain ⟨h_129, rfl, rfl⟩ := q_133
              refine aw_eqi (y := nI o_u_32) (((h_129.resolve_left (fun z => by omega)).2).trans (by rw [ho_u_32])) ?_
              refine aw_iconst (v := 3) dX12_closesSums_33 (by decide) ?_
              refine aw_icmp_ne (tgt := 59) dX12_closesSums_34 (by decide) (fun c_134 => ?_) (fun c_134 => ?_)
              · skip
                have nc_134 : ¬ (o_u_32 = 3) := fun z => c_134 ((nI_eq (a := o_u_32) (b := 3) (by omega) (by omega)).mpr z)
                refine aw_vreti dX12_closesSums_59 rfl (Nat.le_of_ble_eq_true rfl) (Nat.le_of_ble_eq_true rfl) ?_
                exact ⟨⟨sd0, pl0_5, coy_5, wag_5, dp0, ⟨xg_x4, xs_x4, xw_x4, (FG.of e_5 rfl rfl), (FG.of e_5 rfl (by omega : le0_5 = ln)), (FG.of e_5 rfl rfl), (FG.of e_5 rfl rfl), hP_x4, ⟨by omega, by omega, by omega, by omega⟩, xa_x4, xb_x4, xd_x4, xe_x4, (FG.of e_5 rfl (by omega : say_5 = sm)), by omega⟩, by omega, by omega, by omega, i0_5, by omega, i0_7, by omega, (by first | exact Or.inl c_104 | omega)⟩, rfl, i0_0⟩
              · skip
                have nc_134 : o_u_32 = 3 := (nI_eq (a := o_u_32) (b := 3) (by omega) (by omega)).mp c_134
                refine aw_aload_n dX12_closesSums_37 rfl ?_
                refine aw_aload_n dX12_closesSums_38 rfl ?_
                refine aw_callVi (J' := jX12_waitTop) (As := []) (st := [.ref (b + 100)]) dX12_closesSums_39 tb_1263 ok_X12_waitTop ⟨_, e_5⟩ (by omega) rfl rfl (r_waitTop l D b N V0 hN cl i0_0.1 ftoldPeople_5 ftoldDoors_5 fwasDoors_5 ffault_5 fopen_5 flines_5 fmeantSet_5 fopenedNow_5 fvainNow_5 flowNow_5 fhighNow_5 fisKept_5 tad_5 pl0_5 le0_5 nu0_5 coy_5 wag_5 say_5 ⟨by omega, by omega, by omega, by omega, by omega, by omega, by omega⟩ e_5 wa xw_x4 (fun q => by obtain ⟨o, a, e1, e2, e3, e4, _⟩ := PS.top hP_x4 q; exact ⟨o, a, e1, e2, e3, e4⟩)) rfl (Nat.le_of_ble_eq_true rfl) ⟨Nat.le_of_ble_eq_true rfl, Nat.le_of_ble_eq_true rfl, Nat.le_of_ble_eq_true rfl, Nat.le_of_ble_eq_true rfl⟩ (fun r_137 N_138 V_139 q_140 => ?_)
                obtain ⟨h_136, rfl, rfl⟩ := q_140
                refine aw_eqi (y := nI o_u_32) (((h_136.resolve_left (fun z => by omega)).2).trans (by rw [ho_u_32])) ?_
                refine aw_iconst (v := 0) dX12_closesSums_42 (by decide) ?_
                refine aw_callVv (J' := jX12_notes) (As := [.int (nI o_u_32), .int 0]) (st := []) dX12_closesSums_43 tb_1249 ok_X12_notes ⟨_, e_5⟩ (by omega) rfl rfl (r_notes l D b N V0 hN cl i0_0.1 (nI o_u_32) 0 o_u_32 0 (by omega) (by omega) ftoldPeople_5 ftoldDoors_5 fwasDoors_5 ffault_5 fopen_5 flines_5 fmeantSet_5 fopenedNow_5 fvainNow_5 flowNow_5 fhighNow_5 fisKept_5 tad_5 pl0_5 le0_5 nu0_5 coy_5 wag_5 say_5 ⟨by omega, by omega, by omega, by omega, by omega, by omega, by omega⟩ e_5 g sd0 wa xg_x4 xs_x4 xw_x4 (by omega)) rfl (Nat.le_of_ble_eq_true rfl) ⟨Nat.le_of_ble_eq_true rfl, Nat.le_of_ble_eq_true rfl, Nat.le_of_ble_eq_true rfl, Nat.le_of_ble_eq_true rfl⟩ (fun  N_148 V_144 q_149 => ?_)
                obtain ⟨h_142, rfl, q_141⟩ := q_149
                have j_143 := JR.trans i0_0 (JR.weak q_141 (Sub.cons LM0 (by decide) (by decide) (by decide) (Or.inl rfl) (Sub.cons (LMs LM0) (by decide) (by decide) (by decide) (Or.inr ⟨by decide, by decide⟩) Sub.nil)))
                obtain ⟨hN_145, hN_146, hN_147⟩ := h_142
                have hbw2 : bs < wag_5 := by rcases Nat.lt_or_ge bs wag_5 with q | q; exact q; exact absurd hbt (by rw [show bs = wag_5 by omega, ho_u_32]; omega)
                have hpop := wgt_pop (wa := wa) (n := wag_5) (by omega)
                rw [ho_u_32, if_pos (by omega)] at hpop
                have hmn := wgt_mono (wa := wa) (m := bs) (n := wag_5 - 1) (by omega)
                have hQ := PS.emit hP_x4 o_u_32 0 (dp0 coy_5 - 1) (by omega) (by decide) (by omega) (by omega) (by omega) (by omega) (by omega)
                have hds : dset dp0 (coy_5 + 1) (dp0 coy_5 - 1) (coy_5 + 1) = dp0 coy_5 - 1 := dset_s
                refine aw_aload_n dX12_closesSums_46 rfl ?_
                refine aw_aload_n dX12_closesSums_47 rfl ?_
                refine aw_get dX12_closesSums_48 fl_X12_189 hN_145 (by omega) rfl ?_
                refine aw_iconst (v := 1) dX12_closesSums_51 (by decide) ?_
                refine aw_isub dX12_closesSums_52 ?_
                refine aw_eqi (y := (nI (wag_5 - 1))) (pk_sub (a := wag_5) (b := 1) (by omega)) ?_
                refine aw_put dX12_closesSums_53 fp_X12_189 hN_145 (by omega) rfl rfl (Nat.le_of_ble_eq_true rfl) rfl ?_
                refine aw_upR j_143 cm_100 ⟨_, _, _, _, _, _, _, _, _, _, _, _, tad_5, pl0_5, le0_5, nu0_5, (coy_5 + 1), (wag_5 - 1), say_5, rfl, by omega, by omega, by omega, by omega, by omega, by omega, by omega⟩ (by decide) (WO (s := 20) (x := .int (nI (wag_5 - 1))) hN_145 rfl (LMs (LMs LM0)) (by decide) (by decide) (by decide) (Or.inl (by decide))) (fun V_150 j_150 k_150 e_150 => ?_)
                have hR := PS.pop hQ (by omega) (by rw [ho_u_32]; omega)
                refine aw_goto (tgt := 0) dX12_closesSums_56 (by decide) ?_
                refine aw_le ?_ (mih_0_3 _ (by omega) pl0_5 (coy_5 + 1) (wag_5 - 1) (upd sd0 coy_5 (nI (1048576 * o_u_32 + 0))) (dset dp0 (coy_5 + 1) (dp0 coy_5 - 1)) V_150 rfl (j_150) (⟨((k_150 _ (by decide)).trans ((hN_147 _ (by decide) (by decide)).trans xg_x4)), ((k_150 _ (by decide)).trans hN_146), ((k_150 _ (by decide)).trans ((hN_147 _ (by decide) (by decide)).trans xw_x4)), (FG.of e_150 rfl rfl), (FG.of e_150 rfl (by omega : le0_5 = ln)), (FG.of e_150 rfl rfl), (FG.of e_150 rfl rfl), hR, ⟨by omega, by omega, by omega, by omega⟩, ((k_150 _ (by decide)).trans ((hN_147 _ (by decide) (by decide)).trans xa_x4)), ((k_150 _ (by decide)).trans ((hN_147 _ (by decide) (by decide)).trans xb_x4)), ((k_150 _ (by decide)).trans ((hN_147 _ (by decide) (by decide)).trans xd_x4)), ((k_150 _ (by decide)).trans ((hN_147 _ (by decide) (by decide)).trans xe_x4)), (FG.of e_150 rfl (by omega : say_5 = sm)), by omega⟩) (by omega) (by omega) (by omega) (fun k hk => (pk_un (by omega)).trans (i0_5 k hk)) (by omega) (fun i h1 h2 => if e : i = wag_5 - 1 then (by rw [e, ho_u_32]; omega) else i0_7 i (by omega) h2))
                exact ⟨rfl, ⟨rfl, trivial⟩⟩
  refine aw_le ?_ (ml_0_3 _ pl0_2 coy_2 wag_2 sd dep V rfl (hJ0) (⟨xg_x1, xs_x1, xw_x1, (FG.of e_2 rfl rfl), (FG.of e_2 rfl (by omega : le0_2 = ln)), (FG.of e_2 rfl rfl), (FG.of e_2 rfl rfl), hP_x1, ⟨by omega, by omega, by omega, by omega⟩, xa_x1, xb_x1, xd_x1, xe_x1, (FG.of e_2 rfl (by omega : say_2 = sm)), by omega⟩) (by omega) (by omega) (by omega) (fun k hk => rfl) (by omega) (fun i h1 h2 => absurd h2 (by omega)))
  exact ⟨rfl, ⟨rfl, trivial⟩⟩

set_option maxHeartbeats 4000000 in
set_option maxRecDepth 100000 in
theorem r_endsPiece (l : Launch) (D : va_G) (b : Nat) (N : Nat) (V : Wd) (hN : 133 ≤ N) (cl : Nat) (hW : CR D b cl V)   (g sd wa : Nat → Int32) (pl ln cm wt sg : Nat) (dep : Nat → Nat) (sl sf sh st : Nat → Int32) (sm sk : Nat) (hX : PX D b V g pl ln cm wt sg sd wa dep sl sf sh st sm sk) (hd1 : dep cm = 1) (h13 : opOf (wa 0) = 13) (hw1 : 1 ≤ wt) : MV l D b 1 jX12_endsPiece [.ref (b + 100)] N V 0 0 (fun N9 V9 => (∃ (sd9 : Nat → Int32) (pl9 cm9 wt9 : Nat) (dep9 : Nat → Nat), PX D b V9 g pl9 ln cm9 wt9 sg sd9 wa dep9 sl sf sh st sm sk ∧ pl9 = pl ∧ wt9 ≤ wt ∧ 1 ≤ wt9 ∧ (∀ k, k < sg → sd9 k = sd k) ∧ dep9 cm9 = 1 ∧ opOf (wa (wt9 - 1)) ≠ 10) ∧ N = N9 ∧ JR D b N cl [(111, 111, 0, 1000000), (100, 100, 19, 19), (100, 100, 20, 20), (100, 100, 18, 18)] V V9) := by
  have hJ0 : JR D b N cl [(111, 111, 0, 1000000), (100, 100, 19, 19), (100, 100, 20, 20), (100, 100, 18, 18)] V V := JR.rf hW
  refine mw_of (by decide) (by simp [Value.category]) (Nat.le_of_ble_eq_true rfl) ?_
  show AW l D b jX12_endsPiece (fx_rm 1 0 0) none (fx_MQ D b 0 0 (fx_qv (fun N9 V9 => (∃ (sd9 : Nat → Int32) (pl9 cm9 wt9 : Nat) (dep9 : Nat → Nat), PX D b V9 g pl9 ln cm9 wt9 sg sd9 wa dep9 sl sf sh st sm sk ∧ pl9 = pl ∧ wt9 ≤ wt ∧ 1 ≤ wt9 ∧ (∀ k, k < sg → sd9 k = sd k) ∧ dep9 cm9 = 1 ∧ opOf (wa (wt9 - 1)) ≠ 10) ∧ N = N9 ∧ JR D b N cl [(111, 111, 0, 1000000), (100, 100, 19, 19), (100, 100, 20, 20), (100, 100, 18, 18)] V V9))) 0 [some (.ref (b + 100))] [] N V 0 0
  obtain ⟨xg_x1, xs_x1, xw_x1, xp_x1, xl_x1, xc_x1, xt_x1, hP_x1, ⟨hB1_x1, hB2_x1, hB3_x1, hB4_x1⟩, xa_x1, xb_x1, xd_x1, xe_x1, xm_x1, hB5_x1⟩ := id hX
  obtain ⟨ftoldPeople_2, ftoldDoors_2, fwasDoors_2, ffault_2, fopen_2, flines_2, fmeantSet_2, fopenedNow_2, fvainNow_2, flowNow_2, fhighNow_2, fisKept_2, tad_2, pl0_2, le0_2, nu0_2, coy_2, wag_2, say_2, e_2, hntad_2, hnpl0_2, hnle0_2, hnnu0_2, hncoy_2, hnwag_2, hnsay_2⟩ := JR.get hJ0 cm_100
  have sb_x1pl := FG.eq xp_x1 e_2 rfl (by omega) (by omega)
  subst sb_x1pl
  have sb_x1cm := FG.eq xc_x1 e_2 rfl (by omega) (by omega)
  subst sb_x1cm
  have sb_x1wt := FG.eq xt_x1 e_2 rfl (by omega) (by omega)
  subst sb_x1wt
  have sb_x1ln := FG.eq xl_x1 e_2 rfl (by omega) (by omega)
  have hsg_x1 := hP_x1.2.1
  have sb_x1sm := FG.eq xm_x1 e_2 rfl (by omega) (by omega)
  have ml_0_3 : ∀ (m : Nat) (p0 : Nat) (c0 : Nat) (w0 : Nat) (sd0 : Nat → Int32) (dp0 : Nat → Nat) (V0 : Wd), m = w0 → (JR D b N cl [(111, 111, 0, 1000000), (100, 100, 19, 19), (100, 100, 20, 20), (100, 100, 18, 18)] V V0) → (PX D b V0 g p0 ln c0 w0 sg sd0 wa dp0 sl sf sh st sm sk) → (p0 = pl0_2) → (w0 ≤ wag_2) → (1 ≤ w0) → (∀ k, k < sg → sd0 k = sd k) → (dp0 c0 = 1) → AW l D b jX12_endsPiece (fx_rm 1 0 0) none (fx_MQ D b 0 0 (fx_qv (fun N9 V9 => (∃ (sd9 : Nat → Int32) (pl9 cm9 wt9 : Nat) (dep9 : Nat → Nat), PX D b V9 g pl9 ln cm9 wt9 sg sd9 wa dep9 sl sf sh st sm sk ∧ pl9 = pl0_2 ∧ wt9 ≤ wag_2 ∧ 1 ≤ wt9 ∧ (∀ k, k < sg → sd9 k = sd k) ∧ dep9 cm9 = 1 ∧ opOf (wa (wt9 - 1)) ≠ 10) ∧ N = N9 ∧ JR D b N cl [(111, 111, 0, 1000000), (100, 100, 19, 19), (100, 100, 20, 20), (100, 100, 18, 18)] V V9))) 0 [some (.ref (b + 100))] [] N V0 0 0 := by
    intro m; refine Nat.strongRecOn m ?_
    intro m mih_0_3 p0 c0 w0 sd0 dp0 V0 hm0 i0_0 i0_1 i0_2 i0_3 i0_4 i0_5 i0_6
    obtain ⟨xg_x4, xs_x4, xw_x4, xp_x4, xl_x4, xc_x4, xt_x4, hP_x4, ⟨hB1_x4, hB2_x4, hB3_x4, hB4_x4⟩, xa_x4, xb_x4, xd_x4, xe_x4, xm_x4, hB5_x4⟩ := i0_1
    obtain ⟨ftoldPeople_5, ftoldDoors_5, fwasDoors_5, ffault_5, fopen_5, flines_5, fmeantSet_5, fopenedNow_5, fvainNow_5, flowNow_5, fhighNow_5, fisKept_5, tad_5, pl0_5, le0_5, nu0_5, coy_5, wag_5, say_5, e_5, hntad_5, hnpl0_5, hnle0_5, hnnu0_5, hncoy_5, hnwag_5, hnsay_5⟩ := JR.get i0_0 cm_100
    clear hntad_2 hnpl0_2 hnle0_2 hnnu0_2 hncoy_2 hnwag_2 hnsay_2
    have sb_x4pl := FG.eq xp_x4 e_5 rfl (by omega) (by omega)
    subst sb_x4pl
    have sb_x4cm := FG.eq xc_x4 e_5 rfl (by omega) (by omega)
    subst sb_x4cm
    have sb_x4wt := FG.eq xt_x4 e_5 rfl (by omega) (by omega)
    subst sb_x4wt
    have sb_x4ln := FG.eq xl_x4 e_5 rfl (by omega) (by omega)
    have hsg_x4 := hP_x4.2.1
    have sb_x4sm := FG.eq xm_x4 e_5 rfl (by omega) (by omega)
    refine aw_aload_n dX12_endsPiece_0 rfl ?_
    refine aw_callVi (J' := jX12_waitTop) (As := []) (st := []) dX12_endsPiece_1 tb_1263 ok_X12_waitTop ⟨_, e_5⟩ (by omega) rfl rfl (r_waitTop l D b N V0 hN cl i0_0.1 ftoldPeople_5 ftoldDoors_5 fwasDoors_5 ffault_5 fopen_5 flines_5 fmeantSet_5 fopenedNow_5 fvainNow_5 flowNow_5 fhighNow_5 fisKept_5 tad_5 pl0_5 le0_5 nu0_5 coy_5 wag_5 say_5 ⟨by omega, by omega, by omega, by omega, by omega, by omega, by omega⟩ e_5 wa xw_x4 (fun q => by obtain ⟨o, a, e1, e2, e3, e4, _⟩ := PS.top hP_x4 q; exact ⟨o, a, e1, e2, e3, e4⟩)) rfl (Nat.le_of_ble_eq_true rfl) ⟨Nat.le_of_ble_eq_true rfl, Nat.le_of_ble_eq_true rfl, Nat.le_of_ble_eq_true rfl, Nat.le_of_ble_eq_true rfl⟩ (fun r_8 N_9 V_10 q_11 => ?_)
    obtain ⟨h_7, rfl, rfl⟩ := q_11
    rcases h_7 with ⟨g_12, e_13⟩ | ⟨g_14, e_15⟩
    · skip
      refine aw_eqi (y := (-1)) e_13 ?_
      refine aw_bipush (v := 10) dX12_endsPiece_4 (by decide) ?_
      refine aw_icmp_ne (tgt := 39) dX12_endsPiece_6 (by decide) (fun c_16 => ?_) (fun c_16 => ?_)
      rotate_left
      · exact absurd c_16 (by decide)
      refine aw_vreti dX12_endsPiece_39 rfl (Nat.le_of_ble_eq_true rfl) (Nat.le_of_ble_eq_true rfl) ?_
      exact ⟨⟨sd0, pl0_5, coy_5, wag_5, dp0, ⟨xg_x4, xs_x4, xw_x4, (FG.of e_5 rfl rfl), (FG.of e_5 rfl (by omega : le0_5 = ln)), (FG.of e_5 rfl rfl), (FG.of e_5 rfl rfl), hP_x4, ⟨by omega, by omega, by omega, by omega⟩, xa_x4, xb_x4, xd_x4, xe_x4, (FG.of e_5 rfl (by omega : say_5 = sm)), by omega⟩, by omega, by omega, by omega, i0_5, by omega, by omega⟩, rfl, i0_0⟩
    · skip
      refine aw_eqi (y := (nI (opOf (wa (wag_5 - 1))))) e_15 ?_
      obtain ⟨o_u_17, a_u_17, he_u_17, ha_u_17, h2_u_17, h14_u_17, hj_u_17⟩ := PS.top hP_x4 g_14
      have ho_u_17 : opOf (wa (wag_5 - 1)) = o_u_17 := by rw [he_u_17]; exact opOf_nI (by omega) (by omega)
      refine aw_eqi (y := nI o_u_17) (by rw [ho_u_17]) ?_
      refine aw_bipush (v := 10) dX12_endsPiece_4 (by decide) ?_
      refine aw_icmp_ne (tgt := 39) dX12_endsPiece_6 (by decide) (fun c_18 => ?_) (fun c_18 => ?_)
      · skip
        have nc_18 : ¬ (o_u_17 = 10) := fun z => c_18 ((nI_eq (a := o_u_17) (b := 10) (by omega) (by omega)).mpr z)
        refine aw_vreti dX12_endsPiece_39 rfl (Nat.le_of_ble_eq_true rfl) (Nat.le_of_ble_eq_true rfl) ?_
        exact ⟨⟨sd0, pl0_5, coy_5, wag_5, dp0, ⟨xg_x4, xs_x4, xw_x4, (FG.of e_5 rfl rfl), (FG.of e_5 rfl (by omega : le0_5 = ln)), (FG.of e_5 rfl rfl), (FG.of e_5 rfl rfl), hP_x4, ⟨by omega, by omega, by omega, by omega⟩, xa_x4, xb_x4, xd_x4, xe_x4, (FG.of e_5 rfl (by omega : say_5 = sm)), by omega⟩, by omega, by omega, by omega, i0_5, by omega, by omega⟩, rfl, i0_0⟩
      · skip
        have nc_18 : o_u_17 = 10 := (nI_eq (a := o_u_17) (b := 10) (by omega) (by omega)).mp c_18
        refine aw_aload_n dX12_endsPiece_9 rfl ?_
        refine aw_bipush (v := 10) dX12_endsPiece_10 (by decide) ?_
        refine aw_iconst (v := 0) dX12_endsPiece_12 (by decide) ?_
        refine aw_callVv (J' := jX12_notes) (As := [.int 10, .int 0]) (st := []) dX12_endsPiece_13 tb_1249 ok_X12_notes ⟨_, e_5⟩ (by omega) rfl rfl (r_notes l D b N V0 hN cl i0_0.1 10 0 10 0 (by omega) (by omega) ftoldPeople_5 ftoldDoors_5 fwasDoors_5 ffault_5 fopen_5 flines_5 fmeantSet_5 fopenedNow_5 fvainNow_5 flowNow_5 fhighNow_5 fisKept_5 tad_5 pl0_5 le0_5 nu0_5 coy_5 wag_5 say_5 ⟨by omega, by omega, by omega, by omega, by omega, by omega, by omega⟩ e_5 g sd0 wa xg_x4 xs_x4 xw_x4 (by omega)) rfl (Nat.le_of_ble_eq_true rfl) ⟨Nat.le_of_ble_eq_true rfl, Nat.le_of_ble_eq_true rfl, Nat.le_of_ble_eq_true rfl, Nat.le_of_ble_eq_true rfl⟩ (fun  N_26 V_22 q_27 => ?_)
        obtain ⟨h_20, rfl, q_19⟩ := q_27
        have j_21 := JR.trans i0_0 (JR.weak q_19 (Sub.cons LM0 (by decide) (by decide) (by decide) (Or.inl rfl) (Sub.cons (LMs LM0) (by decide) (by decide) (by decide) (Or.inr ⟨by decide, by decide⟩) Sub.nil)))
        obtain ⟨hN_23, hN_24, hN_25⟩ := h_20
        have hz : wag_5 - 1 ≠ 0 := fun e => by rw [e] at ho_u_17; omega
        have hpop := wgt_pop (wa := wa) (n := wag_5) (by omega)
        rw [ho_u_17, if_pos (by omega)] at hpop
        have hQ := PS.emit hP_x4 10 0 1 (by omega) (by omega) (by omega) (by omega) (by omega) (by omega) (by omega)
        have hds : dset dp0 (coy_5 + 1) 1 (coy_5 + 1) = 1 := dset_s
        refine aw_aload_n dX12_endsPiece_16 rfl ?_
        refine aw_aload_n dX12_endsPiece_17 rfl ?_
        refine aw_get dX12_endsPiece_18 fl_X12_189 hN_23 (by omega) rfl ?_
        refine aw_iconst (v := 1) dX12_endsPiece_21 (by decide) ?_
        refine aw_isub dX12_endsPiece_22 ?_
        refine aw_eqi (y := (nI (wag_5 - 1))) (pk_sub (a := wag_5) (b := 1) (by omega)) ?_
        refine aw_put dX12_endsPiece_23 fp_X12_189 hN_23 (by omega) rfl rfl (Nat.le_of_ble_eq_true rfl) rfl ?_
        refine aw_upR j_21 cm_100 ⟨_, _, _, _, _, _, _, _, _, _, _, _, tad_5, pl0_5, le0_5, nu0_5, (coy_5 + 1), (wag_5 - 1), say_5, rfl, by omega, by omega, by omega, by omega, by omega, by omega, by omega⟩ (by decide) (WO (s := 20) (x := .int (nI (wag_5 - 1))) hN_23 rfl (LMs (LMs LM0)) (by decide) (by decide) (by decide) (Or.inl (by decide))) (fun V_28 j_28 k_28 e_28 => ?_)
        refine aw_aload_n dX12_endsPiece_26 rfl ?_
        refine aw_aload_n dX12_endsPiece_27 rfl ?_
        refine aw_get dX12_endsPiece_28 fl_X12_186 e_28 (by omega) rfl ?_
        refine aw_iconst (v := 1) dX12_endsPiece_31 (by decide) ?_
        refine aw_isub dX12_endsPiece_32 ?_
        refine aw_put dX12_endsPiece_33 fp_X12_186 e_28 (by omega) rfl rfl (Nat.le_of_ble_eq_true rfl) rfl ?_
        refine aw_upR j_28 cm_100 ⟨_, _, _, _, _, _, _, _, _, _, _, _, tad_5, pl0_5, le0_5, nu0_5, (coy_5 + 1), (wag_5 - 1), say_5, rfl, by omega, by omega, by omega, by omega, by omega, by omega, by omega⟩ (by decide) (WO (s := 18) (x := .int (fopen_5 - 1)) e_28 rfl (LMs (LMs (LMs LM0))) (by decide) (by decide) (by decide) (Or.inl (by decide))) (fun V_29 j_29 k_29 e_29 => ?_)
        have hR := PS.pop hQ (by omega) (by rw [ho_u_17]; omega)
        refine aw_goto (tgt := 0) dX12_endsPiece_36 (by decide) ?_
        refine aw_le ?_ (mih_0_3 _ (by omega) pl0_5 (coy_5 + 1) (wag_5 - 1) (upd sd0 coy_5 (nI (1048576 * 10 + 0))) (dset dp0 (coy_5 + 1) 1) V_29 rfl (j_29) (⟨((k_29 _ (by decide)).trans ((k_28 _ (by decide)).trans ((hN_25 _ (by decide) (by decide)).trans xg_x4))), ((k_29 _ (by decide)).trans ((k_28 _ (by decide)).trans hN_24)), ((k_29 _ (by decide)).trans ((k_28 _ (by decide)).trans ((hN_25 _ (by decide) (by decide)).trans xw_x4))), (FG.of e_29 rfl rfl), (FG.of e_29 rfl (by omega : le0_5 = ln)), (FG.of e_29 rfl rfl), (FG.of e_29 rfl rfl), hR, ⟨by omega, by omega, by omega, by omega⟩, ((k_29 _ (by decide)).trans ((k_28 _ (by decide)).trans ((hN_25 _ (by decide) (by decide)).trans xa_x4))), ((k_29 _ (by decide)).trans ((k_28 _ (by decide)).trans ((hN_25 _ (by decide) (by decide)).trans xb_x4))), ((k_29 _ (by decide)).trans ((k_28 _ (by decide)).trans ((hN_25 _ (by decide) (by decide)).trans xd_x4))), ((k_29 _ (by decide)).trans ((k_28 _ (by decide)).trans ((hN_25 _ (by decide) (by decide)).trans xe_x4))), (FG.of e_29 rfl (by omega : say_5 = sm)), by omega⟩) (by omega) (by omega) (by omega) (fun k hk => (pk_un (by omega)).trans (i0_5 k hk)) (by omega))
        exact ⟨rfl, trivial⟩
  refine aw_le ?_ (ml_0_3 _ pl0_2 coy_2 wag_2 sd dep V rfl (hJ0) (⟨xg_x1, xs_x1, xw_x1, (FG.of e_2 rfl rfl), (FG.of e_2 rfl (by omega : le0_2 = ln)), (FG.of e_2 rfl rfl), (FG.of e_2 rfl rfl), hP_x1, ⟨by omega, by omega, by omega, by omega⟩, xa_x1, xb_x1, xd_x1, xe_x1, (FG.of e_2 rfl (by omega : say_2 = sm)), by omega⟩) (by omega) (by omega) (by omega) (fun k hk => rfl) (by omega))
  exact ⟨rfl, trivial⟩

set_option maxHeartbeats 4000000 in
set_option maxRecDepth 100000 in
theorem r_lands (l : Launch) (D : va_G) (b : Nat) (N : Nat) (V : Wd) (hN : 133 ≤ N) (cl : Nat) (hW : CR D b cl V) (n0 : Int32)  (g sd wa : Nat → Int32) (pl ln cm wt sg : Nat) (dep : Nat → Nat) (sl sf sh st : Nat → Int32) (sm sk : Nat) (hX : PX D b V g pl ln cm wt sg sd wa dep sl sf sh st sm sk) (hd1 : dep cm = 1) (h13 : opOf (wa 0) = 13) (hw1 : 1 ≤ wt) : MV l D b 1 jX12_lands [.ref (b + 100), .int n0] N V 0 0 (fun N9 V9 => (∃ (sd9 : Nat → Int32) (pl9 cm9 wt9 : Nat) (dep9 : Nat → Nat), PX D b V9 g pl9 ln cm9 wt9 sg sd9 wa dep9 sl sf sh st sm sk ∧ pl9 = pl ∧ cm9 = cm ∧ wt9 ≤ wt ∧ 1 ≤ wt9 ∧ (∀ k, k < sg → sd9 k = sd k) ∧ dep9 cm9 = 1 ∧ opOf (wa (wt9 - 1)) ≠ 11 ∧ (n0 = 0 ∨ opOf (wa (wt9 - 1)) ≠ 12)) ∧ N = N9 ∧ JR D b N cl [(111, 111, 0, 1000000), (100, 100, 20, 20)] V V9) := by
  have hJ0 : JR D b N cl [(111, 111, 0, 1000000), (100, 100, 20, 20)] V V := JR.rf hW
  refine mw_of (by decide) (by simp [Value.category]) (Nat.le_of_ble_eq_true rfl) ?_
  show AW l D b jX12_lands (fx_rm 1 0 0) none (fx_MQ D b 0 0 (fx_qv (fun N9 V9 => (∃ (sd9 : Nat → Int32) (pl9 cm9 wt9 : Nat) (dep9 : Nat → Nat), PX D b V9 g pl9 ln cm9 wt9 sg sd9 wa dep9 sl sf sh st sm sk ∧ pl9 = pl ∧ cm9 = cm ∧ wt9 ≤ wt ∧ 1 ≤ wt9 ∧ (∀ k, k < sg → sd9 k = sd k) ∧ dep9 cm9 = 1 ∧ opOf (wa (wt9 - 1)) ≠ 11 ∧ (n0 = 0 ∨ opOf (wa (wt9 - 1)) ≠ 12)) ∧ N = N9 ∧ JR D b N cl [(111, 111, 0, 1000000), (100, 100, 20, 20)] V V9))) 0 [some (.ref (b + 100)), some (.int n0), none] [] N V 0 0
  obtain ⟨xg_x1, xs_x1, xw_x1, xp_x1, xl_x1, xc_x1, xt_x1, hP_x1, ⟨hB1_x1, hB2_x1, hB3_x1, hB4_x1⟩, xa_x1, xb_x1, xd_x1, xe_x1, xm_x1, hB5_x1⟩ := id hX
  obtain ⟨ftoldPeople_2, ftoldDoors_2, fwasDoors_2, ffault_2, fopen_2, flines_2, fmeantSet_2, fopenedNow_2, fvainNow_2, flowNow_2, fhighNow_2, fisKept_2, tad_2, pl0_2, le0_2, nu0_2, coy_2, wag_2, say_2, e_2, hntad_2, hnpl0_2, hnle0_2, hnnu0_2, hncoy_2, hnwag_2, hnsay_2⟩ := JR.get hJ0 cm_100
  have sb_x1pl := FG.eq xp_x1 e_2 rfl (by omega) (by omega)
  subst sb_x1pl
  have sb_x1cm := FG.eq xc_x1 e_2 rfl (by omega) (by omega)
  subst sb_x1cm
  have sb_x1wt := FG.eq xt_x1 e_2 rfl (by omega) (by omega)
  subst sb_x1wt
  have sb_x1ln := FG.eq xl_x1 e_2 rfl (by omega) (by omega)
  have hsg_x1 := hP_x1.2.1
  have sb_x1sm := FG.eq xm_x1 e_2 rfl (by omega) (by omega)
  have ml_0_3 : ∀ (m : Nat) (p0 : Nat) (c0 : Nat) (w0 : Nat) (sd0 : Nat → Int32) (dp0 : Nat → Nat) (V0 : Wd), m = w0 → (JR D b N cl [(111, 111, 0, 1000000), (100, 100, 20, 20)] V V0) → (PX D b V0 g p0 ln c0 w0 sg sd0 wa dp0 sl sf sh st sm sk) → (p0 = pl0_2) → (c0 = coy_2) → (w0 ≤ wag_2) → (1 ≤ w0) → (∀ k, k < sg → sd0 k = sd k) → (dp0 c0 = 1) → AW l D b jX12_lands (fx_rm 1 0 0) none (fx_MQ D b 0 0 (fx_qv (fun N9 V9 => (∃ (sd9 : Nat → Int32) (pl9 cm9 wt9 : Nat) (dep9 : Nat → Nat), PX D b V9 g pl9 ln cm9 wt9 sg sd9 wa dep9 sl sf sh st sm sk ∧ pl9 = pl0_2 ∧ cm9 = coy_2 ∧ wt9 ≤ wag_2 ∧ 1 ≤ wt9 ∧ (∀ k, k < sg → sd9 k = sd k) ∧ dep9 cm9 = 1 ∧ opOf (wa (wt9 - 1)) ≠ 11 ∧ (n0 = 0 ∨ opOf (wa (wt9 - 1)) ≠ 12)) ∧ N = N9 ∧ JR D b N cl [(111, 111, 0, 1000000), (100, 100, 20, 20)] V V9))) 0 [some (.ref (b + 100)), some (.int n0), none] [] N V0 0 0 := by
    intro m; refine Nat.strongRecOn m ?_
    intro m mih_0_3 p0 c0 w0 sd0 dp0 V0 hm0 i0_0 i0_1 i0_2 i0_3 i0_4 i0_5 i0_6 i0_7
    obtain ⟨xg_x4, xs_x4, xw_x4, xp_x4, xl_x4, xc_x4, xt_x4, hP_x4, ⟨hB1_x4, hB2_x4, hB3_x4, hB4_x4⟩, xa_x4, xb_x4, xd_x4, xe_x4, xm_x4, hB5_x4⟩ := i0_1
    obtain ⟨ftoldPeople_5, ftoldDoors_5, fwasDoors_5, ffault_5, fopen_5, flines_5, fmeantSet_5, fopenedNow_5, fvainNow_5, flowNow_5, fhighNow_5, fisKept_5, tad_5, pl0_5, le0_5, nu0_5, coy_5, wag_5, say_5, e_5, hntad_5, hnpl0_5, hnle0_5, hnnu0_5, hncoy_5, hnwag_5, hnsay_5⟩ := JR.get i0_0 cm_100
    clear hntad_2 hnpl0_2 hnle0_2 hnnu0_2 hncoy_2 hnwag_2 hnsay_2
    have sb_x4pl := FG.eq xp_x4 e_5 rfl (by omega) (by omega)
    subst sb_x4pl
    have sb_x4cm := FG.eq xc_x4 e_5 rfl (by omega) (by omega)
    subst sb_x4cm
    have sb_x4wt := FG.eq xt_x4 e_5 rfl (by omega) (by omega)
    subst sb_x4wt
    have sb_x4ln := FG.eq xl_x4 e_5 rfl (by omega) (by omega)
    have hsg_x4 := hP_x4.2.1
    have sb_x4sm := FG.eq xm_x4 e_5 rfl (by omega) (by omega)
    refine aw_aload_n dX12_lands_0 rfl ?_
    refine aw_callVi (J' := jX12_waitTop) (As := []) (st := []) dX12_lands_1 tb_1263 ok_X12_waitTop ⟨_, e_5⟩ (by omega) rfl rfl (r_waitTop l D b N V0 hN cl i0_0.1 ftoldPeople_5 ftoldDoors_5 fwasDoors_5 ffault_5 fopen_5 flines_5 fmeantSet_5 fopenedNow_5 fvainNow_5 flowNow_5 fhighNow_5 fisKept_5 tad_5 pl0_5 le0_5 nu0_5 coy_5 wag_5 say_5 ⟨by omega, by omega, by omega, by omega, by omega, by omega, by omega⟩ e_5 wa xw_x4 (fun q => by obtain ⟨o, a, e1, e2, e3, e4, _⟩ := PS.top hP_x4 q; exact ⟨o, a, e1, e2, e3, e4⟩)) rfl (Nat.le_of_ble_eq_true rfl) ⟨Nat.le_of_ble_eq_true rfl, Nat.le_of_ble_eq_true rfl, Nat.le_of_ble_eq_true rfl, Nat.le_of_ble_eq_true rfl⟩ (fun r_8 N_9 V_10 q_11 => ?_)
    obtain ⟨h_7, rfl, rfl⟩ := q_11
    rcases h_7 with ⟨g_12, e_13⟩ | ⟨g_14, e_15⟩
    · skip
      refine aw_eqi (y := (-1)) e_13 ?_
      refine aw_bipush (v := 11) dX12_lands_4 (by decide) ?_
      refine aw_icmp_eq (tgt := 22) dX12_lands_6 (by decide) (fun c_16 => ?_) (fun c_16 => ?_)
      · exact absurd c_16 (by decide)
      refine aw_iload_n dX12_lands_9 rfl ?_
      refine aw_if_eq (tgt := 73) dX12_lands_10 (by decide) (fun c_17 => ?_) (fun c_17 => ?_)
      · skip
        refine aw_vreti dX12_lands_73 rfl (Nat.le_of_ble_eq_true rfl) (Nat.le_of_ble_eq_true rfl) ?_
        exact ⟨⟨sd0, pl0_5, coy_5, wag_5, dp0, ⟨xg_x4, xs_x4, xw_x4, (FG.of e_5 rfl rfl), (FG.of e_5 rfl (by omega : le0_5 = ln)), (FG.of e_5 rfl rfl), (FG.of e_5 rfl rfl), hP_x4, ⟨by omega, by omega, by omega, by omega⟩, xa_x4, xb_x4, xd_x4, xe_x4, (FG.of e_5 rfl (by omega : say_5 = sm)), by omega⟩, by omega, by omega, by omega, by omega, i0_6, by omega, by omega, (by first | exact Or.inl c_17 | omega)⟩, rfl, i0_0⟩
      · skip
        refine aw_aload_n dX12_lands_13 rfl ?_
        refine aw_callVi (J' := jX12_waitTop) (As := []) (st := []) dX12_lands_14 tb_1263 ok_X12_waitTop ⟨_, e_5⟩ (by omega) rfl rfl (r_waitTop l D b N V0 hN cl i0_0.1 ftoldPeople_5 ftoldDoors_5 fwasDoors_5 ffault_5 fopen_5 flines_5 fmeantSet_5 fopenedNow_5 fvainNow_5 flowNow_5 fhighNow_5 fisKept_5 tad_5 pl0_5 le0_5 nu0_5 coy_5 wag_5 say_5 ⟨by omega, by omega, by omega, by omega, by omega, by omega, by omega⟩ e_5 wa xw_x4 (fun q => by obtain ⟨o, a, e1, e2, e3, e4, _⟩ := PS.top hP_x4 q; exact ⟨o, a, e1, e2, e3, e4⟩)) rfl (Nat.le_of_ble_eq_true rfl) ⟨Nat.le_of_ble_eq_true rfl, Nat.le_of_ble_eq_true rfl, Nat.le_of_ble_eq_true rfl, Nat.le_of_ble_eq_true rfl⟩ (fun r_20 N_21 V_22 q_23 => ?_)
        obtain ⟨h_19, rfl, rfl⟩ := q_23
        refine aw_eqi (y := -1) ((h_19.resolve_right (fun z => by omega)).2) ?_
        refine aw_bipush (v := 12) dX12_lands_17 (by decide) ?_
        refine aw_icmp_ne (tgt := 73) dX12_lands_19 (by decide) (fun c_24 => ?_) (fun c_24 => ?_)
        rotate_left
        · exact absurd c_24 (by decide)
        refine aw_vreti dX12_lands_73 rfl (Nat.le_of_ble_eq_true rfl) (Nat.le_of_ble_eq_true rfl) ?_
        exact ⟨⟨sd0, pl0_5, coy_5, wag_5, dp0, ⟨xg_x4, xs_x4, xw_x4, (FG.of e_5 rfl rfl), (FG.of e_5 rfl (by omega : le0_5 = ln)), (FG.of e_5 rfl rfl), (FG.of e_5 rfl rfl), hP_x4, ⟨by omega, by omega, by omega, by omega⟩, xa_x4, xb_x4, xd_x4, xe_x4, (FG.of e_5 rfl (by omega : say_5 = sm)), by omega⟩, by omega, by omega, by omega, by omega, i0_6, by omega, by omega, (by first | exact Or.inl c_17 | omega)⟩, rfl, i0_0⟩
    · skip
      refine aw_eqi (y := (nI (opOf (wa (wag_5 - 1))))) e_15 ?_
      obtain ⟨o_u_25, a_u_25, he_u_25, ha_u_25, h2_u_25, h14_u_25, hj_u_25⟩ := PS.top hP_x4 g_14
      have ho_u_25 : opOf (wa (wag_5 - 1)) = o_u_25 := by rw [he_u_25]; exact opOf_nI (by omega) (by omega)
      refine aw_eqi (y := nI o_u_25) (by rw [ho_u_25]) ?_
      refine aw_bipush (v := 11) dX12_lands_4 (by decide) ?_
      refine aw_icmp_eq (tgt := 22) dX12_lands_6 (by decide) (fun c_26 => ?_) (fun c_26 => ?_)
      · skip
        have nc_26 : o_u_25 = 11 := (nI_eq (a := o_u_25) (b := 11) (by omega) (by omega)).mp c_26
        have hz : wag_5 - 1 ≠ 0 := fun e => by rw [e] at ho_u_25; omega
        obtain ⟨ja1, ja2, o2, v2, js, jv, jo⟩ := (hj_u_25.resolve_left (by omega)).resolve_left (by omega)
        have hmn := wgt_mono (wa := wa) (m := wag_5 - 1) (n := wag_5) (by omega)
        refine aw_aload_n dX12_lands_22 rfl ?_
        refine aw_get dX12_lands_23 fl_X12_44 e_5 (by omega) rfl ?_
        refine aw_aload_n dX12_lands_26 rfl ?_
        refine aw_get dX12_lands_27 fl_X12_189 e_5 (by omega) rfl ?_
        refine aw_iconst (v := 1) dX12_lands_30 (by decide) ?_
        refine aw_isub dX12_lands_31 ?_
        refine aw_eqi (y := (nI (wag_5 - 1))) (pk_sub (a := wag_5) (b := 1) (by omega)) ?_
        refine aw_iald (v := (wa (wag_5 - 1))) dX12_lands_32 xw_x4 (by omega) (vp_in_nI (n := (wag_5 - 1)) (by omega) (by omega)) (congrArg wa (nI_clamp (n := (wag_5 - 1)) (by omega))) ?_
        refine aw_eqi he_u_25 ?_
        refine aw_ldc (v := 1048576) dX12_lands_33 tb_1240 ?_
        refine aw_irem dX12_lands_35 (by decide) ?_
        refine aw_eqi (y := (nI a_u_25)) (un_rem (by omega) (by omega)) ?_
        refine aw_istore_n (ls' := [some (.ref (b + 100)), some (.int n0), some (.int (nI a_u_25))]) dX12_lands_36 (Nat.le_of_ble_eq_true rfl) rfl ?_
        refine aw_aload_n dX12_lands_37 rfl ?_
        refine aw_get dX12_lands_38 fl_X12_41 e_5 (by omega) rfl ?_
        refine aw_iload_n dX12_lands_41 rfl ?_
        refine aw_ldc (v := 1048576) dX12_lands_42 tb_1240 ?_
        refine aw_aload_n dX12_lands_44 rfl ?_
        refine aw_get dX12_lands_45 fl_X12_41 e_5 (by omega) rfl ?_
        refine aw_iload_n dX12_lands_48 rfl ?_
        refine aw_iald (v := (sd0 a_u_25)) dX12_lands_49 xs_x4 (by omega) (vp_in_nI (n := a_u_25) (by omega) (by omega)) (congrArg sd0 (nI_clamp (n := a_u_25) (by omega))) ?_
        refine aw_eqi js ?_
        refine aw_ldc (v := 1048576) dX12_lands_50 tb_1240 ?_
        refine aw_idiv dX12_lands_52 (by decide) ?_
        refine aw_eqi (y := (nI o2)) (un_div jv (by omega)) ?_
        refine aw_imul dX12_lands_53 ?_
        refine aw_eqi (y := nI (1048576 * o2)) (pk_mul _ _) ?_
        refine aw_aload_n dX12_lands_54 rfl ?_
        refine aw_get dX12_lands_55 fl_X12_182 e_5 (by omega) rfl ?_
        refine aw_iadd dX12_lands_58 ?_
        refine aw_eqi (y := nI ((1048576 * o2) + coy_5)) (nI_add _ _) ?_
        refine aw_iast dX12_lands_59 xs_x4 (by omega) (vp_in_nI (n := a_u_25) (by omega) (by omega)) ?_
        refine aw_upR i0_0 cm_111 ⟨_, rfl⟩ (by decide) (WA LM0 (by decide) (by decide)) (fun V_27 j_27 k_27 e_27 => ?_)
        have e_28 : V_27 111 = cI D 260 (upd sd0 a_u_25 (nI ((1048576 * o2) + coy_5))) := by rw [e_27, nI_clamp (n := a_u_25) (by omega)]
        refine aw_aload_n dX12_lands_60 rfl ?_
        refine aw_aload_n dX12_lands_61 rfl ?_
        refine aw_get dX12_lands_62 fl_X12_189 ((k_27 _ (by decide)).trans e_5) (by omega) rfl ?_
        refine aw_iconst (v := 1) dX12_lands_65 (by decide) ?_
        refine aw_isub dX12_lands_66 ?_
        refine aw_eqi (y := (nI (wag_5 - 1))) (pk_sub (a := wag_5) (b := 1) (by omega)) ?_
        refine aw_put dX12_lands_67 fp_X12_189 ((k_27 _ (by decide)).trans e_5) (by omega) rfl rfl (Nat.le_of_ble_eq_true rfl) rfl ?_
        refine aw_upR j_27 cm_100 ⟨_, _, _, _, _, _, _, _, _, _, _, _, tad_5, pl0_5, le0_5, nu0_5, coy_5, (wag_5 - 1), say_5, rfl, by omega, by omega, by omega, by omega, by omega, by omega, by omega⟩ (by decide) (WO (s := 20) (x := .int (nI (wag_5 - 1))) ((k_27 _ (by decide)).trans e_5) rfl (LMs LM0) (by decide) (by decide) (by decide) (Or.inl (by decide))) (fun V_29 j_29 k_29 e_29 => ?_)
        have hR := PS.land hP_x4 (by omega) he_u_25 (by omega) ja1 ja2 js jv jo (by omega)
        refine aw_goto (tgt := 0) dX12_lands_70 (by decide) ?_
        refine aw_le ?_ (mih_0_3 _ (by omega) pl0_5 coy_5 (wag_5 - 1) (upd sd0 a_u_25 (nI ((1048576 * o2) + coy_5))) dp0 V_29 rfl (j_29) (⟨((k_29 _ (by decide)).trans ((k_27 _ (by decide)).trans xg_x4)), ((k_29 _ (by decide)).trans e_28), ((k_29 _ (by decide)).trans ((k_27 _ (by decide)).trans xw_x4)), (FG.of e_29 rfl rfl), (FG.of e_29 rfl (by omega : le0_5 = ln)), (FG.of e_29 rfl rfl), (FG.of e_29 rfl rfl), hR, ⟨by omega, by omega, by omega, by omega⟩, ((k_29 _ (by decide)).trans ((k_27 _ (by decide)).trans xa_x4)), ((k_29 _ (by decide)).trans ((k_27 _ (by decide)).trans xb_x4)), ((k_29 _ (by decide)).trans ((k_27 _ (by decide)).trans xd_x4)), ((k_29 _ (by decide)).trans ((k_27 _ (by decide)).trans xe_x4)), (FG.of e_29 rfl (by omega : say_5 = sm)), by omega⟩) (by omega) (by omega) (by omega) (by omega) (fun k hk => (pk_un (by omega)).trans (i0_6 k hk)) (by omega))
        exact ⟨rfl, ⟨rfl, trivial⟩⟩
      · skip
        have nc_26 : ¬ (o_u_25 = 11) := fun z => c_26 ((nI_eq (a := o_u_25) (b := 11) (by omega) (by omega)).mpr z)
        refine aw_iload_n dX12_lands_9 rfl ?_
        refine aw_if_eq (tgt := 73) dX12_lands_10 (by decide) (fun c_30 => ?_) (fun c_30 => ?_)
        · skip
          refine aw_vreti dX12_lands_73 rfl (Nat.le_of_ble_eq_true rfl) (Nat.le_of_ble_eq_true rfl) ?_
          exact ⟨⟨sd0, pl0_5, coy_5, wag_5, dp0, ⟨xg_x4, xs_x4, xw_x4, (FG.of e_5 rfl rfl), (FG.of e_5 rfl (by omega : le0_5 = ln)), (FG.of e_5 rfl rfl), (FG.of e_5 rfl rfl), hP_x4, ⟨by omega, by omega, by omega, by omega⟩, xa_x4, xb_x4, xd_x4, xe_x4, (FG.of e_5 rfl (by omega : say_5 = sm)), by omega⟩, by omega, by omega, by omega, by omega, i0_6, by omega, by omega, (by first | exact Or.inl c_30 | omega)⟩, rfl, i0_0⟩
        · skip
          refine aw_aload_n dX12_lands_13 rfl ?_
          refine aw_callVi (J' := jX12_waitTop) (As := []) (st := []) dX12_lands_14 tb_1263 ok_X12_waitTop ⟨_, e_5⟩ (by omega) rfl rfl (r_waitTop l D b N V0 hN cl i0_0.1 ftoldPeople_5 ftoldDoors_5 fwasDoors_5 ffault_5 fopen_5 flines_5 fmeantSet_5 fopenedNow_5 fvainNow_5 flowNow_5 fhighNow_5 fisKept_5 tad_5 pl0_5 le0_5 nu0_5 coy_5 wag_5 say_5 ⟨by omega, by omega, by omega, by omega, by omega, by omega, by omega⟩ e_5 wa xw_x4 (fun q => by obtain ⟨o, a, e1, e2, e3, e4, _⟩ := PS.top hP_x4 q; exact ⟨o, a, e1, e2, e3, e4⟩)) rfl (Nat.le_of_ble_eq_true rfl) ⟨Nat.le_of_ble_eq_true rfl, Nat.le_of_ble_eq_true rfl, Nat.le_of_ble_eq_true rfl, Nat.le_of_ble_eq_true rfl⟩ (fun r_33 N_34 V_35 q_36 => ?_)
          obtain ⟨h_32, rfl, rfl⟩ := q_36
          refine aw_eqi (y := nI o_u_25) (((h_32.resolve_left (fun z => by omega)).2).trans (by rw [ho_u_25])) ?_
          refine aw_bipush (v := 12) dX12_lands_17 (by decide) ?_
          refine aw_icmp_ne (tgt := 73) dX12_lands_19 (by decide) (fun c_37 => ?_) (fun c_37 => ?_)
          · skip
            have nc_37 : ¬ (o_u_25 = 12) := fun z => c_37 ((nI_eq (a := o_u_25) (b := 12) (by omega) (by omega)).mpr z)
            refine aw_vreti dX12_lands_73 rfl (Nat.le_of_ble_eq_true rfl) (Nat.le_of_ble_eq_true rfl) ?_
            exact ⟨⟨sd0, pl0_5, coy_5, wag_5, dp0, ⟨xg_x4, xs_x4, xw_x4, (FG.of e_5 rfl rfl), (FG.of e_5 rfl (by omega : le0_5 = ln)), (FG.of e_5 rfl rfl), (FG.of e_5 rfl rfl), hP_x4, ⟨by omega, by omega, by omega, by omega⟩, xa_x4, xb_x4, xd_x4, xe_x4, (FG.of e_5 rfl (by omega : say_5 = sm)), by omega⟩, by omega, by omega, by omega, by omega, i0_6, by omega, by omega, (by first | exact Or.inl c_30 | omega)⟩, rfl, i0_0⟩
          · skip
            have nc_37 : o_u_25 = 12 := (nI_eq (a := o_u_25) (b := 12) (by omega) (by omega)).mp c_37
            have hz : wag_5 - 1 ≠ 0 := fun e => by rw [e] at ho_u_25; omega
            obtain ⟨ja1, ja2, o2, v2, js, jv, jo⟩ := (hj_u_25.resolve_left (by omega)).resolve_left (by omega)
            have hmn := wgt_mono (wa := wa) (m := wag_5 - 1) (n := wag_5) (by omega)
            refine aw_aload_n dX12_lands_22 rfl ?_
            refine aw_get dX12_lands_23 fl_X12_44 e_5 (by omega) rfl ?_
            refine aw_aload_n dX12_lands_26 rfl ?_
            refine aw_get dX12_lands_27 fl_X12_189 e_5 (by omega) rfl ?_
            refine aw_iconst (v := 1) dX12_lands_30 (by decide) ?_
            refine aw_isub dX12_lands_31 ?_
            refine aw_eqi (y := (nI (wag_5 - 1))) (pk_sub (a := wag_5) (b := 1) (by omega)) ?_
            refine aw_iald (v := (wa (wag_5 - 1))) dX12_lands_32 xw_x4 (by omega) (vp_in_nI (n := (wag_5 - 1)) (by omega) (by omega)) (congrArg wa (nI_clamp (n := (wag_5 - 1)) (by omega))) ?_
            refine aw_eqi he_u_25 ?_
            refine aw_ldc (v := 1048576) dX12_lands_33 tb_1240 ?_
            refine aw_irem dX12_lands_35 (by decide) ?_
            refine aw_eqi (y := (nI a_u_25)) (un_rem (by omega) (by omega)) ?_
            refine aw_istore_n (ls' := [some (.ref (b + 100)), some (.int n0), some (.int (nI a_u_25))]) dX12_lands_36 (Nat.le_of_ble_eq_true rfl) rfl ?_
            refine aw_aload_n dX12_lands_37 rfl ?_
            refine aw_get dX12_lands_38 fl_X12_41 e_5 (by omega) rfl ?_
            refine aw_iload_n dX12_lands_41 rfl ?_
            refine aw_ldc (v := 1048576) dX12_lands_42 tb_1240 ?_
            refine aw_aload_n dX12_lands_44 rfl ?_
            refine aw_get dX12_lands_45 fl_X12_41 e_5 (by omega) rfl ?_
            refine aw_iload_n dX12_lands_48 rfl ?_
            refine aw_iald (v := (sd0 a_u_25)) dX12_lands_49 xs_x4 (by omega) (vp_in_nI (n := a_u_25) (by omega) (by omega)) (congrArg sd0 (nI_clamp (n := a_u_25) (by omega))) ?_
            refine aw_eqi js ?_
            refine aw_ldc (v := 1048576) dX12_lands_50 tb_1240 ?_
            refine aw_idiv dX12_lands_52 (by decide) ?_
            refine aw_eqi (y := (nI o2)) (un_div jv (by omega)) ?_
            refine aw_imul dX12_lands_53 ?_
            refine aw_eqi (y := nI (1048576 * o2)) (pk_mul _ _) ?_
            refine aw_aload_n dX12_lands_54 rfl ?_
            refine aw_get dX12_lands_55 fl_X12_182 e_5 (by omega) rfl ?_
            refine aw_iadd dX12_lands_58 ?_
            refine aw_eqi (y := nI ((1048576 * o2) + coy_5)) (nI_add _ _) ?_
            refine aw_iast dX12_lands_59 xs_x4 (by omega) (vp_in_nI (n := a_u_25) (by omega) (by omega)) ?_
            refine aw_upR i0_0 cm_111 ⟨_, rfl⟩ (by decide) (WA LM0 (by decide) (by decide)) (fun V_38 j_38 k_38 e_38 => ?_)
            have e_39 : V_38 111 = cI D 260 (upd sd0 a_u_25 (nI ((1048576 * o2) + coy_5))) := by rw [e_38, nI_clamp (n := a_u_25) (by omega)]
            refine aw_aload_n dX12_lands_60 rfl ?_
            refine aw_aload_n dX12_lands_61 rfl ?_
            refine aw_get dX12_lands_62 fl_X12_189 ((k_38 _ (by decide)).trans e_5) (by omega) rfl ?_
            refine aw_iconst (v := 1) dX12_lands_65 (by decide) ?_
            refine aw_isub dX12_lands_66 ?_
            refine aw_eqi (y := (nI (wag_5 - 1))) (pk_sub (a := wag_5) (b := 1) (by omega)) ?_
            refine aw_put dX12_lands_67 fp_X12_189 ((k_38 _ (by decide)).trans e_5) (by omega) rfl rfl (Nat.le_of_ble_eq_true rfl) rfl ?_
            refine aw_upR j_38 cm_100 ⟨_, _, _, _, _, _, _, _, _, _, _, _, tad_5, pl0_5, le0_5, nu0_5, coy_5, (wag_5 - 1), say_5, rfl, by omega, by omega, by omega, by omega, by omega, by omega, by omega⟩ (by decide) (WO (s := 20) (x := .int (nI (wag_5 - 1))) ((k_38 _ (by decide)).trans e_5) rfl (LMs LM0) (by decide) (by decide) (by decide) (Or.inl (by decide))) (fun V_40 j_40 k_40 e_40 => ?_)
            have hR := PS.land hP_x4 (by omega) he_u_25 (by omega) ja1 ja2 js jv jo (by omega)
            refine aw_goto (tgt := 0) dX12_lands_70 (by decide) ?_
            refine aw_le ?_ (mih_0_3 _ (by omega) pl0_5 coy_5 (wag_5 - 1) (upd sd0 a_u_25 (nI ((1048576 * o2) + coy_5))) dp0 V_40 rfl (j_40) (⟨((k_40 _ (by decide)).trans ((k_38 _ (by decide)).trans xg_x4)), ((k_40 _ (by decide)).trans e_39), ((k_40 _ (by decide)).trans ((k_38 _ (by decide)).trans xw_x4)), (FG.of e_40 rfl rfl), (FG.of e_40 rfl (by omega : le0_5 = ln)), (FG.of e_40 rfl rfl), (FG.of e_40 rfl rfl), hR, ⟨by omega, by omega, by omega, by omega⟩, ((k_40 _ (by decide)).trans ((k_38 _ (by decide)).trans xa_x4)), ((k_40 _ (by decide)).trans ((k_38 _ (by decide)).trans xb_x4)), ((k_40 _ (by decide)).trans ((k_38 _ (by decide)).trans xd_x4)), ((k_40 _ (by decide)).trans ((k_38 _ (by decide)).trans xe_x4)), (FG.of e_40 rfl (by omega : say_5 = sm)), by omega⟩) (by omega) (by omega) (by omega) (by omega) (fun k hk => (pk_un (by omega)).trans (i0_6 k hk)) (by omega))
            exact ⟨rfl, ⟨rfl, trivial⟩⟩
  refine aw_le ?_ (ml_0_3 _ pl0_2 coy_2 wag_2 sd dep V rfl (hJ0) (⟨xg_x1, xs_x1, xw_x1, (FG.of e_2 rfl rfl), (FG.of e_2 rfl (by omega : le0_2 = ln)), (FG.of e_2 rfl rfl), (FG.of e_2 rfl rfl), hP_x1, ⟨by omega, by omega, by omega, by omega⟩, xa_x1, xb_x1, xd_x1, xe_x1, (FG.of e_2 rfl (by omega : say_2 = sm)), by omega⟩) (by omega) (by omega) (by omega) (by omega) (fun k hk => rfl) (by omega))
  exact ⟨rfl, ⟨rfl, trivial⟩⟩
