set_option maxHeartbeats 4000000 in
set_option maxRecDepth 100000 in
theorem r_closesSums (l : Launch) (D : va_G) (b : Nat) (N : Nat) (V : Wd) (hN : 133 ≤ N) (cl : Nat) (hW : CR D b cl V) (n0 : Int32) (bs d0 : Nat) (g sd wa : Nat → Int32) (pl ln cm wt sg : Nat) (dep : Nat → Nat) (hX : PX D b V g pl ln cm wt sg sd wa dep) (hbw : bs ≤ wt) (hdp : dep cm + wgt wa bs = d0 + wgt wa wt + 1) (hbt : bs = 0 ∨ 10 ≤ opOf (wa (bs - 1))) : MV l D b 1 jX12_closesSums [.ref (b + 100), .int n0] N V 0 0 (fun N9 V9 => (∃ (sd9 : Nat → Int32) (pl9 cm9 wt9 : Nat) (dep9 : Nat → Nat), PX D b V9 g pl9 ln cm9 wt9 sg sd9 wa dep9 ∧ pl9 = pl ∧ bs ≤ wt9 ∧ wt9 ≤ wt ∧ (∀ k, k < sg → sd9 k = sd k) ∧ dep9 cm9 + wgt wa bs = d0 + wgt wa wt9 + 1 ∧ (∀ i, wt9 ≤ i → i < wt → opOf (wa i) ≤ 6) ∧ (wt9 = 0 ∨ opOf (wa (wt9 - 1)) < 4 ∨ 6 < opOf (wa (wt9 - 1))) ∧ (n0 = 0 ∨ wt9 = 0 ∨ opOf (wa (wt9 - 1)) < 2 ∨ 6 < opOf (wa (wt9 - 1)))) ∧ N = N9 ∧ JR D b N cl V V9) := by
  have hJ0 : JR D b N cl V V := JR.rf hW
  refine mw_of (by decide) (by simp [Value.category]) (Nat.le_of_ble_eq_true rfl) ?_
  show AW l D b jX12_closesSums (fx_rm 1 0 0) none (fx_MQ D b 0 0 (fx_qv (fun N9 V9 => (∃ (sd9 : Nat → Int32) (pl9 cm9 wt9 : Nat) (dep9 : Nat → Nat), PX D b V9 g pl9 ln cm9 wt9 sg sd9 wa dep9 ∧ pl9 = pl ∧ bs ≤ wt9 ∧ wt9 ≤ wt ∧ (∀ k, k < sg → sd9 k = sd k) ∧ dep9 cm9 + wgt wa bs = d0 + wgt wa wt9 + 1 ∧ (∀ i, wt9 ≤ i → i < wt → opOf (wa i) ≤ 6) ∧ (wt9 = 0 ∨ opOf (wa (wt9 - 1)) < 4 ∨ 6 < opOf (wa (wt9 - 1))) ∧ (n0 = 0 ∨ wt9 = 0 ∨ opOf (wa (wt9 - 1)) < 2 ∨ 6 < opOf (wa (wt9 - 1)))) ∧ N = N9 ∧ JR D b N cl V V9))) 0 [some (.ref (b + 100)), some (.int n0)] [] N V 0 0
  obtain ⟨xg_x1, xs_x1, xw_x1, xp_x1, xl_x1, xc_x1, xt_x1, hP_x1, hB1_x1, hB2_x1, hB3_x1, hB4_x1⟩ := id hX
  obtain ⟨ftoldPeople_2, ftoldDoors_2, fwasDoors_2, ffault_2, fopen_2, flines_2, fmeantSet_2, fopenedNow_2, fvainNow_2, flowNow_2, fhighNow_2, fisKept_2, tad_2, pl0_2, le0_2, nu0_2, coy_2, wag_2, say_2, e_2, hntad_2, hnpl0_2, hnle0_2, hnnu0_2, hncoy_2, hnwag_2, hnsay_2⟩ := JR.get hJ0 cm_100
  have sb_x1pl := FG.eq xp_x1 e_2 rfl (by omega) (by omega)
  subst sb_x1pl
  have sb_x1cm := FG.eq xc_x1 e_2 rfl (by omega) (by omega)
  subst sb_x1cm
  have sb_x1wt := FG.eq xt_x1 e_2 rfl (by omega) (by omega)
  subst sb_x1wt
  have sb_x1ln := FG.eq xl_x1 e_2 rfl (by omega) (by omega)
  have hsg_x1 := hP_x1.2.1
  have ml_0_3 : ∀ (m : Nat) (p0 : Nat) (c0 : Nat) (w0 : Nat) (sd0 : Nat → Int32) (dp0 : Nat → Nat) (V0 : Wd), m = w0 → (JR D b N cl V V0) → (PX D b V0 g p0 ln c0 w0 sg sd0 wa dp0) → (p0 = pl0_2) → (bs ≤ w0) → (w0 ≤ wag_2) → (∀ k, k < sg → sd0 k = sd k) → (dp0 c0 + wgt wa bs = d0 + wgt wa w0 + 1) → (∀ i, w0 ≤ i → i < wag_2 → opOf (wa i) ≤ 6) → AW l D b jX12_closesSums (fx_rm 1 0 0) none (fx_MQ D b 0 0 (fx_qv (fun N9 V9 => (∃ (sd9 : Nat → Int32) (pl9 cm9 wt9 : Nat) (dep9 : Nat → Nat), PX D b V9 g pl9 ln cm9 wt9 sg sd9 wa dep9 ∧ pl9 = pl0_2 ∧ bs ≤ wt9 ∧ wt9 ≤ wag_2 ∧ (∀ k, k < sg → sd9 k = sd k) ∧ dep9 cm9 + wgt wa bs = d0 + wgt wa wt9 + 1 ∧ (∀ i, wt9 ≤ i → i < wag_2 → opOf (wa i) ≤ 6) ∧ (wt9 = 0 ∨ opOf (wa (wt9 - 1)) < 4 ∨ 6 < opOf (wa (wt9 - 1))) ∧ (n0 = 0 ∨ wt9 = 0 ∨ opOf (wa (wt9 - 1)) < 2 ∨ 6 < opOf (wa (wt9 - 1)))) ∧ N = N9 ∧ JR D b N cl V V9))) 0 [some (.ref (b + 100)), some (.int n0)] [] N V0 0 0 := by
    intro m; refine Nat.strongRecOn m ?_
    intro m mih_0_3 p0 c0 w0 sd0 dp0 V0 hm0 i0_0 i0_1 i0_2 i0_3 i0_4 i0_5 i0_6 i0_7
    obtain ⟨xg_x4, xs_x4, xw_x4, xp_x4, xl_x4, xc_x4, xt_x4, hP_x4, hB1_x4, hB2_x4, hB3_x4, hB4_x4⟩ := i0_1
    obtain ⟨ftoldPeople_5, ftoldDoors_5, fwasDoors_5, ffault_5, fopen_5, flines_5, fmeantSet_5, fopenedNow_5, fvainNow_5, flowNow_5, fhighNow_5, fisKept_5, tad_5, pl0_5, le0_5, nu0_5, coy_5, wag_5, say_5, e_5, hntad_5, hnpl0_5, hnle0_5, hnnu0_5, hncoy_5, hnwag_5, hnsay_5⟩ := JR.get i0_0 cm_100
    have sb_x4pl := FG.eq xp_x4 e_5 rfl (by omega) (by omega)
    subst sb_x4pl
    have sb_x4cm := FG.eq xc_x4 e_5 rfl (by omega) (by omega)
    subst sb_x4cm
    have sb_x4wt := FG.eq xt_x4 e_5 rfl (by omega) (by omega)
    subst sb_x4wt
    have sb_x4ln := FG.eq xl_x4 e_5 rfl (by omega) (by omega)
    have hsg_x4 := hP_x4.2.1
    refine aw_aload_n dX12_closesSums_0 rfl ?_
    refine aw_callVi (J' := jX12_waitTop) (As := []) (st := []) dX12_closesSums_1 tb_1263 ok_X12_waitTop ⟨_, e_5⟩ (by omega) rfl rfl (r_waitTop l D b N V0 hN cl i0_0.1 ftoldPeople_5 ftoldDoors_5 fwasDoors_5 ffault_5 fopen_5 flines_5 fmeantSet_5 fopenedNow_5 fvainNow_5 flowNow_5 fhighNow_5 fisKept_5 tad_5 pl0_5 le0_5 nu0_5 coy_5 wag_5 say_5 ⟨by omega, by omega, by omega, by omega, by omega, by omega, by omega⟩ e_5 wa xw_x4 (fun q => by obtain ⟨o, a, e1, e2, e3, e4, _⟩ := PS.top hP_x4 q; exact ⟨o, a, e1, e2, e3, e4⟩)) rfl (Nat.le_of_ble_eq_true rfl) ⟨Nat.le_of_ble_eq_true rfl, Nat.le_of_ble_eq_true rfl, Nat.le_of_ble_eq_true rfl, Nat.le_of_ble_eq_true rfl⟩ (fun r_8 N_9 V_10 q_11 => ?_)
    obtain ⟨h_7, rfl, rfl⟩ := q_11
    rcases h_7 with ⟨g_12, e_13⟩ | ⟨g_14, e_15⟩
    · skip
      refine aw_eqi (y := (-1)) e_13 ?_
      refine aw_iconst (v := 4) dX12_closesSums_4 (by decide) ?_
      refine aw_icmp_lt (tgt := 17) dX12_closesSums_5 (by decide) (fun c_16 => ?_) (fun c_16 => ?_)
      rotate_left
      · exact absurd (by decide) c_16
      refine aw_iload_n dX12_closesSums_17 rfl ?_
      refine aw_if_eq (tgt := 59) dX12_closesSums_18 (by decide) (fun c_17 => ?_) (fun c_17 => ?_)
      · skip
        refine aw_vreti dX12_closesSums_59 rfl (Nat.le_of_ble_eq_true rfl) (Nat.le_of_ble_eq_true rfl) ?_
        exact ⟨⟨sd0, pl0_5, coy_5, wag_5, dp0, ⟨xg_x4, xs_x4, xw_x4, (FG.of e_5 rfl rfl), (FG.of e_5 rfl (by omega : le0_5 = ln)), (FG.of e_5 rfl rfl), (FG.of e_5 rfl rfl), hP_x4, by omega, by omega, by omega, by omega⟩, by omega, by omega, by omega, i0_5, by omega, i0_7, by omega, (by first | exact Or.inl c_17 | omega)⟩, rfl, i0_0⟩
      · skip
        refine aw_aload_n dX12_closesSums_21 rfl ?_
        refine aw_callVi (J' := jX12_waitTop) (As := []) (st := []) dX12_closesSums_22 tb_1263 ok_X12_waitTop ⟨_, e_5⟩ (by omega) rfl rfl (r_waitTop l D b N V0 hN cl i0_0.1 ftoldPeople_5 ftoldDoors_5 fwasDoors_5 ffault_5 fopen_5 flines_5 fmeantSet_5 fopenedNow_5 fvainNow_5 flowNow_5 fhighNow_5 fisKept_5 tad_5 pl0_5 le0_5 nu0_5 coy_5 wag_5 say_5 ⟨by omega, by omega, by omega, by omega, by omega, by omega, by omega⟩ e_5 wa xw_x4 (fun q => by obtain ⟨o, a, e1, e2, e3, e4, _⟩ := PS.top hP_x4 q; exact ⟨o, a, e1, e2, e3, e4⟩)) rfl (Nat.le_of_ble_eq_true rfl) ⟨Nat.le_of_ble_eq_true rfl, Nat.le_of_ble_eq_true rfl, Nat.le_of_ble_eq_true rfl, Nat.le_of_ble_eq_true rfl⟩ (fun r_20 N_21 V_22 q_23 => ?_)
        obtain ⟨h_19, rfl, rfl⟩ := q_23
        refine aw_eqi (y := -1) ((h_19.resolve_right (fun z => by omega)).2) ?_
        refine aw_iconst (v := 2) dX12_closesSums_25 (by decide) ?_
        refine aw_icmp_eq (tgt := 37) dX12_closesSums_26 (by decide) (fun c_24 => ?_) (fun c_24 => ?_)
        · exact absurd c_24 (by decide)
        refine aw_aload_n dX12_closesSums_29 rfl ?_
        refine aw_callVi (J' := jX12_waitTop) (As := []) (st := []) dX12_closesSums_30 tb_1263 ok_X12_waitTop ⟨_, e_5⟩ (by omega) rfl rfl (r_waitTop l D b N V0 hN cl i0_0.1 ftoldPeople_5 ftoldDoors_5 fwasDoors_5 ffault_5 fopen_5 flines_5 fmeantSet_5 fopenedNow_5 fvainNow_5 flowNow_5 fhighNow_5 fisKept_5 tad_5 pl0_5 le0_5 nu0_5 coy_5 wag_5 say_5 ⟨by omega, by omega, by omega, by omega, by omega, by omega, by omega⟩ e_5 wa xw_x4 (fun q => by obtain ⟨o, a, e1, e2, e3, e4, _⟩ := PS.top hP_x4 q; exact ⟨o, a, e1, e2, e3, e4⟩)) rfl (Nat.le_of_ble_eq_true rfl) ⟨Nat.le_of_ble_eq_true rfl, Nat.le_of_ble_eq_true rfl, Nat.le_of_ble_eq_true rfl, Nat.le_of_ble_eq_true rfl⟩ (fun r_27 N_28 V_29 q_30 => ?_)
        obtain ⟨h_26, rfl, rfl⟩ := q_30
        refine aw_eqi (y := -1) ((h_26.resolve_right (fun z => by omega)).2) ?_
        refine aw_iconst (v := 3) dX12_closesSums_33 (by decide) ?_
        refine aw_icmp_ne (tgt := 59) dX12_closesSums_34 (by decide) (fun c_31 => ?_) (fun c_31 => ?_)
        rotate_left
        · exact absurd c_31 (by decide)
        refine aw_vreti dX12_closesSums_59 rfl (Nat.le_of_ble_eq_true rfl) (Nat.le_of_ble_eq_true rfl) ?_
        exact ⟨⟨sd0, pl0_5, coy_5, wag_5, dp0, ⟨xg_x4, xs_x4, xw_x4, (FG.of e_5 rfl rfl), (FG.of e_5 rfl (by omega : le0_5 = ln)), (FG.of e_5 rfl rfl), (FG.of e_5 rfl rfl), hP_x4, by omega, by omega, by omega, by omega⟩, by omega, by omega, by omega, i0_5, by omega, i0_7, by omega, (by first | exact Or.inl c_17 | omega)⟩, rfl, i0_0⟩
    · skip
      refine aw_eqi (y := (nI (opOf (wa (wag_5 - 1))))) e_15 ?_
      obtain ⟨o_u_32, a_u_32, he_u_32, ha_u_32, h2_u_32, h14_u_32, hj_u_32⟩ := PS.top hP_x4 g_14
      have ho_u_32 : opOf (wa (wag_5 - 1)) = o_u_32 := by rw [he_u_32]; exact opOf_nI (by omega) (by omega)
      refine aw_eqi (y := nI o_u_32) (by rw [ho_u_32]) ?_
      refine aw_iconst (v := 4) dX12_closesSums_4 (by decide) ?_
      refine aw_icmp_lt (tgt := 17) dX12_closesSums_5 (by decide) (fun c_33 => ?_) (fun c_33 => ?_)
      · skip
        have nc_33 : o_u_32 < 4 := (nI_ltI (a := o_u_32) (b := 4) (by omega) (by omega)).mp c_33
        refine aw_iload_n dX12_closesSums_17 rfl ?_
        refine aw_if_eq (tgt := 59) dX12_closesSums_18 (by decide) (fun c_34 => ?_) (fun c_34 => ?_)
        · skip
          refine aw_vreti dX12_closesSums_59 rfl (Nat.le_of_ble_eq_true rfl) (Nat.le_of_ble_eq_true rfl) ?_
          exact ⟨⟨sd0, pl0_5, coy_5, wag_5, dp0, ⟨xg_x4, xs_x4, xw_x4, (FG.of e_5 rfl rfl), (FG.of e_5 rfl (by omega : le0_5 = ln)), (FG.of e_5 rfl rfl), (FG.of e_5 rfl rfl), hP_x4, by omega, by omega, by omega, by omega⟩, by omega, by omega, by omega, i0_5, by omega, i0_7, by omega, (by first | exact Or.inl c_34 | omega)⟩, rfl, i0_0⟩
        · skip
          refine aw_aload_n dX12_closesSums_21 rfl ?_
          refine aw_callVi (J' := jX12_waitTop) (As := []) (st := []) dX12_closesSums_22 tb_1263 ok_X12_waitTop ⟨_, e_5⟩ (by omega) rfl rfl (r_waitTop l D b N V0 hN cl i0_0.1 ftoldPeople_5 ftoldDoors_5 fwasDoors_5 ffault_5 fopen_5 flines_5 fmeantSet_5 fopenedNow_5 fvainNow_5 flowNow_5 fhighNow_5 fisKept_5 tad_5 pl0_5 le0_5 nu0_5 coy_5 wag_5 say_5 ⟨by omega, by omega, by omega, by omega, by omega, by omega, by omega⟩ e_5 wa xw_x4 (fun q => by obtain ⟨o, a, e1, e2, e3, e4, _⟩ := PS.top hP_x4 q; exact ⟨o, a, e1, e2, e3, e4⟩)) rfl (Nat.le_of_ble_eq_true rfl) ⟨Nat.le_of_ble_eq_true rfl, Nat.le_of_ble_eq_true rfl, Nat.le_of_ble_eq_true rfl, Nat.le_of_ble_eq_true rfl⟩ (fun r_37 N_38 V_39 q_40 => ?_)
          obtain ⟨h_36, rfl, rfl⟩ := q_40
          refine aw_eqi (y := nI o_u_32) (((h_36.resolve_left (fun z => by omega)).2).trans (by rw [ho_u_32])) ?_
          refine aw_iconst (v := 2) dX12_closesSums_25 (by decide) ?_
          refine aw_icmp_eq (tgt := 37) dX12_closesSums_26 (by decide) (fun c_41 => ?_) (fun c_41 => ?_)
          · skip
            have nc_41 : o_u_32 = 2 := (nI_eq (a := o_u_32) (b := 2) (by omega) (by omega)).mp c_41
            refine aw_aload_n dX12_closesSums_37 rfl ?_
            refine aw_aload_n dX12_closesSums_38 rfl ?_
            refine aw_callVi (J' := jX12_waitTop) (As := []) (st := [.ref (b + 100)]) dX12_closesSums_39 tb_1263 ok_X12_waitTop ⟨_, e_5⟩ (by omega) rfl rfl (r_waitTop l D b N V0 hN cl i0_0.1 ftoldPeople_5 ftoldDoors_5 fwasDoors_5 ffault_5 fopen_5 flines_5 fmeantSet_5 fopenedNow_5 fvainNow_5 flowNow_5 fhighNow_5 fisKept_5 tad_5 pl0_5 le0_5 nu0_5 coy_5 wag_5 say_5 ⟨by omega, by omega, by omega, by omega, by omega, by omega, by omega⟩ e_5 wa xw_x4 (fun q => by obtain ⟨o, a, e1, e2, e3, e4, _⟩ := PS.top hP_x4 q; exact ⟨o, a, e1, e2, e3, e4⟩)) rfl (Nat.le_of_ble_eq_true rfl) ⟨Nat.le_of_ble_eq_true rfl, Nat.le_of_ble_eq_true rfl, Nat.le_of_ble_eq_true rfl, Nat.le_of_ble_eq_true rfl⟩ (fun r_44 N_45 V_46 q_47 => ?_)
            obtain ⟨h_43, rfl, rfl⟩ := q_47
            refine aw_eqi (y := nI o_u_32) (((h_43.resolve_left (fun z => by omega)).2).trans (by rw [ho_u_32])) ?_
            refine aw_iconst (v := 0) dX12_closesSums_42 (by decide) ?_
            refine aw_callVv (J' := jX12_notes) (As := [.int (nI o_u_32), .int 0]) (st := []) dX12_closesSums_43 tb_1249 ok_X12_notes ⟨_, e_5⟩ (by omega) rfl rfl (r_notes l D b N V0 hN cl i0_0.1 (nI o_u_32) 0 o_u_32 0 (by omega) (by omega) ftoldPeople_5 ftoldDoors_5 fwasDoors_5 ffault_5 fopen_5 flines_5 fmeantSet_5 fopenedNow_5 fvainNow_5 flowNow_5 fhighNow_5 fisKept_5 tad_5 pl0_5 le0_5 nu0_5 coy_5 wag_5 say_5 ⟨by omega, by omega, by omega, by omega, by omega, by omega, by omega⟩ e_5 g sd0 wa xg_x4 xs_x4 xw_x4 (by omega)) rfl (Nat.le_of_ble_eq_true rfl) ⟨Nat.le_of_ble_eq_true rfl, Nat.le_of_ble_eq_true rfl, Nat.le_of_ble_eq_true rfl, Nat.le_of_ble_eq_true rfl⟩ (fun  N_56 V_51 q_57 => ?_)
            obtain ⟨h_49, rfl, q_48⟩ := q_57
            have j_50 := JR.trans i0_0 q_48
            obtain ⟨hN_52, hN_53, hN_54, hN_55⟩ := h_49
            have hbw2 : bs < wag_5 := by rcases Nat.lt_or_ge bs wag_5 with q | q; exact q; exact absurd hbt (by rw [show bs = wag_5 by omega, ho_u_32]; omega)
            have hpop := wgt_pop (wa := wa) (n := wag_5) (by omega)
            rw [ho_u_32, if_pos (by omega)] at hpop
            have hmn := wgt_mono (wa := wa) (m := bs) (n := wag_5 - 1) (by omega)
            have hQ := PS.emit hP_x4 o_u_32 0 (dp0 coy_5 - 1) (by omega) (by decide) (by omega) (by omega) (by omega) (by omega) (by omega)
            have hds : dset dp0 (coy_5 + 1) (dp0 coy_5 - 1) (coy_5 + 1) = dp0 coy_5 - 1 := dset_s
            refine aw_aload_n dX12_closesSums_46 rfl ?_
            refine aw_aload_n dX12_closesSums_47 rfl ?_
            refine aw_get dX12_closesSums_48 fl_X12_189 hN_52 (by omega) rfl ?_
            refine aw_iconst (v := 1) dX12_closesSums_51 (by decide) ?_
            refine aw_isub dX12_closesSums_52 ?_
            refine aw_eqi (y := (nI (wag_5 - 1))) (pk_sub (a := wag_5) (b := 1) (by omega)) ?_
            refine aw_put dX12_closesSums_53 fp_X12_189 hN_52 (by omega) rfl rfl (Nat.le_of_ble_eq_true rfl) rfl ?_
            refine aw_upR j_50 cm_100 ⟨_, _, _, _, _, _, _, _, _, _, _, _, tad_5, pl0_5, le0_5, nu0_5, (coy_5 + 1), (wag_5 - 1), say_5, rfl, by omega, by omega, by omega, by omega, by omega, by omega, by omega⟩ (by decide) (fun V_58 j_58 k_58 e_58 => ?_)
            have hR := PS.pop hQ (by omega) (by rw [ho_u_32]; omega)
            refine aw_goto (tgt := 0) dX12_closesSums_56 (by decide) ?_
            refine aw_le ?_ (mih_0_3 _ (by omega) pl0_5 (coy_5 + 1) (wag_5 - 1) (upd sd0 coy_5 (nI (1048576 * o_u_32 + 0))) (dset dp0 (coy_5 + 1) (dp0 coy_5 - 1)) V_58 rfl (j_58) (⟨((k_58 _ (by decide)).trans (hN_55.trans xg_x4)), ((k_58 _ (by decide)).trans hN_53), ((k_58 _ (by decide)).trans (hN_54.trans xw_x4)), (FG.of e_58 rfl rfl), (FG.of e_58 rfl (by omega : le0_5 = ln)), (FG.of e_58 rfl rfl), (FG.of e_58 rfl rfl), hR, by omega, by omega, by omega, by omega⟩) (by omega) (by omega) (by omega) (fun k hk => (pk_un (by omega)).trans (i0_5 k hk)) (by omega) (fun i h1 h2 => if e : i = wag_5 - 1 then (by rw [e, ho_u_32]; omega) else i0_7 i (by omega) h2))
            exact ⟨rfl, ⟨rfl, trivial⟩⟩
          · skip
            have nc_41 : ¬ (o_u_32 = 2) := fun z => c_41 ((nI_eq (a := o_u_32) (b := 2) (by omega) (by omega)).mpr z)
            refine aw_aload_n dX12_closesSums_29 rfl ?_
            refine aw_callVi (J' := jX12_waitTop) (As := []) (st := []) dX12_closesSums_30 tb_1263 ok_X12_waitTop ⟨_, e_5⟩ (by omega) rfl rfl (r_waitTop l D b N V0 hN cl i0_0.1 ftoldPeople_5 ftoldDoors_5 fwasDoors_5 ffault_5 fopen_5 flines_5 fmeantSet_5 fopenedNow_5 fvainNow_5 flowNow_5 fhighNow_5 fisKept_5 tad_5 pl0_5 le0_5 nu0_5 coy_5 wag_5 say_5 ⟨by omega, by omega, by omega, by omega, by omega, by omega, by omega⟩ e_5 wa xw_x4 (fun q => by obtain ⟨o, a, e1, e2, e3, e4, _⟩ := PS.top hP_x4 q; exact ⟨o, a, e1, e2, e3, e4⟩)) rfl (Nat.le_of_ble_eq_true rfl) ⟨Nat.le_of_ble_eq_true rfl, Nat.le_of_ble_eq_true rfl, Nat.le_of_ble_eq_true rfl, Nat.le_of_ble_eq_true rfl⟩ (fun r_61 N_62 V_63 q_64 => ?_)
            obtain ⟨h_60, rfl, rfl⟩ := q_64
            refine aw_eqi (y := nI o_u_32) (((h_60.resolve_left (fun z => by omega)).2).trans (by rw [ho_u_32])) ?_
            refine aw_iconst (v := 3) dX12_closesSums_33 (by decide) ?_
            refine aw_icmp_ne (tgt := 59) dX12_closesSums_34 (by decide) (fun c_65 => ?_) (fun c_65 => ?_)
            · skip
              have nc_65 : ¬ (o_u_32 = 3) := fun z => c_65 ((nI_eq (a := o_u_32) (b := 3) (by omega) (by omega)).mpr z)
              refine aw_vreti dX12_closesSums_59 rfl (Nat.le_of_ble_eq_true rfl) (Nat.le_of_ble_eq_true rfl) ?_
              exact ⟨⟨sd0, pl0_5, coy_5, wag_5, dp0, ⟨xg_x4, xs_x4, xw_x4, (FG.of e_5 rfl rfl), (FG.of e_5 rfl (by omega : le0_5 = ln)), (FG.of e_5 rfl rfl), (FG.of e_5 rfl rfl), hP_x4, by omega, by omega, by omega, by omega⟩, by omega, by omega, by omega, i0_5, by omega, i0_7, by omega, (by first | exact Or.inl c_34 | omega)⟩, rfl, i0_0⟩
            · skip
              have nc_65 : o_u_32 = 3 := (nI_eq (a := o_u_32) (b := 3) (by omega) (by omega)).mp c_65
              refine aw_aload_n dX12_closesSums_37 rfl ?_
              refine aw_aload_n dX12_closesSums_38 rfl ?_
              refine aw_callVi (J' := jX12_waitTop) (As := []) (st := [.ref (b + 100)]) dX12_closesSums_39 tb_1263 ok_X12_waitTop ⟨_, e_5⟩ (by omega) rfl rfl (r_waitTop l D b N V0 hN cl i0_0.1 ftoldPeople_5 ftoldDoors_5 fwasDoors_5 ffault_5 fopen_5 flines_5 fmeantSet_5 fopenedNow_5 fvainNow_5 flowNow_5 fhighNow_5 fisKept_5 tad_5 pl0_5 le0_5 nu0_5 coy_5 wag_5 say_5 ⟨by omega, by omega, by omega, by omega, by omega, by omega, by omega⟩ e_5 wa xw_x4 (fun q => by obtain ⟨o, a, e1, e2, e3, e4, _⟩ := PS.top hP_x4 q; exact ⟨o, a, e1, e2, e3, e4⟩)) rfl (Nat.le_of_ble_eq_true rfl) ⟨Nat.le_of_ble_eq_true rfl, Nat.le_of_ble_eq_true rfl, Nat.le_of_ble_eq_true rfl, Nat.le_of_ble_eq_true rfl⟩ (fun r_68 N_69 V_70 q_71 => ?_)
              obtain ⟨h_67, rfl, rfl⟩ := q_71
              refine aw_eqi (y := nI o_u_32) (((h_67.resolve_left (fun z => by omega)).2).trans (by rw [ho_u_32])) ?_
              refine aw_iconst (v := 0) dX12_closesSums_42 (by decide) ?_
              refine aw_callVv (J' := jX12_notes) (As := [.int (nI o_u_32), .int 0]) (st := []) dX12_closesSums_43 tb_1249 ok_X12_notes ⟨_, e_5⟩ (by omega) rfl rfl (r_notes l D b N V0 hN cl i0_0.1 (nI o_u_32) 0 o_u_32 0 (by omega) (by omega) ftoldPeople_5 ftoldDoors_5 fwasDoors_5 ffault_5 fopen_5 flines_5 fmeantSet_5 fopenedNow_5 fvainNow_5 flowNow_5 fhighNow_5 fisKept_5 tad_5 pl0_5 le0_5 nu0_5 coy_5 wag_5 say_5 ⟨by omega, by omega, by omega, by omega, by omega, by omega, by omega⟩ e_5 g sd0 wa xg_x4 xs_x4 xw_x4 (by omega)) rfl (Nat.le_of_ble_eq_true rfl) ⟨Nat.le_of_ble_eq_true rfl, Nat.le_of_ble_eq_true rfl, Nat.le_of_ble_eq_true rfl, Nat.le_of_ble_eq_true rfl⟩ (fun  N_80 V_75 q_81 => ?_)
              obtain ⟨h_73, rfl, q_72⟩ := q_81
              have j_74 := JR.trans i0_0 q_72
              obtain ⟨hN_76, hN_77, hN_78, hN_79⟩ := h_73
              have hbw2 : bs < wag_5 := by rcases Nat.lt_or_ge bs wag_5 with q | q; exact q; exact absurd hbt (by rw [show bs = wag_5 by omega, ho_u_32]; omega)
              have hpop := wgt_pop (wa := wa) (n := wag_5) (by omega)
              rw [ho_u_32, if_pos (by omega)] at hpop
              have hmn := wgt_mono (wa := wa) (m := bs) (n := wag_5 - 1) (by omega)
              have hQ := PS.emit hP_x4 o_u_32 0 (dp0 coy_5 - 1) (by omega) (by decide) (by omega) (by omega) (by omega) (by omega) (by omega)
              have hds : dset dp0 (coy_5 + 1) (dp0 coy_5 - 1) (coy_5 + 1) = dp0 coy_5 - 1 := dset_s
              refine aw_aload_n dX12_closesSums_46 rfl ?_
              refine aw_aload_n dX12_closesSums_47 rfl ?_
              refine aw_get dX12_closesSums_48 fl_X12_189 hN_76 (by omega) rfl ?_
              refine aw_iconst (v := 1) dX12_closesSums_51 (by decide) ?_
              refine aw_isub dX12_closesSums_52 ?_
              refine aw_eqi (y := (nI (wag_5 - 1))) (pk_sub (a := wag_5) (b := 1) (by omega)) ?_
              refine aw_put dX12_closesSums_53 fp_X12_189 hN_76 (by omega) rfl rfl (Nat.le_of_ble_eq_true rfl) rfl ?_
              refine aw_upR j_74 cm_100 ⟨_, _, _, _, _, _, _, _, _, _, _, _, tad_5, pl0_5, le0_5, nu0_5, (coy_5 + 1), (wag_5 - 1), say_5, rfl, by omega, by omega, by omega, by omega, by omega, by omega, by omega⟩ (by decide) (fun V_82 j_82 k_82 e_82 => ?_)
              have hR := PS.pop hQ (by omega) (by rw [ho_u_32]; omega)
              refine aw_goto (tgt := 0) dX12_closesSums_56 (by decide) ?_
              refine aw_le ?_ (mih_0_3 _ (by omega) pl0_5 (coy_5 + 1) (wag_5 - 1) (upd sd0 coy_5 (nI (1048576 * o_u_32 + 0))) (dset dp0 (coy_5 + 1) (dp0 coy_5 - 1)) V_82 rfl (j_82) (⟨((k_82 _ (by decide)).trans (hN_79.trans xg_x4)), ((k_82 _ (by decide)).trans hN_77), ((k_82 _ (by decide)).trans (hN_78.trans xw_x4)), (FG.of e_82 rfl rfl), (FG.of e_82 rfl (by omega : le0_5 = ln)), (FG.of e_82 rfl rfl), (FG.of e_82 rfl rfl), hR, by omega, by omega, by omega, by omega⟩) (by omega) (by omega) (by omega) (fun k hk => (pk_un (by omega)).trans (i0_5 k hk)) (by omega) (fun i h1 h2 => if e : i = wag_5 - 1 then (by rw [e, ho_u_32]; omega) else i0_7 i (by omega) h2))
              exact ⟨rfl, ⟨rfl, trivial⟩⟩
      · skip
        have nc_33 : ¬ (o_u_32 < 4) := fun z => c_33 ((nI_ltI (a := o_u_32) (b := 4) (by omega) (by omega)).mpr z)
        refine aw_aload_n dX12_closesSums_8 rfl ?_
        refine aw_callVi (J' := jX12_waitTop) (As := []) (st := []) dX12_closesSums_9 tb_1263 ok_X12_waitTop ⟨_, e_5⟩ (by omega) rfl rfl (r_waitTop l D b N V0 hN cl i0_0.1 ftoldPeople_5 ftoldDoors_5 fwasDoors_5 ffault_5 fopen_5 flines_5 fmeantSet_5 fopenedNow_5 fvainNow_5 flowNow_5 fhighNow_5 fisKept_5 tad_5 pl0_5 le0_5 nu0_5 coy_5 wag_5 say_5 ⟨by omega, by omega, by omega, by omega, by omega, by omega, by omega⟩ e_5 wa xw_x4 (fun q => by obtain ⟨o, a, e1, e2, e3, e4, _⟩ := PS.top hP_x4 q; exact ⟨o, a, e1, e2, e3, e4⟩)) rfl (Nat.le_of_ble_eq_true rfl) ⟨Nat.le_of_ble_eq_true rfl, Nat.le_of_ble_eq_true rfl, Nat.le_of_ble_eq_true rfl, Nat.le_of_ble_eq_true rfl⟩ (fun r_85 N_86 V_87 q_88 => ?_)
        obtain ⟨h_84, rfl, rfl⟩ := q_88
        refine aw_eqi (y := nI o_u_32) (((h_84.resolve_left (fun z => by omega)).2).trans (by rw [ho_u_32])) ?_
        refine aw_bipush (v := 6) dX12_closesSums_12 (by decide) ?_
        refine aw_icmp_le (tgt := 37) dX12_closesSums_14 (by decide) (fun c_89 => ?_) (fun c_89 => ?_)
        · skip
          have nc_89 : o_u_32 ≤ 6 := (nI_leI (a := o_u_32) (b := 6) (by omega) (by omega)).mp c_89
          refine aw_aload_n dX12_closesSums_37 rfl ?_
          refine aw_aload_n dX12_closesSums_38 rfl ?_
          refine aw_callVi (J' := jX12_waitTop) (As := []) (st := [.ref (b + 100)]) dX12_closesSums_39 tb_1263 ok_X12_waitTop ⟨_, e_5⟩ (by omega) rfl rfl (r_waitTop l D b N V0 hN cl i0_0.1 ftoldPeople_5 ftoldDoors_5 fwasDoors_5 ffault_5 fopen_5 flines_5 fmeantSet_5 fopenedNow_5 fvainNow_5 flowNow_5 fhighNow_5 fisKept_5 tad_5 pl0_5 le0_5 nu0_5 coy_5 wag_5 say_5 ⟨by omega, by omega, by omega, by omega, by omega, by omega, by omega⟩ e_5 wa xw_x4 (fun q => by obtain ⟨o, a, e1, e2, e3, e4, _⟩ := PS.top hP_x4 q; exact ⟨o, a, e1, e2, e3, e4⟩)) rfl (Nat.le_of_ble_eq_true rfl) ⟨Nat.le_of_ble_eq_true rfl, Nat.le_of_ble_eq_true rfl, Nat.le_of_ble_eq_true rfl, Nat.le_of_ble_eq_true rfl⟩ (fun r_92 N_93 V_94 q_95 => ?_)
          obtain ⟨h_91, rfl, rfl⟩ := q_95
          refine aw_eqi (y := nI o_u_32) (((h_91.resolve_left (fun z => by omega)).2).trans (by rw [ho_u_32])) ?_
          refine aw_iconst (v := 0) dX12_closesSums_42 (by decide) ?_
          refine aw_callVv (J' := jX12_notes) (As := [.int (nI o_u_32), .int 0]) (st := []) dX12_closesSums_43 tb_1249 ok_X12_notes ⟨_, e_5⟩ (by omega) rfl rfl (r_notes l D b N V0 hN cl i0_0.1 (nI o_u_32) 0 o_u_32 0 (by omega) (by omega) ftoldPeople_5 ftoldDoors_5 fwasDoors_5 ffault_5 fopen_5 flines_5 fmeantSet_5 fopenedNow_5 fvainNow_5 flowNow_5 fhighNow_5 fisKept_5 tad_5 pl0_5 le0_5 nu0_5 coy_5 wag_5 say_5 ⟨by omega, by omega, by omega, by omega, by omega, by omega, by omega⟩ e_5 g sd0 wa xg_x4 xs_x4 xw_x4 (by omega)) rfl (Nat.le_of_ble_eq_true rfl) ⟨Nat.le_of_ble_eq_true rfl, Nat.le_of_ble_eq_true rfl, Nat.le_of_ble_eq_true rfl, Nat.le_of_ble_eq_true rfl⟩ (fun  N_104 V_99 q_105 => ?_)
          obtain ⟨h_97, rfl, q_96⟩ := q_105
          have j_98 := JR.trans i0_0 q_96
          obtain ⟨hN_100, hN_101, hN_102, hN_103⟩ := h_97
          have hbw2 : bs < wag_5 := by rcases Nat.lt_or_ge bs wag_5 with q | q; exact q; exact absurd hbt (by rw [show bs = wag_5 by omega, ho_u_32]; omega)
          have hpop := wgt_pop (wa := wa) (n := wag_5) (by omega)
          rw [ho_u_32, if_pos (by omega)] at hpop
          have hmn := wgt_mono (wa := wa) (m := bs) (n := wag_5 - 1) (by omega)
          have hQ := PS.emit hP_x4 o_u_32 0 (dp0 coy_5 - 1) (by omega) (by decide) (by omega) (by omega) (by omega) (by omega) (by omega)
          have hds : dset dp0 (coy_5 + 1) (dp0 coy_5 - 1) (coy_5 + 1) = dp0 coy_5 - 1 := dset_s
          refine aw_aload_n dX12_closesSums_46 rfl ?_
          refine aw_aload_n dX12_closesSums_47 rfl ?_
          refine aw_get dX12_closesSums_48 fl_X12_189 hN_100 (by omega) rfl ?_
          refine aw_iconst (v := 1) dX12_closesSums_51 (by decide) ?_
          refine aw_isub dX12_closesSums_52 ?_
          refine aw_eqi (y := (nI (wag_5 - 1))) (pk_sub (a := wag_5) (b := 1) (by omega)) ?_
          refine aw_put dX12_closesSums_53 fp_X12_189 hN_100 (by omega) rfl rfl (Nat.le_of_ble_eq_true rfl) rfl ?_
          refine aw_upR j_98 cm_100 ⟨_, _, _, _, _, _, _, _, _, _, _, _, tad_5, pl0_5, le0_5, nu0_5, (coy_5 + 1), (wag_5 - 1), say_5, rfl, by omega, by omega, by omega, by omega, by omega, by omega, by omega⟩ (by decide) (fun V_106 j_106 k_106 e_106 => ?_)
          have hR := PS.pop hQ (by omega) (by rw [ho_u_32]; omega)
          refine aw_goto (tgt := 0) dX12_closesSums_56 (by decide) ?_
          refine aw_le ?_ (mih_0_3 _ (by omega) pl0_5 (coy_5 + 1) (wag_5 - 1) (upd sd0 coy_5 (nI (1048576 * o_u_32 + 0))) (dset dp0 (coy_5 + 1) (dp0 coy_5 - 1)) V_106 rfl (j_106) (⟨((k_106 _ (by decide)).trans (hN_103.trans xg_x4)), ((k_106 _ (by decide)).trans hN_101), ((k_106 _ (by decide)).trans (hN_102.trans xw_x4)), (FG.of e_106 rfl rfl), (FG.of e_106 rfl (by omega : le0_5 = ln)), (FG.of e_106 rfl rfl), (FG.of e_106 rfl rfl), hR, by omega, by omega, by omega, by omega⟩) (by omega) (by omega) (by omega) (fun k hk => (pk_un (by omega)).trans (i0_5 k hk)) (by omega) (fun i h1 h2 => if e : i = wag_5 - 1 then (by rw [e, ho_u_32]; omega) else i0_7 i (by omega) h2))
          exact ⟨rfl, ⟨rfl, trivial⟩⟩
        · skip
          have nc_89 : ¬ (o_u_32 ≤ 6) := fun z => c_89 ((nI_leI (a := o_u_32) (b := 6) (by omega) (by omega)).mpr z)
          refine aw_iload_n dX12_closesSums_17 rfl ?_
          refine aw_if_eq (tgt := 59) dX12_closesSums_18 (by decide) (fun c_107 => ?_) (fun c_107 => ?_)
          · skip
            refine aw_vreti dX12_closesSums_59 rfl (Nat.le_of_ble_eq_true rfl) (Nat.le_of_ble_eq_true rfl) ?_
            exact ⟨⟨sd0, pl0_5, coy_5, wag_5, dp0, ⟨xg_x4, xs_x4, xw_x4, (FG.of e_5 rfl rfl), (FG.of e_5 rfl (by omega : le0_5 = ln)), (FG.of e_5 rfl rfl), (FG.of e_5 rfl rfl), hP_x4, by omega, by omega, by omega, by omega⟩, by omega, by omega, by omega, i0_5, by omega, i0_7, by omega, (by first | exact Or.inl c_107 | omega)⟩, rfl, i0_0⟩
          · skip
            refine aw_aload_n dX12_closesSums_21 rfl ?_
            refine aw_callVi (J' := jX12_waitTop) (As := []) (st := []) dX12_closesSums_22 tb_1263 ok_X12_waitTop ⟨_, e_5⟩ (by omega) rfl rfl (r_waitTop l D b N V0 hN cl i0_0.1 ftoldPeople_5 ftoldDoors_5 fwasDoors_5 ffault_5 fopen_5 flines_5 fmeantSet_5 fopenedNow_5 fvainNow_5 flowNow_5 fhighNow_5 fisKept_5 tad_5 pl0_5 le0_5 nu0_5 coy_5 wag_5 say_5 ⟨by omega, by omega, by omega, by omega, by omega, by omega, by omega⟩ e_5 wa xw_x4 (fun q => by obtain ⟨o, a, e1, e2, e3, e4, _⟩ := PS.top hP_x4 q; exact ⟨o, a, e1, e2, e3, e4⟩)) rfl (Nat.le_of_ble_eq_true rfl) ⟨Nat.le_of_ble_eq_true rfl, Nat.le_of_ble_eq_true rfl, Nat.le_of_ble_eq_true rfl, Nat.le_of_ble_eq_true rfl⟩ (fun r_110 N_111 V_112 q_113 => ?_)
            obtain ⟨h_109, rfl, rfl⟩ := q_113
            refine aw_eqi (y := nI o_u_32) (((h_109.resolve_left (fun z => by omega)).2).trans (by rw [ho_u_32])) ?_
            refine aw_iconst (v := 2) dX12_closesSums_25 (by decide) ?_
            refine aw_icmp_eq (tgt := 37) dX12_closesSums_26 (by decide) (fun c_114 => ?_) (fun c_114 => ?_)
            · skip
              have nc_114 : o_u_32 = 2 := (nI_eq (a := o_u_32) (b := 2) (by omega) (by omega)).mp c_114
              refine aw_aload_n dX12_closesSums_37 rfl ?_
              refine aw_aload_n dX12_closesSums_38 rfl ?_
              refine aw_callVi (J' := jX12_waitTop) (As := []) (st := [.ref (b + 100)]) dX12_closesSums_39 tb_1263 ok_X12_waitTop ⟨_, e_5⟩ (by omega) rfl rfl (r_waitTop l D b N V0 hN cl i0_0.1 ftoldPeople_5 ftoldDoors_5 fwasDoors_5 ffault_5 fopen_5 flines_5 fmeantSet_5 fopenedNow_5 fvainNow_5 flowNow_5 fhighNow_5 fisKept_5 tad_5 pl0_5 le0_5 nu0_5 coy_5 wag_5 say_5 ⟨by omega, by omega, by omega, by omega, by omega, by omega, by omega⟩ e_5 wa xw_x4 (fun q => by obtain ⟨o, a, e1, e2, e3, e4, _⟩ := PS.top hP_x4 q; exact ⟨o, a, e1, e2, e3, e4⟩)) rfl (Nat.le_of_ble_eq_true rfl) ⟨Nat.le_of_ble_eq_true rfl, Nat.le_of_ble_eq_true rfl, Nat.le_of_ble_eq_true rfl, Nat.le_of_ble_eq_true rfl⟩ (fun r_117 N_118 V_119 q_120 => ?_)
              obtain ⟨h_116, rfl, rfl⟩ := q_120
              refine aw_eqi (y := nI o_u_32) (((h_116.resolve_left (fun z => by omega)).2).trans (by rw [ho_u_32])) ?_
              refine aw_iconst (v := 0) dX12_closesSums_42 (by decide) ?_
              refine aw_callVv (J' := jX12_notes) (As := [.int (nI o_u_32), .int 0]) (st := []) dX12_closesSums_43 tb_1249 ok_X12_notes ⟨_, e_5⟩ (by omega) rfl rfl (r_notes l D b N V0 hN cl i0_0.1 (nI o_u_32) 0 o_u_32 0 (by omega) (by omega) ftoldPeople_5 ftoldDoors_5 fwasDoors_5 ffault_5 fopen_5 flines_5 fmeantSet_5 fopenedNow_5 fvainNow_5 flowNow_5 fhighNow_5 fisKept_5 tad_5 pl0_5 le0_5 nu0_5 coy_5 wag_5 say_5 ⟨by omega, by omega, by omega, by omega, by omega, by omega, by omega⟩ e_5 g sd0 wa xg_x4 xs_x4 xw_x4 (by omega)) rfl (Nat.le_of_ble_eq_true rfl) ⟨Nat.le_of_ble_eq_true rfl, Nat.le_of_ble_eq_true rfl, Nat.le_of_ble_eq_true rfl, Nat.le_of_ble_eq_true rfl⟩ (fun  N_129 V_124 q_130 => ?_)
              obtain ⟨h_122, rfl, q_121⟩ := q_130
              have j_123 := JR.trans i0_0 q_121
              obtain ⟨hN_125, hN_126, hN_127, hN_128⟩ := h_122
              have hbw2 : bs < wag_5 := by rcases Nat.lt_or_ge bs wag_5 with q | q; exact q; exact absurd hbt (by rw [show bs = wag_5 by omega, ho_u_32]; omega)
              have hpop := wgt_pop (wa := wa) (n := wag_5) (by omega)
              rw [ho_u_32, if_pos (by omega)] at hpop
              have hmn := wgt_mono (wa := wa) (m := bs) (n := wag_5 - 1) (by omega)
              have hQ := PS.emit hP_x4 o_u_32 0 (dp0 coy_5 - 1) (by omega) (by decide) (by omega) (by omega) (by omega) (by omega) (by omega)
              have hds : dset dp0 (coy_5 + 1) (dp0 coy_5 - 1) (coy_5 + 1) = dp0 coy_5 - 1 := dset_s
              refine aw_aload_n dX12_closesSums_46 rfl ?_
              refine aw_aload_n dX12_closesSums_47 rfl ?_
              refine aw_get dX12_closesSums_48 fl_X12_189 hN_125 (by omega) rfl ?_
              refine aw_iconst (v := 1) dX12_closesSums_51 (by decide) ?_
              refine aw_isub dX12_closesSums_52 ?_
              refine aw_eqi (y := (nI (wag_5 - 1))) (pk_sub (a := wag_5) (b := 1) (by omega)) ?_
              refine aw_put dX12_closesSums_53 fp_X12_189 hN_125 (by omega) rfl rfl (Nat.le_of_ble_eq_true rfl) rfl ?_
              refine aw_upR j_123 cm_100 ⟨_, _, _, _, _, _, _, _, _, _, _, _, tad_5, pl0_5, le0_5, nu0_5, (coy_5 + 1), (wag_5 - 1), say_5, rfl, by omega, by omega, by omega, by omega, by omega, by omega, by omega⟩ (by decide) (fun V_131 j_131 k_131 e_131 => ?_)
              have hR := PS.pop hQ (by omega) (by rw [ho_u_32]; omega)
              refine aw_goto (tgt := 0) dX12_closesSums_56 (by decide) ?_
              refine aw_le ?_ (mih_0_3 _ (by omega) pl0_5 (coy_5 + 1) (wag_5 - 1) (upd sd0 coy_5 (nI (1048576 * o_u_32 + 0))) (dset dp0 (coy_5 + 1) (dp0 coy_5 - 1)) V_131 rfl (j_131) (⟨((k_131 _ (by decide)).trans (hN_128.trans xg_x4)), ((k_131 _ (by decide)).trans hN_126), ((k_131 _ (by decide)).trans (hN_127.trans xw_x4)), (FG.of e_131 rfl rfl), (FG.of e_131 rfl (by omega : le0_5 = ln)), (FG.of e_131 rfl rfl), (FG.of e_131 rfl rfl), hR, by omega, by omega, by omega, by omega⟩) (by omega) (by omega) (by omega) (fun k hk => (pk_un (by omega)).trans (i0_5 k hk)) (by omega) (fun i h1 h2 => if e : i = wag_5 - 1 then (by rw [e, ho_u_32]; omega) else i0_7 i (by omega) h2))
              exact ⟨rfl, ⟨rfl, trivial⟩⟩
            · skip
              have nc_114 : ¬ (o_u_32 = 2) := fun z => c_114 ((nI_eq (a := o_u_32) (b := 2) (by omega) (by omega)).mpr z)
              refine aw_aload_n dX12_closesSums_29 rfl ?_
              refine aw_callVi (J' := jX12_waitTop) (As := []) (st := []) dX12_closesSums_30 tb_1263 ok_X12_waitTop ⟨_, e_5⟩ (by omega) rfl rfl (r_waitTop l D b N V0 hN cl i0_0.1 ftoldPeople_5 ftoldDoors_5 fwasDoors_5 ffault_5 fopen_5 flines_5 fmeantSet_5 fopenedNow_5 fvainNow_5 flowNow_5 fhighNow_5 fisKept_5 tad_5 pl0_5 le0_5 nu0_5 coy_5 wag_5 say_5 ⟨by omega, by omega, by omega, by omega, by omega, by omega, by omega⟩ e_5 wa xw_x4 (fun q => by obtain ⟨o, a, e1, e2, e3, e4, _⟩ := PS.top hP_x4 q; exact ⟨o, a, e1, e2, e3, e4⟩)) rfl (Nat.le_of_ble_eq_true rfl) ⟨Nat.le_of_ble_eq_true rfl, Nat.le_of_ble_eq_true rfl, Nat.le_of_ble_eq_true rfl, Nat.le_of_ble_eq_true rfl⟩ (fun r_134 N_135 V_136 q_137 => ?_)
              obtain ⟨h_133, rfl, rfl⟩ := q_137
              refine aw_eqi (y := nI o_u_32) (((h_133.resolve_left (fun z => by omega)).2).trans (by rw [ho_u_32])) ?_
              refine aw_iconst (v := 3) dX12_closesSums_33 (by decide) ?_
              refine aw_icmp_ne (tgt := 59) dX12_closesSums_34 (by decide) (fun c_138 => ?_) (fun c_138 => ?_)
              · skip
                have nc_138 : ¬ (o_u_32 = 3) := fun z => c_138 ((nI_eq (a := o_u_32) (b := 3) (by omega) (by omega)).mpr z)
                refine aw_vreti dX12_closesSums_59 rfl (Nat.le_of_ble_eq_true rfl) (Nat.le_of_ble_eq_true rfl) ?_
                exact ⟨⟨sd0, pl0_5, coy_5, wag_5, dp0, ⟨xg_x4, xs_x4, xw_x4, (FG.of e_5 rfl rfl), (FG.of e_5 rfl (by omega : le0_5 = ln)), (FG.of e_5 rfl rfl), (FG.of e_5 rfl rfl), hP_x4, by omega, by omega, by omega, by omega⟩, by omega, by omega, by omega, i0_5, by omega, i0_7, by omega, (by first | exact Or.inl c_107 | omega)⟩, rfl, i0_0⟩
              · skip
                have nc_138 : o_u_32 = 3 := (nI_eq (a := o_u_32) (b := 3) (by omega) (by omega)).mp c_138
                refine aw_aload_n dX12_closesSums_37 rfl ?_
                refine aw_aload_n dX12_closesSums_38 rfl ?_
                refine aw_callVi (J' := jX12_waitTop) (As := []) (st := [.ref (b + 100)]) dX12_closesSums_39 tb_1263 ok_X12_waitTop ⟨_, e_5⟩ (by omega) rfl rfl (r_waitTop l D b N V0 hN cl i0_0.1 ftoldPeople_5 ftoldDoors_5 fwasDoors_5 ffault_5 fopen_5 flines_5 fmeantSet_5 fopenedNow_5 fvainNow_5 flowNow_5 fhighNow_5 fisKept_5 tad_5 pl0_5 le0_5 nu0_5 coy_5 wag_5 say_5 ⟨by omega, by omega, by omega, by omega, by omega, by omega, by omega⟩ e_5 wa xw_x4 (fun q => by obtain ⟨o, a, e1, e2, e3, e4, _⟩ := PS.top hP_x4 q; exact ⟨o, a, e1, e2, e3, e4⟩)) rfl (Nat.le_of_ble_eq_true rfl) ⟨Nat.le_of_ble_eq_true rfl, Nat.le_of_ble_eq_true rfl, Nat.le_of_ble_eq_true rfl, Nat.le_of_ble_eq_true rfl⟩ (fun r_141 N_142 V_143 q_144 => ?_)
                obtain ⟨h_140, rfl, rfl⟩ := q_144
                refine aw_eqi (y := nI o_u_32) (((h_140.resolve_left (fun z => by omega)).2).trans (by rw [ho_u_32])) ?_
                refine aw_iconst (v := 0) dX12_closesSums_42 (by decide) ?_
                refine aw_callVv (J' := jX12_notes) (As := [.int (nI o_u_32), .int 0]) (st := []) dX12_closesSums_43 tb_1249 ok_X12_notes ⟨_, e_5⟩ (by omega) rfl rfl (r_notes l D b N V0 hN cl i0_0.1 (nI o_u_32) 0 o_u_32 0 (by omega) (by omega) ftoldPeople_5 ftoldDoors_5 fwasDoors_5 ffault_5 fopen_5 flines_5 fmeantSet_5 fopenedNow_5 fvainNow_5 flowNow_5 fhighNow_5 fisKept_5 tad_5 pl0_5 le0_5 nu0_5 coy_5 wag_5 say_5 ⟨by omega, by omega, by omega, by omega, by omega, by omega, by omega⟩ e_5 g sd0 wa xg_x4 xs_x4 xw_x4 (by omega)) rfl (Nat.le_of_ble_eq_true rfl) ⟨Nat.le_of_ble_eq_true rfl, Nat.le_of_ble_eq_true rfl, Nat.le_of_ble_eq_true rfl, Nat.le_of_ble_eq_true rfl⟩ (fun  N_153 V_148 q_154 => ?_)
                obtain ⟨h_146, rfl, q_145⟩ := q_154
                have j_147 := JR.trans i0_0 q_145
                obtain ⟨hN_149, hN_150, hN_151, hN_152⟩ := h_146
                have hbw2 : bs < wag_5 := by rcases Nat.lt_or_ge bs wag_5 with q | q; exact q; exact absurd hbt (by rw [show bs = wag_5 by omega, ho_u_32]; omega)
                have hpop := wgt_pop (wa := wa) (n := wag_5) (by omega)
                rw [ho_u_32, if_pos (by omega)] at hpop
                have hmn := wgt_mono (wa := wa) (m := bs) (n := wag_5 - 1) (by omega)
                have hQ := PS.emit hP_x4 o_u_32 0 (dp0 coy_5 - 1) (by omega) (by decide) (by omega) (by omega) (by omega) (by omega) (by omega)
                have hds : dset dp0 (coy_5 + 1) (dp0 coy_5 - 1) (coy_5 + 1) = dp0 coy_5 - 1 := dset_s
                refine aw_aload_n dX12_closesSums_46 rfl ?_
                refine aw_aload_n dX12_closesSums_47 rfl ?_
                refine aw_get dX12_closesSums_48 fl_X12_189 hN_149 (by omega) rfl ?_
                refine aw_iconst (v := 1) dX12_closesSums_51 (by decide) ?_
                refine aw_isub dX12_closesSums_52 ?_
                refine aw_eqi (y := (nI (wag_5 - 1))) (pk_sub (a := wag_5) (b := 1) (by omega)) ?_
                refine aw_put dX12_closesSums_53 fp_X12_189 hN_149 (by omega) rfl rfl (Nat.le_of_ble_eq_true rfl) rfl ?_
                refine aw_upR j_147 cm_100 ⟨_, _, _, _, _, _, _, _, _, _, _, _, tad_5, pl0_5, le0_5, nu0_5, (coy_5 + 1), (wag_5 - 1), say_5, rfl, by omega, by omega, by omega, by omega, by omega, by omega, by omega⟩ (by decide) (fun V_155 j_155 k_155 e_155 => ?_)
                have hR := PS.pop hQ (by omega) (by rw [ho_u_32]; omega)
                refine aw_goto (tgt := 0) dX12_closesSums_56 (by decide) ?_
                refine aw_le ?_ (mih_0_3 _ (by omega) pl0_5 (coy_5 + 1) (wag_5 - 1) (upd sd0 coy_5 (nI (1048576 * o_u_32 + 0))) (dset dp0 (coy_5 + 1) (dp0 coy_5 - 1)) V_155 rfl (j_155) (⟨((k_155 _ (by decide)).trans (hN_152.trans xg_x4)), ((k_155 _ (by decide)).trans hN_150), ((k_155 _ (by decide)).trans (hN_151.trans xw_x4)), (FG.of e_155 rfl rfl), (FG.of e_155 rfl (by omega : le0_5 = ln)), (FG.of e_155 rfl rfl), (FG.of e_155 rfl rfl), hR, by omega, by omega, by omega, by omega⟩) (by omega) (by omega) (by omega) (fun k hk => (pk_un (by omega)).trans (i0_5 k hk)) (by omega) (fun i h1 h2 => if e : i = wag_5 - 1 then (by rw [e, ho_u_32]; omega) else i0_7 i (by omega) h2))
                exact ⟨rfl, ⟨rfl, trivial⟩⟩
  refine aw_le ?_ (ml_0_3 _ pl0_2 coy_2 wag_2 sd dep V rfl (hJ0) (⟨xg_x1, xs_x1, xw_x1, (FG.of e_2 rfl rfl), (FG.of e_2 rfl (by omega : le0_2 = ln)), (FG.of e_2 rfl rfl), (FG.of e_2 rfl rfl), hP_x1, by omega, by omega, by omega, by omega⟩) (by omega) (by omega) (by omega) (fun k hk => rfl) (by omega) (fun i h1 h2 => absurd h2 (by omega)))
  exact ⟨rfl, ⟨rfl, trivial⟩⟩

set_option maxHeartbeats 4000000 in
set_option maxRecDepth 100000 in
theorem r_endsPiece (l : Launch) (D : va_G) (b : Nat) (N : Nat) (V : Wd) (hN : 133 ≤ N) (cl : Nat) (hW : CR D b cl V)   (g sd wa : Nat → Int32) (pl ln cm wt sg : Nat) (dep : Nat → Nat) (hX : PX D b V g pl ln cm wt sg sd wa dep) (hd1 : dep cm = 1) (h13 : opOf (wa 0) = 13) (hw1 : 1 ≤ wt) : MV l D b 1 jX12_endsPiece [.ref (b + 100)] N V 0 0 (fun N9 V9 => (∃ (sd9 : Nat → Int32) (pl9 cm9 wt9 : Nat) (dep9 : Nat → Nat), PX D b V9 g pl9 ln cm9 wt9 sg sd9 wa dep9 ∧ pl9 = pl ∧ wt9 ≤ wt ∧ 1 ≤ wt9 ∧ (∀ k, k < sg → sd9 k = sd k) ∧ dep9 cm9 = 1 ∧ opOf (wa (wt9 - 1)) ≠ 10) ∧ N = N9 ∧ JR D b N cl V V9) := by
  have hJ0 : JR D b N cl V V := JR.rf hW
  refine mw_of (by decide) (by simp [Value.category]) (Nat.le_of_ble_eq_true rfl) ?_
  show AW l D b jX12_endsPiece (fx_rm 1 0 0) none (fx_MQ D b 0 0 (fx_qv (fun N9 V9 => (∃ (sd9 : Nat → Int32) (pl9 cm9 wt9 : Nat) (dep9 : Nat → Nat), PX D b V9 g pl9 ln cm9 wt9 sg sd9 wa dep9 ∧ pl9 = pl ∧ wt9 ≤ wt ∧ 1 ≤ wt9 ∧ (∀ k, k < sg → sd9 k = sd k) ∧ dep9 cm9 = 1 ∧ opOf (wa (wt9 - 1)) ≠ 10) ∧ N = N9 ∧ JR D b N cl V V9))) 0 [some (.ref (b + 100))] [] N V 0 0
  obtain ⟨xg_x1, xs_x1, xw_x1, xp_x1, xl_x1, xc_x1, xt_x1, hP_x1, hB1_x1, hB2_x1, hB3_x1, hB4_x1⟩ := id hX
  obtain ⟨ftoldPeople_2, ftoldDoors_2, fwasDoors_2, ffault_2, fopen_2, flines_2, fmeantSet_2, fopenedNow_2, fvainNow_2, flowNow_2, fhighNow_2, fisKept_2, tad_2, pl0_2, le0_2, nu0_2, coy_2, wag_2, say_2, e_2, hntad_2, hnpl0_2, hnle0_2, hnnu0_2, hncoy_2, hnwag_2, hnsay_2⟩ := JR.get hJ0 cm_100
  have sb_x1pl := FG.eq xp_x1 e_2 rfl (by omega) (by omega)
  subst sb_x1pl
  have sb_x1cm := FG.eq xc_x1 e_2 rfl (by omega) (by omega)
  subst sb_x1cm
  have sb_x1wt := FG.eq xt_x1 e_2 rfl (by omega) (by omega)
  subst sb_x1wt
  have sb_x1ln := FG.eq xl_x1 e_2 rfl (by omega) (by omega)
  have hsg_x1 := hP_x1.2.1
  have ml_0_3 : ∀ (m : Nat) (p0 : Nat) (c0 : Nat) (w0 : Nat) (sd0 : Nat → Int32) (dp0 : Nat → Nat) (V0 : Wd), m = w0 → (JR D b N cl V V0) → (PX D b V0 g p0 ln c0 w0 sg sd0 wa dp0) → (p0 = pl0_2) → (w0 ≤ wag_2) → (1 ≤ w0) → (∀ k, k < sg → sd0 k = sd k) → (dp0 c0 = 1) → AW l D b jX12_endsPiece (fx_rm 1 0 0) none (fx_MQ D b 0 0 (fx_qv (fun N9 V9 => (∃ (sd9 : Nat → Int32) (pl9 cm9 wt9 : Nat) (dep9 : Nat → Nat), PX D b V9 g pl9 ln cm9 wt9 sg sd9 wa dep9 ∧ pl9 = pl0_2 ∧ wt9 ≤ wag_2 ∧ 1 ≤ wt9 ∧ (∀ k, k < sg → sd9 k = sd k) ∧ dep9 cm9 = 1 ∧ opOf (wa (wt9 - 1)) ≠ 10) ∧ N = N9 ∧ JR D b N cl V V9))) 0 [some (.ref (b + 100))] [] N V0 0 0 := by
    intro m; refine Nat.strongRecOn m ?_
    intro m mih_0_3 p0 c0 w0 sd0 dp0 V0 hm0 i0_0 i0_1 i0_2 i0_3 i0_4 i0_5 i0_6
    obtain ⟨xg_x4, xs_x4, xw_x4, xp_x4, xl_x4, xc_x4, xt_x4, hP_x4, hB1_x4, hB2_x4, hB3_x4, hB4_x4⟩ := i0_1
    obtain ⟨ftoldPeople_5, ftoldDoors_5, fwasDoors_5, ffault_5, fopen_5, flines_5, fmeantSet_5, fopenedNow_5, fvainNow_5, flowNow_5, fhighNow_5, fisKept_5, tad_5, pl0_5, le0_5, nu0_5, coy_5, wag_5, say_5, e_5, hntad_5, hnpl0_5, hnle0_5, hnnu0_5, hncoy_5, hnwag_5, hnsay_5⟩ := JR.get i0_0 cm_100
    have sb_x4pl := FG.eq xp_x4 e_5 rfl (by omega) (by omega)
    subst sb_x4pl
    have sb_x4cm := FG.eq xc_x4 e_5 rfl (by omega) (by omega)
    subst sb_x4cm
    have sb_x4wt := FG.eq xt_x4 e_5 rfl (by omega) (by omega)
    subst sb_x4wt
    have sb_x4ln := FG.eq xl_x4 e_5 rfl (by omega) (by omega)
    have hsg_x4 := hP_x4.2.1
    refine aw_aload_n dX12_endsPiece_0 rfl ?_
    refine aw_callVi (J' := jX12_waitTop) (As := []) (st := []) dX12_endsPiece_1 tb_1263 ok_X12_waitTop ⟨_, e_5⟩ (by omega) rfl rfl (r_waitTop l D b N V0 hN cl i0_0.1 ftoldPeople_5 ftoldDoors_5 fwasDoors_5 ffault_5 fopen_5 flines_5 fmeantSet_5 fopenedNow_5 fvainNow_5 flowNow_5 fhighNow_5 fisKept_5 tad_5 pl0_5 le0_5 nu0_5 coy_5 wag_5 say_5 ⟨by omega, by omega, by omega, by omega, by omega, by omega, by omega⟩ e_5 wa xw_x4 (fun q => by obtain ⟨o, a, e1, e2, e3, e4, _⟩ := PS.top hP_x4 q; exact ⟨o, a, e1, e2, e3, e4⟩)) rfl (Nat.le_of_ble_eq_true rfl) ⟨Nat.le_of_ble_eq_true rfl, Nat.le_of_ble_eq_true rfl, Nat.le_of_ble_eq_true rfl, Nat.le_of_ble_eq_true rfl⟩ (fun r_8 N_9 V_10 q_11 => ?_)
    obtain ⟨h_7, rfl, rfl⟩ := q_11
    rcases h_7 with ⟨g_12, e_13⟩ | ⟨g_14, e_15⟩
    · skip
      refine aw_eqi (y := (-1)) e_13 ?_
      refine aw_bipush (v := 10) dX12_endsPiece_4 (by decide) ?_
      refine aw_icmp_ne (tgt := 39) dX12_endsPiece_6 (by decide) (fun c_16 => ?_) (fun c_16 => ?_)
      rotate_left
      · exact absurd c_16 (by decide)
      refine aw_vreti dX12_endsPiece_39 rfl (Nat.le_of_ble_eq_true rfl) (Nat.le_of_ble_eq_true rfl) ?_
      exact ⟨⟨sd0, pl0_5, coy_5, wag_5, dp0, ⟨xg_x4, xs_x4, xw_x4, (FG.of e_5 rfl rfl), (FG.of e_5 rfl (by omega : le0_5 = ln)), (FG.of e_5 rfl rfl), (FG.of e_5 rfl rfl), hP_x4, by omega, by omega, by omega, by omega⟩, by omega, by omega, by omega, i0_5, by omega, by omega⟩, rfl, i0_0⟩
    · skip
      refine aw_eqi (y := (nI (opOf (wa (wag_5 - 1))))) e_15 ?_
      obtain ⟨o_u_17, a_u_17, he_u_17, ha_u_17, h2_u_17, h14_u_17, hj_u_17⟩ := PS.top hP_x4 g_14
      have ho_u_17 : opOf (wa (wag_5 - 1)) = o_u_17 := by rw [he_u_17]; exact opOf_nI (by omega) (by omega)
      refine aw_eqi (y := nI o_u_17) (by rw [ho_u_17]) ?_
      refine aw_bipush (v := 10) dX12_endsPiece_4 (by decide) ?_
      refine aw_icmp_ne (tgt := 39) dX12_endsPiece_6 (by decide) (fun c_18 => ?_) (fun c_18 => ?_)
      · skip
        have nc_18 : ¬ (o_u_17 = 10) := fun z => c_18 ((nI_eq (a := o_u_17) (b := 10) (by omega) (by omega)).mpr z)
        refine aw_vreti dX12_endsPiece_39 rfl (Nat.le_of_ble_eq_true rfl) (Nat.le_of_ble_eq_true rfl) ?_
        exact ⟨⟨sd0, pl0_5, coy_5, wag_5, dp0, ⟨xg_x4, xs_x4, xw_x4, (FG.of e_5 rfl rfl), (FG.of e_5 rfl (by omega : le0_5 = ln)), (FG.of e_5 rfl rfl), (FG.of e_5 rfl rfl), hP_x4, by omega, by omega, by omega, by omega⟩, by omega, by omega, by omega, i0_5, by omega, by omega⟩, rfl, i0_0⟩
      · skip
        have nc_18 : o_u_17 = 10 := (nI_eq (a := o_u_17) (b := 10) (by omega) (by omega)).mp c_18
        refine aw_aload_n dX12_endsPiece_9 rfl ?_
        refine aw_bipush (v := 10) dX12_endsPiece_10 (by decide) ?_
        refine aw_iconst (v := 0) dX12_endsPiece_12 (by decide) ?_
        refine aw_callVv (J' := jX12_notes) (As := [.int 10, .int 0]) (st := []) dX12_endsPiece_13 tb_1249 ok_X12_notes ⟨_, e_5⟩ (by omega) rfl rfl (r_notes l D b N V0 hN cl i0_0.1 10 0 10 0 (by omega) (by omega) ftoldPeople_5 ftoldDoors_5 fwasDoors_5 ffault_5 fopen_5 flines_5 fmeantSet_5 fopenedNow_5 fvainNow_5 flowNow_5 fhighNow_5 fisKept_5 tad_5 pl0_5 le0_5 nu0_5 coy_5 wag_5 say_5 ⟨by omega, by omega, by omega, by omega, by omega, by omega, by omega⟩ e_5 g sd0 wa xg_x4 xs_x4 xw_x4 (by omega)) rfl (Nat.le_of_ble_eq_true rfl) ⟨Nat.le_of_ble_eq_true rfl, Nat.le_of_ble_eq_true rfl, Nat.le_of_ble_eq_true rfl, Nat.le_of_ble_eq_true rfl⟩ (fun  N_27 V_22 q_28 => ?_)
        obtain ⟨h_20, rfl, q_19⟩ := q_28
        have j_21 := JR.trans i0_0 q_19
        obtain ⟨hN_23, hN_24, hN_25, hN_26⟩ := h_20
        have hz : wag_5 - 1 ≠ 0 := fun e => by rw [e] at ho_u_17; omega
        have hpop := wgt_pop (wa := wa) (n := wag_5) (by omega)
        rw [ho_u_17, if_pos (by omega)] at hpop
        have hQ := PS.emit hP_x4 10 0 1 (by omega) (by omega) (by omega) (by omega) (by omega) (by omega) (by omega)
        have hds : dset dp0 (coy_5 + 1) 1 (coy_5 + 1) = 1 := dset_s
        refine aw_aload_n dX12_endsPiece_16 rfl ?_
        refine aw_aload_n dX12_endsPiece_17 rfl ?_
        refine aw_get dX12_endsPiece_18 fl_X12_189 hN_23 (by omega) rfl ?_
        refine aw_iconst (v := 1) dX12_endsPiece_21 (by decide) ?_
        refine aw_isub dX12_endsPiece_22 ?_
        refine aw_eqi (y := (nI (wag_5 - 1))) (pk_sub (a := wag_5) (b := 1) (by omega)) ?_
        refine aw_put dX12_endsPiece_23 fp_X12_189 hN_23 (by omega) rfl rfl (Nat.le_of_ble_eq_true rfl) rfl ?_
        refine aw_upR j_21 cm_100 ⟨_, _, _, _, _, _, _, _, _, _, _, _, tad_5, pl0_5, le0_5, nu0_5, (coy_5 + 1), (wag_5 - 1), say_5, rfl, by omega, by omega, by omega, by omega, by omega, by omega, by omega⟩ (by decide) (fun V_29 j_29 k_29 e_29 => ?_)
        refine aw_aload_n dX12_endsPiece_26 rfl ?_
        refine aw_aload_n dX12_endsPiece_27 rfl ?_
        refine aw_get dX12_endsPiece_28 fl_X12_186 e_29 (by omega) rfl ?_
        refine aw_iconst (v := 1) dX12_endsPiece_31 (by decide) ?_
        refine aw_isub dX12_endsPiece_32 ?_
        refine aw_put dX12_endsPiece_33 fp_X12_186 e_29 (by omega) rfl rfl (Nat.le_of_ble_eq_true rfl) rfl ?_
        refine aw_upR j_29 cm_100 ⟨_, _, _, _, _, _, _, _, _, _, _, _, tad_5, pl0_5, le0_5, nu0_5, (coy_5 + 1), (wag_5 - 1), say_5, rfl, by omega, by omega, by omega, by omega, by omega, by omega, by omega⟩ (by decide) (fun V_30 j_30 k_30 e_30 => ?_)
        have hR := PS.pop hQ (by omega) (by rw [ho_u_17]; omega)
        refine aw_goto (tgt := 0) dX12_endsPiece_36 (by decide) ?_
        refine aw_le ?_ (mih_0_3 _ (by omega) pl0_5 (coy_5 + 1) (wag_5 - 1) (upd sd0 coy_5 (nI (1048576 * 10 + 0))) (dset dp0 (coy_5 + 1) 1) V_30 rfl (j_30) (⟨((k_30 _ (by decide)).trans ((k_29 _ (by decide)).trans (hN_26.trans xg_x4))), ((k_30 _ (by decide)).trans ((k_29 _ (by decide)).trans hN_24)), ((k_30 _ (by decide)).trans ((k_29 _ (by decide)).trans (hN_25.trans xw_x4))), (FG.of e_30 rfl rfl), (FG.of e_30 rfl (by omega : le0_5 = ln)), (FG.of e_30 rfl rfl), (FG.of e_30 rfl rfl), hR, by omega, by omega, by omega, by omega⟩) (by omega) (by omega) (by omega) (fun k hk => (pk_un (by omega)).trans (i0_5 k hk)) (by omega))
        exact ⟨rfl, trivial⟩
  refine aw_le ?_ (ml_0_3 _ pl0_2 coy_2 wag_2 sd dep V rfl (hJ0) (⟨xg_x1, xs_x1, xw_x1, (FG.of e_2 rfl rfl), (FG.of e_2 rfl (by omega : le0_2 = ln)), (FG.of e_2 rfl rfl), (FG.of e_2 rfl rfl), hP_x1, by omega, by omega, by omega, by omega⟩) (by omega) (by omega) (by omega) (fun k hk => rfl) (by omega))
  exact ⟨rfl, trivial⟩

set_option maxHeartbeats 4000000 in
set_option maxRecDepth 100000 in
theorem r_lands (l : Launch) (D : va_G) (b : Nat) (N : Nat) (V : Wd) (hN : 133 ≤ N) (cl : Nat) (hW : CR D b cl V) (n0 : Int32)  (g sd wa : Nat → Int32) (pl ln cm wt sg : Nat) (dep : Nat → Nat) (hX : PX D b V g pl ln cm wt sg sd wa dep) (hd1 : dep cm = 1) (h13 : opOf (wa 0) = 13) (hw1 : 1 ≤ wt) : MV l D b 1 jX12_lands [.ref (b + 100), .int n0] N V 0 0 (fun N9 V9 => (∃ (sd9 : Nat → Int32) (pl9 cm9 wt9 : Nat) (dep9 : Nat → Nat), PX D b V9 g pl9 ln cm9 wt9 sg sd9 wa dep9 ∧ pl9 = pl ∧ cm9 = cm ∧ wt9 ≤ wt ∧ 1 ≤ wt9 ∧ (∀ k, k < sg → sd9 k = sd k) ∧ dep9 cm9 = 1 ∧ opOf (wa (wt9 - 1)) ≠ 11 ∧ (n0 = 0 ∨ opOf (wa (wt9 - 1)) ≠ 12)) ∧ N = N9 ∧ JR D b N cl V V9) := by
  have hJ0 : JR D b N cl V V := JR.rf hW
  refine mw_of (by decide) (by simp [Value.category]) (Nat.le_of_ble_eq_true rfl) ?_
  show AW l D b jX12_lands (fx_rm 1 0 0) none (fx_MQ D b 0 0 (fx_qv (fun N9 V9 => (∃ (sd9 : Nat → Int32) (pl9 cm9 wt9 : Nat) (dep9 : Nat → Nat), PX D b V9 g pl9 ln cm9 wt9 sg sd9 wa dep9 ∧ pl9 = pl ∧ cm9 = cm ∧ wt9 ≤ wt ∧ 1 ≤ wt9 ∧ (∀ k, k < sg → sd9 k = sd k) ∧ dep9 cm9 = 1 ∧ opOf (wa (wt9 - 1)) ≠ 11 ∧ (n0 = 0 ∨ opOf (wa (wt9 - 1)) ≠ 12)) ∧ N = N9 ∧ JR D b N cl V V9))) 0 [some (.ref (b + 100)), some (.int n0), none] [] N V 0 0
  obtain ⟨xg_x1, xs_x1, xw_x1, xp_x1, xl_x1, xc_x1, xt_x1, hP_x1, hB1_x1, hB2_x1, hB3_x1, hB4_x1⟩ := id hX
  obtain ⟨ftoldPeople_2, ftoldDoors_2, fwasDoors_2, ffault_2, fopen_2, flines_2, fmeantSet_2, fopenedNow_2, fvainNow_2, flowNow_2, fhighNow_2, fisKept_2, tad_2, pl0_2, le0_2, nu0_2, coy_2, wag_2, say_2, e_2, hntad_2, hnpl0_2, hnle0_2, hnnu0_2, hncoy_2, hnwag_2, hnsay_2⟩ := JR.get hJ0 cm_100
  have sb_x1pl := FG.eq xp_x1 e_2 rfl (by omega) (by omega)
  subst sb_x1pl
  have sb_x1cm := FG.eq xc_x1 e_2 rfl (by omega) (by omega)
  subst sb_x1cm
  have sb_x1wt := FG.eq xt_x1 e_2 rfl (by omega) (by omega)
  subst sb_x1wt
  have sb_x1ln := FG.eq xl_x1 e_2 rfl (by omega) (by omega)
  have hsg_x1 := hP_x1.2.1
  have ml_0_3 : ∀ (m : Nat) (p0 : Nat) (c0 : Nat) (w0 : Nat) (sd0 : Nat → Int32) (dp0 : Nat → Nat) (V0 : Wd), m = w0 → (JR D b N cl V V0) → (PX D b V0 g p0 ln c0 w0 sg sd0 wa dp0) → (p0 = pl0_2) → (c0 = coy_2) → (w0 ≤ wag_2) → (1 ≤ w0) → (∀ k, k < sg → sd0 k = sd k) → (dp0 c0 = 1) → AW l D b jX12_lands (fx_rm 1 0 0) none (fx_MQ D b 0 0 (fx_qv (fun N9 V9 => (∃ (sd9 : Nat → Int32) (pl9 cm9 wt9 : Nat) (dep9 : Nat → Nat), PX D b V9 g pl9 ln cm9 wt9 sg sd9 wa dep9 ∧ pl9 = pl0_2 ∧ cm9 = coy_2 ∧ wt9 ≤ wag_2 ∧ 1 ≤ wt9 ∧ (∀ k, k < sg → sd9 k = sd k) ∧ dep9 cm9 = 1 ∧ opOf (wa (wt9 - 1)) ≠ 11 ∧ (n0 = 0 ∨ opOf (wa (wt9 - 1)) ≠ 12)) ∧ N = N9 ∧ JR D b N cl V V9))) 0 [some (.ref (b + 100)), some (.int n0), none] [] N V0 0 0 := by
    intro m; refine Nat.strongRecOn m ?_
    intro m mih_0_3 p0 c0 w0 sd0 dp0 V0 hm0 i0_0 i0_1 i0_2 i0_3 i0_4 i0_5 i0_6 i0_7
    obtain ⟨xg_x4, xs_x4, xw_x4, xp_x4, xl_x4, xc_x4, xt_x4, hP_x4, hB1_x4, hB2_x4, hB3_x4, hB4_x4⟩ := i0_1
    obtain ⟨ftoldPeople_5, ftoldDoors_5, fwasDoors_5, ffault_5, fopen_5, flines_5, fmeantSet_5, fopenedNow_5, fvainNow_5, flowNow_5, fhighNow_5, fisKept_5, tad_5, pl0_5, le0_5, nu0_5, coy_5, wag_5, say_5, e_5, hntad_5, hnpl0_5, hnle0_5, hnnu0_5, hncoy_5, hnwag_5, hnsay_5⟩ := JR.get i0_0 cm_100
    have sb_x4pl := FG.eq xp_x4 e_5 rfl (by omega) (by omega)
    subst sb_x4pl
    have sb_x4cm := FG.eq xc_x4 e_5 rfl (by omega) (by omega)
    subst sb_x4cm
    have sb_x4wt := FG.eq xt_x4 e_5 rfl (by omega) (by omega)
    subst sb_x4wt
    have sb_x4ln := FG.eq xl_x4 e_5 rfl (by omega) (by omega)
    have hsg_x4 := hP_x4.2.1
    refine aw_aload_n dX12_lands_0 rfl ?_
    refine aw_callVi (J' := jX12_waitTop) (As := []) (st := []) dX12_lands_1 tb_1263 ok_X12_waitTop ⟨_, e_5⟩ (by omega) rfl rfl (r_waitTop l D b N V0 hN cl i0_0.1 ftoldPeople_5 ftoldDoors_5 fwasDoors_5 ffault_5 fopen_5 flines_5 fmeantSet_5 fopenedNow_5 fvainNow_5 flowNow_5 fhighNow_5 fisKept_5 tad_5 pl0_5 le0_5 nu0_5 coy_5 wag_5 say_5 ⟨by omega, by omega, by omega, by omega, by omega, by omega, by omega⟩ e_5 wa xw_x4 (fun q => by obtain ⟨o, a, e1, e2, e3, e4, _⟩ := PS.top hP_x4 q; exact ⟨o, a, e1, e2, e3, e4⟩)) rfl (Nat.le_of_ble_eq_true rfl) ⟨Nat.le_of_ble_eq_true rfl, Nat.le_of_ble_eq_true rfl, Nat.le_of_ble_eq_true rfl, Nat.le_of_ble_eq_true rfl⟩ (fun r_8 N_9 V_10 q_11 => ?_)
    obtain ⟨h_7, rfl, rfl⟩ := q_11
    rcases h_7 with ⟨g_12, e_13⟩ | ⟨g_14, e_15⟩
    · skip
      refine aw_eqi (y := (-1)) e_13 ?_
      refine aw_bipush (v := 11) dX12_lands_4 (by decide) ?_
      refine aw_icmp_eq (tgt := 22) dX12_lands_6 (by decide) (fun c_16 => ?_) (fun c_16 => ?_)
      · exact absurd c_16 (by decide)
      refine aw_iload_n dX12_lands_9 rfl ?_
      refine aw_if_eq (tgt := 73) dX12_lands_10 (by decide) (fun c_17 => ?_) (fun c_17 => ?_)
      · skip
        refine aw_vreti dX12_lands_73 rfl (Nat.le_of_ble_eq_true rfl) (Nat.le_of_ble_eq_true rfl) ?_
        exact ⟨⟨sd0, pl0_5, coy_5, wag_5, dp0, ⟨xg_x4, xs_x4, xw_x4, (FG.of e_5 rfl rfl), (FG.of e_5 rfl (by omega : le0_5 = ln)), (FG.of e_5 rfl rfl), (FG.of e_5 rfl rfl), hP_x4, by omega, by omega, by omega, by omega⟩, by omega, by omega, by omega, by omega, i0_6, by omega, by omega, (by first | exact Or.inl c_17 | omega)⟩, rfl, i0_0⟩
      · skip
        refine aw_aload_n dX12_lands_13 rfl ?_
        refine aw_callVi (J' := jX12_waitTop) (As := []) (st := []) dX12_lands_14 tb_1263 ok_X12_waitTop ⟨_, e_5⟩ (by omega) rfl rfl (r_waitTop l D b N V0 hN cl i0_0.1 ftoldPeople_5 ftoldDoors_5 fwasDoors_5 ffault_5 fopen_5 flines_5 fmeantSet_5 fopenedNow_5 fvainNow_5 flowNow_5 fhighNow_5 fisKept_5 tad_5 pl0_5 le0_5 nu0_5 coy_5 wag_5 say_5 ⟨by omega, by omega, by omega, by omega, by omega, by omega, by omega⟩ e_5 wa xw_x4 (fun q => by obtain ⟨o, a, e1, e2, e3, e4, _⟩ := PS.top hP_x4 q; exact ⟨o, a, e1, e2, e3, e4⟩)) rfl (Nat.le_of_ble_eq_true rfl) ⟨Nat.le_of_ble_eq_true rfl, Nat.le_of_ble_eq_true rfl, Nat.le_of_ble_eq_true rfl, Nat.le_of_ble_eq_true rfl⟩ (fun r_20 N_21 V_22 q_23 => ?_)
        obtain ⟨h_19, rfl, rfl⟩ := q_23
        refine aw_eqi (y := -1) ((h_19.resolve_right (fun z => by omega)).2) ?_
        refine aw_bipush (v := 12) dX12_lands_17 (by decide) ?_
        refine aw_icmp_ne (tgt := 73) dX12_lands_19 (by decide) (fun c_24 => ?_) (fun c_24 => ?_)
        rotate_left
        · exact absurd c_24 (by decide)
        refine aw_vreti dX12_lands_73 rfl (Nat.le_of_ble_eq_true rfl) (Nat.le_of_ble_eq_true rfl) ?_
        exact ⟨⟨sd0, pl0_5, coy_5, wag_5, dp0, ⟨xg_x4, xs_x4, xw_x4, (FG.of e_5 rfl rfl), (FG.of e_5 rfl (by omega : le0_5 = ln)), (FG.of e_5 rfl rfl), (FG.of e_5 rfl rfl), hP_x4, by omega, by omega, by omega, by omega⟩, by omega, by omega, by omega, by omega, i0_6, by omega, by omega, (by first | exact Or.inl c_17 | omega)⟩, rfl, i0_0⟩
    · skip
      refine aw_eqi (y := (nI (opOf (wa (wag_5 - 1))))) e_15 ?_
      obtain ⟨o_u_25, a_u_25, he_u_25, ha_u_25, h2_u_25, h14_u_25, hj_u_25⟩ := PS.top hP_x4 g_14
      have ho_u_25 : opOf (wa (wag_5 - 1)) = o_u_25 := by rw [he_u_25]; exact opOf_nI (by omega) (by omega)
      refine aw_eqi (y := nI o_u_25) (by rw [ho_u_25]) ?_
      refine aw_bipush (v := 11) dX12_lands_4 (by decide) ?_
      refine aw_icmp_eq (tgt := 22) dX12_lands_6 (by decide) (fun c_26 => ?_) (fun c_26 => ?_)
      · skip
        have nc_26 : o_u_25 = 11 := (nI_eq (a := o_u_25) (b := 11) (by omega) (by omega)).mp c_26
        have hz : wag_5 - 1 ≠ 0 := fun e => by rw [e] at ho_u_25; omega
        obtain ⟨ja1, ja2, o2, v2, js, jv, jo⟩ := (hj_u_25.resolve_left (by omega)).resolve_left (by omega)
        have hmn := wgt_mono (wa := wa) (m := wag_5 - 1) (n := wag_5) (by omega)
        refine aw_aload_n dX12_lands_22 rfl ?_
        refine aw_get dX12_lands_23 fl_X12_44 e_5 (by omega) rfl ?_
        refine aw_aload_n dX12_lands_26 rfl ?_
        refine aw_get dX12_lands_27 fl_X12_189 e_5 (by omega) rfl ?_
        refine aw_iconst (v := 1) dX12_lands_30 (by decide) ?_
        refine aw_isub dX12_lands_31 ?_
        refine aw_eqi (y := (nI (wag_5 - 1))) (pk_sub (a := wag_5) (b := 1) (by omega)) ?_
        refine aw_iald (v := (wa (wag_5 - 1))) dX12_lands_32 xw_x4 (by omega) (vp_in_nI (n := (wag_5 - 1)) (by omega) (by omega)) (congrArg wa (nI_clamp (n := (wag_5 - 1)) (by omega))) ?_
        refine aw_eqi he_u_25 ?_
        refine aw_ldc (v := 1048576) dX12_lands_33 tb_1240 ?_
        refine aw_irem dX12_lands_35 (by decide) ?_
        refine aw_eqi (y := (nI a_u_25)) (un_rem (by omega) (by omega)) ?_
        refine aw_istore_n (ls' := [some (.ref (b + 100)), some (.int n0), some (.int (nI a_u_25))]) dX12_lands_36 (Nat.le_of_ble_eq_true rfl) rfl ?_
        refine aw_aload_n dX12_lands_37 rfl ?_
        refine aw_get dX12_lands_38 fl_X12_41 e_5 (by omega) rfl ?_
        refine aw_iload_n dX12_lands_41 rfl ?_
        refine aw_ldc (v := 1048576) dX12_lands_42 tb_1240 ?_
        refine aw_aload_n dX12_lands_44 rfl ?_
        refine aw_get dX12_lands_45 fl_X12_41 e_5 (by omega) rfl ?_
        refine aw_iload_n dX12_lands_48 rfl ?_
        refine aw_iald (v := (sd0 a_u_25)) dX12_lands_49 xs_x4 (by omega) (vp_in_nI (n := a_u_25) (by omega) (by omega)) (congrArg sd0 (nI_clamp (n := a_u_25) (by omega))) ?_
        refine aw_eqi js ?_
        refine aw_ldc (v := 1048576) dX12_lands_50 tb_1240 ?_
        refine aw_idiv dX12_lands_52 (by decide) ?_
        refine aw_eqi (y := (nI o2)) (un_div jv (by omega)) ?_
        refine aw_imul dX12_lands_53 ?_
        refine aw_eqi (y := nI (1048576 * o2)) (pk_mul _ _) ?_
        refine aw_aload_n dX12_lands_54 rfl ?_
        refine aw_get dX12_lands_55 fl_X12_182 e_5 (by omega) rfl ?_
        refine aw_iadd dX12_lands_58 ?_
        refine aw_eqi (y := nI ((1048576 * o2) + coy_5)) (nI_add _ _) ?_
        refine aw_iast dX12_lands_59 xs_x4 (by omega) (vp_in_nI (n := a_u_25) (by omega) (by omega)) ?_
        refine aw_upR i0_0 cm_111 ⟨_, rfl⟩ (by decide) (fun V_27 j_27 k_27 e_27 => ?_)
        have e_28 : V_27 111 = cI D 260 (upd sd0 a_u_25 (nI ((1048576 * o2) + coy_5))) := by rw [e_27, nI_clamp (n := a_u_25) (by omega)]
        refine aw_aload_n dX12_lands_60 rfl ?_
        refine aw_aload_n dX12_lands_61 rfl ?_
        refine aw_get dX12_lands_62 fl_X12_189 ((k_27 _ (by decide)).trans e_5) (by omega) rfl ?_
        refine aw_iconst (v := 1) dX12_lands_65 (by decide) ?_
        refine aw_isub dX12_lands_66 ?_
        refine aw_eqi (y := (nI (wag_5 - 1))) (pk_sub (a := wag_5) (b := 1) (by omega)) ?_
        refine aw_put dX12_lands_67 fp_X12_189 ((k_27 _ (by decide)).trans e_5) (by omega) rfl rfl (Nat.le_of_ble_eq_true rfl) rfl ?_
        refine aw_upR j_27 cm_100 ⟨_, _, _, _, _, _, _, _, _, _, _, _, tad_5, pl0_5, le0_5, nu0_5, coy_5, (wag_5 - 1), say_5, rfl, by omega, by omega, by omega, by omega, by omega, by omega, by omega⟩ (by decide) (fun V_29 j_29 k_29 e_29 => ?_)
        have hR := PS.land hP_x4 (by omega) he_u_25 (by omega) ja1 ja2 js jv jo (by omega)
        refine aw_goto (tgt := 0) dX12_lands_70 (by decide) ?_
        refine aw_le ?_ (mih_0_3 _ (by omega) pl0_5 coy_5 (wag_5 - 1) (upd sd0 a_u_25 (nI ((1048576 * o2) + coy_5))) dp0 V_29 rfl (j_29) (⟨((k_29 _ (by decide)).trans ((k_27 _ (by decide)).trans xg_x4)), ((k_29 _ (by decide)).trans e_28), ((k_29 _ (by decide)).trans ((k_27 _ (by decide)).trans xw_x4)), (FG.of e_29 rfl rfl), (FG.of e_29 rfl (by omega : le0_5 = ln)), (FG.of e_29 rfl rfl), (FG.of e_29 rfl rfl), hR, by omega, by omega, by omega, by omega⟩) (by omega) (by omega) (by omega) (by omega) (fun k hk => (pk_un (by omega)).trans (i0_6 k hk)) (by omega))
        exact ⟨rfl, ⟨rfl, trivial⟩⟩
      · skip
        have nc_26 : ¬ (o_u_25 = 11) := fun z => c_26 ((nI_eq (a := o_u_25) (b := 11) (by omega) (by omega)).mpr z)
        refine aw_iload_n dX12_lands_9 rfl ?_
        refine aw_if_eq (tgt := 73) dX12_lands_10 (by decide) (fun c_30 => ?_) (fun c_30 => ?_)
        · skip
          refine aw_vreti dX12_lands_73 rfl (Nat.le_of_ble_eq_true rfl) (Nat.le_of_ble_eq_true rfl) ?_
          exact ⟨⟨sd0, pl0_5, coy_5, wag_5, dp0, ⟨xg_x4, xs_x4, xw_x4, (FG.of e_5 rfl rfl), (FG.of e_5 rfl (by omega : le0_5 = ln)), (FG.of e_5 rfl rfl), (FG.of e_5 rfl rfl), hP_x4, by omega, by omega, by omega, by omega⟩, by omega, by omega, by omega, by omega, i0_6, by omega, by omega, (by first | exact Or.inl c_30 | omega)⟩, rfl, i0_0⟩
        · skip
          refine aw_aload_n dX12_lands_13 rfl ?_
          refine aw_callVi (J' := jX12_waitTop) (As := []) (st := []) dX12_lands_14 tb_1263 ok_X12_waitTop ⟨_, e_5⟩ (by omega) rfl rfl (r_waitTop l D b N V0 hN cl i0_0.1 ftoldPeople_5 ftoldDoors_5 fwasDoors_5 ffault_5 fopen_5 flines_5 fmeantSet_5 fopenedNow_5 fvainNow_5 flowNow_5 fhighNow_5 fisKept_5 tad_5 pl0_5 le0_5 nu0_5 coy_5 wag_5 say_5 ⟨by omega, by omega, by omega, by omega, by omega, by omega, by omega⟩ e_5 wa xw_x4 (fun q => by obtain ⟨o, a, e1, e2, e3, e4, _⟩ := PS.top hP_x4 q; exact ⟨o, a, e1, e2, e3, e4⟩)) rfl (Nat.le_of_ble_eq_true rfl) ⟨Nat.le_of_ble_eq_true rfl, Nat.le_of_ble_eq_true rfl, Nat.le_of_ble_eq_true rfl, Nat.le_of_ble_eq_true rfl⟩ (fun r_33 N_34 V_35 q_36 => ?_)
          obtain ⟨h_32, rfl, rfl⟩ := q_36
          refine aw_eqi (y := nI o_u_25) (((h_32.resolve_left (fun z => by omega)).2).trans (by rw [ho_u_25])) ?_
          refine aw_bipush (v := 12) dX12_lands_17 (by decide) ?_
          refine aw_icmp_ne (tgt := 73) dX12_lands_19 (by decide) (fun c_37 => ?_) (fun c_37 => ?_)
          · skip
            have nc_37 : ¬ (o_u_25 = 12) := fun z => c_37 ((nI_eq (a := o_u_25) (b := 12) (by omega) (by omega)).mpr z)
            refine aw_vreti dX12_lands_73 rfl (Nat.le_of_ble_eq_true rfl) (Nat.le_of_ble_eq_true rfl) ?_
            exact ⟨⟨sd0, pl0_5, coy_5, wag_5, dp0, ⟨xg_x4, xs_x4, xw_x4, (FG.of e_5 rfl rfl), (FG.of e_5 rfl (by omega : le0_5 = ln)), (FG.of e_5 rfl rfl), (FG.of e_5 rfl rfl), hP_x4, by omega, by omega, by omega, by omega⟩, by omega, by omega, by omega, by omega, i0_6, by omega, by omega, (by first | exact Or.inl c_30 | omega)⟩, rfl, i0_0⟩
          · skip
            have nc_37 : o_u_25 = 12 := (nI_eq (a := o_u_25) (b := 12) (by omega) (by omega)).mp c_37
            have hz : wag_5 - 1 ≠ 0 := fun e => by rw [e] at ho_u_25; omega
            obtain ⟨ja1, ja2, o2, v2, js, jv, jo⟩ := (hj_u_25.resolve_left (by omega)).resolve_left (by omega)
            have hmn := wgt_mono (wa := wa) (m := wag_5 - 1) (n := wag_5) (by omega)
            refine aw_aload_n dX12_lands_22 rfl ?_
            refine aw_get dX12_lands_23 fl_X12_44 e_5 (by omega) rfl ?_
            refine aw_aload_n dX12_lands_26 rfl ?_
            refine aw_get dX12_lands_27 fl_X12_189 e_5 (by omega) rfl ?_
            refine aw_iconst (v := 1) dX12_lands_30 (by decide) ?_
            refine aw_isub dX12_lands_31 ?_
            refine aw_eqi (y := (nI (wag_5 - 1))) (pk_sub (a := wag_5) (b := 1) (by omega)) ?_
            refine aw_iald (v := (wa (wag_5 - 1))) dX12_lands_32 xw_x4 (by omega) (vp_in_nI (n := (wag_5 - 1)) (by omega) (by omega)) (congrArg wa (nI_clamp (n := (wag_5 - 1)) (by omega))) ?_
            refine aw_eqi he_u_25 ?_
            refine aw_ldc (v := 1048576) dX12_lands_33 tb_1240 ?_
            refine aw_irem dX12_lands_35 (by decide) ?_
            refine aw_eqi (y := (nI a_u_25)) (un_rem (by omega) (by omega)) ?_
            refine aw_istore_n (ls' := [some (.ref (b + 100)), some (.int n0), some (.int (nI a_u_25))]) dX12_lands_36 (Nat.le_of_ble_eq_true rfl) rfl ?_
            refine aw_aload_n dX12_lands_37 rfl ?_
            refine aw_get dX12_lands_38 fl_X12_41 e_5 (by omega) rfl ?_
            refine aw_iload_n dX12_lands_41 rfl ?_
            refine aw_ldc (v := 1048576) dX12_lands_42 tb_1240 ?_
            refine aw_aload_n dX12_lands_44 rfl ?_
            refine aw_get dX12_lands_45 fl_X12_41 e_5 (by omega) rfl ?_
            refine aw_iload_n dX12_lands_48 rfl ?_
            refine aw_iald (v := (sd0 a_u_25)) dX12_lands_49 xs_x4 (by omega) (vp_in_nI (n := a_u_25) (by omega) (by omega)) (congrArg sd0 (nI_clamp (n := a_u_25) (by omega))) ?_
            refine aw_eqi js ?_
            refine aw_ldc (v := 1048576) dX12_lands_50 tb_1240 ?_
            refine aw_idiv dX12_lands_52 (by decide) ?_
            refine aw_eqi (y := (nI o2)) (un_div jv (by omega)) ?_
            refine aw_imul dX12_lands_53 ?_
            refine aw_eqi (y := nI (1048576 * o2)) (pk_mul _ _) ?_
            refine aw_aload_n dX12_lands_54 rfl ?_
            refine aw_get dX12_lands_55 fl_X12_182 e_5 (by omega) rfl ?_
            refine aw_iadd dX12_lands_58 ?_
            refine aw_eqi (y := nI ((1048576 * o2) + coy_5)) (nI_add _ _) ?_
            refine aw_iast dX12_lands_59 xs_x4 (by omega) (vp_in_nI (n := a_u_25) (by omega) (by omega)) ?_
            refine aw_upR i0_0 cm_111 ⟨_, rfl⟩ (by decide) (fun V_38 j_38 k_38 e_38 => ?_)
            have e_39 : V_38 111 = cI D 260 (upd sd0 a_u_25 (nI ((1048576 * o2) + coy_5))) := by rw [e_38, nI_clamp (n := a_u_25) (by omega)]
            refine aw_aload_n dX12_lands_60 rfl ?_
            refine aw_aload_n dX12_lands_61 rfl ?_
            refine aw_get dX12_lands_62 fl_X12_189 ((k_38 _ (by decide)).trans e_5) (by omega) rfl ?_
            refine aw_iconst (v := 1) dX12_lands_65 (by decide) ?_
            refine aw_isub dX12_lands_66 ?_
            refine aw_eqi (y := (nI (wag_5 - 1))) (pk_sub (a := wag_5) (b := 1) (by omega)) ?_
            refine aw_put dX12_lands_67 fp_X12_189 ((k_38 _ (by decide)).trans e_5) (by omega) rfl rfl (Nat.le_of_ble_eq_true rfl) rfl ?_
            refine aw_upR j_38 cm_100 ⟨_, _, _, _, _, _, _, _, _, _, _, _, tad_5, pl0_5, le0_5, nu0_5, coy_5, (wag_5 - 1), say_5, rfl, by omega, by omega, by omega, by omega, by omega, by omega, by omega⟩ (by decide) (fun V_40 j_40 k_40 e_40 => ?_)
            have hR := PS.land hP_x4 (by omega) he_u_25 (by omega) ja1 ja2 js jv jo (by omega)
            refine aw_goto (tgt := 0) dX12_lands_70 (by decide) ?_
            refine aw_le ?_ (mih_0_3 _ (by omega) pl0_5 coy_5 (wag_5 - 1) (upd sd0 a_u_25 (nI ((1048576 * o2) + coy_5))) dp0 V_40 rfl (j_40) (⟨((k_40 _ (by decide)).trans ((k_38 _ (by decide)).trans xg_x4)), ((k_40 _ (by decide)).trans e_39), ((k_40 _ (by decide)).trans ((k_38 _ (by decide)).trans xw_x4)), (FG.of e_40 rfl rfl), (FG.of e_40 rfl (by omega : le0_5 = ln)), (FG.of e_40 rfl rfl), (FG.of e_40 rfl rfl), hR, by omega, by omega, by omega, by omega⟩) (by omega) (by omega) (by omega) (by omega) (fun k hk => (pk_un (by omega)).trans (i0_6 k hk)) (by omega))
            exact ⟨rfl, ⟨rfl, trivial⟩⟩
  refine aw_le ?_ (ml_0_3 _ pl0_2 coy_2 wag_2 sd dep V rfl (hJ0) (⟨xg_x1, xs_x1, xw_x1, (FG.of e_2 rfl rfl), (FG.of e_2 rfl (by omega : le0_2 = ln)), (FG.of e_2 rfl rfl), (FG.of e_2 rfl rfl), hP_x1, by omega, by omega, by omega, by omega⟩) (by omega) (by omega) (by omega) (by omega) (fun k hk => rfl) (by omega))
  exact ⟨rfl, ⟨rfl, trivial⟩⟩
