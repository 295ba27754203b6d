set_option maxHeartbeats 4000000 in
set_option maxRecDepth 100000 in
theorem r_types (l : Launch) (D : va_G) (b : Nat) (N : Nat) (V : Wd) (hN : 133 ≤ N) (cl : Nat) (hW : CR D b cl V) (n0 : Int32) (t : Nat) (ht : FG b 13 t V) (h4 : t + 4 ≤ 260) : MV l D b 0 jX12_types [.ref (b + 100), .int n0] N V 0 0 (fun N9 V9 => (FG b 13 (t + 4) V9) ∧ N = N9 ∧ JR D b N cl [(110, 110, 0, 1000000), (100, 100, 13, 13)] V V9) := by
  have hJ0 : JR D b N cl [(110, 110, 0, 1000000), (100, 100, 13, 13)] V V := JR.rf hW
  refine mw_of (by decide) (by simp [Value.category]) (Nat.le_of_ble_eq_true rfl) ?_
  show AW l D b jX12_types (fx_rm 0 0 0) none (fx_MQ D b 0 0 (fx_qv (fun N9 V9 => (FG b 13 (t + 4) V9) ∧ N = N9 ∧ JR D b N cl [(110, 110, 0, 1000000), (100, 100, 13, 13)] V V9))) 0 [some (.ref (b + 100)), some (.int n0), none] [] N V 0 0
  obtain ⟨ftoldPeople_1, ftoldDoors_1, fwasDoors_1, ffault_1, fopen_1, flines_1, fmeantSet_1, fopenedNow_1, fvainNow_1, flowNow_1, fhighNow_1, fisKept_1, tad_1, pl0_1, le0_1, nu0_1, coy_1, wag_1, say_1, e_1, hntad_1, hnpl0_1, hnle0_1, hnnu0_1, hncoy_1, hnwag_1, hnsay_1⟩ := JR.get hJ0 cm_100
  have hq_taped := FG.eq ht e_1 rfl (by omega) (by omega)
  refine aw_iconst (v := 3) dX12_types_0 (by decide) ?_
  refine aw_istore_n (ls' := [some (.ref (b + 100)), some (.int n0), some (.int 3)]) dX12_types_1 (Nat.le_of_ble_eq_true rfl) rfl ?_
  refine aw_iload_n dX12_types_2 rfl ?_
  refine aw_if_lt (tgt := 38) dX12_types_3 (by decide) (fun c_2 => ?_) (fun c_2 => ?_)
  · exact absurd c_2 (by decide)
  refine aw_aload_n dX12_types_6 rfl ?_
  refine aw_get dX12_types_7 fl_X12_37 e_1 (by omega) rfl ?_
  refine aw_aload_n dX12_types_10 rfl ?_
  refine aw_get dX12_types_11 fl_X12_152 e_1 (by omega) rfl ?_
  refine aw_iload_n dX12_types_14 rfl ?_
  refine aw_bipush (v := 8) dX12_types_15 (by decide) ?_
  refine aw_iload_n dX12_types_17 rfl ?_
  refine aw_imul dX12_types_18 ?_
  refine aw_eqi (y := 24) (by decide) ?_
  refine aw_ishr dX12_types_19 ?_
  refine aw_i2b dX12_types_20 rfl ?_
  obtain ⟨g_3, e_3⟩ := JR.get hJ0 cm_110
  refine aw_bast dX12_types_21 e_3 (by omega) (vp_in_nI (n := tad_1) (by omega) (by omega)) ?_
  refine aw_upR hJ0 cm_110 ⟨_, rfl⟩ (by decide) (WA LM0 (by decide) (by decide)) (fun V_4 j_4 k_4 e_4 => ?_)
  refine aw_aload_n dX12_types_22 rfl ?_
  refine aw_aload_n dX12_types_23 rfl ?_
  refine aw_get dX12_types_24 fl_X12_152 ((k_4 _ (by decide)).trans e_1) (by omega) rfl ?_
  refine aw_iconst (v := 1) dX12_types_27 (by decide) ?_
  refine aw_iadd dX12_types_28 ?_
  refine aw_eqi (y := nI (tad_1 + 1)) (nI_add _ _) ?_
  refine aw_put dX12_types_29 fp_X12_152 ((k_4 _ (by decide)).trans e_1) (by omega) rfl rfl (Nat.le_of_ble_eq_true rfl) rfl ?_
  refine aw_upR j_4 cm_100 ⟨_, _, _, _, _, _, _, _, _, _, _, _, (tad_1 + 1), pl0_1, le0_1, nu0_1, coy_1, wag_1, say_1, rfl, by omega, by omega, by omega, by omega, by omega, by omega, by omega⟩ (by decide) (WO (s := 13) (x := .int (nI (tad_1 + 1))) ((k_4 _ (by decide)).trans e_1) rfl (LMs LM0) (by decide) (by decide) (by decide) (Or.inl (by decide))) (fun V_5 j_5 k_5 e_5 => ?_)
  refine aw_iinc (v := 2) (ls' := [some (.ref (b + 100)), some (.int n0), some (.int 2)]) dX12_types_32 rfl (by decide) (Nat.le_of_ble_eq_true rfl) rfl ?_
  refine aw_goto (tgt := 2) dX12_types_35 (by decide) ?_
  refine aw_iload_n dX12_types_2 rfl ?_
  refine aw_if_lt (tgt := 38) dX12_types_3 (by decide) (fun c_6 => ?_) (fun c_6 => ?_)
  · exact absurd c_6 (by decide)
  refine aw_aload_n dX12_types_6 rfl ?_
  refine aw_get dX12_types_7 fl_X12_37 e_5 (by omega) rfl ?_
  refine aw_aload_n dX12_types_10 rfl ?_
  refine aw_get dX12_types_11 fl_X12_152 e_5 (by omega) rfl ?_
  refine aw_iload_n dX12_types_14 rfl ?_
  refine aw_bipush (v := 8) dX12_types_15 (by decide) ?_
  refine aw_iload_n dX12_types_17 rfl ?_
  refine aw_imul dX12_types_18 ?_
  refine aw_eqi (y := 16) (by decide) ?_
  refine aw_ishr dX12_types_19 ?_
  refine aw_i2b dX12_types_20 rfl ?_
  refine aw_bast dX12_types_21 ((k_5 _ (by decide)).trans e_4) (by omega) (vp_in_nI (n := (tad_1 + 1)) (by omega) (by omega)) ?_
  refine aw_upR j_5 cm_110 ⟨_, rfl⟩ (by decide) (WA LM0 (by decide) (by decide)) (fun V_7 j_7 k_7 e_7 => ?_)
  refine aw_aload_n dX12_types_22 rfl ?_
  refine aw_aload_n dX12_types_23 rfl ?_
  refine aw_get dX12_types_24 fl_X12_152 ((k_7 _ (by decide)).trans e_5) (by omega) rfl ?_
  refine aw_iconst (v := 1) dX12_types_27 (by decide) ?_
  refine aw_iadd dX12_types_28 ?_
  refine aw_eqi (y := nI ((tad_1 + 1) + 1)) (nI_add _ _) ?_
  refine aw_put dX12_types_29 fp_X12_152 ((k_7 _ (by decide)).trans e_5) (by omega) rfl rfl (Nat.le_of_ble_eq_true rfl) rfl ?_
  refine aw_upR j_7 cm_100 ⟨_, _, _, _, _, _, _, _, _, _, _, _, ((tad_1 + 1) + 1), pl0_1, le0_1, nu0_1, coy_1, wag_1, say_1, rfl, by omega, by omega, by omega, by omega, by omega, by omega, by omega⟩ (by decide) (WO (s := 13) (x := .int (nI ((tad_1 + 1) + 1))) ((k_7 _ (by decide)).trans e_5) rfl (LMs LM0) (by decide) (by decide) (by decide) (Or.inl (by decide))) (fun V_8 j_8 k_8 e_8 => ?_)
  refine aw_iinc (v := 1) (ls' := [some (.ref (b + 100)), some (.int n0), some (.int 1)]) dX12_types_32 rfl (by decide) (Nat.le_of_ble_eq_true rfl) rfl ?_
  refine aw_goto (tgt := 2) dX12_types_35 (by decide) ?_
  refine aw_iload_n dX12_types_2 rfl ?_
  refine aw_if_lt (tgt := 38) dX12_types_3 (by decide) (fun c_9 => ?_) (fun c_9 => ?_)
  · exact absurd c_9 (by decide)
  refine aw_aload_n dX12_types_6 rfl ?_
  refine aw_get dX12_types_7 fl_X12_37 e_8 (by omega) rfl ?_
  refine aw_aload_n dX12_types_10 rfl ?_
  refine aw_get dX12_types_11 fl_X12_152 e_8 (by omega) rfl ?_
  refine aw_iload_n dX12_types_14 rfl ?_
  refine aw_bipush (v := 8) dX12_types_15 (by decide) ?_
  refine aw_iload_n dX12_types_17 rfl ?_
  refine aw_imul dX12_types_18 ?_
  refine aw_eqi (y := 8) (by decide) ?_
  refine aw_ishr dX12_types_19 ?_
  refine aw_i2b dX12_types_20 rfl ?_
  refine aw_bast dX12_types_21 ((k_8 _ (by decide)).trans e_7) (by omega) (vp_in_nI (n := ((tad_1 + 1) + 1)) (by omega) (by omega)) ?_
  refine aw_upR j_8 cm_110 ⟨_, rfl⟩ (by decide) (WA LM0 (by decide) (by decide)) (fun V_10 j_10 k_10 e_10 => ?_)
  refine aw_aload_n dX12_types_22 rfl ?_
  refine aw_aload_n dX12_types_23 rfl ?_
  refine aw_get dX12_types_24 fl_X12_152 ((k_10 _ (by decide)).trans e_8) (by omega) rfl ?_
  refine aw_iconst (v := 1) dX12_types_27 (by decide) ?_
  refine aw_iadd dX12_types_28 ?_
  refine aw_eqi (y := nI (((tad_1 + 1) + 1) + 1)) (nI_add _ _) ?_
  refine aw_put dX12_types_29 fp_X12_152 ((k_10 _ (by decide)).trans e_8) (by omega) rfl rfl (Nat.le_of_ble_eq_true rfl) rfl ?_
  refine aw_upR j_10 cm_100 ⟨_, _, _, _, _, _, _, _, _, _, _, _, (((tad_1 + 1) + 1) + 1), pl0_1, le0_1, nu0_1, coy_1, wag_1, say_1, rfl, by omega, by omega, by omega, by omega, by omega, by omega, by omega⟩ (by decide) (WO (s := 13) (x := .int (nI (((tad_1 + 1) + 1) + 1))) ((k_10 _ (by decide)).trans e_8) rfl (LMs LM0) (by decide) (by decide) (by decide) (Or.inl (by decide))) (fun V_11 j_11 k_11 e_11 => ?_)
  refine aw_iinc (v := 0) (ls' := [some (.ref (b + 100)), some (.int n0), some (.int 0)]) dX12_types_32 rfl (by decide) (Nat.le_of_ble_eq_true rfl) rfl ?_
  refine aw_goto (tgt := 2) dX12_types_35 (by decide) ?_
  refine aw_iload_n dX12_types_2 rfl ?_
  refine aw_if_lt (tgt := 38) dX12_types_3 (by decide) (fun c_12 => ?_) (fun c_12 => ?_)
  · exact absurd c_12 (by decide)
  refine aw_aload_n dX12_types_6 rfl ?_
  refine aw_get dX12_types_7 fl_X12_37 e_11 (by omega) rfl ?_
  refine aw_aload_n dX12_types_10 rfl ?_
  refine aw_get dX12_types_11 fl_X12_152 e_11 (by omega) rfl ?_
  refine aw_iload_n dX12_types_14 rfl ?_
  refine aw_bipush (v := 8) dX12_types_15 (by decide) ?_
  refine aw_iload_n dX12_types_17 rfl ?_
  refine aw_imul dX12_types_18 ?_
  refine aw_eqi (y := 0) (by decide) ?_
  refine aw_ishr dX12_types_19 ?_
  refine aw_i2b dX12_types_20 rfl ?_
  refine aw_bast dX12_types_21 ((k_11 _ (by decide)).trans e_10) (by omega) (vp_in_nI (n := (((tad_1 + 1) + 1) + 1)) (by omega) (by omega)) ?_
  refine aw_upR j_11 cm_110 ⟨_, rfl⟩ (by decide) (WA LM0 (by decide) (by decide)) (fun V_13 j_13 k_13 e_13 => ?_)
  refine aw_aload_n dX12_types_22 rfl ?_
  refine aw_aload_n dX12_types_23 rfl ?_
  refine aw_get dX12_types_24 fl_X12_152 ((k_13 _ (by decide)).trans e_11) (by omega) rfl ?_
  refine aw_iconst (v := 1) dX12_types_27 (by decide) ?_
  refine aw_iadd dX12_types_28 ?_
  refine aw_eqi (y := nI ((((tad_1 + 1) + 1) + 1) + 1)) (nI_add _ _) ?_
  refine aw_put dX12_types_29 fp_X12_152 ((k_13 _ (by decide)).trans e_11) (by omega) rfl rfl (Nat.le_of_ble_eq_true rfl) rfl ?_
  refine aw_upR j_13 cm_100 ⟨_, _, _, _, _, _, _, _, _, _, _, _, ((((tad_1 + 1) + 1) + 1) + 1), pl0_1, le0_1, nu0_1, coy_1, wag_1, say_1, rfl, by omega, by omega, by omega, by omega, by omega, by omega, by omega⟩ (by decide) (WO (s := 13) (x := .int (nI ((((tad_1 + 1) + 1) + 1) + 1))) ((k_13 _ (by decide)).trans e_11) rfl (LMs LM0) (by decide) (by decide) (by decide) (Or.inl (by decide))) (fun V_14 j_14 k_14 e_14 => ?_)
  refine aw_iinc (v := (-1)) (ls' := [some (.ref (b + 100)), some (.int n0), some (.int (-1))]) dX12_types_32 rfl (by decide) (Nat.le_of_ble_eq_true rfl) rfl ?_
  refine aw_goto (tgt := 2) dX12_types_35 (by decide) ?_
  refine aw_iload_n dX12_types_2 rfl ?_
  refine aw_if_lt (tgt := 38) dX12_types_3 (by decide) (fun c_15 => ?_) (fun c_15 => ?_)
  rotate_left
  · exact absurd (by decide) c_15
  refine aw_vreti dX12_types_38 rfl (Nat.le_of_ble_eq_true rfl) (Nat.le_of_ble_eq_true rfl) ?_
  exact ⟨(FG.of e_14 rfl (by omega : ((((tad_1 + 1) + 1) + 1) + 1) = t + 4)), rfl, j_14⟩

set_option maxHeartbeats 4000000 in
set_option maxRecDepth 100000 in
theorem r_feed (l : Launch) (D : va_G) (b : Nat) (N : Nat) (V : Wd) (hN : 133 ≤ N) (cl : Nat) (hW : CR D b cl V) (n0 : Int32) (n1 : Int32) (n2 : Int32) (n3 : Int32) (n4 : Int32)  : MI l D b 1 jX12_feed [.ref (b + 100), .int n0, .int n1, .int n2, .int n3, .int n4] N V 0 0 (fun r N9 V9 => N = N9 ∧ JR D b N cl [(110, 110, 0, 1000000), (100, 100, 13, 13)] V V9) := by
  have hJ0 : JR D b N cl [(110, 110, 0, 1000000), (100, 100, 13, 13)] V V := JR.rf hW
  refine mw_of (by decide) (by simp [Value.category]) (Nat.le_of_ble_eq_true rfl) ?_
  show AW l D b jX12_feed (fx_rm 1 0 0) none (fx_MQ D b 0 0 (fx_qi (fun r N9 V9 => N = N9 ∧ JR D b N cl [(110, 110, 0, 1000000), (100, 100, 13, 13)] V V9))) 0 [some (.ref (b + 100)), some (.int n0), some (.int n1), some (.int n2), some (.int n3), some (.int n4)] [] N V 0 0
  refine aw_aload_n dX12_feed_0 rfl ?_
  obtain ⟨ftoldPeople_1, ftoldDoors_1, fwasDoors_1, ffault_1, fopen_1, flines_1, fmeantSet_1, fopenedNow_1, fvainNow_1, flowNow_1, fhighNow_1, fisKept_1, tad_1, pl0_1, le0_1, nu0_1, coy_1, wag_1, say_1, e_1, hntad_1, hnpl0_1, hnle0_1, hnnu0_1, hncoy_1, hnwag_1, hnsay_1⟩ := JR.get hJ0 cm_100
  refine aw_get dX12_feed_1 fl_X12_152 e_1 (by omega) rfl ?_
  refine aw_bipush (v := 20) dX12_feed_4 (by decide) ?_
  refine aw_iadd dX12_feed_6 ?_
  refine aw_eqi (y := nI (tad_1 + 20)) (nI_add _ _) ?_
  refine aw_sipush (v := 260) dX12_feed_7 (by decide) ?_
  refine aw_icmp_le (tgt := 15) dX12_feed_10 (by decide) (fun c_2 => ?_) (fun c_2 => ?_)
  · skip
    have nc_2 : (tad_1 + 20) ≤ 260 := (nI_leI (a := (tad_1 + 20)) (b := 260) (by omega) (by omega)).mp c_2
    refine aw_aload_n dX12_feed_15 rfl ?_
    refine aw_iload_n dX12_feed_16 rfl ?_
    refine aw_callVv (J' := jX12_types) (As := [.int n0]) (st := []) dX12_feed_17 tb_1201 ok_X12_types ⟨_, e_1⟩ (by omega) rfl rfl (r_types l D b N V hN cl hJ0.1 n0 tad_1 (FG.of e_1 rfl rfl) (by omega)) rfl (Nat.le_of_ble_eq_true rfl) ⟨Nat.le_of_ble_eq_true rfl, Nat.le_of_ble_eq_true rfl, Nat.le_of_ble_eq_true rfl, Nat.le_of_ble_eq_true rfl⟩ (fun  N_8 V_6 q_9 => ?_)
    obtain ⟨h_5, rfl, q_3⟩ := q_9
    have j_4 := JR.trans hJ0 (JR.weak q_3 (Sub.cons LM0 (by decide) (by decide) (by decide) (Or.inl rfl) (Sub.cons (LMs LM0) (by decide) (by decide) (by decide) (Or.inr ⟨by decide, by decide⟩) Sub.nil)))
    obtain ⟨ftoldPeople_t7, ftoldDoors_t7, fwasDoors_t7, ffault_t7, fopen_t7, flines_t7, fmeantSet_t7, fopenedNow_t7, fvainNow_t7, flowNow_t7, fhighNow_t7, fisKept_t7, tad_t7, pl0_t7, le0_t7, nu0_t7, coy_t7, wag_t7, say_t7, e_t7, hntad_t7, hnpl0_t7, hnle0_t7, hnnu0_t7, hncoy_t7, hnwag_t7, hnsay_t7⟩ := JR.get j_4 cm_100
    have hq_t7 := FG.eq h_5 e_t7 rfl (by omega) (by omega)
    refine aw_aload_n dX12_feed_20 rfl ?_
    refine aw_iload_n dX12_feed_21 rfl ?_
    refine aw_callVv (J' := jX12_types) (As := [.int n1]) (st := []) dX12_feed_22 tb_1201 ok_X12_types ⟨_, e_t7⟩ (by omega) rfl rfl (r_types l D b N V_6 hN cl j_4.1 n1 tad_t7 (FG.of e_t7 rfl rfl) (by omega)) rfl (Nat.le_of_ble_eq_true rfl) ⟨Nat.le_of_ble_eq_true rfl, Nat.le_of_ble_eq_true rfl, Nat.le_of_ble_eq_true rfl, Nat.le_of_ble_eq_true rfl⟩ (fun  N_15 V_13 q_16 => ?_)
    obtain ⟨h_12, rfl, q_10⟩ := q_16
    have j_11 := JR.trans j_4 (JR.weak q_10 (Sub.cons LM0 (by decide) (by decide) (by decide) (Or.inl rfl) (Sub.cons (LMs LM0) (by decide) (by decide) (by decide) (Or.inr ⟨by decide, by decide⟩) Sub.nil)))
    obtain ⟨ftoldPeople_t14, ftoldDoors_t14, fwasDoors_t14, ffault_t14, fopen_t14, flines_t14, fmeantSet_t14, fopenedNow_t14, fvainNow_t14, flowNow_t14, fhighNow_t14, fisKept_t14, tad_t14, pl0_t14, le0_t14, nu0_t14, coy_t14, wag_t14, say_t14, e_t14, hntad_t14, hnpl0_t14, hnle0_t14, hnnu0_t14, hncoy_t14, hnwag_t14, hnsay_t14⟩ := JR.get j_11 cm_100
    have hq_t14 := FG.eq h_12 e_t14 rfl (by omega) (by omega)
    refine aw_aload_n dX12_feed_25 rfl ?_
    refine aw_iload_n dX12_feed_26 rfl ?_
    refine aw_callVv (J' := jX12_types) (As := [.int n2]) (st := []) dX12_feed_27 tb_1201 ok_X12_types ⟨_, e_t14⟩ (by omega) rfl rfl (r_types l D b N V_13 hN cl j_11.1 n2 tad_t14 (FG.of e_t14 rfl rfl) (by omega)) rfl (Nat.le_of_ble_eq_true rfl) ⟨Nat.le_of_ble_eq_true rfl, Nat.le_of_ble_eq_true rfl, Nat.le_of_ble_eq_true rfl, Nat.le_of_ble_eq_true rfl⟩ (fun  N_22 V_20 q_23 => ?_)
    obtain ⟨h_19, rfl, q_17⟩ := q_23
    have j_18 := JR.trans j_11 (JR.weak q_17 (Sub.cons LM0 (by decide) (by decide) (by decide) (Or.inl rfl) (Sub.cons (LMs LM0) (by decide) (by decide) (by decide) (Or.inr ⟨by decide, by decide⟩) Sub.nil)))
    obtain ⟨ftoldPeople_t21, ftoldDoors_t21, fwasDoors_t21, ffault_t21, fopen_t21, flines_t21, fmeantSet_t21, fopenedNow_t21, fvainNow_t21, flowNow_t21, fhighNow_t21, fisKept_t21, tad_t21, pl0_t21, le0_t21, nu0_t21, coy_t21, wag_t21, say_t21, e_t21, hntad_t21, hnpl0_t21, hnle0_t21, hnnu0_t21, hncoy_t21, hnwag_t21, hnsay_t21⟩ := JR.get j_18 cm_100
    have hq_t21 := FG.eq h_19 e_t21 rfl (by omega) (by omega)
    refine aw_aload_n dX12_feed_30 rfl ?_
    refine aw_iload dX12_feed_31 rfl ?_
    refine aw_callVv (J' := jX12_types) (As := [.int n3]) (st := []) dX12_feed_33 tb_1201 ok_X12_types ⟨_, e_t21⟩ (by omega) rfl rfl (r_types l D b N V_20 hN cl j_18.1 n3 tad_t21 (FG.of e_t21 rfl rfl) (by omega)) rfl (Nat.le_of_ble_eq_true rfl) ⟨Nat.le_of_ble_eq_true rfl, Nat.le_of_ble_eq_true rfl, Nat.le_of_ble_eq_true rfl, Nat.le_of_ble_eq_true rfl⟩ (fun  N_29 V_27 q_30 => ?_)
    obtain ⟨h_26, rfl, q_24⟩ := q_30
    have j_25 := JR.trans j_18 (JR.weak q_24 (Sub.cons LM0 (by decide) (by decide) (by decide) (Or.inl rfl) (Sub.cons (LMs LM0) (by decide) (by decide) (by decide) (Or.inr ⟨by decide, by decide⟩) Sub.nil)))
    obtain ⟨ftoldPeople_t28, ftoldDoors_t28, fwasDoors_t28, ffault_t28, fopen_t28, flines_t28, fmeantSet_t28, fopenedNow_t28, fvainNow_t28, flowNow_t28, fhighNow_t28, fisKept_t28, tad_t28, pl0_t28, le0_t28, nu0_t28, coy_t28, wag_t28, say_t28, e_t28, hntad_t28, hnpl0_t28, hnle0_t28, hnnu0_t28, hncoy_t28, hnwag_t28, hnsay_t28⟩ := JR.get j_25 cm_100
    have hq_t28 := FG.eq h_26 e_t28 rfl (by omega) (by omega)
    refine aw_aload_n dX12_feed_36 rfl ?_
    refine aw_iload dX12_feed_37 rfl ?_
    refine aw_callVv (J' := jX12_types) (As := [.int n4]) (st := []) dX12_feed_39 tb_1201 ok_X12_types ⟨_, e_t28⟩ (by omega) rfl rfl (r_types l D b N V_27 hN cl j_25.1 n4 tad_t28 (FG.of e_t28 rfl rfl) (by omega)) rfl (Nat.le_of_ble_eq_true rfl) ⟨Nat.le_of_ble_eq_true rfl, Nat.le_of_ble_eq_true rfl, Nat.le_of_ble_eq_true rfl, Nat.le_of_ble_eq_true rfl⟩ (fun  N_36 V_34 q_37 => ?_)
    obtain ⟨h_33, rfl, q_31⟩ := q_37
    have j_32 := JR.trans j_25 (JR.weak q_31 (Sub.cons LM0 (by decide) (by decide) (by decide) (Or.inl rfl) (Sub.cons (LMs LM0) (by decide) (by decide) (by decide) (Or.inr ⟨by decide, by decide⟩) Sub.nil)))
    obtain ⟨ftoldPeople_t35, ftoldDoors_t35, fwasDoors_t35, ffault_t35, fopen_t35, flines_t35, fmeantSet_t35, fopenedNow_t35, fvainNow_t35, flowNow_t35, fhighNow_t35, fisKept_t35, tad_t35, pl0_t35, le0_t35, nu0_t35, coy_t35, wag_t35, say_t35, e_t35, hntad_t35, hnpl0_t35, hnle0_t35, hnnu0_t35, hncoy_t35, hnwag_t35, hnsay_t35⟩ := JR.get j_32 cm_100
    have hq_t35 := FG.eq h_33 e_t35 rfl (by omega) (by omega)
    refine aw_aload_n dX12_feed_42 rfl ?_
    refine aw_get dX12_feed_43 fl_X12_152 e_t35 (by omega) rfl ?_
    refine aw_ireti dX12_feed_46 rfl (Nat.le_of_ble_eq_true rfl) (Nat.le_of_ble_eq_true rfl) ?_
    exact ⟨rfl, j_32⟩
  · skip
    have nc_2 : ¬ ((tad_1 + 20) ≤ 260) := fun z => c_2 ((nI_leI (a := (tad_1 + 20)) (b := 260) (by omega) (by omega)).mpr z)
    refine aw_iconst (v := (-1)) dX12_feed_13 (by decide) ?_
    refine aw_ireti dX12_feed_14 rfl (Nat.le_of_ble_eq_true rfl) (Nat.le_of_ble_eq_true rfl) ?_
    exact ⟨rfl, hJ0⟩

set_option maxHeartbeats 4000000 in
set_option maxRecDepth 100000 in
theorem r_isCrew (l : Launch) (D : va_G) (b : Nat) (N : Nat) (V : Wd) (hN : 133 ≤ N) (cl : Nat) (hW : CR D b cl V) (n0 : Int32)  : MI l D b 0 jX12_isCrew [.ref (b + 100), .int n0] N V 0 0 (fun r N9 V9 => (r = 0 ∨ r = 1) ∧ N = N9 ∧ V = V9) := by
  have hJ0 : JR D b N cl [] V V := JR.rf hW
  refine mw_of (by decide) (by simp [Value.category]) (Nat.le_of_ble_eq_true rfl) ?_
  show AW l D b jX12_isCrew (fx_rm 0 0 0) none (fx_MQ D b 0 0 (fx_qi (fun r N9 V9 => (r = 0 ∨ r = 1) ∧ N = N9 ∧ V = V9))) 0 [some (.ref (b + 100)), some (.int n0), none] [] N V 0 0
  refine aw_iconst (v := 0) dX12_isCrew_0 (by decide) ?_
  refine aw_istore_n (ls' := [some (.ref (b + 100)), some (.int n0), some (.int 0)]) dX12_isCrew_1 (Nat.le_of_ble_eq_true rfl) rfl ?_
  have loop_2_0 : ∀ (g_2 : Nat), ∀ (j2 : Nat), j2 + g_2 = 16 → AW l D b jX12_isCrew (fx_rm 0 0 0) none (fx_MQ D b 0 0 (fx_qi (fun r N9 V9 => (r = 0 ∨ r = 1) ∧ N = N9 ∧ V = V9))) 2 [some (.ref (b + 100)), some (.int n0), some (.int (nI j2))] [] N V 0 0 := by
    intro g_2
    induction g_2 with
    | zero =>
      intro j2  hj2
      obtain rfl : j2 = 16 := by omega
      refine aw_iload_n dX12_isCrew_2 rfl ?_
      refine aw_bipush (v := 16) dX12_isCrew_3 (by decide) ?_
      refine aw_icmp_ge (tgt := 37) dX12_isCrew_5 (by decide) (fun c_3 => ?_) (fun c_3 => ?_)
      rotate_left
      · exact absurd (nI_le (a := 16) (b := 16) (Nat.le_refl _) (by omega)) c_3
      refine aw_iconst (v := 1) dX12_isCrew_37 (by decide) ?_
      refine aw_zreti dX12_isCrew_38 rfl (by first | exact Or.inl rfl | exact Or.inr rfl | assumption) (Nat.le_of_ble_eq_true rfl) (Nat.le_of_ble_eq_true rfl) ?_
      exact ⟨(by first | exact Or.inl rfl | exact Or.inr rfl | assumption), rfl, rfl⟩
    | succ g_2 ih_2_1 =>
      intro j2  hj2
      have hlj2 : j2 < 16 := by omega
      refine aw_iload_n dX12_isCrew_2 rfl ?_
      refine aw_bipush (v := 16) dX12_isCrew_3 (by decide) ?_
      refine aw_icmp_ge (tgt := 37) dX12_isCrew_5 (by decide) (fun c_4 => ?_) (fun c_4 => ?_)
      · exact absurd c_4 (nI_ge (a := j2) (b := 16) (by omega) (by omega))
      refine aw_aload_n dX12_isCrew_8 rfl ?_
      obtain ⟨ftoldPeople_5, ftoldDoors_5, fwasDoors_5, ffault_5, fopen_5, flines_5, fmeantSet_5, fopenedNow_5, fvainNow_5, flowNow_5, fhighNow_5, fisKept_5, tad_5, pl0_5, le0_5, nu0_5, coy_5, wag_5, say_5, e_5, hntad_5, hnpl0_5, hnle0_5, hnnu0_5, hncoy_5, hnwag_5, hnsay_5⟩ := JR.get hJ0 cm_100
      refine aw_get dX12_isCrew_9 fl_X12_93 e_5 (by omega) rfl ?_
      refine aw_iload_n dX12_isCrew_12 rfl ?_
      obtain ⟨g_6, e_6⟩ := JR.get hJ0 cm_128
      refine aw_iald (v := (g_6 j2)) dX12_isCrew_13 e_6 (by omega) (vp_in_nI (n := j2) (by omega) (by omega)) (congrArg g_6 (nI_clamp (n := j2) (by omega))) ?_
      refine aw_iconst (v := (-1)) dX12_isCrew_14 (by decide) ?_
      refine aw_icmp_eq (tgt := 31) dX12_isCrew_15 (by decide) (fun c_7 => ?_) (fun c_7 => ?_)
      · skip
        refine aw_iinc (v := (nI (j2 + 1))) (ls' := [some (.ref (b + 100)), some (.int n0), some (.int (nI (j2 + 1)))]) dX12_isCrew_31 rfl (fx_up_1 _) (Nat.le_of_ble_eq_true rfl) rfl ?_
        refine aw_goto (tgt := 2) dX12_isCrew_34 (by decide) ?_
        refine aw_le ?_ (ih_2_1 (j2 + 1)   (by omega))
        exact ⟨rfl, ⟨rfl, ⟨rfl, trivial⟩⟩⟩
      · skip
        refine aw_aload_n dX12_isCrew_18 rfl ?_
        refine aw_get dX12_isCrew_19 fl_X12_93 e_5 (by omega) rfl ?_
        refine aw_iload_n dX12_isCrew_22 rfl ?_
        refine aw_iald (v := (g_6 j2)) dX12_isCrew_23 e_6 (by omega) (vp_in_nI (n := j2) (by omega) (by omega)) (congrArg g_6 (nI_clamp (n := j2) (by omega))) ?_
        refine aw_iload_n dX12_isCrew_24 rfl ?_
        refine aw_iand dX12_isCrew_25 ?_
        refine aw_if_ne (tgt := 31) dX12_isCrew_26 (by decide) (fun c_8 => ?_) (fun c_8 => ?_)
        · skip
          refine aw_iinc (v := (nI (j2 + 1))) (ls' := [some (.ref (b + 100)), some (.int n0), some (.int (nI (j2 + 1)))]) dX12_isCrew_31 rfl (fx_up_1 _) (Nat.le_of_ble_eq_true rfl) rfl ?_
          refine aw_goto (tgt := 2) dX12_isCrew_34 (by decide) ?_
          refine aw_le ?_ (ih_2_1 (j2 + 1)   (by omega))
          exact ⟨rfl, ⟨rfl, ⟨rfl, trivial⟩⟩⟩
        · skip
          refine aw_iconst (v := 0) dX12_isCrew_29 (by decide) ?_
          refine aw_zreti dX12_isCrew_30 rfl (by first | exact Or.inl rfl | exact Or.inr rfl | assumption) (Nat.le_of_ble_eq_true rfl) (Nat.le_of_ble_eq_true rfl) ?_
          exact ⟨(by first | exact Or.inl rfl | exact Or.inr rfl | assumption), rfl, rfl⟩
  refine aw_le ?_ (loop_2_0 16 0   (by omega))
  exact ⟨rfl, ⟨rfl, ⟨rfl, trivial⟩⟩⟩

set_option maxHeartbeats 4000000 in
set_option maxRecDepth 100000 in
theorem r_laysWho (l : Launch) (D : va_G) (b : Nat) (N : Nat) (V : Wd) (hN : 133 ≤ N) (cl : Nat) (hW : CR D b cl V)   : MV l D b 5 jX12_laysWho [.ref (b + 100)] N V 0 0 (fun N9 V9 => N = N9 ∧ JR D b N cl [(128, 128, 0, 1000000)] V V9) := by
  have hJ0 : JR D b N cl [(128, 128, 0, 1000000)] V V := JR.rf hW
  refine mw_of (by decide) (by simp [Value.category]) (Nat.le_of_ble_eq_true rfl) ?_
  show AW l D b jX12_laysWho (fx_rm 5 0 0) none (fx_MQ D b 0 0 (fx_qv (fun N9 V9 => N = N9 ∧ JR D b N cl [(128, 128, 0, 1000000)] V V9))) 0 [some (.ref (b + 100)), none] [] N V 0 0
  refine aw_iconst (v := 0) dX12_laysWho_0 (by decide) ?_
  refine aw_istore_n (ls' := [some (.ref (b + 100)), some (.int 0)]) dX12_laysWho_1 (Nat.le_of_ble_eq_true rfl) rfl ?_
  have loop_2_0 : ∀ (g_2 : Nat), ∀ (j2 : Nat)  (V2 : Wd), j2 + g_2 = 16 → (JR D b N cl [(128, 128, 0, 1000000)] V V2) → AW l D b jX12_laysWho (fx_rm 5 0 0) none (fx_MQ D b 0 0 (fx_qv (fun N9 V9 => N = N9 ∧ JR D b N cl [(128, 128, 0, 1000000)] V V9))) 2 [some (.ref (b + 100)), some (.int (nI j2))] [] N V2 0 0 := by
    intro g_2
    induction g_2 with
    | zero =>
      intro j2  V2 hj2 i2_0
      obtain rfl : j2 = 16 := by omega
      refine aw_iload_n dX12_laysWho_2 rfl ?_
      refine aw_bipush (v := 16) dX12_laysWho_3 (by decide) ?_
      refine aw_icmp_ge (tgt := 37) dX12_laysWho_5 (by decide) (fun c_3 => ?_) (fun c_3 => ?_)
      rotate_left
      · exact absurd (nI_le (a := 16) (b := 16) (Nat.le_refl _) (by omega)) c_3
      refine aw_vreti dX12_laysWho_37 rfl (Nat.le_of_ble_eq_true rfl) (Nat.le_of_ble_eq_true rfl) ?_
      exact ⟨rfl, i2_0⟩
    | succ g_2 ih_2_1 =>
      intro j2  V2 hj2 i2_0
      have hlj2 : j2 < 16 := by omega
      refine aw_iload_n dX12_laysWho_2 rfl ?_
      refine aw_bipush (v := 16) dX12_laysWho_3 (by decide) ?_
      refine aw_icmp_ge (tgt := 37) dX12_laysWho_5 (by decide) (fun c_4 => ?_) (fun c_4 => ?_)
      · exact absurd c_4 (nI_ge (a := j2) (b := 16) (by omega) (by omega))
      refine aw_aload_n dX12_laysWho_8 rfl ?_
      obtain ⟨ftoldPeople_5, ftoldDoors_5, fwasDoors_5, ffault_5, fopen_5, flines_5, fmeantSet_5, fopenedNow_5, fvainNow_5, flowNow_5, fhighNow_5, fisKept_5, tad_5, pl0_5, le0_5, nu0_5, coy_5, wag_5, say_5, e_5, hntad_5, hnpl0_5, hnle0_5, hnnu0_5, hncoy_5, hnwag_5, hnsay_5⟩ := JR.get i2_0 cm_100
      refine aw_get dX12_laysWho_9 fl_X12_93 e_5 (by omega) rfl ?_
      refine aw_iload_n dX12_laysWho_12 rfl ?_
      refine aw_aload_n dX12_laysWho_13 rfl ?_
      refine aw_iload_n dX12_laysWho_14 rfl ?_
      refine aw_callVi (J' := jX12_isDoor) (As := [.int (nI j2)]) (st := [.int (nI j2), .ref (b + 128)]) dX12_laysWho_15 tb_1359 ok_X12_isDoor ⟨_, e_5⟩ (by omega) rfl rfl (r_isDoor l D b N V2 hN cl i2_0.1 (nI j2)) rfl (Nat.le_of_ble_eq_true rfl) ⟨Nat.le_of_ble_eq_true rfl, Nat.le_of_ble_eq_true rfl, Nat.le_of_ble_eq_true rfl, Nat.le_of_ble_eq_true rfl⟩ (fun r_9 N_10 V_11 q_12 => ?_)
      obtain ⟨⟨z_8, h_7⟩, rfl, rfl⟩ := q_12
      refine aw_if_eq (tgt := 29) dX12_laysWho_18 (by decide) (fun c_13 => ?_) (fun c_13 => ?_)
      · skip
        refine aw_iconst (v := (-1)) dX12_laysWho_29 (by decide) ?_
        obtain ⟨g_14, e_14⟩ := JR.get i2_0 cm_128
        refine aw_iast dX12_laysWho_30 e_14 (by omega) (vp_in_nI (n := j2) (by omega) (by omega)) ?_
        refine aw_upR i2_0 cm_128 ⟨_, rfl⟩ (by decide) (WA LM0 (by decide) (by decide)) (fun V_15 j_15 k_15 e_15 => ?_)
        refine aw_iinc (v := (nI (j2 + 1))) (ls' := [some (.ref (b + 100)), some (.int (nI (j2 + 1)))]) dX12_laysWho_31 rfl (fx_up_1 _) (Nat.le_of_ble_eq_true rfl) rfl ?_
        refine aw_goto (tgt := 2) dX12_laysWho_34 (by decide) ?_
        refine aw_le ?_ (ih_2_1 (j2 + 1)  V_15 (by omega) (j_15))
        exact ⟨rfl, ⟨rfl, trivial⟩⟩
      · skip
        refine aw_aload_n dX12_laysWho_21 rfl ?_
        refine aw_iload_n dX12_laysWho_22 rfl ?_
        refine aw_callVi (J' := jX12_whoUnlocks) (As := [.int (nI j2)]) (st := [.int (nI j2), .ref (b + 128)]) dX12_laysWho_23 tb_1465 ok_X12_whoUnlocks ⟨_, e_5⟩ (by omega) rfl rfl (r_whoUnlocks l D b N V2 hN cl i2_0.1 (nI j2) ⟨j2, by omega, rfl⟩) rfl (Nat.le_of_ble_eq_true rfl) ⟨Nat.le_of_ble_eq_true rfl, Nat.le_of_ble_eq_true rfl, Nat.le_of_ble_eq_true rfl, Nat.le_of_ble_eq_true rfl⟩ (fun r_17 N_18 V_19 q_20 => ?_)
        obtain ⟨rfl, rfl⟩ := q_20
        refine aw_goto (tgt := 30) dX12_laysWho_26 (by decide) ?_
        obtain ⟨g_21, e_21⟩ := JR.get i2_0 cm_128
        refine aw_iast dX12_laysWho_30 e_21 (by omega) (vp_in_nI (n := j2) (by omega) (by omega)) ?_
        refine aw_upR i2_0 cm_128 ⟨_, rfl⟩ (by decide) (WA LM0 (by decide) (by decide)) (fun V_22 j_22 k_22 e_22 => ?_)
        refine aw_iinc (v := (nI (j2 + 1))) (ls' := [some (.ref (b + 100)), some (.int (nI (j2 + 1)))]) dX12_laysWho_31 rfl (fx_up_1 _) (Nat.le_of_ble_eq_true rfl) rfl ?_
        refine aw_goto (tgt := 2) dX12_laysWho_34 (by decide) ?_
        refine aw_le ?_ (ih_2_1 (j2 + 1)  V_22 (by omega) (j_22))
        exact ⟨rfl, ⟨rfl, trivial⟩⟩
  refine aw_le ?_ (loop_2_0 16 0  V (by omega) (hJ0))
  exact ⟨rfl, ⟨rfl, trivial⟩⟩

set_option maxHeartbeats 4000000 in
set_option maxRecDepth 100000 in
theorem r_crew (l : Launch) (D : va_G) (b : Nat) (N : Nat) (V : Wd) (hN : 133 ≤ N) (cl : Nat) (hW : CR D b cl V) (n0 : Int32)  : MI l D b 6 jX12_crew [.ref (b + 100), .int n0] N V 0 0 (fun r N9 V9 => N = N9 ∧ JR D b N cl [(128, 128, 0, 1000000)] V V9) := by
  have hJ0 : JR D b N cl [(128, 128, 0, 1000000)] V V := JR.rf hW
  refine mw_of (by decide) (by simp [Value.category]) (Nat.le_of_ble_eq_true rfl) ?_
  show AW l D b jX12_crew (fx_rm 6 0 0) none (fx_MQ D b 0 0 (fx_qi (fun r N9 V9 => N = N9 ∧ JR D b N cl [(128, 128, 0, 1000000)] V V9))) 0 [some (.ref (b + 100)), some (.int n0), none, none] [] N V 0 0
  refine aw_iload_n dX12_crew_0 rfl ?_
  refine aw_iconst (v := 0) dX12_crew_1 (by decide) ?_
  refine aw_iconst (v := 1) dX12_crew_2 (by decide) ?_
  refine aw_callSi (J' := jX12_in) (As := [.int n0, .int 0, .int 1]) (st := []) dX12_crew_3 tb_1209 ok_X12_in rfl (r_in l D b N V hN cl hJ0.1 n0 0 1) rfl (Nat.le_of_ble_eq_true rfl) ⟨Nat.le_of_ble_eq_true rfl, Nat.le_of_ble_eq_true rfl, Nat.le_of_ble_eq_true rfl, Nat.le_of_ble_eq_true rfl⟩ (fun r_4 N_5 V_6 q_7 => ?_)
  obtain ⟨⟨z_3, h_2⟩, rfl, rfl⟩ := q_7
  refine aw_if_ne (tgt := 11) dX12_crew_6 (by decide) (fun c_8 => ?_) (fun c_8 => ?_)
  · skip
    obtain ⟨zn0, h0zn0, hzn0, rfl⟩ := in_nat (a := 0) (b := 1) (by decide) (h_2.resolve_left c_8)
    refine aw_aload_n dX12_crew_11 rfl ?_
    obtain ⟨ftoldPeople_12, ftoldDoors_12, fwasDoors_12, ffault_12, fopen_12, flines_12, fmeantSet_12, fopenedNow_12, fvainNow_12, flowNow_12, fhighNow_12, fisKept_12, tad_12, pl0_12, le0_12, nu0_12, coy_12, wag_12, say_12, e_12, hntad_12, hnpl0_12, hnle0_12, hnnu0_12, hncoy_12, hnwag_12, hnsay_12⟩ := JR.get hJ0 cm_100
    refine aw_callVv (J' := jX12_laysWho) (As := []) (st := []) dX12_crew_12 tb_1481 ok_X12_laysWho ⟨_, e_12⟩ (by omega) rfl rfl (r_laysWho l D b N V hN cl hJ0.1) rfl (Nat.le_of_ble_eq_true rfl) ⟨Nat.le_of_ble_eq_true rfl, Nat.le_of_ble_eq_true rfl, Nat.le_of_ble_eq_true rfl, Nat.le_of_ble_eq_true rfl⟩ (fun  N_13 V_11 q_14 => ?_)
    obtain ⟨rfl, q_9⟩ := q_14
    have j_10 := JR.trans hJ0 (JR.weak q_9 (Sub.cons LM0 (by decide) (by decide) (by decide) (Or.inl rfl) Sub.nil))
    refine aw_bipush (v := (-2)) dX12_crew_15 (by decide) ?_
    refine aw_istore_n (ls' := [some (.ref (b + 100)), some (.int (nI zn0)), some (.int (-2)), none]) dX12_crew_17 (Nat.le_of_ble_eq_true rfl) rfl ?_
    refine aw_sipush (v := 4095) dX12_crew_18 (by decide) ?_
    refine aw_istore_n (ls' := [some (.ref (b + 100)), some (.int (nI zn0)), some (.int (-2)), some (.int 4095)]) dX12_crew_21 (Nat.le_of_ble_eq_true rfl) rfl ?_
    have loop_22_14 : ∀ (j22 : Nat), ∀ (v22_2 : Int32), j22 ≤ 4096 → AW l D b jX12_crew (fx_rm 6 0 0) none (fx_MQ D b 0 0 (fx_qi (fun r N9 V9 => N = N9 ∧ JR D b N cl [(128, 128, 0, 1000000)] V V9))) 22 [some (.ref (b + 100)), some (.int (nI zn0)), some (.int v22_2), some (.int (fx_dn j22))] [] N V_11 0 0 := by
      intro j22
      induction j22 with
      | zero =>
        intro v22_2 hj22
        show AW l D b jX12_crew (fx_rm 6 0 0) none (fx_MQ D b 0 0 (fx_qi (fun r N9 V9 => N = N9 ∧ JR D b N cl [(128, 128, 0, 1000000)] V V9))) 22 [some (.ref (b + 100)), some (.int (nI zn0)), some (.int v22_2), some (.int (-1))] [] N V_11 0 0
        refine aw_iload_n dX12_crew_22 rfl ?_
        refine aw_if_lt (tgt := 59) dX12_crew_23 (by decide) (fun c_17 => ?_) (fun c_17 => ?_)
        rotate_left
        · exact absurd (by decide) c_17
        refine aw_iload_n dX12_crew_59 rfl ?_
        refine aw_iconst (v := 1) dX12_crew_60 (by decide) ?_
        refine aw_icmp_eq (tgt := 70) dX12_crew_61 (by decide) (fun c_18 => ?_) (fun c_18 => ?_)
        · skip
          have nc_18 : zn0 = 1 := (nI_eq (a := zn0) (b := 1) (by omega) (by omega)).mp c_18
          refine aw_iload_n dX12_crew_70 rfl ?_
          refine aw_goto (tgt := 78) dX12_crew_71 (by decide) ?_
          refine aw_ireti dX12_crew_78 rfl (Nat.le_of_ble_eq_true rfl) (Nat.le_of_ble_eq_true rfl) ?_
          exact ⟨rfl, j_10⟩
        · skip
          have nc_18 : ¬ (zn0 = 1) := fun z => c_18 ((nI_eq (a := zn0) (b := 1) (by omega) (by omega)).mpr z)
          refine aw_iload_n dX12_crew_64 rfl ?_
          refine aw_bipush (v := (-2)) dX12_crew_65 (by decide) ?_
          refine aw_icmp_ne (tgt := 74) dX12_crew_67 (by decide) (fun c_19 => ?_) (fun c_19 => ?_)
          · skip
            refine aw_iload_n dX12_crew_74 rfl ?_
            refine aw_callSi (J' := jX12_bits) (As := [.int v22_2]) (st := []) dX12_crew_75 tb_1396 ok_X12_bits rfl (r_bits l D b N V_11 hN cl j_10.1 v22_2) rfl (Nat.le_of_ble_eq_true rfl) ⟨Nat.le_of_ble_eq_true rfl, Nat.le_of_ble_eq_true rfl, Nat.le_of_ble_eq_true rfl, Nat.le_of_ble_eq_true rfl⟩ (fun r_21 N_22 V_23 q_24 => ?_)
            obtain ⟨rfl, rfl⟩ := q_24
            refine aw_ireti dX12_crew_78 rfl (Nat.le_of_ble_eq_true rfl) (Nat.le_of_ble_eq_true rfl) ?_
            exact ⟨rfl, j_10⟩
          · skip
            refine aw_iload_n dX12_crew_70 rfl ?_
            refine aw_goto (tgt := 78) dX12_crew_71 (by decide) ?_
            refine aw_ireti dX12_crew_78 rfl (Nat.le_of_ble_eq_true rfl) (Nat.le_of_ble_eq_true rfl) ?_
            exact ⟨rfl, j_10⟩
      | succ j22 ih_22_15 =>
        intro v22_2 hj22
        show AW l D b jX12_crew (fx_rm 6 0 0) none (fx_MQ D b 0 0 (fx_qi (fun r N9 V9 => N = N9 ∧ JR D b N cl [(128, 128, 0, 1000000)] V V9))) 22 [some (.ref (b + 100)), some (.int (nI zn0)), some (.int v22_2), some (.int (nI j22))] [] N V_11 0 0
        refine aw_iload_n dX12_crew_22 rfl ?_
        refine aw_if_lt (tgt := 59) dX12_crew_23 (by decide) (fun c_25 => ?_) (fun c_25 => ?_)
        · exact absurd c_25 (nI_pos (by omega))
        refine aw_aload_n dX12_crew_26 rfl ?_
        refine aw_iload_n dX12_crew_27 rfl ?_
        obtain ⟨ftoldPeople_28, ftoldDoors_28, fwasDoors_28, ffault_28, fopen_28, flines_28, fmeantSet_28, fopenedNow_28, fvainNow_28, flowNow_28, fhighNow_28, fisKept_28, tad_28, pl0_28, le0_28, nu0_28, coy_28, wag_28, say_28, e_28, hntad_28, hnpl0_28, hnle0_28, hnnu0_28, hncoy_28, hnwag_28, hnsay_28⟩ := JR.get j_10 cm_100
        refine aw_callVi (J' := jX12_isCrew) (As := [.int (nI j22)]) (st := []) dX12_crew_28 tb_1485 ok_X12_isCrew ⟨_, e_28⟩ (by omega) rfl rfl (r_isCrew l D b N V_11 hN cl j_10.1 (nI j22)) rfl (Nat.le_of_ble_eq_true rfl) ⟨Nat.le_of_ble_eq_true rfl, Nat.le_of_ble_eq_true rfl, Nat.le_of_ble_eq_true rfl, Nat.le_of_ble_eq_true rfl⟩ (fun r_29 N_30 V_31 q_32 => ?_)
        obtain ⟨h_27, rfl, rfl⟩ := q_32
        refine aw_if_eq (tgt := 53) dX12_crew_31 (by decide) (fun c_33 => ?_) (fun c_33 => ?_)
        · skip
          refine aw_iinc (v := (fx_dn j22)) (ls' := [some (.ref (b + 100)), some (.int (nI zn0)), some (.int v22_2), some (.int (fx_dn j22))]) dX12_crew_53 rfl (fx_dn_1 _) (Nat.le_of_ble_eq_true rfl) rfl ?_
          refine aw_goto (tgt := 22) dX12_crew_56 (by decide) ?_
          refine aw_le ?_ (ih_22_15 v22_2  (by omega))
          exact ⟨rfl, ⟨rfl, ⟨rfl, ⟨rfl, trivial⟩⟩⟩⟩
        · skip
          refine aw_iload_n dX12_crew_34 rfl ?_
          refine aw_bipush (v := (-2)) dX12_crew_35 (by decide) ?_
          refine aw_icmp_eq (tgt := 51) dX12_crew_37 (by decide) (fun c_34 => ?_) (fun c_34 => ?_)
          · skip
            refine aw_iload_n dX12_crew_51 rfl ?_
            refine aw_istore_n (ls' := [some (.ref (b + 100)), some (.int (nI zn0)), some (.int (nI j22)), some (.int (nI j22))]) dX12_crew_52 (Nat.le_of_ble_eq_true rfl) rfl ?_
            refine aw_iinc (v := (fx_dn j22)) (ls' := [some (.ref (b + 100)), some (.int (nI zn0)), some (.int (nI j22)), some (.int (fx_dn j22))]) dX12_crew_53 rfl (fx_dn_1 _) (Nat.le_of_ble_eq_true rfl) rfl ?_
            refine aw_goto (tgt := 22) dX12_crew_56 (by decide) ?_
            refine aw_le ?_ (ih_22_15 (nI j22)  (by omega))
            exact ⟨rfl, ⟨rfl, ⟨rfl, ⟨rfl, trivial⟩⟩⟩⟩
          · skip
            refine aw_iload_n dX12_crew_40 rfl ?_
            refine aw_callSi (J' := jX12_bits) (As := [.int (nI j22)]) (st := []) dX12_crew_41 tb_1396 ok_X12_bits rfl (r_bits l D b N V_11 hN cl j_10.1 (nI j22)) rfl (Nat.le_of_ble_eq_true rfl) ⟨Nat.le_of_ble_eq_true rfl, Nat.le_of_ble_eq_true rfl, Nat.le_of_ble_eq_true rfl, Nat.le_of_ble_eq_true rfl⟩ (fun r_36 N_37 V_38 q_39 => ?_)
            obtain ⟨rfl, rfl⟩ := q_39
            refine aw_iload_n dX12_crew_44 rfl ?_
            refine aw_callSi (J' := jX12_bits) (As := [.int v22_2]) (st := [.int r_36]) dX12_crew_45 tb_1396 ok_X12_bits rfl (r_bits l D b N V_11 hN cl j_10.1 v22_2) rfl (Nat.le_of_ble_eq_true rfl) ⟨Nat.le_of_ble_eq_true rfl, Nat.le_of_ble_eq_true rfl, Nat.le_of_ble_eq_true rfl, Nat.le_of_ble_eq_true rfl⟩ (fun r_41 N_42 V_43 q_44 => ?_)
            obtain ⟨rfl, rfl⟩ := q_44
            refine aw_icmp_gt (tgt := 53) dX12_crew_48 (by decide) (fun c_45 => ?_) (fun c_45 => ?_)
            · skip
              refine aw_iinc (v := (fx_dn j22)) (ls' := [some (.ref (b + 100)), some (.int (nI zn0)), some (.int v22_2), some (.int (fx_dn j22))]) dX12_crew_53 rfl (fx_dn_1 _) (Nat.le_of_ble_eq_true rfl) rfl ?_
              refine aw_goto (tgt := 22) dX12_crew_56 (by decide) ?_
              refine aw_le ?_ (ih_22_15 v22_2  (by omega))
              exact ⟨rfl, ⟨rfl, ⟨rfl, ⟨rfl, trivial⟩⟩⟩⟩
            · skip
              refine aw_iload_n dX12_crew_51 rfl ?_
              refine aw_istore_n (ls' := [some (.ref (b + 100)), some (.int (nI zn0)), some (.int (nI j22)), some (.int (nI j22))]) dX12_crew_52 (Nat.le_of_ble_eq_true rfl) rfl ?_
              refine aw_iinc (v := (fx_dn j22)) (ls' := [some (.ref (b + 100)), some (.int (nI zn0)), some (.int (nI j22)), some (.int (fx_dn j22))]) dX12_crew_53 rfl (fx_dn_1 _) (Nat.le_of_ble_eq_true rfl) rfl ?_
              refine aw_goto (tgt := 22) dX12_crew_56 (by decide) ?_
              refine aw_le ?_ (ih_22_15 (nI j22)  (by omega))
              exact ⟨rfl, ⟨rfl, ⟨rfl, ⟨rfl, trivial⟩⟩⟩⟩
    refine aw_le ?_ (loop_22_14 4096 (-2)  (by omega))
    exact ⟨rfl, ⟨rfl, ⟨rfl, ⟨rfl, trivial⟩⟩⟩⟩
  · skip
    refine aw_iconst (v := (-1)) dX12_crew_9 (by decide) ?_
    refine aw_ireti dX12_crew_10 rfl (Nat.le_of_ble_eq_true rfl) (Nat.le_of_ble_eq_true rfl) ?_
    exact ⟨rfl, hJ0⟩

set_option maxHeartbeats 4000000 in
set_option maxRecDepth 100000 in
theorem r_lodgings (l : Launch) (D : va_G) (b : Nat) (N : Nat) (V : Wd) (hN : 133 ≤ N) (cl : Nat) (hW : CR D b cl V)   : MI l D b 6 jX12_lodgings [.ref (b + 100)] N V 0 0 (fun r N9 V9 => N = N9 ∧ JR D b N cl [(126, 126, 0, 1000000), (128, 128, 0, 1000000)] V V9) := by
  have hJ0 : JR D b N cl [(126, 126, 0, 1000000), (128, 128, 0, 1000000)] V V := JR.rf hW
  refine mw_of (by decide) (by simp [Value.category]) (Nat.le_of_ble_eq_true rfl) ?_
  show AW l D b jX12_lodgings (fx_rm 6 0 0) none (fx_MQ D b 0 0 (fx_qi (fun r N9 V9 => N = N9 ∧ JR D b N cl [(126, 126, 0, 1000000), (128, 128, 0, 1000000)] V V9))) 0 [some (.ref (b + 100)), none, none, none, none] [] N V 0 0
  refine aw_aload_n dX12_lodgings_0 rfl ?_
  obtain ⟨ftoldPeople_4, ftoldDoors_4, fwasDoors_4, ffault_4, fopen_4, flines_4, fmeantSet_4, fopenedNow_4, fvainNow_4, flowNow_4, fhighNow_4, fisKept_4, tad_4, pl0_4, le0_4, nu0_4, coy_4, wag_4, say_4, e_4, hntad_4, hnpl0_4, hnle0_4, hnnu0_4, hncoy_4, hnwag_4, hnsay_4⟩ := JR.get hJ0 cm_100
  refine aw_callVv (J' := jX12_laysWho) (As := []) (st := []) dX12_lodgings_1 tb_1481 ok_X12_laysWho ⟨_, e_4⟩ (by omega) rfl rfl (r_laysWho l D b N V hN cl hJ0.1) rfl (Nat.le_of_ble_eq_true rfl) ⟨Nat.le_of_ble_eq_true rfl, Nat.le_of_ble_eq_true rfl, Nat.le_of_ble_eq_true rfl, Nat.le_of_ble_eq_true rfl⟩ (fun  N_5 V_3 q_6 => ?_)
  obtain ⟨rfl, q_1⟩ := q_6
  have j_2 := JR.trans hJ0 (JR.weak q_1 (Sub.cons (LMs LM0) (by decide) (by decide) (by decide) (Or.inl rfl) Sub.nil))
  refine aw_iconst (v := 0) dX12_lodgings_4 (by decide) ?_
  refine aw_istore_n (ls' := [some (.ref (b + 100)), some (.int 0), none, none, none]) dX12_lodgings_5 (Nat.le_of_ble_eq_true rfl) rfl ?_
  have loop_6_6 : ∀ (g_6 : Nat), ∀ (j6 : Nat)  (V6 : Wd), j6 + g_6 = 4096 → (JR D b N cl [(126, 126, 0, 1000000), (128, 128, 0, 1000000)] V V6) → AW l D b jX12_lodgings (fx_rm 6 0 0) none (fx_MQ D b 0 0 (fx_qi (fun r N9 V9 => N = N9 ∧ JR D b N cl [(126, 126, 0, 1000000), (128, 128, 0, 1000000)] V V9))) 6 [some (.ref (b + 100)), some (.int (nI j6)), none, none, none] [] N V6 0 0 := by
    intro g_6
    induction g_6 with
    | zero =>
      intro j6  V6 hj6 i6_0
      obtain rfl : j6 = 4096 := by omega
      refine aw_iload_n dX12_lodgings_6 rfl ?_
      refine aw_sipush (v := 4096) dX12_lodgings_7 (by decide) ?_
      refine aw_icmp_ge (tgt := 34) dX12_lodgings_10 (by decide) (fun c_9 => ?_) (fun c_9 => ?_)
      rotate_left
      · exact absurd (nI_le (a := 4096) (b := 4096) (Nat.le_refl _) (by omega)) c_9
      refine aw_iconst (v := 0) dX12_lodgings_34 (by decide) ?_
      refine aw_istore_n (ls' := [some (.ref (b + 100)), some (.int 0), none, none, none]) dX12_lodgings_35 (Nat.le_of_ble_eq_true rfl) rfl ?_
      refine aw_iconst (v := 0) dX12_lodgings_36 (by decide) ?_
      refine aw_istore_n (ls' := [some (.ref (b + 100)), some (.int 0), some (.int 0), none, none]) dX12_lodgings_37 (Nat.le_of_ble_eq_true rfl) rfl ?_
      have loop_38_9 : ∀ (g_38 : Nat), ∀ (j38 : Nat) (v38_1 : Int32) (V38 : Wd), j38 + g_38 = 16 → (JR D b N cl [(126, 126, 0, 1000000), (128, 128, 0, 1000000)] V V38) → AW l D b jX12_lodgings (fx_rm 6 0 0) none (fx_MQ D b 0 0 (fx_qi (fun r N9 V9 => N = N9 ∧ JR D b N cl [(126, 126, 0, 1000000), (128, 128, 0, 1000000)] V V9))) 38 [some (.ref (b + 100)), some (.int v38_1), some (.int (nI j38)), none, none] [] N V38 0 0 := by
        intro g_38
        induction g_38 with
        | zero =>
          intro j38 v38_1 V38 hj38 i38_0
          obtain rfl : j38 = 16 := by omega
          refine aw_iload_n dX12_lodgings_38 rfl ?_
          refine aw_bipush (v := 16) dX12_lodgings_39 (by decide) ?_
          refine aw_icmp_ge (tgt := 151) dX12_lodgings_41 (by decide) (fun c_12 => ?_) (fun c_12 => ?_)
          rotate_left
          · exact absurd (nI_le (a := 16) (b := 16) (Nat.le_refl _) (by omega)) c_12
          refine aw_iload_n dX12_lodgings_151 rfl ?_
          refine aw_ireti dX12_lodgings_152 rfl (Nat.le_of_ble_eq_true rfl) (Nat.le_of_ble_eq_true rfl) ?_
          exact ⟨rfl, i38_0⟩
        | succ g_38 ih_38_10 =>
          intro j38 v38_1 V38 hj38 i38_0
          have hlj38 : j38 < 16 := by omega
          refine aw_iload_n dX12_lodgings_38 rfl ?_
          refine aw_bipush (v := 16) dX12_lodgings_39 (by decide) ?_
          refine aw_icmp_ge (tgt := 151) dX12_lodgings_41 (by decide) (fun c_13 => ?_) (fun c_13 => ?_)
          · exact absurd c_13 (nI_ge (a := j38) (b := 16) (by omega) (by omega))
          refine aw_sipush (v := 4095) dX12_lodgings_44 (by decide) ?_
          refine aw_istore_n (ls' := [some (.ref (b + 100)), some (.int v38_1), some (.int (nI j38)), some (.int 4095), none]) dX12_lodgings_47 (Nat.le_of_ble_eq_true rfl) rfl ?_
          have loop_48_13 : ∀ (j48 : Nat), ∀ (v48_1 : Int32) (V48 : Wd), j48 ≤ 4096 → (JR D b N cl [(126, 126, 0, 1000000), (128, 128, 0, 1000000)] V V48) → AW l D b jX12_lodgings (fx_rm 6 0 0) none (fx_MQ D b 0 0 (fx_qi (fun r N9 V9 => N = N9 ∧ JR D b N cl [(126, 126, 0, 1000000), (128, 128, 0, 1000000)] V V9))) 48 [some (.ref (b + 100)), some (.int v48_1), some (.int (nI j38)), some (.int (fx_dn j48)), none] [] N V48 0 0 := by
            intro j48
            induction j48 with
            | zero =>
              intro v48_1 V48 hj48 i48_0
              show AW l D b jX12_lodgings (fx_rm 6 0 0) none (fx_MQ D b 0 0 (fx_qi (fun r N9 V9 => N = N9 ∧ JR D b N cl [(126, 126, 0, 1000000), (128, 128, 0, 1000000)] V V9))) 48 [some (.ref (b + 100)), some (.int v48_1), some (.int (nI j38)), some (.int (-1)), none] [] N V48 0 0
              refine aw_iload_n dX12_lodgings_48 rfl ?_
              refine aw_if_lt (tgt := 145) dX12_lodgings_49 (by decide) (fun c_16 => ?_) (fun c_16 => ?_)
              rotate_left
              · exact absurd (by decide) c_16
              refine aw_iinc (v := (nI (j38 + 1))) (ls' := [some (.ref (b + 100)), some (.int v48_1), some (.int (nI (j38 + 1))), some (.int (-1)), none]) dX12_lodgings_145 rfl (fx_up_1 _) (Nat.le_of_ble_eq_true rfl) rfl ?_
              refine aw_goto (tgt := 38) dX12_lodgings_148 (by decide) ?_
              refine aw_le ?_ (ih_38_10 (j38 + 1) v48_1 V48 (by omega) (i48_0))
              exact ⟨rfl, ⟨rfl, ⟨rfl, trivial⟩⟩⟩
            | succ j48 ih_48_14 =>
              intro v48_1 V48 hj48 i48_0
              show AW l D b jX12_lodgings (fx_rm 6 0 0) none (fx_MQ D b 0 0 (fx_qi (fun r N9 V9 => N = N9 ∧ JR D b N cl [(126, 126, 0, 1000000), (128, 128, 0, 1000000)] V V9))) 48 [some (.ref (b + 100)), some (.int v48_1), some (.int (nI j38)), some (.int (nI j48)), none] [] N V48 0 0
              refine aw_iload_n dX12_lodgings_48 rfl ?_
              refine aw_if_lt (tgt := 145) dX12_lodgings_49 (by decide) (fun c_17 => ?_) (fun c_17 => ?_)
              · exact absurd c_17 (nI_pos (by omega))
              refine aw_aload_n dX12_lodgings_52 rfl ?_
              obtain ⟨ftoldPeople_18, ftoldDoors_18, fwasDoors_18, ffault_18, fopen_18, flines_18, fmeantSet_18, fopenedNow_18, fvainNow_18, flowNow_18, fhighNow_18, fisKept_18, tad_18, pl0_18, le0_18, nu0_18, coy_18, wag_18, say_18, e_18, hntad_18, hnpl0_18, hnle0_18, hnnu0_18, hncoy_18, hnwag_18, hnsay_18⟩ := JR.get i48_0 cm_100
              refine aw_get dX12_lodgings_53 fl_X12_93 e_18 (by omega) rfl ?_
              refine aw_iload_n dX12_lodgings_56 rfl ?_
              obtain ⟨g_19, e_19⟩ := JR.get i48_0 cm_128
              refine aw_iald (v := (g_19 j38)) dX12_lodgings_57 e_19 (by omega) (vp_in_nI (n := j38) (by omega) (by omega)) (congrArg g_19 (nI_clamp (n := j38) (by omega))) ?_
              refine aw_iconst (v := (-1)) dX12_lodgings_58 (by decide) ?_
              refine aw_icmp_eq (tgt := 145) dX12_lodgings_59 (by decide) (fun c_20 => ?_) (fun c_20 => ?_)
              · skip
                refine aw_iinc (v := (nI (j38 + 1))) (ls' := [some (.ref (b + 100)), some (.int v48_1), some (.int (nI (j38 + 1))), some (.int (nI j48)), none]) dX12_lodgings_145 rfl (fx_up_1 _) (Nat.le_of_ble_eq_true rfl) rfl ?_
                refine aw_goto (tgt := 38) dX12_lodgings_148 (by decide) ?_
                refine aw_le ?_ (ih_38_10 (j38 + 1) v48_1 V48 (by omega) (i48_0))
                exact ⟨rfl, ⟨rfl, ⟨rfl, trivial⟩⟩⟩
              · skip
                refine aw_aload_n dX12_lodgings_62 rfl ?_
                refine aw_get dX12_lodgings_63 fl_X12_86 e_18 (by omega) rfl ?_
                refine aw_iload_n dX12_lodgings_66 rfl ?_
                obtain ⟨g_21, e_21⟩ := JR.get i48_0 cm_126
                refine aw_zald (v := (g_21 j48)) dX12_lodgings_67 e_21 (by omega) (vp_in_nI (n := j48) (by omega) (by omega)) (congrArg g_21 (nI_clamp (n := j48) (by omega))) ?_
                refine aw_if_ne (tgt := 74) dX12_lodgings_68 (by decide) (fun c_22 => ?_) (fun c_22 => ?_)
                · skip
                  refine aw_iconst (v := 0) dX12_lodgings_74 (by decide) ?_
                  refine aw_istore (ls' := [some (.ref (b + 100)), some (.int v48_1), some (.int (nI j38)), some (.int (nI j48)), some (.int 0)]) dX12_lodgings_75 (Nat.le_of_ble_eq_true rfl) rfl ?_
                  have loop_77_22 : ∀ (g_77 : Nat), ∀ (j77 : Nat) (v77_1 : Int32) (V77 : Wd), j77 + g_77 = 12 → (JR D b N cl [(126, 126, 0, 1000000), (128, 128, 0, 1000000)] V V77) → AW l D b jX12_lodgings (fx_rm 6 0 0) none (fx_MQ D b 0 0 (fx_qi (fun r N9 V9 => N = N9 ∧ JR D b N cl [(126, 126, 0, 1000000), (128, 128, 0, 1000000)] V V9))) 77 [some (.ref (b + 100)), some (.int v77_1), some (.int (nI j38)), some (.int (nI j48)), some (.int (nI j77))] [] N V77 0 0 := by
                    intro g_77
                    induction g_77 with
                    | zero =>
                      intro j77 v77_1 V77 hj77 i77_0
                      obtain rfl : j77 = 12 := by omega
                      refine aw_iload dX12_lodgings_77 rfl ?_
                      refine aw_bipush (v := 12) dX12_lodgings_79 (by decide) ?_
                      refine aw_icmp_ge (tgt := 139) dX12_lodgings_81 (by decide) (fun c_25 => ?_) (fun c_25 => ?_)
                      rotate_left
                      · exact absurd (nI_le (a := 12) (b := 12) (Nat.le_refl _) (by omega)) c_25
                      refine aw_iinc (v := (fx_dn j48)) (ls' := [some (.ref (b + 100)), some (.int v77_1), some (.int (nI j38)), some (.int (fx_dn j48)), some (.int (nI 12))]) dX12_lodgings_139 rfl (fx_dn_1 _) (Nat.le_of_ble_eq_true rfl) rfl ?_
                      refine aw_goto (tgt := 48) dX12_lodgings_142 (by decide) ?_
                      refine aw_le ?_ (ih_48_14 v77_1 V77 (by omega) (i77_0))
                      exact ⟨rfl, ⟨rfl, ⟨rfl, ⟨rfl, trivial⟩⟩⟩⟩
                    | succ g_77 ih_77_23 =>
                      intro j77 v77_1 V77 hj77 i77_0
                      have hlj77 : j77 < 12 := by omega
                      refine aw_iload dX12_lodgings_77 rfl ?_
                      refine aw_bipush (v := 12) dX12_lodgings_79 (by decide) ?_
                      refine aw_icmp_ge (tgt := 139) dX12_lodgings_81 (by decide) (fun c_26 => ?_) (fun c_26 => ?_)
                      · exact absurd c_26 (nI_ge (a := j77) (b := 12) (by omega) (by omega))
                      refine aw_aload_n dX12_lodgings_84 rfl ?_
                      obtain ⟨ftoldPeople_27, ftoldDoors_27, fwasDoors_27, ffault_27, fopen_27, flines_27, fmeantSet_27, fopenedNow_27, fvainNow_27, flowNow_27, fhighNow_27, fisKept_27, tad_27, pl0_27, le0_27, nu0_27, coy_27, wag_27, say_27, e_27, hntad_27, hnpl0_27, hnle0_27, hnnu0_27, hncoy_27, hnwag_27, hnsay_27⟩ := JR.get i77_0 cm_100
                      refine aw_get dX12_lodgings_85 fl_X12_93 e_27 (by omega) rfl ?_
                      refine aw_iload_n dX12_lodgings_88 rfl ?_
                      obtain ⟨g_28, e_28⟩ := JR.get i77_0 cm_128
                      refine aw_iald (v := (g_28 j38)) dX12_lodgings_89 e_28 (by omega) (vp_in_nI (n := j38) (by omega) (by omega)) (congrArg g_28 (nI_clamp (n := j38) (by omega))) ?_
                      refine aw_iload dX12_lodgings_90 rfl ?_
                      refine aw_callSi (J' := jX12_has) (As := [.int (g_28 j38), .int (nI j77)]) (st := []) dX12_lodgings_92 tb_1315 ok_X12_has rfl (r_has l D b N V77 hN cl i77_0.1 (g_28 j38) (nI j77)) rfl (Nat.le_of_ble_eq_true rfl) ⟨Nat.le_of_ble_eq_true rfl, Nat.le_of_ble_eq_true rfl, Nat.le_of_ble_eq_true rfl, Nat.le_of_ble_eq_true rfl⟩ (fun r_31 N_32 V_33 q_34 => ?_)
                      obtain ⟨h_30, rfl, rfl⟩ := q_34
                      refine aw_if_eq (tgt := 133) dX12_lodgings_95 (by decide) (fun c_35 => ?_) (fun c_35 => ?_)
                      · skip
                        refine aw_iinc (v := (nI (j77 + 1))) (ls' := [some (.ref (b + 100)), some (.int v77_1), some (.int (nI j38)), some (.int (nI j48)), some (.int (nI (j77 + 1)))]) dX12_lodgings_133 rfl (fx_up_1 _) (Nat.le_of_ble_eq_true rfl) rfl ?_
                        refine aw_goto (tgt := 77) dX12_lodgings_136 (by decide) ?_
                        refine aw_le ?_ (ih_77_23 (j77 + 1) v77_1 V77 (by omega) (i77_0))
                        exact ⟨rfl, ⟨rfl, ⟨rfl, ⟨rfl, ⟨rfl, trivial⟩⟩⟩⟩⟩
                      · skip
                        refine aw_iload_n dX12_lodgings_98 rfl ?_
                        refine aw_iload dX12_lodgings_99 rfl ?_
                        refine aw_callSi (J' := jX12_has) (As := [.int (nI j48), .int (nI j77)]) (st := []) dX12_lodgings_101 tb_1315 ok_X12_has rfl (r_has l D b N V77 hN cl i77_0.1 (nI j48) (nI j77)) rfl (Nat.le_of_ble_eq_true rfl) ⟨Nat.le_of_ble_eq_true rfl, Nat.le_of_ble_eq_true rfl, Nat.le_of_ble_eq_true rfl, Nat.le_of_ble_eq_true rfl⟩ (fun r_38 N_39 V_40 q_41 => ?_)
                        obtain ⟨h_37, rfl, rfl⟩ := q_41
                        refine aw_if_eq (tgt := 110) dX12_lodgings_104 (by decide) (fun c_42 => ?_) (fun c_42 => ?_)
                        · skip
                          refine aw_aload_n dX12_lodgings_110 rfl ?_
                          refine aw_get dX12_lodgings_111 fl_X12_86 e_27 (by omega) rfl ?_
                          refine aw_iload_n dX12_lodgings_114 rfl ?_
                          refine aw_iconst (v := 1) dX12_lodgings_115 (by decide) ?_
                          refine aw_iload dX12_lodgings_116 rfl ?_
                          refine aw_ishl dX12_lodgings_118 ?_
                          refine aw_eqi (y := (nI (2 ^ j77))) (fx_shl12 j77 (by omega)) ?_
                          refine aw_ior dX12_lodgings_119 ?_
                          refine aw_eqi (y := (nI (j48 ||| (2 ^ j77)))) (fx_orI _ _) ?_
                          refine aw_iconst (v := 1) dX12_lodgings_120 (by decide) ?_
                          obtain ⟨g_43, e_43⟩ := JR.get i77_0 cm_126
                          refine aw_zast dX12_lodgings_121 e_43 (by omega) (vp_in_nI (n := (j48 ||| (2 ^ j77))) (by first | omega | exact fx_pow12 (by omega) | exact or_lt (by omega) (by first | omega | exact fx_pow12 (by omega))) (by decide)) ?_
                          refine aw_upR i77_0 cm_126 ⟨_, rfl⟩ (by decide) (WA LM0 (by decide) (by decide)) (fun V_44 j_44 k_44 e_44 => ?_)
                          refine aw_iload_n dX12_lodgings_122 rfl ?_
                          refine aw_iload_n dX12_lodgings_123 rfl ?_
                          refine aw_callSi (J' := jX12_bits) (As := [.int (nI j48)]) (st := [.int v77_1]) dX12_lodgings_124 tb_1396 ok_X12_bits rfl (r_bits l D b N V_44 hN cl j_44.1 (nI j48)) rfl (Nat.le_of_ble_eq_true rfl) ⟨Nat.le_of_ble_eq_true rfl, Nat.le_of_ble_eq_true rfl, Nat.le_of_ble_eq_true rfl, Nat.le_of_ble_eq_true rfl⟩ (fun r_46 N_47 V_48 q_49 => ?_)
                          obtain ⟨rfl, rfl⟩ := q_49
                          refine aw_iconst (v := 1) dX12_lodgings_127 (by decide) ?_
                          refine aw_iadd dX12_lodgings_128 ?_
                          refine aw_callSi (J' := jX12_max) (As := [.int v77_1, .int (r_46 + 1)]) (st := []) dX12_lodgings_129 tb_1328 ok_X12_max rfl (r_max l D b N V_44 hN cl j_44.1 v77_1 (r_46 + 1)) rfl (Nat.le_of_ble_eq_true rfl) ⟨Nat.le_of_ble_eq_true rfl, Nat.le_of_ble_eq_true rfl, Nat.le_of_ble_eq_true rfl, Nat.le_of_ble_eq_true rfl⟩ (fun r_51 N_52 V_53 q_54 => ?_)
                          obtain ⟨rfl, rfl⟩ := q_54
                          refine aw_istore_n (ls' := [some (.ref (b + 100)), some (.int r_51), some (.int (nI j38)), some (.int (nI j48)), some (.int (nI j77))]) dX12_lodgings_132 (Nat.le_of_ble_eq_true rfl) rfl ?_
                          refine aw_iinc (v := (nI (j77 + 1))) (ls' := [some (.ref (b + 100)), some (.int r_51), some (.int (nI j38)), some (.int (nI j48)), some (.int (nI (j77 + 1)))]) dX12_lodgings_133 rfl (fx_up_1 _) (Nat.le_of_ble_eq_true rfl) rfl ?_
                          refine aw_goto (tgt := 77) dX12_lodgings_136 (by decide) ?_
                          refine aw_le ?_ (ih_77_23 (j77 + 1) r_51 V_44 (by omega) (j_44))
                          exact ⟨rfl, ⟨rfl, ⟨rfl, ⟨rfl, ⟨rfl, trivial⟩⟩⟩⟩⟩
                        · skip
                          refine aw_goto (tgt := 133) dX12_lodgings_107 (by decide) ?_
                          refine aw_iinc (v := (nI (j77 + 1))) (ls' := [some (.ref (b + 100)), some (.int v77_1), some (.int (nI j38)), some (.int (nI j48)), some (.int (nI (j77 + 1)))]) dX12_lodgings_133 rfl (fx_up_1 _) (Nat.le_of_ble_eq_true rfl) rfl ?_
                          refine aw_goto (tgt := 77) dX12_lodgings_136 (by decide) ?_
                          refine aw_le ?_ (ih_77_23 (j77 + 1) v77_1 V77 (by omega) (i77_0))
                          exact ⟨rfl, ⟨rfl, ⟨rfl, ⟨rfl, ⟨rfl, trivial⟩⟩⟩⟩⟩
                  refine aw_le ?_ (loop_77_22 12 0 v48_1 V48 (by omega) (i48_0))
                  exact ⟨rfl, ⟨rfl, ⟨rfl, ⟨rfl, ⟨rfl, trivial⟩⟩⟩⟩⟩
                · skip
                  refine aw_goto (tgt := 139) dX12_lodgings_71 (by decide) ?_
                  refine aw_iinc (v := (fx_dn j48)) (ls' := [some (.ref (b + 100)), some (.int v48_1), some (.int (nI j38)), some (.int (fx_dn j48)), none]) dX12_lodgings_139 rfl (fx_dn_1 _) (Nat.le_of_ble_eq_true rfl) rfl ?_
                  refine aw_goto (tgt := 48) dX12_lodgings_142 (by decide) ?_
                  refine aw_le ?_ (ih_48_14 v48_1 V48 (by omega) (i48_0))
                  exact ⟨rfl, ⟨rfl, ⟨rfl, ⟨rfl, trivial⟩⟩⟩⟩
          refine aw_le ?_ (loop_48_13 4096 v38_1 V38 (by omega) (i38_0))
          exact ⟨rfl, ⟨rfl, ⟨rfl, ⟨rfl, trivial⟩⟩⟩⟩
      refine aw_le ?_ (loop_38_9 16 0 0 V6 (by omega) (i6_0))
      exact ⟨rfl, ⟨rfl, ⟨rfl, trivial⟩⟩⟩
    | succ g_6 ih_6_7 =>
      intro j6  V6 hj6 i6_0
      have hlj6 : j6 < 4096 := by omega
      refine aw_iload_n dX12_lodgings_6 rfl ?_
      refine aw_sipush (v := 4096) dX12_lodgings_7 (by decide) ?_
      refine aw_icmp_ge (tgt := 34) dX12_lodgings_10 (by decide) (fun c_55 => ?_) (fun c_55 => ?_)
      · exact absurd c_55 (nI_ge (a := j6) (b := 4096) (by omega) (by omega))
      refine aw_aload_n dX12_lodgings_13 rfl ?_
      obtain ⟨ftoldPeople_56, ftoldDoors_56, fwasDoors_56, ffault_56, fopen_56, flines_56, fmeantSet_56, fopenedNow_56, fvainNow_56, flowNow_56, fhighNow_56, fisKept_56, tad_56, pl0_56, le0_56, nu0_56, coy_56, wag_56, say_56, e_56, hntad_56, hnpl0_56, hnle0_56, hnnu0_56, hncoy_56, hnwag_56, hnsay_56⟩ := JR.get i6_0 cm_100
      refine aw_get dX12_lodgings_14 fl_X12_86 e_56 (by omega) rfl ?_
      refine aw_iload_n dX12_lodgings_17 rfl ?_
      refine aw_iload_n dX12_lodgings_18 rfl ?_
      refine aw_if_ne (tgt := 26) dX12_lodgings_19 (by decide) (fun c_57 => ?_) (fun c_57 => ?_)
      · skip
        have nc_57 : ¬ (j6 = 0) := fun z => c_57 ((nI_eq (a := j6) (b := 0) (by omega) (by omega)).mpr z)
        refine aw_iconst (v := 0) dX12_lodgings_26 (by decide) ?_
        obtain ⟨g_58, e_58⟩ := JR.get i6_0 cm_126
        refine aw_zast dX12_lodgings_27 e_58 (by omega) (vp_in_nI (n := j6) (by omega) (by omega)) ?_
        refine aw_upR i6_0 cm_126 ⟨_, rfl⟩ (by decide) (WA LM0 (by decide) (by decide)) (fun V_59 j_59 k_59 e_59 => ?_)
        refine aw_iinc (v := (nI (j6 + 1))) (ls' := [some (.ref (b + 100)), some (.int (nI (j6 + 1))), none, none, none]) dX12_lodgings_28 rfl (fx_up_1 _) (Nat.le_of_ble_eq_true rfl) rfl ?_
        refine aw_goto (tgt := 6) dX12_lodgings_31 (by decide) ?_
        refine aw_le ?_ (ih_6_7 (j6 + 1)  V_59 (by omega) (j_59))
        exact ⟨rfl, ⟨rfl, trivial⟩⟩
      · skip
        have nc_57 : j6 = 0 := (nI_eq (a := j6) (b := 0) (by omega) (by omega)).mp c_57
        refine aw_iconst (v := 1) dX12_lodgings_22 (by decide) ?_
        refine aw_goto (tgt := 27) dX12_lodgings_23 (by decide) ?_
        obtain ⟨g_60, e_60⟩ := JR.get i6_0 cm_126
        refine aw_zast dX12_lodgings_27 e_60 (by omega) (vp_in_nI (n := j6) (by omega) (by omega)) ?_
        refine aw_upR i6_0 cm_126 ⟨_, rfl⟩ (by decide) (WA LM0 (by decide) (by decide)) (fun V_61 j_61 k_61 e_61 => ?_)
        refine aw_iinc (v := (nI (j6 + 1))) (ls' := [some (.ref (b + 100)), some (.int (nI (j6 + 1))), none, none, none]) dX12_lodgings_28 rfl (fx_up_1 _) (Nat.le_of_ble_eq_true rfl) rfl ?_
        refine aw_goto (tgt := 6) dX12_lodgings_31 (by decide) ?_
        refine aw_le ?_ (ih_6_7 (j6 + 1)  V_61 (by omega) (j_61))
        exact ⟨rfl, ⟨rfl, trivial⟩⟩
  refine aw_le ?_ (loop_6_6 4096 0  V_3 (by omega) (j_2))
  exact ⟨rfl, ⟨rfl, trivial⟩⟩

set_option maxHeartbeats 4000000 in
set_option maxRecDepth 100000 in
theorem r_areCouple (l : Launch) (D : va_G) (b : Nat) (N : Nat) (V : Wd) (hN : 133 ≤ N) (cl : Nat) (hW : CR D b cl V) (n0 : Int32) (hn0 : ∃ j : Nat, j < 12 ∧ n0 = nI j) (n1 : Int32) (hn1 : ∃ j : Nat, j < 12 ∧ n1 = nI j) (n2 : Int32)  : MI l D b 1 jX12_areCouple [.ref (b + 100), .int n0, .int n1, .int n2] N V 0 0 (fun r N9 V9 => (r = 0 ∨ r = 1) ∧ N = N9 ∧ V = V9) := by
  have hJ0 : JR D b N cl [] V V := JR.rf hW
  obtain ⟨i0, hi0, rfl⟩ := hn0
  obtain ⟨i1, hi1, rfl⟩ := hn1
  refine mw_of (by decide) (by simp [Value.category]) (Nat.le_of_ble_eq_true rfl) ?_
  show AW l D b jX12_areCouple (fx_rm 1 0 0) none (fx_MQ D b 0 0 (fx_qi (fun r N9 V9 => (r = 0 ∨ r = 1) ∧ N = N9 ∧ V = V9))) 0 [some (.ref (b + 100)), some (.int (nI i0)), some (.int (nI i1)), some (.int n2), none] [] N V 0 0
  refine aw_iconst (v := 0) dX12_areCouple_0 (by decide) ?_
  refine aw_istore (ls' := [some (.ref (b + 100)), some (.int (nI i0)), some (.int (nI i1)), some (.int n2), some (.int 0)]) dX12_areCouple_1 (Nat.le_of_ble_eq_true rfl) rfl ?_
  have loop_3_0 : ∀ (g_3 : Nat), ∀ (j3 : Nat), j3 + g_3 = 16 → AW l D b jX12_areCouple (fx_rm 1 0 0) none (fx_MQ D b 0 0 (fx_qi (fun r N9 V9 => (r = 0 ∨ r = 1) ∧ N = N9 ∧ V = V9))) 3 [some (.ref (b + 100)), some (.int (nI i0)), some (.int (nI i1)), some (.int n2), some (.int (nI j3))] [] N V 0 0 := by
    intro g_3
    induction g_3 with
    | zero =>
      intro j3  hj3
      obtain rfl : j3 = 16 := by omega
      refine aw_iload dX12_areCouple_3 rfl ?_
      refine aw_bipush (v := 16) dX12_areCouple_5 (by decide) ?_
      refine aw_icmp_ge (tgt := 40) dX12_areCouple_7 (by decide) (fun c_3 => ?_) (fun c_3 => ?_)
      rotate_left
      · exact absurd (nI_le (a := 16) (b := 16) (Nat.le_refl _) (by omega)) c_3
      refine aw_iconst (v := 0) dX12_areCouple_40 (by decide) ?_
      refine aw_zreti dX12_areCouple_41 rfl (by first | exact Or.inl rfl | exact Or.inr rfl | assumption) (Nat.le_of_ble_eq_true rfl) (Nat.le_of_ble_eq_true rfl) ?_
      exact ⟨(by first | exact Or.inl rfl | exact Or.inr rfl | assumption), rfl, rfl⟩
    | succ g_3 ih_3_1 =>
      intro j3  hj3
      have hlj3 : j3 < 16 := by omega
      refine aw_iload dX12_areCouple_3 rfl ?_
      refine aw_bipush (v := 16) dX12_areCouple_5 (by decide) ?_
      refine aw_icmp_ge (tgt := 40) dX12_areCouple_7 (by decide) (fun c_4 => ?_) (fun c_4 => ?_)
      · exact absurd c_4 (nI_ge (a := j3) (b := 16) (by omega) (by omega))
      refine aw_aload_n dX12_areCouple_10 rfl ?_
      refine aw_iload_n dX12_areCouple_11 rfl ?_
      refine aw_iload dX12_areCouple_12 rfl ?_
      obtain ⟨ftoldPeople_6, ftoldDoors_6, fwasDoors_6, ffault_6, fopen_6, flines_6, fmeantSet_6, fopenedNow_6, fvainNow_6, flowNow_6, fhighNow_6, fisKept_6, tad_6, pl0_6, le0_6, nu0_6, coy_6, wag_6, say_6, e_6, hntad_6, hnpl0_6, hnle0_6, hnnu0_6, hncoy_6, hnwag_6, hnsay_6⟩ := JR.get hJ0 cm_100
      refine aw_callVi (J' := jX12_dread) (As := [.int (nI i0), .int (nI j3)]) (st := []) dX12_areCouple_14 tb_1392 ok_X12_dread ⟨_, e_6⟩ (by omega) rfl rfl (r_dread l D b N V hN cl hJ0.1 (nI i0) ⟨i0, by omega, rfl⟩ (nI j3) ⟨j3, by omega, rfl⟩) rfl (Nat.le_of_ble_eq_true rfl) ⟨Nat.le_of_ble_eq_true rfl, Nat.le_of_ble_eq_true rfl, Nat.le_of_ble_eq_true rfl, Nat.le_of_ble_eq_true rfl⟩ (fun r_7 N_8 V_9 q_10 => ?_)
      obtain ⟨rfl, rfl⟩ := q_10
      refine aw_iload_n dX12_areCouple_17 rfl ?_
      refine aw_icmp_lt (tgt := 34) dX12_areCouple_18 (by decide) (fun c_11 => ?_) (fun c_11 => ?_)
      · skip
        refine aw_iinc (v := (nI (j3 + 1))) (ls' := [some (.ref (b + 100)), some (.int (nI i0)), some (.int (nI i1)), some (.int n2), some (.int (nI (j3 + 1)))]) dX12_areCouple_34 rfl (fx_up_1 _) (Nat.le_of_ble_eq_true rfl) rfl ?_
        refine aw_goto (tgt := 3) dX12_areCouple_37 (by decide) ?_
        refine aw_le ?_ (ih_3_1 (j3 + 1)   (by omega))
        exact ⟨rfl, ⟨rfl, ⟨rfl, ⟨rfl, ⟨rfl, trivial⟩⟩⟩⟩⟩
      · skip
        refine aw_aload_n dX12_areCouple_21 rfl ?_
        refine aw_iload_n dX12_areCouple_22 rfl ?_
        refine aw_iload dX12_areCouple_23 rfl ?_
        refine aw_callVi (J' := jX12_dread) (As := [.int (nI i1), .int (nI j3)]) (st := []) dX12_areCouple_25 tb_1392 ok_X12_dread ⟨_, e_6⟩ (by omega) rfl rfl (r_dread l D b N V hN cl hJ0.1 (nI i1) ⟨i1, by omega, rfl⟩ (nI j3) ⟨j3, by omega, rfl⟩) rfl (Nat.le_of_ble_eq_true rfl) ⟨Nat.le_of_ble_eq_true rfl, Nat.le_of_ble_eq_true rfl, Nat.le_of_ble_eq_true rfl, Nat.le_of_ble_eq_true rfl⟩ (fun r_13 N_14 V_15 q_16 => ?_)
        obtain ⟨rfl, rfl⟩ := q_16
        refine aw_iload_n dX12_areCouple_28 rfl ?_
        refine aw_icmp_lt (tgt := 34) dX12_areCouple_29 (by decide) (fun c_17 => ?_) (fun c_17 => ?_)
        · skip
          refine aw_iinc (v := (nI (j3 + 1))) (ls' := [some (.ref (b + 100)), some (.int (nI i0)), some (.int (nI i1)), some (.int n2), some (.int (nI (j3 + 1)))]) dX12_areCouple_34 rfl (fx_up_1 _) (Nat.le_of_ble_eq_true rfl) rfl ?_
          refine aw_goto (tgt := 3) dX12_areCouple_37 (by decide) ?_
          refine aw_le ?_ (ih_3_1 (j3 + 1)   (by omega))
          exact ⟨rfl, ⟨rfl, ⟨rfl, ⟨rfl, ⟨rfl, trivial⟩⟩⟩⟩⟩
        · skip
          refine aw_iconst (v := 1) dX12_areCouple_32 (by decide) ?_
          refine aw_zreti dX12_areCouple_33 rfl (by first | exact Or.inl rfl | exact Or.inr rfl | assumption) (Nat.le_of_ble_eq_true rfl) (Nat.le_of_ble_eq_true rfl) ?_
          exact ⟨(by first | exact Or.inl rfl | exact Or.inr rfl | assumption), rfl, rfl⟩
  refine aw_le ?_ (loop_3_0 16 0   (by omega))
  exact ⟨rfl, ⟨rfl, ⟨rfl, ⟨rfl, ⟨rfl, trivial⟩⟩⟩⟩⟩

set_option maxHeartbeats 4000000 in
set_option maxRecDepth 100000 in
theorem r_lowest (l : Launch) (D : va_G) (b : Nat) (N : Nat) (V : Wd) (hN : 133 ≤ N) (cl : Nat) (hW : CR D b cl V) (n0 : Int32) (hn0 : ∃ j : Nat, j < 4096 ∧ n0 = nI j) (hz : ¬ n0 = nI 0) : MI l D b 1 jX12_lowest [.int n0] N V 0 0 (fun r N9 V9 => (∃ k : Nat, k < 12 ∧ r = nI k) ∧ N = N9 ∧ V = V9) := by
  have hJ0 : JR D b N cl [] V V := JR.rf hW
  obtain ⟨i0, hi0, rfl⟩ := hn0
  refine mw_of (by decide) (by simp [Value.category]) (Nat.le_of_ble_eq_true rfl) ?_
  show AW l D b jX12_lowest (fx_rm 1 0 0) none (fx_MQ D b 0 0 (fx_qi (fun r N9 V9 => (∃ k : Nat, k < 12 ∧ r = nI k) ∧ N = N9 ∧ V = V9))) 0 [some (.int (nI i0)), none] [] N V 0 0
  refine aw_iconst (v := 0) dX12_lowest_0 (by decide) ?_
  refine aw_istore_n (ls' := [some (.int (nI i0)), some (.int 0)]) dX12_lowest_1 (Nat.le_of_ble_eq_true rfl) rfl ?_
  have ml_2_1 : ∀ (m : Nat) (k2 : Nat), m = 12 - k2 → (k2 < 12) → (∀ j, j < k2 → i0.testBit j = false) → AW l D b jX12_lowest (fx_rm 1 0 0) none (fx_MQ D b 0 0 (fx_qi (fun r N9 V9 => (∃ k : Nat, k < 12 ∧ r = nI k) ∧ N = N9 ∧ V = V9))) 2 [some (.int (nI i0)), some (.int (nI k2))] [] N V 0 0 := by
    intro m; refine Nat.strongRecOn m ?_
    intro m mih_2_1 k2 hm2 i2_0 i2_1
    refine aw_iload_n dX12_lowest_2 rfl ?_
    refine aw_iload_n dX12_lowest_3 rfl ?_
    refine aw_callSi (J' := jX12_has) (As := [.int (nI i0), .int (nI k2)]) (st := []) dX12_lowest_4 tb_1315 ok_X12_has rfl (r_hasB l D b N V i0 k2 (by omega) (by omega)) rfl (Nat.le_of_ble_eq_true rfl) ⟨Nat.le_of_ble_eq_true rfl, Nat.le_of_ble_eq_true rfl, Nat.le_of_ble_eq_true rfl, Nat.le_of_ble_eq_true rfl⟩ (fun r_3 N_4 V_5 q_6 => ?_)
    obtain ⟨⟨-, hb_2⟩, rfl, rfl⟩ := q_6
    refine aw_if_ne (tgt := 17) dX12_lowest_7 (by decide) (fun c_7 => ?_) (fun c_7 => ?_)
    · skip
      refine aw_iload_n dX12_lowest_17 rfl ?_
      refine aw_ireti dX12_lowest_18 rfl (Nat.le_of_ble_eq_true rfl) (Nat.le_of_ble_eq_true rfl) ?_
      exact ⟨⟨k2, by omega, rfl⟩, rfl, rfl⟩
    · skip
      refine aw_iload_n dX12_lowest_10 rfl ?_
      refine aw_iconst (v := 1) dX12_lowest_11 (by decide) ?_
      refine aw_iadd dX12_lowest_12 ?_
      refine aw_eqi (y := nI (k2 + 1)) (nI_add _ _) ?_
      refine aw_istore_n (ls' := [some (.int (nI i0)), some (.int (nI (k2 + 1)))]) dX12_lowest_13 (Nat.le_of_ble_eq_true rfl) rfl ?_
      have hall := low_step i2_1 (hb_2.1 c_7)
      have hk2 : k2 + 1 < 12 := Decidable.byContradiction (fun q => hz (congrArg nI (low_end hi0 (fun j hj => hall j (by omega)))))
      refine aw_goto (tgt := 2) dX12_lowest_14 (by decide) ?_
      refine aw_le ?_ (mih_2_1 _ (by omega) (k2 + 1) rfl (hk2) (hall))
      exact ⟨rfl, ⟨rfl, trivial⟩⟩
  refine aw_le ?_ (ml_2_1 _ 0 rfl (by decide) (fun j h => absurd h (Nat.not_lt_zero j)))
  exact ⟨rfl, ⟨rfl, trivial⟩⟩

set_option maxHeartbeats 4000000 in
set_option maxRecDepth 100000 in
theorem r_couples (l : Launch) (D : va_G) (b : Nat) (N : Nat) (V : Wd) (hN : 133 ≤ N) (cl : Nat) (hW : CR D b cl V) (n0 : Int32)  : MI l D b 2 jX12_couples [.ref (b + 100), .int n0] N V 0 0 (fun r N9 V9 => N = N9 ∧ JR D b N cl [(127, 128, 0, 1000000)] V V9) := by
  have hJ0 : JR D b N cl [(127, 128, 0, 1000000)] V V := JR.rf hW
  refine mw_of (by decide) (by simp [Value.category]) (Nat.le_of_ble_eq_true rfl) ?_
  show AW l D b jX12_couples (fx_rm 2 0 0) none (fx_MQ D b 0 0 (fx_qi (fun r N9 V9 => N = N9 ∧ JR D b N cl [(127, 128, 0, 1000000)] V V9))) 0 [some (.ref (b + 100)), some (.int n0), none, none, none] [] N V 0 0
  refine aw_iload_n dX12_couples_0 rfl ?_
  refine aw_iconst (v := 1) dX12_couples_1 (by decide) ?_
  refine aw_bipush (v := 99) dX12_couples_2 (by decide) ?_
  refine aw_callSi (J' := jX12_in) (As := [.int n0, .int 1, .int 99]) (st := []) dX12_couples_4 tb_1209 ok_X12_in rfl (r_in l D b N V hN cl hJ0.1 n0 1 99) rfl (Nat.le_of_ble_eq_true rfl) ⟨Nat.le_of_ble_eq_true rfl, Nat.le_of_ble_eq_true rfl, Nat.le_of_ble_eq_true rfl, Nat.le_of_ble_eq_true rfl⟩ (fun r_4 N_5 V_6 q_7 => ?_)
  obtain ⟨⟨z_3, h_2⟩, rfl, rfl⟩ := q_7
  refine aw_if_ne (tgt := 12) dX12_couples_7 (by decide) (fun c_8 => ?_) (fun c_8 => ?_)
  · skip
    obtain ⟨zn0, h0zn0, hzn0, rfl⟩ := in_nat (a := 1) (b := 99) (by decide) (h_2.resolve_left c_8)
    refine aw_iconst (v := 0) dX12_couples_12 (by decide) ?_
    refine aw_istore_n (ls' := [some (.ref (b + 100)), some (.int (nI zn0)), some (.int 0), none, none]) dX12_couples_13 (Nat.le_of_ble_eq_true rfl) rfl ?_
    have loop_14_8 : ∀ (g_14 : Nat), ∀ (j14 : Nat)  (V14 : Wd), j14 + g_14 = 12 → (JR D b N cl [(127, 128, 0, 1000000)] V V14) → AW l D b jX12_couples (fx_rm 2 0 0) none (fx_MQ D b 0 0 (fx_qi (fun r N9 V9 => N = N9 ∧ JR D b N cl [(127, 128, 0, 1000000)] V V9))) 14 [some (.ref (b + 100)), some (.int (nI zn0)), some (.int (nI j14)), none, none] [] N V14 0 0 := by
      intro g_14
      induction g_14 with
      | zero =>
        intro j14  V14 hj14 i14_0
        obtain rfl : j14 = 12 := by omega
        refine aw_iload_n dX12_couples_14 rfl ?_
        refine aw_bipush (v := 12) dX12_couples_15 (by decide) ?_
        refine aw_icmp_ge (tgt := 94) dX12_couples_17 (by decide) (fun c_11 => ?_) (fun c_11 => ?_)
        rotate_left
        · exact absurd (nI_le (a := 12) (b := 12) (Nat.le_refl _) (by omega)) c_11
        refine aw_iconst (v := 0) dX12_couples_94 (by decide) ?_
        refine aw_istore_n (ls' := [some (.ref (b + 100)), some (.int (nI zn0)), some (.int 0), none, none]) dX12_couples_95 (Nat.le_of_ble_eq_true rfl) rfl ?_
        have loop_96_11 : ∀ (g_96 : Nat), ∀ (j96 : Nat)  (V96 : Wd), j96 + g_96 = 4096 → (JR D b N cl [(127, 128, 0, 1000000)] V V96) → AW l D b jX12_couples (fx_rm 2 0 0) none (fx_MQ D b 0 0 (fx_qi (fun r N9 V9 => N = N9 ∧ JR D b N cl [(127, 128, 0, 1000000)] V V9))) 96 [some (.ref (b + 100)), some (.int (nI zn0)), some (.int (nI j96)), none, none] [] N V96 0 0 := by
          intro g_96
          induction g_96 with
          | zero =>
            intro j96  V96 hj96 i96_0
            obtain rfl : j96 = 4096 := by omega
            refine aw_iload_n dX12_couples_96 rfl ?_
            refine aw_sipush (v := 4096) dX12_couples_97 (by decide) ?_
            refine aw_icmp_ge (tgt := 214) dX12_couples_100 (by decide) (fun c_14 => ?_) (fun c_14 => ?_)
            rotate_left
            · exact absurd (nI_le (a := 4096) (b := 4096) (Nat.le_refl _) (by omega)) c_14
            refine aw_aload_n dX12_couples_214 rfl ?_
            obtain ⟨ftoldPeople_15, ftoldDoors_15, fwasDoors_15, ffault_15, fopen_15, flines_15, fmeantSet_15, fopenedNow_15, fvainNow_15, flowNow_15, fhighNow_15, fisKept_15, tad_15, pl0_15, le0_15, nu0_15, coy_15, wag_15, say_15, e_15, hntad_15, hnpl0_15, hnle0_15, hnnu0_15, hncoy_15, hnwag_15, hnsay_15⟩ := JR.get i96_0 cm_100
            refine aw_get dX12_couples_215 fl_X12_90 e_15 (by omega) rfl ?_
            refine aw_sipush (v := 4095) dX12_couples_218 (by decide) ?_
            obtain ⟨g_16, e_16⟩ := JR.get i96_0 cm_127
            refine aw_iald (v := (g_16 4095)) dX12_couples_221 e_16 (by omega) (vp_in_nI (n := 4095) (N := 4096) (by decide) (by decide)) (congrArg g_16 (nI_clamp (n := 4095) (by omega))) ?_
            refine aw_ireti dX12_couples_222 rfl (Nat.le_of_ble_eq_true rfl) (Nat.le_of_ble_eq_true rfl) ?_
            exact ⟨rfl, i96_0⟩
          | succ g_96 ih_96_12 =>
            intro j96  V96 hj96 i96_0
            have hlj96 : j96 < 4096 := by omega
            refine aw_iload_n dX12_couples_96 rfl ?_
            refine aw_sipush (v := 4096) dX12_couples_97 (by decide) ?_
            refine aw_icmp_ge (tgt := 214) dX12_couples_100 (by decide) (fun c_17 => ?_) (fun c_17 => ?_)
            · exact absurd c_17 (nI_ge (a := j96) (b := 4096) (by omega) (by omega))
            refine aw_aload_n dX12_couples_103 rfl ?_
            obtain ⟨ftoldPeople_18, ftoldDoors_18, fwasDoors_18, ffault_18, fopen_18, flines_18, fmeantSet_18, fopenedNow_18, fvainNow_18, flowNow_18, fhighNow_18, fisKept_18, tad_18, pl0_18, le0_18, nu0_18, coy_18, wag_18, say_18, e_18, hntad_18, hnpl0_18, hnle0_18, hnnu0_18, hncoy_18, hnwag_18, hnsay_18⟩ := JR.get i96_0 cm_100
            refine aw_get dX12_couples_104 fl_X12_90 e_18 (by omega) rfl ?_
            refine aw_iload_n dX12_couples_107 rfl ?_
            refine aw_iconst (v := 0) dX12_couples_108 (by decide) ?_
            obtain ⟨g_19, e_19⟩ := JR.get i96_0 cm_127
            refine aw_iast dX12_couples_109 e_19 (by omega) (vp_in_nI (n := j96) (by omega) (by omega)) ?_
            refine aw_upR i96_0 cm_127 ⟨_, rfl⟩ (by decide) (WA LM0 (by decide) (by decide)) (fun V_20 j_20 k_20 e_20 => ?_)
            refine aw_iload_n dX12_couples_110 rfl ?_
            refine aw_if_ne (tgt := 117) dX12_couples_111 (by decide) (fun c_21 => ?_) (fun c_21 => ?_)
            · skip
              have nc_21 : ¬ (j96 = 0) := fun z => c_21 ((nI_eq (a := j96) (b := 0) (by omega) (by omega)).mpr z)
              refine aw_iload_n dX12_couples_117 rfl ?_
              refine aw_callSi (J' := jX12_lowest) (As := [.int (nI j96)]) (st := []) dX12_couples_118 tb_1501 ok_X12_lowest rfl (r_lowest l D b N V_20 hN cl j_20.1 (nI j96) ⟨j96, by omega, rfl⟩ c_21) rfl (Nat.le_of_ble_eq_true rfl) ⟨Nat.le_of_ble_eq_true rfl, Nat.le_of_ble_eq_true rfl, Nat.le_of_ble_eq_true rfl, Nat.le_of_ble_eq_true rfl⟩ (fun r_25 N_26 V_27 q_28 => ?_)
              obtain ⟨h_23, rfl, rfl⟩ := q_28
              obtain ⟨z_24, hz_24, rfl⟩ := h_23
              refine aw_istore_n (ls' := [some (.ref (b + 100)), some (.int (nI zn0)), some (.int (nI j96)), some (.int (nI z_24)), none]) dX12_couples_121 (Nat.le_of_ble_eq_true rfl) rfl ?_
              refine aw_aload_n dX12_couples_122 rfl ?_
              refine aw_get dX12_couples_123 fl_X12_90 ((k_20 _ (by decide)).trans e_18) (by omega) rfl ?_
              refine aw_iload_n dX12_couples_126 rfl ?_
              refine aw_aload_n dX12_couples_127 rfl ?_
              refine aw_get dX12_couples_128 fl_X12_90 ((k_20 _ (by decide)).trans e_18) (by omega) rfl ?_
              refine aw_iload_n dX12_couples_131 rfl ?_
              refine aw_iconst (v := 1) dX12_couples_132 (by decide) ?_
              refine aw_iload_n dX12_couples_133 rfl ?_
              refine aw_ishl dX12_couples_134 ?_
              refine aw_eqi (y := (nI (2 ^ z_24))) (fx_shl12 z_24 (by omega)) ?_
              refine aw_iconst (v := (-1)) dX12_couples_135 (by decide) ?_
              refine aw_ixor dX12_couples_136 ?_
              refine aw_iand dX12_couples_137 ?_
              refine aw_iald (v := ((upd g_19 (Int32.toNatClampNeg (nI j96)) 0) (Int32.toNatClampNeg ((nI j96) &&& ((nI (2 ^ z_24)) ^^^ (-1)))))) dX12_couples_138 e_20 (by omega) (vi_and (vp_in_nI (n := j96) (by omega) (by decide)) (by decide)) rfl ?_
              refine aw_iast dX12_couples_139 e_20 (by omega) (vp_in_nI (n := j96) (by omega) (by omega)) ?_
              refine aw_upR j_20 cm_127 ⟨_, rfl⟩ (by decide) (WA LM0 (by decide) (by decide)) (fun V_29 j_29 k_29 e_29 => ?_)
              refine aw_iload_n dX12_couples_140 rfl ?_
              refine aw_iconst (v := 1) dX12_couples_141 (by decide) ?_
              refine aw_iadd dX12_couples_142 ?_
              refine aw_eqi (y := nI (z_24 + 1)) (nI_add _ _) ?_
              refine aw_istore (ls' := [some (.ref (b + 100)), some (.int (nI zn0)), some (.int (nI j96)), some (.int (nI z_24)), some (.int (nI (z_24 + 1)))]) dX12_couples_143 (Nat.le_of_ble_eq_true rfl) rfl ?_
              have loop_145_29 : ∀ (g_145 : Nat), ∀ (j145 : Nat)  (V145 : Wd), j145 + g_145 = 12 → (JR D b N cl [(127, 128, 0, 1000000)] V V145) → AW l D b jX12_couples (fx_rm 2 0 0) none (fx_MQ D b 0 0 (fx_qi (fun r N9 V9 => N = N9 ∧ JR D b N cl [(127, 128, 0, 1000000)] V V9))) 145 [some (.ref (b + 100)), some (.int (nI zn0)), some (.int (nI j96)), some (.int (nI z_24)), some (.int (nI j145))] [] N V145 0 0 := by
                intro g_145
                induction g_145 with
                | zero =>
                  intro j145  V145 hj145 i145_0
                  obtain rfl : j145 = 12 := by omega
                  refine aw_iload dX12_couples_145 rfl ?_
                  refine aw_bipush (v := 12) dX12_couples_147 (by decide) ?_
                  refine aw_icmp_ge (tgt := 208) dX12_couples_149 (by decide) (fun c_32 => ?_) (fun c_32 => ?_)
                  rotate_left
                  · exact absurd (nI_le (a := 12) (b := 12) (Nat.le_refl _) (by omega)) c_32
                  refine aw_iinc (v := (nI (j96 + 1))) (ls' := [some (.ref (b + 100)), some (.int (nI zn0)), some (.int (nI (j96 + 1))), some (.int (nI z_24)), some (.int (nI 12))]) dX12_couples_208 rfl (fx_up_1 _) (Nat.le_of_ble_eq_true rfl) rfl ?_
                  refine aw_goto (tgt := 96) dX12_couples_211 (by decide) ?_
                  refine aw_le ?_ (ih_96_12 (j96 + 1)  V145 (by omega) (i145_0))
                  exact ⟨rfl, ⟨rfl, ⟨rfl, trivial⟩⟩⟩
                | succ g_145 ih_145_30 =>
                  intro j145  V145 hj145 i145_0
                  have hlj145 : j145 < 12 := by omega
                  refine aw_iload dX12_couples_145 rfl ?_
                  refine aw_bipush (v := 12) dX12_couples_147 (by decide) ?_
                  refine aw_icmp_ge (tgt := 208) dX12_couples_149 (by decide) (fun c_33 => ?_) (fun c_33 => ?_)
                  · exact absurd c_33 (nI_ge (a := j145) (b := 12) (by omega) (by omega))
                  refine aw_iload_n dX12_couples_152 rfl ?_
                  refine aw_aload_n dX12_couples_153 rfl ?_
                  obtain ⟨ftoldPeople_34, ftoldDoors_34, fwasDoors_34, ffault_34, fopen_34, flines_34, fmeantSet_34, fopenedNow_34, fvainNow_34, flowNow_34, fhighNow_34, fisKept_34, tad_34, pl0_34, le0_34, nu0_34, coy_34, wag_34, say_34, e_34, hntad_34, hnpl0_34, hnle0_34, hnnu0_34, hncoy_34, hnwag_34, hnsay_34⟩ := JR.get i145_0 cm_100
                  refine aw_get dX12_couples_154 fl_X12_93 e_34 (by omega) rfl ?_
                  refine aw_iload_n dX12_couples_157 rfl ?_
                  obtain ⟨g_35, e_35⟩ := JR.get i145_0 cm_128
                  refine aw_iald (v := (g_35 z_24)) dX12_couples_158 e_35 (by omega) (vp_in_nI (n := z_24) (by omega) (by omega)) (congrArg g_35 (nI_clamp (n := z_24) (by omega))) ?_
                  refine aw_iand dX12_couples_159 ?_
                  refine aw_iload dX12_couples_160 rfl ?_
                  refine aw_callSi (J' := jX12_has) (As := [.int ((nI j96) &&& (g_35 z_24)), .int (nI j145)]) (st := []) dX12_couples_162 tb_1315 ok_X12_has rfl (r_has l D b N V145 hN cl i145_0.1 ((nI j96) &&& (g_35 z_24)) (nI j145)) rfl (Nat.le_of_ble_eq_true rfl) ⟨Nat.le_of_ble_eq_true rfl, Nat.le_of_ble_eq_true rfl, Nat.le_of_ble_eq_true rfl, Nat.le_of_ble_eq_true rfl⟩ (fun r_38 N_39 V_40 q_41 => ?_)
                  obtain ⟨h_37, rfl, rfl⟩ := q_41
                  refine aw_if_eq (tgt := 202) dX12_couples_165 (by decide) (fun c_42 => ?_) (fun c_42 => ?_)
                  · skip
                    refine aw_iinc (v := (nI (j145 + 1))) (ls' := [some (.ref (b + 100)), some (.int (nI zn0)), some (.int (nI j96)), some (.int (nI z_24)), some (.int (nI (j145 + 1)))]) dX12_couples_202 rfl (fx_up_1 _) (Nat.le_of_ble_eq_true rfl) rfl ?_
                    refine aw_goto (tgt := 145) dX12_couples_205 (by decide) ?_
                    refine aw_le ?_ (ih_145_30 (j145 + 1)  V145 (by omega) (i145_0))
                    exact ⟨rfl, ⟨rfl, ⟨rfl, ⟨rfl, ⟨rfl, trivial⟩⟩⟩⟩⟩
                  · skip
                    refine aw_aload_n dX12_couples_168 rfl ?_
                    refine aw_get dX12_couples_169 fl_X12_90 e_34 (by omega) rfl ?_
                    refine aw_iload_n dX12_couples_172 rfl ?_
                    refine aw_aload_n dX12_couples_173 rfl ?_
                    refine aw_get dX12_couples_174 fl_X12_90 e_34 (by omega) rfl ?_
                    refine aw_iload_n dX12_couples_177 rfl ?_
                    obtain ⟨g_43, e_43⟩ := JR.get i145_0 cm_127
                    refine aw_iald (v := (g_43 j96)) dX12_couples_178 e_43 (by omega) (vp_in_nI (n := j96) (by omega) (by omega)) (congrArg g_43 (nI_clamp (n := j96) (by omega))) ?_
                    refine aw_aload_n dX12_couples_179 rfl ?_
                    refine aw_get dX12_couples_180 fl_X12_90 e_34 (by omega) rfl ?_
                    refine aw_iload_n dX12_couples_183 rfl ?_
                    refine aw_iconst (v := 1) dX12_couples_184 (by decide) ?_
                    refine aw_iload_n dX12_couples_185 rfl ?_
                    refine aw_ishl dX12_couples_186 ?_
                    refine aw_iconst (v := 1) dX12_couples_187 (by decide) ?_
                    refine aw_iload dX12_couples_188 rfl ?_
                    refine aw_ishl dX12_couples_190 ?_
                    refine aw_ior dX12_couples_191 ?_
                    refine aw_iconst (v := (-1)) dX12_couples_192 (by decide) ?_
                    refine aw_ixor dX12_couples_193 ?_
                    refine aw_iand dX12_couples_194 ?_
                    refine aw_iald (v := (g_43 (Int32.toNatClampNeg ((nI j96) &&& ((((1 : Int32) <<< ((nI z_24) &&& 31)) ||| ((1 : Int32) <<< ((nI j145) &&& 31))) ^^^ (-1)))))) dX12_couples_195 e_43 (by omega) (vi_and (vp_in_nI (n := j96) (by omega) (by decide)) (by decide)) rfl ?_
                    refine aw_iconst (v := 1) dX12_couples_196 (by decide) ?_
                    refine aw_iadd dX12_couples_197 ?_
                    refine aw_callSi (J' := jX12_max) (As := [.int (g_43 j96), .int ((g_43 (Int32.toNatClampNeg ((nI j96) &&& ((((1 : Int32) <<< ((nI z_24) &&& 31)) ||| ((1 : Int32) <<< ((nI j145) &&& 31))) ^^^ (-1))))) + 1)]) (st := [.int (nI j96), .ref (b + 127)]) dX12_couples_198 tb_1328 ok_X12_max rfl (r_max l D b N V145 hN cl i145_0.1 (g_43 j96) ((g_43 (Int32.toNatClampNeg ((nI j96) &&& ((((1 : Int32) <<< ((nI z_24) &&& 31)) ||| ((1 : Int32) <<< ((nI j145) &&& 31))) ^^^ (-1))))) + 1)) rfl (Nat.le_of_ble_eq_true rfl) ⟨Nat.le_of_ble_eq_true rfl, Nat.le_of_ble_eq_true rfl, Nat.le_of_ble_eq_true rfl, Nat.le_of_ble_eq_true rfl⟩ (fun r_45 N_46 V_47 q_48 => ?_)
                    obtain ⟨rfl, rfl⟩ := q_48
                    refine aw_iast dX12_couples_201 e_43 (by omega) (vp_in_nI (n := j96) (by omega) (by omega)) ?_
                    refine aw_upR i145_0 cm_127 ⟨_, rfl⟩ (by decide) (WA LM0 (by decide) (by decide)) (fun V_49 j_49 k_49 e_49 => ?_)
                    refine aw_iinc (v := (nI (j145 + 1))) (ls' := [some (.ref (b + 100)), some (.int (nI zn0)), some (.int (nI j96)), some (.int (nI z_24)), some (.int (nI (j145 + 1)))]) dX12_couples_202 rfl (fx_up_1 _) (Nat.le_of_ble_eq_true rfl) rfl ?_
                    refine aw_goto (tgt := 145) dX12_couples_205 (by decide) ?_
                    refine aw_le ?_ (ih_145_30 (j145 + 1)  V_49 (by omega) (j_49))
                    exact ⟨rfl, ⟨rfl, ⟨rfl, ⟨rfl, ⟨rfl, trivial⟩⟩⟩⟩⟩
              refine aw_le ?_ (loop_145_29 (12 - (z_24 + 1)) (z_24 + 1)  V_29 (by omega) (j_29))
              exact ⟨rfl, ⟨rfl, ⟨rfl, ⟨rfl, ⟨rfl, trivial⟩⟩⟩⟩⟩
            · skip
              have nc_21 : j96 = 0 := (nI_eq (a := j96) (b := 0) (by omega) (by omega)).mp c_21
              refine aw_goto (tgt := 208) dX12_couples_114 (by decide) ?_
              refine aw_iinc (v := (nI (j96 + 1))) (ls' := [some (.ref (b + 100)), some (.int (nI zn0)), some (.int (nI (j96 + 1))), none, none]) dX12_couples_208 rfl (fx_up_1 _) (Nat.le_of_ble_eq_true rfl) rfl ?_
              refine aw_goto (tgt := 96) dX12_couples_211 (by decide) ?_
              refine aw_le ?_ (ih_96_12 (j96 + 1)  V_20 (by omega) (j_20))
              exact ⟨rfl, ⟨rfl, ⟨rfl, trivial⟩⟩⟩
        refine aw_le ?_ (loop_96_11 4096 0  V14 (by omega) (i14_0))
        exact ⟨rfl, ⟨rfl, ⟨rfl, trivial⟩⟩⟩
      | succ g_14 ih_14_9 =>
        intro j14  V14 hj14 i14_0
        have hlj14 : j14 < 12 := by omega
        refine aw_iload_n dX12_couples_14 rfl ?_
        refine aw_bipush (v := 12) dX12_couples_15 (by decide) ?_
        refine aw_icmp_ge (tgt := 94) dX12_couples_17 (by decide) (fun c_50 => ?_) (fun c_50 => ?_)
        · exact absurd c_50 (nI_ge (a := j14) (b := 12) (by omega) (by omega))
        refine aw_aload_n dX12_couples_20 rfl ?_
        obtain ⟨ftoldPeople_51, ftoldDoors_51, fwasDoors_51, ffault_51, fopen_51, flines_51, fmeantSet_51, fopenedNow_51, fvainNow_51, flowNow_51, fhighNow_51, fisKept_51, tad_51, pl0_51, le0_51, nu0_51, coy_51, wag_51, say_51, e_51, hntad_51, hnpl0_51, hnle0_51, hnnu0_51, hncoy_51, hnwag_51, hnsay_51⟩ := JR.get i14_0 cm_100
        refine aw_get dX12_couples_21 fl_X12_93 e_51 (by omega) rfl ?_
        refine aw_iload_n dX12_couples_24 rfl ?_
        refine aw_iconst (v := 0) dX12_couples_25 (by decide) ?_
        obtain ⟨g_52, e_52⟩ := JR.get i14_0 cm_128
        refine aw_iast dX12_couples_26 e_52 (by omega) (vp_in_nI (n := j14) (by omega) (by omega)) ?_
        refine aw_upR i14_0 cm_128 ⟨_, rfl⟩ (by decide) (WA LM0 (by decide) (by decide)) (fun V_53 j_53 k_53 e_53 => ?_)
        refine aw_iconst (v := 0) dX12_couples_27 (by decide) ?_
        refine aw_istore_n (ls' := [some (.ref (b + 100)), some (.int (nI zn0)), some (.int (nI j14)), some (.int 0), none]) dX12_couples_28 (Nat.le_of_ble_eq_true rfl) rfl ?_
        have loop_29_53 : ∀ (g_29 : Nat), ∀ (j29 : Nat)  (V29 : Wd), j29 + g_29 = 12 → (JR D b N cl [(127, 128, 0, 1000000)] V V29) → AW l D b jX12_couples (fx_rm 2 0 0) none (fx_MQ D b 0 0 (fx_qi (fun r N9 V9 => N = N9 ∧ JR D b N cl [(127, 128, 0, 1000000)] V V9))) 29 [some (.ref (b + 100)), some (.int (nI zn0)), some (.int (nI j14)), some (.int (nI j29)), none] [] N V29 0 0 := by
          intro g_29
          induction g_29 with
          | zero =>
            intro j29  V29 hj29 i29_0
            obtain rfl : j29 = 12 := by omega
            refine aw_iload_n dX12_couples_29 rfl ?_
            refine aw_bipush (v := 12) dX12_couples_30 (by decide) ?_
            refine aw_icmp_ge (tgt := 88) dX12_couples_32 (by decide) (fun c_56 => ?_) (fun c_56 => ?_)
            rotate_left
            · exact absurd (nI_le (a := 12) (b := 12) (Nat.le_refl _) (by omega)) c_56
            refine aw_iinc (v := (nI (j14 + 1))) (ls' := [some (.ref (b + 100)), some (.int (nI zn0)), some (.int (nI (j14 + 1))), some (.int (nI 12)), none]) dX12_couples_88 rfl (fx_up_1 _) (Nat.le_of_ble_eq_true rfl) rfl ?_
            refine aw_goto (tgt := 14) dX12_couples_91 (by decide) ?_
            refine aw_le ?_ (ih_14_9 (j14 + 1)  V29 (by omega) (i29_0))
            exact ⟨rfl, ⟨rfl, ⟨rfl, trivial⟩⟩⟩
          | succ g_29 ih_29_54 =>
            intro j29  V29 hj29 i29_0
            have hlj29 : j29 < 12 := by omega
            refine aw_iload_n dX12_couples_29 rfl ?_
            refine aw_bipush (v := 12) dX12_couples_30 (by decide) ?_
            refine aw_icmp_ge (tgt := 88) dX12_couples_32 (by decide) (fun c_57 => ?_) (fun c_57 => ?_)
            · exact absurd c_57 (nI_ge (a := j29) (b := 12) (by omega) (by omega))
            refine aw_iload_n dX12_couples_35 rfl ?_
            refine aw_iload_n dX12_couples_36 rfl ?_
            refine aw_icmp_eq (tgt := 82) dX12_couples_37 (by decide) (fun c_58 => ?_) (fun c_58 => ?_)
            · skip
              have nc_58 : j14 = j29 := (nI_eq (a := j14) (b := j29) (by omega) (by omega)).mp c_58
              refine aw_iinc (v := (nI (j29 + 1))) (ls' := [some (.ref (b + 100)), some (.int (nI zn0)), some (.int (nI j14)), some (.int (nI (j29 + 1))), none]) dX12_couples_82 rfl (fx_up_1 _) (Nat.le_of_ble_eq_true rfl) rfl ?_
              refine aw_goto (tgt := 29) dX12_couples_85 (by decide) ?_
              refine aw_le ?_ (ih_29_54 (j29 + 1)  V29 (by omega) (i29_0))
              exact ⟨rfl, ⟨rfl, ⟨rfl, ⟨rfl, trivial⟩⟩⟩⟩
            · skip
              have nc_58 : ¬ (j14 = j29) := fun z => c_58 ((nI_eq (a := j14) (b := j29) (by omega) (by omega)).mpr z)
              refine aw_aload_n dX12_couples_40 rfl ?_
              refine aw_iload_n dX12_couples_41 rfl ?_
              obtain ⟨ftoldPeople_62, ftoldDoors_62, fwasDoors_62, ffault_62, fopen_62, flines_62, fmeantSet_62, fopenedNow_62, fvainNow_62, flowNow_62, fhighNow_62, fisKept_62, tad_62, pl0_62, le0_62, nu0_62, coy_62, wag_62, say_62, e_62, hntad_62, hnpl0_62, hnle0_62, hnnu0_62, hncoy_62, hnwag_62, hnsay_62⟩ := JR.get i29_0 cm_100
              refine aw_callVi (J' := jX12_isTold) (As := [.int (nI j14)]) (st := []) dX12_couples_42 tb_1351 ok_X12_isTold ⟨_, e_62⟩ (by omega) rfl rfl (r_isTold l D b N V29 hN cl i29_0.1 (nI j14)) rfl (Nat.le_of_ble_eq_true rfl) ⟨Nat.le_of_ble_eq_true rfl, Nat.le_of_ble_eq_true rfl, Nat.le_of_ble_eq_true rfl, Nat.le_of_ble_eq_true rfl⟩ (fun r_63 N_64 V_65 q_66 => ?_)
              obtain ⟨⟨z_61, h_60⟩, rfl, rfl⟩ := q_66
              refine aw_if_eq (tgt := 82) dX12_couples_45 (by decide) (fun c_67 => ?_) (fun c_67 => ?_)
              · skip
                refine aw_iinc (v := (nI (j29 + 1))) (ls' := [some (.ref (b + 100)), some (.int (nI zn0)), some (.int (nI j14)), some (.int (nI (j29 + 1))), none]) dX12_couples_82 rfl (fx_up_1 _) (Nat.le_of_ble_eq_true rfl) rfl ?_
                refine aw_goto (tgt := 29) dX12_couples_85 (by decide) ?_
                refine aw_le ?_ (ih_29_54 (j29 + 1)  V29 (by omega) (i29_0))
                exact ⟨rfl, ⟨rfl, ⟨rfl, ⟨rfl, trivial⟩⟩⟩⟩
              · skip
                refine aw_aload_n dX12_couples_48 rfl ?_
                refine aw_iload_n dX12_couples_49 rfl ?_
                refine aw_callVi (J' := jX12_isTold) (As := [.int (nI j29)]) (st := []) dX12_couples_50 tb_1351 ok_X12_isTold ⟨_, e_62⟩ (by omega) rfl rfl (r_isTold l D b N V29 hN cl i29_0.1 (nI j29)) rfl (Nat.le_of_ble_eq_true rfl) ⟨Nat.le_of_ble_eq_true rfl, Nat.le_of_ble_eq_true rfl, Nat.le_of_ble_eq_true rfl, Nat.le_of_ble_eq_true rfl⟩ (fun r_71 N_72 V_73 q_74 => ?_)
                obtain ⟨⟨z_70, h_69⟩, rfl, rfl⟩ := q_74
                refine aw_if_eq (tgt := 82) dX12_couples_53 (by decide) (fun c_75 => ?_) (fun c_75 => ?_)
                · skip
                  refine aw_iinc (v := (nI (j29 + 1))) (ls' := [some (.ref (b + 100)), some (.int (nI zn0)), some (.int (nI j14)), some (.int (nI (j29 + 1))), none]) dX12_couples_82 rfl (fx_up_1 _) (Nat.le_of_ble_eq_true rfl) rfl ?_
                  refine aw_goto (tgt := 29) dX12_couples_85 (by decide) ?_
                  refine aw_le ?_ (ih_29_54 (j29 + 1)  V29 (by omega) (i29_0))
                  exact ⟨rfl, ⟨rfl, ⟨rfl, ⟨rfl, trivial⟩⟩⟩⟩
                · skip
                  refine aw_aload_n dX12_couples_56 rfl ?_
                  refine aw_iload_n dX12_couples_57 rfl ?_
                  refine aw_iload_n dX12_couples_58 rfl ?_
                  refine aw_iload_n dX12_couples_59 rfl ?_
                  refine aw_callVi (J' := jX12_areCouple) (As := [.int (nI j14), .int (nI j29), .int (nI zn0)]) (st := []) dX12_couples_60 tb_1497 ok_X12_areCouple ⟨_, e_62⟩ (by omega) rfl rfl (r_areCouple l D b N V29 hN cl i29_0.1 (nI j14) ⟨j14, by omega, rfl⟩ (nI j29) ⟨j29, by omega, rfl⟩ (nI zn0)) rfl (Nat.le_of_ble_eq_true rfl) ⟨Nat.le_of_ble_eq_true rfl, Nat.le_of_ble_eq_true rfl, Nat.le_of_ble_eq_true rfl, Nat.le_of_ble_eq_true rfl⟩ (fun r_78 N_79 V_80 q_81 => ?_)
                  obtain ⟨h_77, rfl, rfl⟩ := q_81
                  refine aw_if_eq (tgt := 82) dX12_couples_63 (by decide) (fun c_82 => ?_) (fun c_82 => ?_)
                  · skip
                    refine aw_iinc (v := (nI (j29 + 1))) (ls' := [some (.ref (b + 100)), some (.int (nI zn0)), some (.int (nI j14)), some (.int (nI (j29 + 1))), none]) dX12_couples_82 rfl (fx_up_1 _) (Nat.le_of_ble_eq_true rfl) rfl ?_
                    refine aw_goto (tgt := 29) dX12_couples_85 (by decide) ?_
                    refine aw_le ?_ (ih_29_54 (j29 + 1)  V29 (by omega) (i29_0))
                    exact ⟨rfl, ⟨rfl, ⟨rfl, ⟨rfl, trivial⟩⟩⟩⟩
                  · skip
                    refine aw_aload_n dX12_couples_66 rfl ?_
                    refine aw_get dX12_couples_67 fl_X12_93 e_62 (by omega) rfl ?_
                    refine aw_iload_n dX12_couples_70 rfl ?_
                    refine aw_aload_n dX12_couples_71 rfl ?_
                    refine aw_get dX12_couples_72 fl_X12_93 e_62 (by omega) rfl ?_
                    refine aw_iload_n dX12_couples_75 rfl ?_
                    obtain ⟨g_83, e_83⟩ := JR.get i29_0 cm_128
                    refine aw_iald (v := (g_83 j14)) dX12_couples_76 e_83 (by omega) (vp_in_nI (n := j14) (by omega) (by omega)) (congrArg g_83 (nI_clamp (n := j14) (by omega))) ?_
                    refine aw_iconst (v := 1) dX12_couples_77 (by decide) ?_
                    refine aw_iload_n dX12_couples_78 rfl ?_
                    refine aw_ishl dX12_couples_79 ?_
                    refine aw_ior dX12_couples_80 ?_
                    refine aw_iast dX12_couples_81 e_83 (by omega) (vp_in_nI (n := j14) (by omega) (by omega)) ?_
                    refine aw_upR i29_0 cm_128 ⟨_, rfl⟩ (by decide) (WA LM0 (by decide) (by decide)) (fun V_84 j_84 k_84 e_84 => ?_)
                    refine aw_iinc (v := (nI (j29 + 1))) (ls' := [some (.ref (b + 100)), some (.int (nI zn0)), some (.int (nI j14)), some (.int (nI (j29 + 1))), none]) dX12_couples_82 rfl (fx_up_1 _) (Nat.le_of_ble_eq_true rfl) rfl ?_
                    refine aw_goto (tgt := 29) dX12_couples_85 (by decide) ?_
                    refine aw_le ?_ (ih_29_54 (j29 + 1)  V_84 (by omega) (j_84))
                    exact ⟨rfl, ⟨rfl, ⟨rfl, ⟨rfl, trivial⟩⟩⟩⟩
        refine aw_le ?_ (loop_29_53 12 0  V_53 (by omega) (j_53))
        exact ⟨rfl, ⟨rfl, ⟨rfl, ⟨rfl, trivial⟩⟩⟩⟩
    refine aw_le ?_ (loop_14_8 12 0  V (by omega) (hJ0))
    exact ⟨rfl, ⟨rfl, ⟨rfl, trivial⟩⟩⟩
  · skip
    refine aw_iconst (v := (-1)) dX12_couples_10 (by decide) ?_
    refine aw_ireti dX12_couples_11 rfl (Nat.le_of_ble_eq_true rfl) (Nat.le_of_ble_eq_true rfl) ?_
    exact ⟨rfl, hJ0⟩

set_option maxHeartbeats 4000000 in
set_option maxRecDepth 100000 in
theorem r_firstWith (l : Launch) (D : va_G) (b : Nat) (N : Nat) (V : Wd) (hN : 133 ≤ N) (cl : Nat) (hW : CR D b cl V) (n0 : Int32)  : MI l D b 3 jX12_firstWith [.ref (b + 100), .int n0] N V 0 0 (fun r N9 V9 => (∃ k : Nat, k < 4096 ∧ r = nI k) ∧ N = N9 ∧ V = V9) := by
  have hJ0 : JR D b N cl [] V V := JR.rf hW
  refine mw_of (by decide) (by simp [Value.category]) (Nat.le_of_ble_eq_true rfl) ?_
  show AW l D b jX12_firstWith (fx_rm 3 0 0) none (fx_MQ D b 0 0 (fx_qi (fun r N9 V9 => (∃ k : Nat, k < 4096 ∧ r = nI k) ∧ N = N9 ∧ V = V9))) 0 [some (.ref (b + 100)), some (.int n0), none, none] [] N V 0 0
  refine aw_iconst (v := 0) dX12_firstWith_0 (by decide) ?_
  refine aw_istore_n (ls' := [some (.ref (b + 100)), some (.int n0), some (.int 0), none]) dX12_firstWith_1 (Nat.le_of_ble_eq_true rfl) rfl ?_
  refine aw_iconst (v := 0) dX12_firstWith_2 (by decide) ?_
  refine aw_istore_n (ls' := [some (.ref (b + 100)), some (.int n0), some (.int 0), some (.int 0)]) dX12_firstWith_3 (Nat.le_of_ble_eq_true rfl) rfl ?_
  have ml_4_1 : ∀ (m : Nat) (p4 : Nat) (s4 : Nat), m = 12 - p4 → (p4 ≤ 12) → (s4 < 4096) → AW l D b jX12_firstWith (fx_rm 3 0 0) none (fx_MQ D b 0 0 (fx_qi (fun r N9 V9 => (∃ k : Nat, k < 4096 ∧ r = nI k) ∧ N = N9 ∧ V = V9))) 4 [some (.ref (b + 100)), some (.int n0), some (.int (nI s4)), some (.int (nI p4))] [] N V 0 0 := by
    intro m; refine Nat.strongRecOn m ?_
    intro m mih_4_1 p4 s4 hm4 i4_0 i4_1
    refine aw_iload_n dX12_firstWith_4 rfl ?_
    refine aw_bipush (v := 12) dX12_firstWith_5 (by decide) ?_
    refine aw_icmp_ge (tgt := 39) dX12_firstWith_7 (by decide) (fun c_2 => ?_) (fun c_2 => ?_)
    · skip
      have nc_2 : 12 ≤ p4 := (nI_leI (a := 12) (b := p4) (by omega) (by omega)).mp c_2
      refine aw_iload_n dX12_firstWith_39 rfl ?_
      refine aw_ireti dX12_firstWith_40 rfl (Nat.le_of_ble_eq_true rfl) (Nat.le_of_ble_eq_true rfl) ?_
      exact ⟨⟨s4, (by first | omega | exact fx_pow12 (by omega) | exact or_lt (by omega) (by first | omega | exact fx_pow12 (by omega))), rfl⟩, rfl, rfl⟩
    · skip
      have nc_2 : ¬ (12 ≤ p4) := fun z => c_2 ((nI_leI (a := 12) (b := p4) (by omega) (by omega)).mpr z)
      refine aw_aload_n dX12_firstWith_10 rfl ?_
      refine aw_iload_n dX12_firstWith_11 rfl ?_
      obtain ⟨ftoldPeople_6, ftoldDoors_6, fwasDoors_6, ffault_6, fopen_6, flines_6, fmeantSet_6, fopenedNow_6, fvainNow_6, flowNow_6, fhighNow_6, fisKept_6, tad_6, pl0_6, le0_6, nu0_6, coy_6, wag_6, say_6, e_6, hntad_6, hnpl0_6, hnle0_6, hnnu0_6, hncoy_6, hnwag_6, hnsay_6⟩ := JR.get hJ0 cm_100
      refine aw_callVi (J' := jX12_isTold) (As := [.int (nI p4)]) (st := []) dX12_firstWith_12 tb_1351 ok_X12_isTold ⟨_, e_6⟩ (by omega) rfl rfl (r_isTold l D b N V hN cl hJ0.1 (nI p4)) rfl (Nat.le_of_ble_eq_true rfl) ⟨Nat.le_of_ble_eq_true rfl, Nat.le_of_ble_eq_true rfl, Nat.le_of_ble_eq_true rfl, Nat.le_of_ble_eq_true rfl⟩ (fun r_7 N_8 V_9 q_10 => ?_)
      obtain ⟨⟨z_5, h_4⟩, rfl, rfl⟩ := q_10
      refine aw_if_eq (tgt := 33) dX12_firstWith_15 (by decide) (fun c_11 => ?_) (fun c_11 => ?_)
      · skip
        refine aw_iinc (v := (nI (p4 + 1))) (ls' := [some (.ref (b + 100)), some (.int n0), some (.int (nI s4)), some (.int (nI (p4 + 1)))]) dX12_firstWith_33 rfl (fx_up_1 _) (Nat.le_of_ble_eq_true rfl) rfl ?_
        refine aw_goto (tgt := 4) dX12_firstWith_36 (by decide) ?_
        refine aw_le ?_ (mih_4_1 _ (by omega) (p4 + 1) s4 rfl (by omega) ((by first | omega | exact fx_pow12 (by omega) | exact or_lt (by omega) (by first | omega | exact fx_pow12 (by omega)))))
        exact ⟨rfl, ⟨rfl, ⟨rfl, ⟨rfl, trivial⟩⟩⟩⟩
      · skip
        refine aw_aload_n dX12_firstWith_18 rfl ?_
        refine aw_iload_n dX12_firstWith_19 rfl ?_
        refine aw_callVi (J' := jX12_fearOf) (As := [.int (nI p4)]) (st := []) dX12_firstWith_20 tb_1430 ok_X12_fearOf ⟨_, e_6⟩ (by omega) rfl rfl (r_fearOf l D b N V hN cl hJ0.1 (nI p4) ⟨p4, by omega, rfl⟩) rfl (Nat.le_of_ble_eq_true rfl) ⟨Nat.le_of_ble_eq_true rfl, Nat.le_of_ble_eq_true rfl, Nat.le_of_ble_eq_true rfl, Nat.le_of_ble_eq_true rfl⟩ (fun r_14 N_15 V_16 q_17 => ?_)
        obtain ⟨h_13, rfl, rfl⟩ := q_17
        refine aw_iload_n dX12_firstWith_23 rfl ?_
        refine aw_icmp_ne (tgt := 33) dX12_firstWith_24 (by decide) (fun c_18 => ?_) (fun c_18 => ?_)
        · skip
          refine aw_iinc (v := (nI (p4 + 1))) (ls' := [some (.ref (b + 100)), some (.int n0), some (.int (nI s4)), some (.int (nI (p4 + 1)))]) dX12_firstWith_33 rfl (fx_up_1 _) (Nat.le_of_ble_eq_true rfl) rfl ?_
          refine aw_goto (tgt := 4) dX12_firstWith_36 (by decide) ?_
          refine aw_le ?_ (mih_4_1 _ (by omega) (p4 + 1) s4 rfl (by omega) ((by first | omega | exact fx_pow12 (by omega) | exact or_lt (by omega) (by first | omega | exact fx_pow12 (by omega)))))
          exact ⟨rfl, ⟨rfl, ⟨rfl, ⟨rfl, trivial⟩⟩⟩⟩
        · skip
          refine aw_iload_n dX12_firstWith_27 rfl ?_
          refine aw_iconst (v := 1) dX12_firstWith_28 (by decide) ?_
          refine aw_iload_n dX12_firstWith_29 rfl ?_
          refine aw_ishl dX12_firstWith_30 ?_
          refine aw_eqi (y := (nI (2 ^ p4))) (fx_shl12 p4 (by omega)) ?_
          refine aw_ior dX12_firstWith_31 ?_
          refine aw_eqi (y := (nI (s4 ||| (2 ^ p4)))) (fx_orI _ _) ?_
          refine aw_istore_n (ls' := [some (.ref (b + 100)), some (.int n0), some (.int (nI (s4 ||| (2 ^ p4)))), some (.int (nI p4))]) dX12_firstWith_32 (Nat.le_of_ble_eq_true rfl) rfl ?_
          refine aw_iinc (v := (nI (p4 + 1))) (ls' := [some (.ref (b + 100)), some (.int n0), some (.int (nI (s4 ||| (2 ^ p4)))), some (.int (nI (p4 + 1)))]) dX12_firstWith_33 rfl (fx_up_1 _) (Nat.le_of_ble_eq_true rfl) rfl ?_
          refine aw_goto (tgt := 4) dX12_firstWith_36 (by decide) ?_
          refine aw_le ?_ (mih_4_1 _ (by omega) (p4 + 1) (s4 ||| (2 ^ p4)) rfl (by omega) ((by first | omega | exact fx_pow12 (by omega) | exact or_lt (by omega) (by first | omega | exact fx_pow12 (by omega)))))
          exact ⟨rfl, ⟨rfl, ⟨rfl, ⟨rfl, trivial⟩⟩⟩⟩
  refine aw_le ?_ (ml_4_1 _ 0 0 rfl (by omega) ((by first | omega | exact fx_pow12 (by omega) | exact or_lt (by omega) (by first | omega | exact fx_pow12 (by omega)))))
  exact ⟨rfl, ⟨rfl, ⟨rfl, ⟨rfl, trivial⟩⟩⟩⟩

set_option maxHeartbeats 4000000 in
set_option maxRecDepth 100000 in
theorem r_fashion (l : Launch) (D : va_G) (b : Nat) (N : Nat) (V : Wd) (hN : 133 ≤ N) (cl : Nat) (hW : CR D b cl V) (n0 : Int32) (n1 : Int32) (n2 : Int32)  : MI l D b 4 jX12_fashion [.ref (b + 100), .int n0, .int n1, .int n2] N V 0 0 (fun r N9 V9 => N = N9 ∧ V = V9) := by
  have hJ0 : JR D b N cl [] V V := JR.rf hW
  refine mw_of (by decide) (by simp [Value.category]) (Nat.le_of_ble_eq_true rfl) ?_
  show AW l D b jX12_fashion (fx_rm 4 0 0) none (fx_MQ D b 0 0 (fx_qi (fun r N9 V9 => N = N9 ∧ V = V9))) 0 [some (.ref (b + 100)), some (.int n0), some (.int n1), some (.int n2), none, none, none, none] [] N V 0 0
  refine aw_iload_n dX12_fashion_0 rfl ?_
  refine aw_iconst (v := 0) dX12_fashion_1 (by decide) ?_
  refine aw_bipush (v := 15) dX12_fashion_2 (by decide) ?_
  refine aw_callSi (J' := jX12_in) (As := [.int n0, .int 0, .int 15]) (st := []) dX12_fashion_4 tb_1209 ok_X12_in rfl (r_in l D b N V hN cl hJ0.1 n0 0 15) rfl (Nat.le_of_ble_eq_true rfl) ⟨Nat.le_of_ble_eq_true rfl, Nat.le_of_ble_eq_true rfl, Nat.le_of_ble_eq_true rfl, Nat.le_of_ble_eq_true rfl⟩ (fun r_4 N_5 V_6 q_7 => ?_)
  obtain ⟨⟨z_3, h_2⟩, rfl, rfl⟩ := q_7
  refine aw_if_eq (tgt := 29) dX12_fashion_7 (by decide) (fun c_8 => ?_) (fun c_8 => ?_)
  · skip
    refine aw_iconst (v := (-1)) dX12_fashion_29 (by decide) ?_
    refine aw_ireti dX12_fashion_30 rfl (Nat.le_of_ble_eq_true rfl) (Nat.le_of_ble_eq_true rfl) ?_
    exact ⟨rfl, rfl⟩
  · skip
    obtain ⟨zn0, h0zn0, hzn0, rfl⟩ := in_nat (a := 0) (b := 15) (by decide) (h_2.resolve_left c_8)
    refine aw_iload_n dX12_fashion_10 rfl ?_
    refine aw_iconst (v := 1) dX12_fashion_11 (by decide) ?_
    refine aw_bipush (v := 11) dX12_fashion_12 (by decide) ?_
    refine aw_callSi (J' := jX12_in) (As := [.int n1, .int 1, .int 11]) (st := []) dX12_fashion_14 tb_1209 ok_X12_in rfl (r_in l D b N V hN cl hJ0.1 n1 1 11) rfl (Nat.le_of_ble_eq_true rfl) ⟨Nat.le_of_ble_eq_true rfl, Nat.le_of_ble_eq_true rfl, Nat.le_of_ble_eq_true rfl, Nat.le_of_ble_eq_true rfl⟩ (fun r_12 N_13 V_14 q_15 => ?_)
    obtain ⟨⟨z_11, h_10⟩, rfl, rfl⟩ := q_15
    refine aw_if_eq (tgt := 29) dX12_fashion_17 (by decide) (fun c_16 => ?_) (fun c_16 => ?_)
    · skip
      refine aw_iconst (v := (-1)) dX12_fashion_29 (by decide) ?_
      refine aw_ireti dX12_fashion_30 rfl (Nat.le_of_ble_eq_true rfl) (Nat.le_of_ble_eq_true rfl) ?_
      exact ⟨rfl, rfl⟩
    · skip
      obtain ⟨zn1, h0zn1, hzn1, rfl⟩ := in_nat (a := 1) (b := 11) (by decide) (h_10.resolve_left c_16)
      refine aw_iload_n dX12_fashion_20 rfl ?_
      refine aw_iconst (v := 0) dX12_fashion_21 (by decide) ?_
      refine aw_iconst (v := 1) dX12_fashion_22 (by decide) ?_
      refine aw_callSi (J' := jX12_in) (As := [.int n2, .int 0, .int 1]) (st := []) dX12_fashion_23 tb_1209 ok_X12_in rfl (r_in l D b N V hN cl hJ0.1 n2 0 1) rfl (Nat.le_of_ble_eq_true rfl) ⟨Nat.le_of_ble_eq_true rfl, Nat.le_of_ble_eq_true rfl, Nat.le_of_ble_eq_true rfl, Nat.le_of_ble_eq_true rfl⟩ (fun r_20 N_21 V_22 q_23 => ?_)
      obtain ⟨⟨z_19, h_18⟩, rfl, rfl⟩ := q_23
      refine aw_if_ne (tgt := 31) dX12_fashion_26 (by decide) (fun c_24 => ?_) (fun c_24 => ?_)
      · skip
        obtain ⟨zn2, h0zn2, hzn2, rfl⟩ := in_nat (a := 0) (b := 1) (by decide) (h_18.resolve_left c_24)
        refine aw_aload_n dX12_fashion_31 rfl ?_
        refine aw_iload_n dX12_fashion_32 rfl ?_
        obtain ⟨ftoldPeople_28, ftoldDoors_28, fwasDoors_28, ffault_28, fopen_28, flines_28, fmeantSet_28, fopenedNow_28, fvainNow_28, flowNow_28, fhighNow_28, fisKept_28, tad_28, pl0_28, le0_28, nu0_28, coy_28, wag_28, say_28, e_28, hntad_28, hnpl0_28, hnle0_28, hnnu0_28, hncoy_28, hnwag_28, hnsay_28⟩ := JR.get hJ0 cm_100
        refine aw_callVi (J' := jX12_firstWith) (As := [.int (nI zn0)]) (st := []) dX12_fashion_33 tb_1508 ok_X12_firstWith ⟨_, e_28⟩ (by omega) rfl rfl (r_firstWith l D b N V hN cl hJ0.1 (nI zn0)) rfl (Nat.le_of_ble_eq_true rfl) ⟨Nat.le_of_ble_eq_true rfl, Nat.le_of_ble_eq_true rfl, Nat.le_of_ble_eq_true rfl, Nat.le_of_ble_eq_true rfl⟩ (fun r_29 N_30 V_31 q_32 => ?_)
        obtain ⟨h_26, rfl, rfl⟩ := q_32
        obtain ⟨z_27, hz_27, rfl⟩ := h_26
        refine aw_istore (ls' := [some (.ref (b + 100)), some (.int (nI zn0)), some (.int (nI zn1)), some (.int (nI zn2)), some (.int (nI z_27)), none, none, none]) dX12_fashion_36 (Nat.le_of_ble_eq_true rfl) rfl ?_
        refine aw_iconst (v := (-1)) dX12_fashion_38 (by decide) ?_
        refine aw_istore (ls' := [some (.ref (b + 100)), some (.int (nI zn0)), some (.int (nI zn1)), some (.int (nI zn2)), some (.int (nI z_27)), some (.int (-1)), none, none]) dX12_fashion_39 (Nat.le_of_ble_eq_true rfl) rfl ?_
        refine aw_iconst (v := (-1)) dX12_fashion_41 (by decide) ?_
        refine aw_istore (ls' := [some (.ref (b + 100)), some (.int (nI zn0)), some (.int (nI zn1)), some (.int (nI zn2)), some (.int (nI z_27)), some (.int (-1)), some (.int (-1)), none]) dX12_fashion_42 (Nat.le_of_ble_eq_true rfl) rfl ?_
        have ml_44_33 : ∀ (m : Nat) (s44 : Nat) (v44_5 : Int32) (v44_6 : Int32), m = 2 * (4096 - s44) + (if v44_5 = nI s44 then 0 else 1) → (s44 < 4096) → AW l D b jX12_fashion (fx_rm 4 0 0) none (fx_MQ D b 0 0 (fx_qi (fun r N9 V9 => N = N9 ∧ V = V9))) 44 [some (.ref (b + 100)), some (.int (nI zn0)), some (.int (nI zn1)), some (.int (nI zn2)), some (.int (nI s44)), some (.int v44_5), some (.int v44_6), none] [] N V 0 0 := by
          intro m; refine Nat.strongRecOn m ?_
          intro m mih_44_33 s44 v44_5 v44_6 hm44 i44_0
          refine aw_iload dX12_fashion_44 rfl ?_
          refine aw_iload dX12_fashion_46 rfl ?_
          refine aw_icmp_eq (tgt := 115) dX12_fashion_48 (by decide) (fun c_34 => ?_) (fun c_34 => ?_)
          · skip
            refine aw_iload_n dX12_fashion_115 rfl ?_
            refine aw_if_ne (tgt := 124) dX12_fashion_116 (by decide) (fun c_35 => ?_) (fun c_35 => ?_)
            · skip
              have nc_35 : ¬ (zn2 = 0) := fun z => c_35 ((nI_eq (a := zn2) (b := 0) (by omega) (by omega)).mpr z)
              refine aw_iload dX12_fashion_124 rfl ?_
              refine aw_ireti dX12_fashion_126 rfl (Nat.le_of_ble_eq_true rfl) (Nat.le_of_ble_eq_true rfl) ?_
              exact ⟨rfl, rfl⟩
            · skip
              have nc_35 : zn2 = 0 := (nI_eq (a := zn2) (b := 0) (by omega) (by omega)).mp c_35
              refine aw_iload dX12_fashion_119 rfl ?_
              refine aw_goto (tgt := 126) dX12_fashion_121 (by decide) ?_
              refine aw_ireti dX12_fashion_126 rfl (Nat.le_of_ble_eq_true rfl) (Nat.le_of_ble_eq_true rfl) ?_
              exact ⟨rfl, rfl⟩
          · skip
            refine aw_iload dX12_fashion_51 rfl ?_
            refine aw_istore (ls' := [some (.ref (b + 100)), some (.int (nI zn0)), some (.int (nI zn1)), some (.int (nI zn2)), some (.int (nI s44)), some (.int (nI s44)), some (.int v44_6), none]) dX12_fashion_53 (Nat.le_of_ble_eq_true rfl) rfl ?_
            refine aw_iload dX12_fashion_55 rfl ?_
            refine aw_iconst (v := 1) dX12_fashion_57 (by decide) ?_
            refine aw_iadd dX12_fashion_58 ?_
            refine aw_istore (ls' := [some (.ref (b + 100)), some (.int (nI zn0)), some (.int (nI zn1)), some (.int (nI zn2)), some (.int (nI s44)), some (.int (nI s44)), some (.int (v44_6 + 1)), none]) dX12_fashion_59 (Nat.le_of_ble_eq_true rfl) rfl ?_
            refine aw_iconst (v := 0) dX12_fashion_61 (by decide) ?_
            refine aw_istore (ls' := [some (.ref (b + 100)), some (.int (nI zn0)), some (.int (nI zn1)), some (.int (nI zn2)), some (.int (nI s44)), some (.int (nI s44)), some (.int (v44_6 + 1)), some (.int 0)]) dX12_fashion_62 (Nat.le_of_ble_eq_true rfl) rfl ?_
            have ml_64_36 : ∀ (m : Nat) (p64 : Nat) (s64 : Nat), m = 12 - p64 → (p64 ≤ 12) → (s64 < 4096) → (s44 ≤ s64) → AW l D b jX12_fashion (fx_rm 4 0 0) none (fx_MQ D b 0 0 (fx_qi (fun r N9 V9 => N = N9 ∧ V = V9))) 64 [some (.ref (b + 100)), some (.int (nI zn0)), some (.int (nI zn1)), some (.int (nI zn2)), some (.int (nI s64)), some (.int (nI s44)), some (.int (v44_6 + 1)), some (.int (nI p64))] [] N V 0 0 := by
              intro m; refine Nat.strongRecOn m ?_
              intro m mih_64_36 p64 s64 hm64 i64_0 i64_1 i64_2
              refine aw_iload dX12_fashion_64 rfl ?_
              refine aw_bipush (v := 12) dX12_fashion_66 (by decide) ?_
              refine aw_icmp_ge (tgt := 112) dX12_fashion_68 (by decide) (fun c_37 => ?_) (fun c_37 => ?_)
              · skip
                have nc_37 : 12 ≤ p64 := (nI_leI (a := 12) (b := p64) (by omega) (by omega)).mp c_37
                refine aw_goto (tgt := 44) dX12_fashion_112 (by decide) ?_
                refine aw_le ?_ (mih_44_33 _ (by rw [hm44]; exact fx_fix (by first | omega | exact Nat.le_trans (by omega) Nat.left_le_or) (by first | omega | exact fx_pow12 (by omega) | exact or_lt (by omega) (by first | omega | exact fx_pow12 (by omega))) c_34) s64 (nI s44) (v44_6 + 1) rfl ((by first | omega | exact fx_pow12 (by omega) | exact or_lt (by omega) (by first | omega | exact fx_pow12 (by omega)))))
                exact ⟨rfl, ⟨rfl, ⟨rfl, ⟨rfl, ⟨rfl, ⟨rfl, ⟨rfl, trivial⟩⟩⟩⟩⟩⟩⟩
              · skip
                have nc_37 : ¬ (12 ≤ p64) := fun z => c_37 ((nI_leI (a := 12) (b := p64) (by omega) (by omega)).mpr z)
                refine aw_aload_n dX12_fashion_71 rfl ?_
                refine aw_iload dX12_fashion_72 rfl ?_
                refine aw_callVi (J' := jX12_isTold) (As := [.int (nI p64)]) (st := []) dX12_fashion_74 tb_1351 ok_X12_isTold ⟨_, e_28⟩ (by omega) rfl rfl (r_isTold l D b N V hN cl hJ0.1 (nI p64)) rfl (Nat.le_of_ble_eq_true rfl) ⟨Nat.le_of_ble_eq_true rfl, Nat.le_of_ble_eq_true rfl, Nat.le_of_ble_eq_true rfl, Nat.le_of_ble_eq_true rfl⟩ (fun r_41 N_42 V_43 q_44 => ?_)
                obtain ⟨⟨z_40, h_39⟩, rfl, rfl⟩ := q_44
                refine aw_if_eq (tgt := 106) dX12_fashion_77 (by decide) (fun c_45 => ?_) (fun c_45 => ?_)
                · skip
                  refine aw_iinc (v := (nI (p64 + 1))) (ls' := [some (.ref (b + 100)), some (.int (nI zn0)), some (.int (nI zn1)), some (.int (nI zn2)), some (.int (nI s64)), some (.int (nI s44)), some (.int (v44_6 + 1)), some (.int (nI (p64 + 1)))]) dX12_fashion_106 rfl (fx_up_1 _) (Nat.le_of_ble_eq_true rfl) rfl ?_
                  refine aw_goto (tgt := 64) dX12_fashion_109 (by decide) ?_
                  refine aw_le ?_ (mih_64_36 _ (by omega) (p64 + 1) s64 rfl (by omega) ((by first | omega | exact fx_pow12 (by omega) | exact or_lt (by omega) (by first | omega | exact fx_pow12 (by omega)))) ((by first | omega | exact Nat.le_trans (by omega) Nat.left_le_or)))
                  exact ⟨rfl, ⟨rfl, ⟨rfl, ⟨rfl, ⟨rfl, ⟨rfl, ⟨rfl, ⟨rfl, trivial⟩⟩⟩⟩⟩⟩⟩⟩
                · skip
                  refine aw_aload_n dX12_fashion_80 rfl ?_
                  refine aw_get dX12_fashion_81 fl_X12_19 e_28 (by omega) rfl ?_
                  refine aw_iload dX12_fashion_84 rfl ?_
                  obtain ⟨g_46, e_46, p_46⟩ := JR.get hJ0 cm_104
                  refine aw_iald (v := (g_46 p64)) dX12_fashion_86 e_46 (by omega) (vp_in_nI (n := p64) (by omega) (by omega)) (congrArg g_46 (nI_clamp (n := p64) (by omega))) ?_
                  refine aw_iload dX12_fashion_87 rfl ?_
                  refine aw_iand dX12_fashion_89 ?_
                  refine aw_callSi (J' := jX12_bits) (As := [.int ((g_46 p64) &&& (nI s44))]) (st := []) dX12_fashion_90 tb_1396 ok_X12_bits rfl (r_bits l D b N V hN cl hJ0.1 ((g_46 p64) &&& (nI s44))) rfl (Nat.le_of_ble_eq_true rfl) ⟨Nat.le_of_ble_eq_true rfl, Nat.le_of_ble_eq_true rfl, Nat.le_of_ble_eq_true rfl, Nat.le_of_ble_eq_true rfl⟩ (fun r_48 N_49 V_50 q_51 => ?_)
                  obtain ⟨rfl, rfl⟩ := q_51
                  refine aw_iload_n dX12_fashion_93 rfl ?_
                  refine aw_icmp_lt (tgt := 106) dX12_fashion_94 (by decide) (fun c_52 => ?_) (fun c_52 => ?_)
                  · skip
                    refine aw_iinc (v := (nI (p64 + 1))) (ls' := [some (.ref (b + 100)), some (.int (nI zn0)), some (.int (nI zn1)), some (.int (nI zn2)), some (.int (nI s64)), some (.int (nI s44)), some (.int (v44_6 + 1)), some (.int (nI (p64 + 1)))]) dX12_fashion_106 rfl (fx_up_1 _) (Nat.le_of_ble_eq_true rfl) rfl ?_
                    refine aw_goto (tgt := 64) dX12_fashion_109 (by decide) ?_
                    refine aw_le ?_ (mih_64_36 _ (by omega) (p64 + 1) s64 rfl (by omega) ((by first | omega | exact fx_pow12 (by omega) | exact or_lt (by omega) (by first | omega | exact fx_pow12 (by omega)))) ((by first | omega | exact Nat.le_trans (by omega) Nat.left_le_or)))
                    exact ⟨rfl, ⟨rfl, ⟨rfl, ⟨rfl, ⟨rfl, ⟨rfl, ⟨rfl, ⟨rfl, trivial⟩⟩⟩⟩⟩⟩⟩⟩
                  · skip
                    refine aw_iload dX12_fashion_97 rfl ?_
                    refine aw_iconst (v := 1) dX12_fashion_99 (by decide) ?_
                    refine aw_iload dX12_fashion_100 rfl ?_
                    refine aw_ishl dX12_fashion_102 ?_
                    refine aw_eqi (y := (nI (2 ^ p64))) (fx_shl12 p64 (by omega)) ?_
                    refine aw_ior dX12_fashion_103 ?_
                    refine aw_eqi (y := (nI (s64 ||| (2 ^ p64)))) (fx_orI _ _) ?_
                    refine aw_istore (ls' := [some (.ref (b + 100)), some (.int (nI zn0)), some (.int (nI zn1)), some (.int (nI zn2)), some (.int (nI (s64 ||| (2 ^ p64)))), some (.int (nI s44)), some (.int (v44_6 + 1)), some (.int (nI p64))]) dX12_fashion_104 (Nat.le_of_ble_eq_true rfl) rfl ?_
                    refine aw_iinc (v := (nI (p64 + 1))) (ls' := [some (.ref (b + 100)), some (.int (nI zn0)), some (.int (nI zn1)), some (.int (nI zn2)), some (.int (nI (s64 ||| (2 ^ p64)))), some (.int (nI s44)), some (.int (v44_6 + 1)), some (.int (nI (p64 + 1)))]) dX12_fashion_106 rfl (fx_up_1 _) (Nat.le_of_ble_eq_true rfl) rfl ?_
                    refine aw_goto (tgt := 64) dX12_fashion_109 (by decide) ?_
                    refine aw_le ?_ (mih_64_36 _ (by omega) (p64 + 1) (s64 ||| (2 ^ p64)) rfl (by omega) ((by first | omega | exact fx_pow12 (by omega) | exact or_lt (by omega) (by first | omega | exact fx_pow12 (by omega)))) ((by first | omega | exact Nat.le_trans (by omega) Nat.left_le_or)))
                    exact ⟨rfl, ⟨rfl, ⟨rfl, ⟨rfl, ⟨rfl, ⟨rfl, ⟨rfl, ⟨rfl, trivial⟩⟩⟩⟩⟩⟩⟩⟩
            refine aw_le ?_ (ml_64_36 _ 0 s44 rfl (by omega) ((by first | omega | exact fx_pow12 (by omega) | exact or_lt (by omega) (by first | omega | exact fx_pow12 (by omega)))) ((by first | omega | exact Nat.le_trans (by omega) Nat.left_le_or)))
            exact ⟨rfl, ⟨rfl, ⟨rfl, ⟨rfl, ⟨rfl, ⟨rfl, ⟨rfl, ⟨rfl, trivial⟩⟩⟩⟩⟩⟩⟩⟩
        refine aw_le ?_ (ml_44_33 _ z_27 (-1) (-1) rfl ((by first | omega | exact fx_pow12 (by omega) | exact or_lt (by omega) (by first | omega | exact fx_pow12 (by omega)))))
        exact ⟨rfl, ⟨rfl, ⟨rfl, ⟨rfl, ⟨rfl, ⟨rfl, ⟨rfl, trivial⟩⟩⟩⟩⟩⟩⟩
      · skip
        refine aw_iconst (v := (-1)) dX12_fashion_29 (by decide) ?_
        refine aw_ireti dX12_fashion_30 rfl (Nat.le_of_ble_eq_true rfl) (Nat.le_of_ble_eq_true rfl) ?_
        exact ⟨rfl, rfl⟩

set_option maxHeartbeats 4000000 in
set_option maxRecDepth 100000 in
theorem r_fears (l : Launch) (D : va_G) (b : Nat) (N : Nat) (V : Wd) (hN : 133 ≤ N) (cl : Nat) (hW : CR D b cl V) (n0 : Int32)  : MI l D b 2 jX12_fears [.ref (b + 100), .int n0] N V 0 0 (fun r N9 V9 => N = N9 ∧ V = V9) := by
  have hJ0 : JR D b N cl [] V V := JR.rf hW
  refine mw_of (by decide) (by simp [Value.category]) (Nat.le_of_ble_eq_true rfl) ?_
  show AW l D b jX12_fears (fx_rm 2 0 0) none (fx_MQ D b 0 0 (fx_qi (fun r N9 V9 => N = N9 ∧ V = V9))) 0 [some (.ref (b + 100)), some (.int n0), none, none, none] [] N V 0 0
  refine aw_iload_n dX12_fears_0 rfl ?_
  refine aw_iconst (v := 0) dX12_fears_1 (by decide) ?_
  refine aw_iconst (v := 1) dX12_fears_2 (by decide) ?_
  refine aw_callSi (J' := jX12_in) (As := [.int n0, .int 0, .int 1]) (st := []) dX12_fears_3 tb_1209 ok_X12_in rfl (r_in l D b N V hN cl hJ0.1 n0 0 1) rfl (Nat.le_of_ble_eq_true rfl) ⟨Nat.le_of_ble_eq_true rfl, Nat.le_of_ble_eq_true rfl, Nat.le_of_ble_eq_true rfl, Nat.le_of_ble_eq_true rfl⟩ (fun r_4 N_5 V_6 q_7 => ?_)
  obtain ⟨⟨z_3, h_2⟩, rfl, rfl⟩ := q_7
  refine aw_if_ne (tgt := 11) dX12_fears_6 (by decide) (fun c_8 => ?_) (fun c_8 => ?_)
  · skip
    obtain ⟨zn0, h0zn0, hzn0, rfl⟩ := in_nat (a := 0) (b := 1) (by decide) (h_2.resolve_left c_8)
    refine aw_ldcw (v := 65535) dX12_fears_11 tb_1314 ?_
    refine aw_istore_n (ls' := [some (.ref (b + 100)), some (.int (nI zn0)), some (.int 65535), none, none]) dX12_fears_14 (Nat.le_of_ble_eq_true rfl) rfl ?_
    refine aw_iconst (v := 0) dX12_fears_15 (by decide) ?_
    refine aw_istore_n (ls' := [some (.ref (b + 100)), some (.int (nI zn0)), some (.int 65535), some (.int 0), none]) dX12_fears_16 (Nat.le_of_ble_eq_true rfl) rfl ?_
    have loop_17_8 : ∀ (g_17 : Nat), ∀ (j17 : Nat) (v17_2 : Int32), j17 + g_17 = 12 → AW l D b jX12_fears (fx_rm 2 0 0) none (fx_MQ D b 0 0 (fx_qi (fun r N9 V9 => N = N9 ∧ V = V9))) 17 [some (.ref (b + 100)), some (.int (nI zn0)), some (.int v17_2), some (.int (nI j17)), none] [] N V 0 0 := by
      intro g_17
      induction g_17 with
      | zero =>
        intro j17 v17_2 hj17
        obtain rfl : j17 = 12 := by omega
        refine aw_iload_n dX12_fears_17 rfl ?_
        refine aw_bipush (v := 12) dX12_fears_18 (by decide) ?_
        refine aw_icmp_ge (tgt := 84) dX12_fears_20 (by decide) (fun c_11 => ?_) (fun c_11 => ?_)
        rotate_left
        · exact absurd (nI_le (a := 12) (b := 12) (Nat.le_refl _) (by omega)) c_11
        refine aw_iload_n dX12_fears_84 rfl ?_
        refine aw_ireti dX12_fears_85 rfl (Nat.le_of_ble_eq_true rfl) (Nat.le_of_ble_eq_true rfl) ?_
        exact ⟨rfl, rfl⟩
      | succ g_17 ih_17_9 =>
        intro j17 v17_2 hj17
        have hlj17 : j17 < 12 := by omega
        refine aw_iload_n dX12_fears_17 rfl ?_
        refine aw_bipush (v := 12) dX12_fears_18 (by decide) ?_
        refine aw_icmp_ge (tgt := 84) dX12_fears_20 (by decide) (fun c_12 => ?_) (fun c_12 => ?_)
        · exact absurd c_12 (nI_ge (a := j17) (b := 12) (by omega) (by omega))
        refine aw_iconst (v := 0) dX12_fears_23 (by decide) ?_
        refine aw_istore (ls' := [some (.ref (b + 100)), some (.int (nI zn0)), some (.int v17_2), some (.int (nI j17)), some (.int 0)]) dX12_fears_24 (Nat.le_of_ble_eq_true rfl) rfl ?_
        have loop_26_12 : ∀ (g_26 : Nat), ∀ (j26 : Nat) (v26_2 : Int32), j26 + g_26 = 16 → AW l D b jX12_fears (fx_rm 2 0 0) none (fx_MQ D b 0 0 (fx_qi (fun r N9 V9 => N = N9 ∧ V = V9))) 26 [some (.ref (b + 100)), some (.int (nI zn0)), some (.int v26_2), some (.int (nI j17)), some (.int (nI j26))] [] N V 0 0 := by
          intro g_26
          induction g_26 with
          | zero =>
            intro j26 v26_2 hj26
            obtain rfl : j26 = 16 := by omega
            refine aw_iload dX12_fears_26 rfl ?_
            refine aw_bipush (v := 16) dX12_fears_28 (by decide) ?_
            refine aw_icmp_ge (tgt := 78) dX12_fears_30 (by decide) (fun c_15 => ?_) (fun c_15 => ?_)
            rotate_left
            · exact absurd (nI_le (a := 16) (b := 16) (Nat.le_refl _) (by omega)) c_15
            refine aw_iinc (v := (nI (j17 + 1))) (ls' := [some (.ref (b + 100)), some (.int (nI zn0)), some (.int v26_2), some (.int (nI (j17 + 1))), some (.int (nI 16))]) dX12_fears_78 rfl (fx_up_1 _) (Nat.le_of_ble_eq_true rfl) rfl ?_
            refine aw_goto (tgt := 17) dX12_fears_81 (by decide) ?_
            refine aw_le ?_ (ih_17_9 (j17 + 1) v26_2  (by omega))
            exact ⟨rfl, ⟨rfl, ⟨rfl, ⟨rfl, trivial⟩⟩⟩⟩
          | succ g_26 ih_26_13 =>
            intro j26 v26_2 hj26
            have hlj26 : j26 < 16 := by omega
            refine aw_iload dX12_fears_26 rfl ?_
            refine aw_bipush (v := 16) dX12_fears_28 (by decide) ?_
            refine aw_icmp_ge (tgt := 78) dX12_fears_30 (by decide) (fun c_16 => ?_) (fun c_16 => ?_)
            · exact absurd c_16 (nI_ge (a := j26) (b := 16) (by omega) (by omega))
            refine aw_aload_n dX12_fears_33 rfl ?_
            refine aw_iload_n dX12_fears_34 rfl ?_
            obtain ⟨ftoldPeople_20, ftoldDoors_20, fwasDoors_20, ffault_20, fopen_20, flines_20, fmeantSet_20, fopenedNow_20, fvainNow_20, flowNow_20, fhighNow_20, fisKept_20, tad_20, pl0_20, le0_20, nu0_20, coy_20, wag_20, say_20, e_20, hntad_20, hnpl0_20, hnle0_20, hnnu0_20, hncoy_20, hnwag_20, hnsay_20⟩ := JR.get hJ0 cm_100
            refine aw_callVi (J' := jX12_isTold) (As := [.int (nI j17)]) (st := []) dX12_fears_35 tb_1351 ok_X12_isTold ⟨_, e_20⟩ (by omega) rfl rfl (r_isTold l D b N V hN cl hJ0.1 (nI j17)) rfl (Nat.le_of_ble_eq_true rfl) ⟨Nat.le_of_ble_eq_true rfl, Nat.le_of_ble_eq_true rfl, Nat.le_of_ble_eq_true rfl, Nat.le_of_ble_eq_true rfl⟩ (fun r_21 N_22 V_23 q_24 => ?_)
            obtain ⟨⟨z_19, h_18⟩, rfl, rfl⟩ := q_24
            refine aw_if_eq (tgt := 78) dX12_fears_38 (by decide) (fun c_25 => ?_) (fun c_25 => ?_)
            · skip
              refine aw_iinc (v := (nI (j17 + 1))) (ls' := [some (.ref (b + 100)), some (.int (nI zn0)), some (.int v26_2), some (.int (nI (j17 + 1))), some (.int (nI j26))]) dX12_fears_78 rfl (fx_up_1 _) (Nat.le_of_ble_eq_true rfl) rfl ?_
              refine aw_goto (tgt := 17) dX12_fears_81 (by decide) ?_
              refine aw_le ?_ (ih_17_9 (j17 + 1) v26_2  (by omega))
              exact ⟨rfl, ⟨rfl, ⟨rfl, ⟨rfl, trivial⟩⟩⟩⟩
            · skip
              refine aw_aload_n dX12_fears_41 rfl ?_
              refine aw_iload_n dX12_fears_42 rfl ?_
              refine aw_iload dX12_fears_43 rfl ?_
              refine aw_callVi (J' := jX12_dread) (As := [.int (nI j17), .int (nI j26)]) (st := []) dX12_fears_45 tb_1392 ok_X12_dread ⟨_, e_20⟩ (by omega) rfl rfl (r_dread l D b N V hN cl hJ0.1 (nI j17) ⟨j17, by omega, rfl⟩ (nI j26) ⟨j26, by omega, rfl⟩) rfl (Nat.le_of_ble_eq_true rfl) ⟨Nat.le_of_ble_eq_true rfl, Nat.le_of_ble_eq_true rfl, Nat.le_of_ble_eq_true rfl, Nat.le_of_ble_eq_true rfl⟩ (fun r_27 N_28 V_29 q_30 => ?_)
              obtain ⟨rfl, rfl⟩ := q_30
              refine aw_if_ne (tgt := 59) dX12_fears_48 (by decide) (fun c_31 => ?_) (fun c_31 => ?_)
              · skip
                refine aw_iload_n dX12_fears_59 rfl ?_
                refine aw_if_ne (tgt := 72) dX12_fears_60 (by decide) (fun c_32 => ?_) (fun c_32 => ?_)
                · skip
                  have nc_32 : ¬ (zn0 = 0) := fun z => c_32 ((nI_eq (a := zn0) (b := 0) (by omega) (by omega)).mpr z)
                  refine aw_iinc (v := (nI (j26 + 1))) (ls' := [some (.ref (b + 100)), some (.int (nI zn0)), some (.int v26_2), some (.int (nI j17)), some (.int (nI (j26 + 1)))]) dX12_fears_72 rfl (fx_up_1 _) (Nat.le_of_ble_eq_true rfl) rfl ?_
                  refine aw_goto (tgt := 26) dX12_fears_75 (by decide) ?_
                  refine aw_le ?_ (ih_26_13 (j26 + 1) v26_2  (by omega))
                  exact ⟨rfl, ⟨rfl, ⟨rfl, ⟨rfl, ⟨rfl, trivial⟩⟩⟩⟩⟩
                · skip
                  have nc_32 : zn0 = 0 := (nI_eq (a := zn0) (b := 0) (by omega) (by omega)).mp c_32
                  refine aw_iload_n dX12_fears_63 rfl ?_
                  refine aw_iconst (v := 1) dX12_fears_64 (by decide) ?_
                  refine aw_iload dX12_fears_65 rfl ?_
                  refine aw_ishl dX12_fears_67 ?_
                  refine aw_iconst (v := (-1)) dX12_fears_68 (by decide) ?_
                  refine aw_ixor dX12_fears_69 ?_
                  refine aw_iand dX12_fears_70 ?_
                  refine aw_istore_n (ls' := [some (.ref (b + 100)), some (.int (nI zn0)), some (.int (v26_2 &&& (((1 : Int32) <<< ((nI j26) &&& 31)) ^^^ (-1)))), some (.int (nI j17)), some (.int (nI j26))]) dX12_fears_71 (Nat.le_of_ble_eq_true rfl) rfl ?_
                  refine aw_iinc (v := (nI (j26 + 1))) (ls' := [some (.ref (b + 100)), some (.int (nI zn0)), some (.int (v26_2 &&& (((1 : Int32) <<< ((nI j26) &&& 31)) ^^^ (-1)))), some (.int (nI j17)), some (.int (nI (j26 + 1)))]) dX12_fears_72 rfl (fx_up_1 _) (Nat.le_of_ble_eq_true rfl) rfl ?_
                  refine aw_goto (tgt := 26) dX12_fears_75 (by decide) ?_
                  refine aw_le ?_ (ih_26_13 (j26 + 1) (v26_2 &&& (((1 : Int32) <<< ((nI j26) &&& 31)) ^^^ (-1)))  (by omega))
                  exact ⟨rfl, ⟨rfl, ⟨rfl, ⟨rfl, ⟨rfl, trivial⟩⟩⟩⟩⟩
              · skip
                refine aw_iload_n dX12_fears_51 rfl ?_
                refine aw_iconst (v := 1) dX12_fears_52 (by decide) ?_
                refine aw_icmp_ne (tgt := 72) dX12_fears_53 (by decide) (fun c_33 => ?_) (fun c_33 => ?_)
                · skip
                  have nc_33 : ¬ (zn0 = 1) := fun z => c_33 ((nI_eq (a := zn0) (b := 1) (by omega) (by omega)).mpr z)
                  refine aw_iinc (v := (nI (j26 + 1))) (ls' := [some (.ref (b + 100)), some (.int (nI zn0)), some (.int v26_2), some (.int (nI j17)), some (.int (nI (j26 + 1)))]) dX12_fears_72 rfl (fx_up_1 _) (Nat.le_of_ble_eq_true rfl) rfl ?_
                  refine aw_goto (tgt := 26) dX12_fears_75 (by decide) ?_
                  refine aw_le ?_ (ih_26_13 (j26 + 1) v26_2  (by omega))
                  exact ⟨rfl, ⟨rfl, ⟨rfl, ⟨rfl, ⟨rfl, trivial⟩⟩⟩⟩⟩
                · skip
                  have nc_33 : zn0 = 1 := (nI_eq (a := zn0) (b := 1) (by omega) (by omega)).mp c_33
                  refine aw_goto (tgt := 63) dX12_fears_56 (by decide) ?_
                  refine aw_iload_n dX12_fears_63 rfl ?_
                  refine aw_iconst (v := 1) dX12_fears_64 (by decide) ?_
                  refine aw_iload dX12_fears_65 rfl ?_
                  refine aw_ishl dX12_fears_67 ?_
                  refine aw_iconst (v := (-1)) dX12_fears_68 (by decide) ?_
                  refine aw_ixor dX12_fears_69 ?_
                  refine aw_iand dX12_fears_70 ?_
                  refine aw_istore_n (ls' := [some (.ref (b + 100)), some (.int (nI zn0)), some (.int (v26_2 &&& (((1 : Int32) <<< ((nI j26) &&& 31)) ^^^ (-1)))), some (.int (nI j17)), some (.int (nI j26))]) dX12_fears_71 (Nat.le_of_ble_eq_true rfl) rfl ?_
                  refine aw_iinc (v := (nI (j26 + 1))) (ls' := [some (.ref (b + 100)), some (.int (nI zn0)), some (.int (v26_2 &&& (((1 : Int32) <<< ((nI j26) &&& 31)) ^^^ (-1)))), some (.int (nI j17)), some (.int (nI (j26 + 1)))]) dX12_fears_72 rfl (fx_up_1 _) (Nat.le_of_ble_eq_true rfl) rfl ?_
                  refine aw_goto (tgt := 26) dX12_fears_75 (by decide) ?_
                  refine aw_le ?_ (ih_26_13 (j26 + 1) (v26_2 &&& (((1 : Int32) <<< ((nI j26) &&& 31)) ^^^ (-1)))  (by omega))
                  exact ⟨rfl, ⟨rfl, ⟨rfl, ⟨rfl, ⟨rfl, trivial⟩⟩⟩⟩⟩
        refine aw_le ?_ (loop_26_12 16 0 v17_2  (by omega))
        exact ⟨rfl, ⟨rfl, ⟨rfl, ⟨rfl, ⟨rfl, trivial⟩⟩⟩⟩⟩
    refine aw_le ?_ (loop_17_8 12 0 65535  (by omega))
    exact ⟨rfl, ⟨rfl, ⟨rfl, ⟨rfl, trivial⟩⟩⟩⟩
  · skip
    refine aw_iconst (v := (-1)) dX12_fears_9 (by decide) ?_
    refine aw_ireti dX12_fears_10 rfl (Nat.le_of_ble_eq_true rfl) (Nat.le_of_ble_eq_true rfl) ?_
    exact ⟨rfl, rfl⟩

set_option maxHeartbeats 4000000 in
set_option maxRecDepth 100000 in
theorem r_unlikeBy (l : Launch) (D : va_G) (b : Nat) (N : Nat) (V : Wd) (hN : 133 ≤ N) (cl : Nat) (hW : CR D b cl V) (n0 : Int32) (hn0 : ∃ j : Nat, j < 12 ∧ n0 = nI j) (n1 : Int32) (hn1 : ∃ j : Nat, j < 12 ∧ n1 = nI j)  : MI l D b 1 jX12_unlikeBy [.ref (b + 100), .int n0, .int n1] N V 0 0 (fun r N9 V9 => N = N9 ∧ V = V9) := by
  have hJ0 : JR D b N cl [] V V := JR.rf hW
  obtain ⟨i0, hi0, rfl⟩ := hn0
  obtain ⟨i1, hi1, rfl⟩ := hn1
  refine mw_of (by decide) (by simp [Value.category]) (Nat.le_of_ble_eq_true rfl) ?_
  show AW l D b jX12_unlikeBy (fx_rm 1 0 0) none (fx_MQ D b 0 0 (fx_qi (fun r N9 V9 => N = N9 ∧ V = V9))) 0 [some (.ref (b + 100)), some (.int (nI i0)), some (.int (nI i1)), none, none] [] N V 0 0
  refine aw_iconst (v := 0) dX12_unlikeBy_0 (by decide) ?_
  refine aw_istore_n (ls' := [some (.ref (b + 100)), some (.int (nI i0)), some (.int (nI i1)), some (.int 0), none]) dX12_unlikeBy_1 (Nat.le_of_ble_eq_true rfl) rfl ?_
  refine aw_iconst (v := 0) dX12_unlikeBy_2 (by decide) ?_
  refine aw_istore (ls' := [some (.ref (b + 100)), some (.int (nI i0)), some (.int (nI i1)), some (.int 0), some (.int 0)]) dX12_unlikeBy_3 (Nat.le_of_ble_eq_true rfl) rfl ?_
  have loop_5_0 : ∀ (g_5 : Nat), ∀ (j5 : Nat) (v5_3 : Int32), j5 + g_5 = 16 → AW l D b jX12_unlikeBy (fx_rm 1 0 0) none (fx_MQ D b 0 0 (fx_qi (fun r N9 V9 => N = N9 ∧ V = V9))) 5 [some (.ref (b + 100)), some (.int (nI i0)), some (.int (nI i1)), some (.int v5_3), some (.int (nI j5))] [] N V 0 0 := by
    intro g_5
    induction g_5 with
    | zero =>
      intro j5 v5_3 hj5
      obtain rfl : j5 = 16 := by omega
      refine aw_iload dX12_unlikeBy_5 rfl ?_
      refine aw_bipush (v := 16) dX12_unlikeBy_7 (by decide) ?_
      refine aw_icmp_ge (tgt := 39) dX12_unlikeBy_9 (by decide) (fun c_3 => ?_) (fun c_3 => ?_)
      rotate_left
      · exact absurd (nI_le (a := 16) (b := 16) (Nat.le_refl _) (by omega)) c_3
      refine aw_iload_n dX12_unlikeBy_39 rfl ?_
      refine aw_ireti dX12_unlikeBy_40 rfl (Nat.le_of_ble_eq_true rfl) (Nat.le_of_ble_eq_true rfl) ?_
      exact ⟨rfl, rfl⟩
    | succ g_5 ih_5_1 =>
      intro j5 v5_3 hj5
      have hlj5 : j5 < 16 := by omega
      refine aw_iload dX12_unlikeBy_5 rfl ?_
      refine aw_bipush (v := 16) dX12_unlikeBy_7 (by decide) ?_
      refine aw_icmp_ge (tgt := 39) dX12_unlikeBy_9 (by decide) (fun c_4 => ?_) (fun c_4 => ?_)
      · exact absurd c_4 (nI_ge (a := j5) (b := 16) (by omega) (by omega))
      refine aw_iload_n dX12_unlikeBy_12 rfl ?_
      refine aw_aload_n dX12_unlikeBy_13 rfl ?_
      refine aw_iload_n dX12_unlikeBy_14 rfl ?_
      refine aw_iload dX12_unlikeBy_15 rfl ?_
      obtain ⟨ftoldPeople_6, ftoldDoors_6, fwasDoors_6, ffault_6, fopen_6, flines_6, fmeantSet_6, fopenedNow_6, fvainNow_6, flowNow_6, fhighNow_6, fisKept_6, tad_6, pl0_6, le0_6, nu0_6, coy_6, wag_6, say_6, e_6, hntad_6, hnpl0_6, hnle0_6, hnnu0_6, hncoy_6, hnwag_6, hnsay_6⟩ := JR.get hJ0 cm_100
      refine aw_callVi (J' := jX12_dread) (As := [.int (nI i0), .int (nI j5)]) (st := [.int v5_3]) dX12_unlikeBy_17 tb_1392 ok_X12_dread ⟨_, e_6⟩ (by omega) rfl rfl (r_dread l D b N V hN cl hJ0.1 (nI i0) ⟨i0, by omega, rfl⟩ (nI j5) ⟨j5, by omega, rfl⟩) rfl (Nat.le_of_ble_eq_true rfl) ⟨Nat.le_of_ble_eq_true rfl, Nat.le_of_ble_eq_true rfl, Nat.le_of_ble_eq_true rfl, Nat.le_of_ble_eq_true rfl⟩ (fun r_7 N_8 V_9 q_10 => ?_)
      obtain ⟨rfl, rfl⟩ := q_10
      refine aw_aload_n dX12_unlikeBy_20 rfl ?_
      refine aw_iload_n dX12_unlikeBy_21 rfl ?_
      refine aw_iload dX12_unlikeBy_22 rfl ?_
      refine aw_callVi (J' := jX12_dread) (As := [.int (nI i1), .int (nI j5)]) (st := [.int r_7, .int v5_3]) dX12_unlikeBy_24 tb_1392 ok_X12_dread ⟨_, e_6⟩ (by omega) rfl rfl (r_dread l D b N V hN cl hJ0.1 (nI i1) ⟨i1, by omega, rfl⟩ (nI j5) ⟨j5, by omega, rfl⟩) rfl (Nat.le_of_ble_eq_true rfl) ⟨Nat.le_of_ble_eq_true rfl, Nat.le_of_ble_eq_true rfl, Nat.le_of_ble_eq_true rfl, Nat.le_of_ble_eq_true rfl⟩ (fun r_12 N_13 V_14 q_15 => ?_)
      obtain ⟨rfl, rfl⟩ := q_15
      refine aw_isub dX12_unlikeBy_27 ?_
      refine aw_callSi (J' := jX12_size) (As := [.int (r_7 - r_12)]) (st := [.int v5_3]) dX12_unlikeBy_28 tb_1474 ok_X12_size rfl (r_size l D b N V hN cl hJ0.1 (r_7 - r_12)) rfl (Nat.le_of_ble_eq_true rfl) ⟨Nat.le_of_ble_eq_true rfl, Nat.le_of_ble_eq_true rfl, Nat.le_of_ble_eq_true rfl, Nat.le_of_ble_eq_true rfl⟩ (fun r_17 N_18 V_19 q_20 => ?_)
      obtain ⟨rfl, rfl⟩ := q_20
      refine aw_iadd dX12_unlikeBy_31 ?_
      refine aw_istore_n (ls' := [some (.ref (b + 100)), some (.int (nI i0)), some (.int (nI i1)), some (.int (v5_3 + r_17)), some (.int (nI j5))]) dX12_unlikeBy_32 (Nat.le_of_ble_eq_true rfl) rfl ?_
      refine aw_iinc (v := (nI (j5 + 1))) (ls' := [some (.ref (b + 100)), some (.int (nI i0)), some (.int (nI i1)), some (.int (v5_3 + r_17)), some (.int (nI (j5 + 1)))]) dX12_unlikeBy_33 rfl (fx_up_1 _) (Nat.le_of_ble_eq_true rfl) rfl ?_
      refine aw_goto (tgt := 5) dX12_unlikeBy_36 (by decide) ?_
      refine aw_le ?_ (ih_5_1 (j5 + 1) (v5_3 + r_17)  (by omega))
      exact ⟨rfl, ⟨rfl, ⟨rfl, ⟨rfl, ⟨rfl, trivial⟩⟩⟩⟩⟩
  refine aw_le ?_ (loop_5_0 16 0 0  (by omega))
  exact ⟨rfl, ⟨rfl, ⟨rfl, ⟨rfl, ⟨rfl, trivial⟩⟩⟩⟩⟩

set_option maxHeartbeats 4000000 in
set_option maxRecDepth 100000 in
theorem r_unlike (l : Launch) (D : va_G) (b : Nat) (N : Nat) (V : Wd) (hN : 133 ≤ N) (cl : Nat) (hW : CR D b cl V) (n0 : Int32) (n1 : Int32)  : MI l D b 2 jX12_unlike [.ref (b + 100), .int n0, .int n1] N V 0 0 (fun r N9 V9 => N = N9 ∧ V = V9) := by
  have hJ0 : JR D b N cl [] V V := JR.rf hW
  refine mw_of (by decide) (by simp [Value.category]) (Nat.le_of_ble_eq_true rfl) ?_
  show AW l D b jX12_unlike (fx_rm 2 0 0) none (fx_MQ D b 0 0 (fx_qi (fun r N9 V9 => N = N9 ∧ V = V9))) 0 [some (.ref (b + 100)), some (.int n0), some (.int n1)] [] N V 0 0
  refine aw_aload_n dX12_unlike_0 rfl ?_
  refine aw_iload_n dX12_unlike_1 rfl ?_
  obtain ⟨ftoldPeople_4, ftoldDoors_4, fwasDoors_4, ffault_4, fopen_4, flines_4, fmeantSet_4, fopenedNow_4, fvainNow_4, flowNow_4, fhighNow_4, fisKept_4, tad_4, pl0_4, le0_4, nu0_4, coy_4, wag_4, say_4, e_4, hntad_4, hnpl0_4, hnle0_4, hnnu0_4, hncoy_4, hnwag_4, hnsay_4⟩ := JR.get hJ0 cm_100
  refine aw_callVi (J' := jX12_isTold) (As := [.int n0]) (st := []) dX12_unlike_2 tb_1351 ok_X12_isTold ⟨_, e_4⟩ (by omega) rfl rfl (r_isTold l D b N V hN cl hJ0.1 n0) rfl (Nat.le_of_ble_eq_true rfl) ⟨Nat.le_of_ble_eq_true rfl, Nat.le_of_ble_eq_true rfl, Nat.le_of_ble_eq_true rfl, Nat.le_of_ble_eq_true rfl⟩ (fun r_5 N_6 V_7 q_8 => ?_)
  obtain ⟨⟨z_3, h_2⟩, rfl, rfl⟩ := q_8
  refine aw_if_eq (tgt := 25) dX12_unlike_5 (by decide) (fun c_9 => ?_) (fun c_9 => ?_)
  · skip
    refine aw_iconst (v := (-1)) dX12_unlike_25 (by decide) ?_
    refine aw_ireti dX12_unlike_26 rfl (Nat.le_of_ble_eq_true rfl) (Nat.le_of_ble_eq_true rfl) ?_
    exact ⟨rfl, rfl⟩
  · skip
    obtain ⟨zn0, hzn0, rfl⟩ := h_2.resolve_left c_9
    refine aw_aload_n dX12_unlike_8 rfl ?_
    refine aw_iload_n dX12_unlike_9 rfl ?_
    refine aw_callVi (J' := jX12_isTold) (As := [.int n1]) (st := []) dX12_unlike_10 tb_1351 ok_X12_isTold ⟨_, e_4⟩ (by omega) rfl rfl (r_isTold l D b N V hN cl hJ0.1 n1) rfl (Nat.le_of_ble_eq_true rfl) ⟨Nat.le_of_ble_eq_true rfl, Nat.le_of_ble_eq_true rfl, Nat.le_of_ble_eq_true rfl, Nat.le_of_ble_eq_true rfl⟩ (fun r_13 N_14 V_15 q_16 => ?_)
    obtain ⟨⟨z_12, h_11⟩, rfl, rfl⟩ := q_16
    refine aw_if_eq (tgt := 25) dX12_unlike_13 (by decide) (fun c_17 => ?_) (fun c_17 => ?_)
    · skip
      refine aw_iconst (v := (-1)) dX12_unlike_25 (by decide) ?_
      refine aw_ireti dX12_unlike_26 rfl (Nat.le_of_ble_eq_true rfl) (Nat.le_of_ble_eq_true rfl) ?_
      exact ⟨rfl, rfl⟩
    · skip
      obtain ⟨zn1, hzn1, rfl⟩ := h_11.resolve_left c_17
      refine aw_aload_n dX12_unlike_16 rfl ?_
      refine aw_iload_n dX12_unlike_17 rfl ?_
      refine aw_iload_n dX12_unlike_18 rfl ?_
      refine aw_callVi (J' := jX12_unlikeBy) (As := [.int (nI zn0), .int (nI zn1)]) (st := []) dX12_unlike_19 tb_1520 ok_X12_unlikeBy ⟨_, e_4⟩ (by omega) rfl rfl (r_unlikeBy l D b N V hN cl hJ0.1 (nI zn0) ⟨zn0, by omega, rfl⟩ (nI zn1) ⟨zn1, by omega, rfl⟩) rfl (Nat.le_of_ble_eq_true rfl) ⟨Nat.le_of_ble_eq_true rfl, Nat.le_of_ble_eq_true rfl, Nat.le_of_ble_eq_true rfl, Nat.le_of_ble_eq_true rfl⟩ (fun r_19 N_20 V_21 q_22 => ?_)
      obtain ⟨rfl, rfl⟩ := q_22
      refine aw_goto (tgt := 26) dX12_unlike_22 (by decide) ?_
      refine aw_ireti dX12_unlike_26 rfl (Nat.le_of_ble_eq_true rfl) (Nat.le_of_ble_eq_true rfl) ?_
      exact ⟨rfl, rfl⟩

set_option maxHeartbeats 4000000 in
set_option maxRecDepth 100000 in
theorem r_mostLike (l : Launch) (D : va_G) (b : Nat) (N : Nat) (V : Wd) (hN : 133 ≤ N) (cl : Nat) (hW : CR D b cl V) (n0 : Int32)  : MI l D b 2 jX12_mostLike [.ref (b + 100), .int n0] N V 0 0 (fun r N9 V9 => N = N9 ∧ V = V9) := by
  have hJ0 : JR D b N cl [] V V := JR.rf hW
  refine mw_of (by decide) (by simp [Value.category]) (Nat.le_of_ble_eq_true rfl) ?_
  show AW l D b jX12_mostLike (fx_rm 2 0 0) none (fx_MQ D b 0 0 (fx_qi (fun r N9 V9 => N = N9 ∧ V = V9))) 0 [some (.ref (b + 100)), some (.int n0), none, none] [] N V 0 0
  refine aw_aload_n dX12_mostLike_0 rfl ?_
  refine aw_iload_n dX12_mostLike_1 rfl ?_
  obtain ⟨ftoldPeople_4, ftoldDoors_4, fwasDoors_4, ffault_4, fopen_4, flines_4, fmeantSet_4, fopenedNow_4, fvainNow_4, flowNow_4, fhighNow_4, fisKept_4, tad_4, pl0_4, le0_4, nu0_4, coy_4, wag_4, say_4, e_4, hntad_4, hnpl0_4, hnle0_4, hnnu0_4, hncoy_4, hnwag_4, hnsay_4⟩ := JR.get hJ0 cm_100
  refine aw_callVi (J' := jX12_isTold) (As := [.int n0]) (st := []) dX12_mostLike_2 tb_1351 ok_X12_isTold ⟨_, e_4⟩ (by omega) rfl rfl (r_isTold l D b N V hN cl hJ0.1 n0) rfl (Nat.le_of_ble_eq_true rfl) ⟨Nat.le_of_ble_eq_true rfl, Nat.le_of_ble_eq_true rfl, Nat.le_of_ble_eq_true rfl, Nat.le_of_ble_eq_true rfl⟩ (fun r_5 N_6 V_7 q_8 => ?_)
  obtain ⟨⟨z_3, h_2⟩, rfl, rfl⟩ := q_8
  refine aw_if_ne (tgt := 10) dX12_mostLike_5 (by decide) (fun c_9 => ?_) (fun c_9 => ?_)
  · skip
    obtain ⟨zn0, hzn0, rfl⟩ := h_2.resolve_left c_9
    refine aw_bipush (v := (-2)) dX12_mostLike_10 (by decide) ?_
    refine aw_istore_n (ls' := [some (.ref (b + 100)), some (.int (nI zn0)), some (.int (-2)), none]) dX12_mostLike_12 (Nat.le_of_ble_eq_true rfl) rfl ?_
    refine aw_iconst (v := 0) dX12_mostLike_13 (by decide) ?_
    refine aw_istore_n (ls' := [some (.ref (b + 100)), some (.int (nI zn0)), some (.int (-2)), some (.int 0)]) dX12_mostLike_14 (Nat.le_of_ble_eq_true rfl) rfl ?_
    have loop_15_9 : ∀ (g_15 : Nat), ∀ (j15 : Nat) (v15_2 : Int32), j15 + g_15 = 12 → (v15_2 = -2 ∨ ∃ k : Nat, k < 12 ∧ v15_2 = nI k) → AW l D b jX12_mostLike (fx_rm 2 0 0) none (fx_MQ D b 0 0 (fx_qi (fun r N9 V9 => N = N9 ∧ V = V9))) 15 [some (.ref (b + 100)), some (.int (nI zn0)), some (.int v15_2), some (.int (nI j15))] [] N V 0 0 := by
      intro g_15
      induction g_15 with
      | zero =>
        intro j15 v15_2 hj15 i15_0
        obtain rfl : j15 = 12 := by omega
        refine aw_iload_n dX12_mostLike_15 rfl ?_
        refine aw_bipush (v := 12) dX12_mostLike_16 (by decide) ?_
        refine aw_icmp_ge (tgt := 63) dX12_mostLike_18 (by decide) (fun c_12 => ?_) (fun c_12 => ?_)
        rotate_left
        · exact absurd (nI_le (a := 12) (b := 12) (Nat.le_refl _) (by omega)) c_12
        refine aw_iload_n dX12_mostLike_63 rfl ?_
        refine aw_ireti dX12_mostLike_64 rfl (Nat.le_of_ble_eq_true rfl) (Nat.le_of_ble_eq_true rfl) ?_
        exact ⟨rfl, rfl⟩
      | succ g_15 ih_15_10 =>
        intro j15 v15_2 hj15 i15_0
        have hlj15 : j15 < 12 := by omega
        refine aw_iload_n dX12_mostLike_15 rfl ?_
        refine aw_bipush (v := 12) dX12_mostLike_16 (by decide) ?_
        refine aw_icmp_ge (tgt := 63) dX12_mostLike_18 (by decide) (fun c_13 => ?_) (fun c_13 => ?_)
        · exact absurd c_13 (nI_ge (a := j15) (b := 12) (by omega) (by omega))
        refine aw_iload_n dX12_mostLike_21 rfl ?_
        refine aw_iload_n dX12_mostLike_22 rfl ?_
        refine aw_icmp_eq (tgt := 57) dX12_mostLike_23 (by decide) (fun c_14 => ?_) (fun c_14 => ?_)
        · skip
          have nc_14 : j15 = zn0 := (nI_eq (a := j15) (b := zn0) (by omega) (by omega)).mp c_14
          refine aw_iinc (v := (nI (j15 + 1))) (ls' := [some (.ref (b + 100)), some (.int (nI zn0)), some (.int v15_2), some (.int (nI (j15 + 1)))]) dX12_mostLike_57 rfl (fx_up_1 _) (Nat.le_of_ble_eq_true rfl) rfl ?_
          refine aw_goto (tgt := 15) dX12_mostLike_60 (by decide) ?_
          refine aw_le ?_ (ih_15_10 (j15 + 1) v15_2  (by omega) (i15_0))
          exact ⟨rfl, ⟨rfl, ⟨rfl, ⟨rfl, trivial⟩⟩⟩⟩
        · skip
          have nc_14 : ¬ (j15 = zn0) := fun z => c_14 ((nI_eq (a := j15) (b := zn0) (by omega) (by omega)).mpr z)
          refine aw_aload_n dX12_mostLike_26 rfl ?_
          refine aw_iload_n dX12_mostLike_27 rfl ?_
          refine aw_callVi (J' := jX12_isTold) (As := [.int (nI j15)]) (st := []) dX12_mostLike_28 tb_1351 ok_X12_isTold ⟨_, e_4⟩ (by omega) rfl rfl (r_isTold l D b N V hN cl hJ0.1 (nI j15)) rfl (Nat.le_of_ble_eq_true rfl) ⟨Nat.le_of_ble_eq_true rfl, Nat.le_of_ble_eq_true rfl, Nat.le_of_ble_eq_true rfl, Nat.le_of_ble_eq_true rfl⟩ (fun r_18 N_19 V_20 q_21 => ?_)
          obtain ⟨⟨z_17, h_16⟩, rfl, rfl⟩ := q_21
          refine aw_if_eq (tgt := 57) dX12_mostLike_31 (by decide) (fun c_22 => ?_) (fun c_22 => ?_)
          · skip
            refine aw_iinc (v := (nI (j15 + 1))) (ls' := [some (.ref (b + 100)), some (.int (nI zn0)), some (.int v15_2), some (.int (nI (j15 + 1)))]) dX12_mostLike_57 rfl (fx_up_1 _) (Nat.le_of_ble_eq_true rfl) rfl ?_
            refine aw_goto (tgt := 15) dX12_mostLike_60 (by decide) ?_
            refine aw_le ?_ (ih_15_10 (j15 + 1) v15_2  (by omega) (i15_0))
            exact ⟨rfl, ⟨rfl, ⟨rfl, ⟨rfl, trivial⟩⟩⟩⟩
          · skip
            refine aw_iload_n dX12_mostLike_34 rfl ?_
            refine aw_bipush (v := (-2)) dX12_mostLike_35 (by decide) ?_
            refine aw_icmp_eq (tgt := 55) dX12_mostLike_37 (by decide) (fun c_23 => ?_) (fun c_23 => ?_)
            · skip
              refine aw_iload_n dX12_mostLike_55 rfl ?_
              refine aw_istore_n (ls' := [some (.ref (b + 100)), some (.int (nI zn0)), some (.int (nI j15)), some (.int (nI j15))]) dX12_mostLike_56 (Nat.le_of_ble_eq_true rfl) rfl ?_
              refine aw_iinc (v := (nI (j15 + 1))) (ls' := [some (.ref (b + 100)), some (.int (nI zn0)), some (.int (nI j15)), some (.int (nI (j15 + 1)))]) dX12_mostLike_57 rfl (fx_up_1 _) (Nat.le_of_ble_eq_true rfl) rfl ?_
              refine aw_goto (tgt := 15) dX12_mostLike_60 (by decide) ?_
              refine aw_le ?_ (ih_15_10 (j15 + 1) (nI j15)  (by omega) (Or.inr ⟨j15, by omega, rfl⟩))
              exact ⟨rfl, ⟨rfl, ⟨rfl, ⟨rfl, trivial⟩⟩⟩⟩
            · skip
              refine aw_aload_n dX12_mostLike_40 rfl ?_
              refine aw_iload_n dX12_mostLike_41 rfl ?_
              refine aw_iload_n dX12_mostLike_42 rfl ?_
              refine aw_callVi (J' := jX12_unlikeBy) (As := [.int (nI zn0), .int (nI j15)]) (st := []) dX12_mostLike_43 tb_1520 ok_X12_unlikeBy ⟨_, e_4⟩ (by omega) rfl rfl (r_unlikeBy l D b N V hN cl hJ0.1 (nI zn0) ⟨zn0, by omega, rfl⟩ (nI j15) ⟨j15, by omega, rfl⟩) rfl (Nat.le_of_ble_eq_true rfl) ⟨Nat.le_of_ble_eq_true rfl, Nat.le_of_ble_eq_true rfl, Nat.le_of_ble_eq_true rfl, Nat.le_of_ble_eq_true rfl⟩ (fun r_25 N_26 V_27 q_28 => ?_)
              obtain ⟨rfl, rfl⟩ := q_28
              refine aw_aload_n dX12_mostLike_46 rfl ?_
              refine aw_iload_n dX12_mostLike_47 rfl ?_
              refine aw_iload_n dX12_mostLike_48 rfl ?_
              refine aw_callVi (J' := jX12_unlikeBy) (As := [.int (nI zn0), .int v15_2]) (st := [.int r_25]) dX12_mostLike_49 tb_1520 ok_X12_unlikeBy ⟨_, e_4⟩ (by omega) rfl rfl (r_unlikeBy l D b N V hN cl hJ0.1 (nI zn0) ⟨zn0, by omega, rfl⟩ v15_2 (i15_0.resolve_left c_23)) rfl (Nat.le_of_ble_eq_true rfl) ⟨Nat.le_of_ble_eq_true rfl, Nat.le_of_ble_eq_true rfl, Nat.le_of_ble_eq_true rfl, Nat.le_of_ble_eq_true rfl⟩ (fun r_30 N_31 V_32 q_33 => ?_)
              obtain ⟨rfl, rfl⟩ := q_33
              refine aw_icmp_ge (tgt := 57) dX12_mostLike_52 (by decide) (fun c_34 => ?_) (fun c_34 => ?_)
              · skip
                refine aw_iinc (v := (nI (j15 + 1))) (ls' := [some (.ref (b + 100)), some (.int (nI zn0)), some (.int v15_2), some (.int (nI (j15 + 1)))]) dX12_mostLike_57 rfl (fx_up_1 _) (Nat.le_of_ble_eq_true rfl) rfl ?_
                refine aw_goto (tgt := 15) dX12_mostLike_60 (by decide) ?_
                refine aw_le ?_ (ih_15_10 (j15 + 1) v15_2  (by omega) (i15_0))
                exact ⟨rfl, ⟨rfl, ⟨rfl, ⟨rfl, trivial⟩⟩⟩⟩
              · skip
                refine aw_iload_n dX12_mostLike_55 rfl ?_
                refine aw_istore_n (ls' := [some (.ref (b + 100)), some (.int (nI zn0)), some (.int (nI j15)), some (.int (nI j15))]) dX12_mostLike_56 (Nat.le_of_ble_eq_true rfl) rfl ?_
                refine aw_iinc (v := (nI (j15 + 1))) (ls' := [some (.ref (b + 100)), some (.int (nI zn0)), some (.int (nI j15)), some (.int (nI (j15 + 1)))]) dX12_mostLike_57 rfl (fx_up_1 _) (Nat.le_of_ble_eq_true rfl) rfl ?_
                refine aw_goto (tgt := 15) dX12_mostLike_60 (by decide) ?_
                refine aw_le ?_ (ih_15_10 (j15 + 1) (nI j15)  (by omega) (Or.inr ⟨j15, by omega, rfl⟩))
                exact ⟨rfl, ⟨rfl, ⟨rfl, ⟨rfl, trivial⟩⟩⟩⟩
    refine aw_le ?_ (loop_15_9 12 0 (-2)  (by omega) (Or.inl rfl))
    exact ⟨rfl, ⟨rfl, ⟨rfl, ⟨rfl, trivial⟩⟩⟩⟩
  · skip
    refine aw_iconst (v := (-1)) dX12_mostLike_8 (by decide) ?_
    refine aw_ireti dX12_mostLike_9 rfl (Nat.le_of_ble_eq_true rfl) (Nat.le_of_ble_eq_true rfl) ?_
    exact ⟨rfl, rfl⟩

set_option maxHeartbeats 4000000 in
set_option maxRecDepth 100000 in
theorem r_circleOf (l : Launch) (D : va_G) (b : Nat) (N : Nat) (V : Wd) (hN : 133 ≤ N) (cl : Nat) (hW : CR D b cl V) (n0 : Int32) (hn0 : ∃ j : Nat, j < 12 ∧ n0 = nI j) (n1 : Int32)  : MI l D b 2 jX12_circleOf [.ref (b + 100), .int n0, .int n1] N V 0 0 (fun r N9 V9 => N = N9 ∧ V = V9) := by
  have hJ0 : JR D b N cl [] V V := JR.rf hW
  obtain ⟨i0, hi0, rfl⟩ := hn0
  refine mw_of (by decide) (by simp [Value.category]) (Nat.le_of_ble_eq_true rfl) ?_
  show AW l D b jX12_circleOf (fx_rm 2 0 0) none (fx_MQ D b 0 0 (fx_qi (fun r N9 V9 => N = N9 ∧ V = V9))) 0 [some (.ref (b + 100)), some (.int (nI i0)), some (.int n1), none, none, none, none] [] N V 0 0
  refine aw_iconst (v := 1) dX12_circleOf_0 (by decide) ?_
  refine aw_iload_n dX12_circleOf_1 rfl ?_
  refine aw_ishl dX12_circleOf_2 ?_
  refine aw_eqi (y := (nI (2 ^ i0))) (fx_shl12 i0 (by omega)) ?_
  refine aw_istore_n (ls' := [some (.ref (b + 100)), some (.int (nI i0)), some (.int n1), some (.int (nI (2 ^ i0))), none, none, none]) dX12_circleOf_3 (Nat.le_of_ble_eq_true rfl) rfl ?_
  refine aw_iconst (v := 0) dX12_circleOf_4 (by decide) ?_
  refine aw_istore (ls' := [some (.ref (b + 100)), some (.int (nI i0)), some (.int n1), some (.int (nI (2 ^ i0))), some (.int 0), none, none]) dX12_circleOf_5 (Nat.le_of_ble_eq_true rfl) rfl ?_
  have ml_7_1 : ∀ (m : Nat) (s7 : Nat) (v7_4 : Int32), m = 2 * (4096 - s7) + (if v7_4 = nI s7 then 0 else 1) → (s7 < 4096) → AW l D b jX12_circleOf (fx_rm 2 0 0) none (fx_MQ D b 0 0 (fx_qi (fun r N9 V9 => N = N9 ∧ V = V9))) 7 [some (.ref (b + 100)), some (.int (nI i0)), some (.int n1), some (.int (nI s7)), some (.int v7_4), none, none] [] N V 0 0 := by
    intro m; refine Nat.strongRecOn m ?_
    intro m mih_7_1 s7 v7_4 hm7 i7_0
    refine aw_iload_n dX12_circleOf_7 rfl ?_
    refine aw_iload dX12_circleOf_8 rfl ?_
    refine aw_icmp_eq (tgt := 89) dX12_circleOf_10 (by decide) (fun c_2 => ?_) (fun c_2 => ?_)
    · skip
      refine aw_iload_n dX12_circleOf_89 rfl ?_
      refine aw_ireti dX12_circleOf_90 rfl (Nat.le_of_ble_eq_true rfl) (Nat.le_of_ble_eq_true rfl) ?_
      exact ⟨rfl, rfl⟩
    · skip
      refine aw_iload_n dX12_circleOf_13 rfl ?_
      refine aw_istore (ls' := [some (.ref (b + 100)), some (.int (nI i0)), some (.int n1), some (.int (nI s7)), some (.int (nI s7)), none, none]) dX12_circleOf_14 (Nat.le_of_ble_eq_true rfl) rfl ?_
      refine aw_iconst (v := 0) dX12_circleOf_16 (by decide) ?_
      refine aw_istore (ls' := [some (.ref (b + 100)), some (.int (nI i0)), some (.int n1), some (.int (nI s7)), some (.int (nI s7)), some (.int 0), none]) dX12_circleOf_17 (Nat.le_of_ble_eq_true rfl) rfl ?_
      have ml_19_3 : ∀ (m : Nat) (p19 : Nat) (s19 : Nat), m = 12 - p19 → (p19 ≤ 12) → (s19 < 4096) → (s7 ≤ s19) → AW l D b jX12_circleOf (fx_rm 2 0 0) none (fx_MQ D b 0 0 (fx_qi (fun r N9 V9 => N = N9 ∧ V = V9))) 19 [some (.ref (b + 100)), some (.int (nI i0)), some (.int n1), some (.int (nI s19)), some (.int (nI s7)), some (.int (nI p19)), none] [] N V 0 0 := by
        intro m; refine Nat.strongRecOn m ?_
        intro m mih_19_3 p19 s19 hm19 i19_0 i19_1 i19_2
        refine aw_iload dX12_circleOf_19 rfl ?_
        refine aw_bipush (v := 12) dX12_circleOf_21 (by decide) ?_
        refine aw_icmp_ge (tgt := 86) dX12_circleOf_23 (by decide) (fun c_4 => ?_) (fun c_4 => ?_)
        · skip
          have nc_4 : 12 ≤ p19 := (nI_leI (a := 12) (b := p19) (by omega) (by omega)).mp c_4
          refine aw_goto (tgt := 7) dX12_circleOf_86 (by decide) ?_
          refine aw_le ?_ (mih_7_1 _ (by rw [hm7]; exact fx_fix (by first | omega | exact Nat.le_trans (by omega) Nat.left_le_or) (by first | omega | exact fx_pow12 (by omega) | exact or_lt (by omega) (by first | omega | exact fx_pow12 (by omega))) c_2) s19 (nI s7) rfl ((by first | omega | exact fx_pow12 (by omega) | exact or_lt (by omega) (by first | omega | exact fx_pow12 (by omega)))))
          exact ⟨rfl, ⟨rfl, ⟨rfl, ⟨rfl, ⟨rfl, trivial⟩⟩⟩⟩⟩
        · skip
          have nc_4 : ¬ (12 ≤ p19) := fun z => c_4 ((nI_leI (a := 12) (b := p19) (by omega) (by omega)).mpr z)
          refine aw_iconst (v := 0) dX12_circleOf_26 (by decide) ?_
          refine aw_istore (ls' := [some (.ref (b + 100)), some (.int (nI i0)), some (.int n1), some (.int (nI s19)), some (.int (nI s7)), some (.int (nI p19)), some (.int 0)]) dX12_circleOf_27 (Nat.le_of_ble_eq_true rfl) rfl ?_
          have ml_29_5 : ∀ (m : Nat) (p29 : Nat) (s29 : Nat), m = 12 - p29 → (p29 ≤ 12) → (s29 < 4096) → (s19 ≤ s29) → AW l D b jX12_circleOf (fx_rm 2 0 0) none (fx_MQ D b 0 0 (fx_qi (fun r N9 V9 => N = N9 ∧ V = V9))) 29 [some (.ref (b + 100)), some (.int (nI i0)), some (.int n1), some (.int (nI s29)), some (.int (nI s7)), some (.int (nI p19)), some (.int (nI p29))] [] N V 0 0 := by
            intro m; refine Nat.strongRecOn m ?_
            intro m mih_29_5 p29 s29 hm29 i29_0 i29_1 i29_2
            refine aw_iload dX12_circleOf_29 rfl ?_
            refine aw_bipush (v := 12) dX12_circleOf_31 (by decide) ?_
            refine aw_icmp_ge (tgt := 80) dX12_circleOf_33 (by decide) (fun c_6 => ?_) (fun c_6 => ?_)
            · skip
              have nc_6 : 12 ≤ p29 := (nI_leI (a := 12) (b := p29) (by omega) (by omega)).mp c_6
              refine aw_iinc (v := (nI (p19 + 1))) (ls' := [some (.ref (b + 100)), some (.int (nI i0)), some (.int n1), some (.int (nI s29)), some (.int (nI s7)), some (.int (nI (p19 + 1))), some (.int (nI p29))]) dX12_circleOf_80 rfl (fx_up_1 _) (Nat.le_of_ble_eq_true rfl) rfl ?_
              refine aw_goto (tgt := 19) dX12_circleOf_83 (by decide) ?_
              refine aw_le ?_ (mih_19_3 _ (by omega) (p19 + 1) s29 rfl (by omega) ((by first | omega | exact fx_pow12 (by omega) | exact or_lt (by omega) (by first | omega | exact fx_pow12 (by omega)))) ((by first | omega | exact Nat.le_trans (by omega) Nat.left_le_or)))
              exact ⟨rfl, ⟨rfl, ⟨rfl, ⟨rfl, ⟨rfl, ⟨rfl, trivial⟩⟩⟩⟩⟩⟩
            · skip
              have nc_6 : ¬ (12 ≤ p29) := fun z => c_6 ((nI_leI (a := 12) (b := p29) (by omega) (by omega)).mpr z)
              refine aw_iload dX12_circleOf_36 rfl ?_
              refine aw_iload dX12_circleOf_38 rfl ?_
              refine aw_callSi (J' := jX12_has) (As := [.int (nI s7), .int (nI p19)]) (st := []) dX12_circleOf_40 tb_1315 ok_X12_has rfl (r_has l D b N V hN cl hJ0.1 (nI s7) (nI p19)) rfl (Nat.le_of_ble_eq_true rfl) ⟨Nat.le_of_ble_eq_true rfl, Nat.le_of_ble_eq_true rfl, Nat.le_of_ble_eq_true rfl, Nat.le_of_ble_eq_true rfl⟩ (fun r_9 N_10 V_11 q_12 => ?_)
              obtain ⟨h_8, rfl, rfl⟩ := q_12
              refine aw_if_eq (tgt := 80) dX12_circleOf_43 (by decide) (fun c_13 => ?_) (fun c_13 => ?_)
              · skip
                refine aw_iinc (v := (nI (p19 + 1))) (ls' := [some (.ref (b + 100)), some (.int (nI i0)), some (.int n1), some (.int (nI s29)), some (.int (nI s7)), some (.int (nI (p19 + 1))), some (.int (nI p29))]) dX12_circleOf_80 rfl (fx_up_1 _) (Nat.le_of_ble_eq_true rfl) rfl ?_
                refine aw_goto (tgt := 19) dX12_circleOf_83 (by decide) ?_
                refine aw_le ?_ (mih_19_3 _ (by omega) (p19 + 1) s29 rfl (by omega) ((by first | omega | exact fx_pow12 (by omega) | exact or_lt (by omega) (by first | omega | exact fx_pow12 (by omega)))) ((by first | omega | exact Nat.le_trans (by omega) Nat.left_le_or)))
                exact ⟨rfl, ⟨rfl, ⟨rfl, ⟨rfl, ⟨rfl, ⟨rfl, trivial⟩⟩⟩⟩⟩⟩
              · skip
                refine aw_aload_n dX12_circleOf_46 rfl ?_
                refine aw_iload dX12_circleOf_47 rfl ?_
                obtain ⟨ftoldPeople_17, ftoldDoors_17, fwasDoors_17, ffault_17, fopen_17, flines_17, fmeantSet_17, fopenedNow_17, fvainNow_17, flowNow_17, fhighNow_17, fisKept_17, tad_17, pl0_17, le0_17, nu0_17, coy_17, wag_17, say_17, e_17, hntad_17, hnpl0_17, hnle0_17, hnnu0_17, hncoy_17, hnwag_17, hnsay_17⟩ := JR.get hJ0 cm_100
                refine aw_callVi (J' := jX12_isTold) (As := [.int (nI p29)]) (st := []) dX12_circleOf_49 tb_1351 ok_X12_isTold ⟨_, e_17⟩ (by omega) rfl rfl (r_isTold l D b N V hN cl hJ0.1 (nI p29)) rfl (Nat.le_of_ble_eq_true rfl) ⟨Nat.le_of_ble_eq_true rfl, Nat.le_of_ble_eq_true rfl, Nat.le_of_ble_eq_true rfl, Nat.le_of_ble_eq_true rfl⟩ (fun r_18 N_19 V_20 q_21 => ?_)
                obtain ⟨⟨z_16, h_15⟩, rfl, rfl⟩ := q_21
                refine aw_if_eq (tgt := 74) dX12_circleOf_52 (by decide) (fun c_22 => ?_) (fun c_22 => ?_)
                · skip
                  refine aw_iinc (v := (nI (p29 + 1))) (ls' := [some (.ref (b + 100)), some (.int (nI i0)), some (.int n1), some (.int (nI s29)), some (.int (nI s7)), some (.int (nI p19)), some (.int (nI (p29 + 1)))]) dX12_circleOf_74 rfl (fx_up_1 _) (Nat.le_of_ble_eq_true rfl) rfl ?_
                  refine aw_goto (tgt := 29) dX12_circleOf_77 (by decide) ?_
                  refine aw_le ?_ (mih_29_5 _ (by omega) (p29 + 1) s29 rfl (by omega) ((by first | omega | exact fx_pow12 (by omega) | exact or_lt (by omega) (by first | omega | exact fx_pow12 (by omega)))) ((by first | omega | exact Nat.le_trans (by omega) Nat.left_le_or)))
                  exact ⟨rfl, ⟨rfl, ⟨rfl, ⟨rfl, ⟨rfl, ⟨rfl, ⟨rfl, trivial⟩⟩⟩⟩⟩⟩⟩
                · skip
                  refine aw_aload_n dX12_circleOf_55 rfl ?_
                  refine aw_iload dX12_circleOf_56 rfl ?_
                  refine aw_iload dX12_circleOf_58 rfl ?_
                  refine aw_callVi (J' := jX12_unlikeBy) (As := [.int (nI p19), .int (nI p29)]) (st := []) dX12_circleOf_60 tb_1520 ok_X12_unlikeBy ⟨_, e_17⟩ (by omega) rfl rfl (r_unlikeBy l D b N V hN cl hJ0.1 (nI p19) ⟨p19, by omega, rfl⟩ (nI p29) ⟨p29, by omega, rfl⟩) rfl (Nat.le_of_ble_eq_true rfl) ⟨Nat.le_of_ble_eq_true rfl, Nat.le_of_ble_eq_true rfl, Nat.le_of_ble_eq_true rfl, Nat.le_of_ble_eq_true rfl⟩ (fun r_24 N_25 V_26 q_27 => ?_)
                  obtain ⟨rfl, rfl⟩ := q_27
                  refine aw_iload_n dX12_circleOf_63 rfl ?_
                  refine aw_icmp_gt (tgt := 74) dX12_circleOf_64 (by decide) (fun c_28 => ?_) (fun c_28 => ?_)
                  · skip
                    refine aw_iinc (v := (nI (p29 + 1))) (ls' := [some (.ref (b + 100)), some (.int (nI i0)), some (.int n1), some (.int (nI s29)), some (.int (nI s7)), some (.int (nI p19)), some (.int (nI (p29 + 1)))]) dX12_circleOf_74 rfl (fx_up_1 _) (Nat.le_of_ble_eq_true rfl) rfl ?_
                    refine aw_goto (tgt := 29) dX12_circleOf_77 (by decide) ?_
                    refine aw_le ?_ (mih_29_5 _ (by omega) (p29 + 1) s29 rfl (by omega) ((by first | omega | exact fx_pow12 (by omega) | exact or_lt (by omega) (by first | omega | exact fx_pow12 (by omega)))) ((by first | omega | exact Nat.le_trans (by omega) Nat.left_le_or)))
                    exact ⟨rfl, ⟨rfl, ⟨rfl, ⟨rfl, ⟨rfl, ⟨rfl, ⟨rfl, trivial⟩⟩⟩⟩⟩⟩⟩
                  · skip
                    refine aw_iload_n dX12_circleOf_67 rfl ?_
                    refine aw_iconst (v := 1) dX12_circleOf_68 (by decide) ?_
                    refine aw_iload dX12_circleOf_69 rfl ?_
                    refine aw_ishl dX12_circleOf_71 ?_
                    refine aw_eqi (y := (nI (2 ^ p29))) (fx_shl12 p29 (by omega)) ?_
                    refine aw_ior dX12_circleOf_72 ?_
                    refine aw_eqi (y := (nI (s29 ||| (2 ^ p29)))) (fx_orI _ _) ?_
                    refine aw_istore_n (ls' := [some (.ref (b + 100)), some (.int (nI i0)), some (.int n1), some (.int (nI (s29 ||| (2 ^ p29)))), some (.int (nI s7)), some (.int (nI p19)), some (.int (nI p29))]) dX12_circleOf_73 (Nat.le_of_ble_eq_true rfl) rfl ?_
                    refine aw_iinc (v := (nI (p29 + 1))) (ls' := [some (.ref (b + 100)), some (.int (nI i0)), some (.int n1), some (.int (nI (s29 ||| (2 ^ p29)))), some (.int (nI s7)), some (.int (nI p19)), some (.int (nI (p29 + 1)))]) dX12_circleOf_74 rfl (fx_up_1 _) (Nat.le_of_ble_eq_true rfl) rfl ?_
                    refine aw_goto (tgt := 29) dX12_circleOf_77 (by decide) ?_
                    refine aw_le ?_ (mih_29_5 _ (by omega) (p29 + 1) (s29 ||| (2 ^ p29)) rfl (by omega) ((by first | omega | exact fx_pow12 (by omega) | exact or_lt (by omega) (by first | omega | exact fx_pow12 (by omega)))) ((by first | omega | exact Nat.le_trans (by omega) Nat.left_le_or)))
                    exact ⟨rfl, ⟨rfl, ⟨rfl, ⟨rfl, ⟨rfl, ⟨rfl, ⟨rfl, trivial⟩⟩⟩⟩⟩⟩⟩
          refine aw_le ?_ (ml_29_5 _ 0 s19 rfl (by omega) ((by first | omega | exact fx_pow12 (by omega) | exact or_lt (by omega) (by first | omega | exact fx_pow12 (by omega)))) ((by first | omega | exact Nat.le_trans (by omega) Nat.left_le_or)))
          exact ⟨rfl, ⟨rfl, ⟨rfl, ⟨rfl, ⟨rfl, ⟨rfl, ⟨rfl, trivial⟩⟩⟩⟩⟩⟩⟩
      refine aw_le ?_ (ml_19_3 _ 0 s7 rfl (by omega) ((by first | omega | exact fx_pow12 (by omega) | exact or_lt (by omega) (by first | omega | exact fx_pow12 (by omega)))) ((by first | omega | exact Nat.le_trans (by omega) Nat.left_le_or)))
      exact ⟨rfl, ⟨rfl, ⟨rfl, ⟨rfl, ⟨rfl, ⟨rfl, trivial⟩⟩⟩⟩⟩⟩
  refine aw_le ?_ (ml_7_1 _ (2 ^ i0) 0 rfl ((by first | omega | exact fx_pow12 (by omega) | exact or_lt (by omega) (by first | omega | exact fx_pow12 (by omega)))))
  exact ⟨rfl, ⟨rfl, ⟨rfl, ⟨rfl, ⟨rfl, trivial⟩⟩⟩⟩⟩

set_option maxHeartbeats 4000000 in
set_option maxRecDepth 100000 in
theorem r_circles (l : Launch) (D : va_G) (b : Nat) (N : Nat) (V : Wd) (hN : 133 ≤ N) (cl : Nat) (hW : CR D b cl V) (n0 : Int32) (n1 : Int32)  : MI l D b 3 jX12_circles [.ref (b + 100), .int n0, .int n1] N V 0 0 (fun r N9 V9 => N = N9 ∧ V = V9) := by
  have hJ0 : JR D b N cl [] V V := JR.rf hW
  refine mw_of (by decide) (by simp [Value.category]) (Nat.le_of_ble_eq_true rfl) ?_
  show AW l D b jX12_circles (fx_rm 3 0 0) none (fx_MQ D b 0 0 (fx_qi (fun r N9 V9 => N = N9 ∧ V = V9))) 0 [some (.ref (b + 100)), some (.int n0), some (.int n1), none, none, none] [] N V 0 0
  refine aw_iload_n dX12_circles_0 rfl ?_
  refine aw_iconst (v := 0) dX12_circles_1 (by decide) ?_
  refine aw_sipush (v := 1584) dX12_circles_2 (by decide) ?_
  refine aw_callSi (J' := jX12_in) (As := [.int n0, .int 0, .int 1584]) (st := []) dX12_circles_5 tb_1209 ok_X12_in rfl (r_in l D b N V hN cl hJ0.1 n0 0 1584) rfl (Nat.le_of_ble_eq_true rfl) ⟨Nat.le_of_ble_eq_true rfl, Nat.le_of_ble_eq_true rfl, Nat.le_of_ble_eq_true rfl, Nat.le_of_ble_eq_true rfl⟩ (fun r_4 N_5 V_6 q_7 => ?_)
  obtain ⟨⟨z_3, h_2⟩, rfl, rfl⟩ := q_7
  refine aw_if_eq (tgt := 25) dX12_circles_8 (by decide) (fun c_8 => ?_) (fun c_8 => ?_)
  · skip
    refine aw_iconst (v := (-1)) dX12_circles_25 (by decide) ?_
    refine aw_ireti dX12_circles_26 rfl (Nat.le_of_ble_eq_true rfl) (Nat.le_of_ble_eq_true rfl) ?_
    exact ⟨rfl, rfl⟩
  · skip
    obtain ⟨zn0, h0zn0, hzn0, rfl⟩ := in_nat (a := 0) (b := 1584) (by decide) (h_2.resolve_left c_8)
    refine aw_iload_n dX12_circles_11 rfl ?_
    refine aw_bipush (v := 100) dX12_circles_12 (by decide) ?_
    refine aw_icmp_eq (tgt := 27) dX12_circles_14 (by decide) (fun c_9 => ?_) (fun c_9 => ?_)
    · skip
      refine aw_iload_n dX12_circles_27 rfl ?_
      refine aw_bipush (v := 100) dX12_circles_28 (by decide) ?_
      refine aw_icmp_eq (tgt := 40) dX12_circles_30 (by decide) (fun c_10 => ?_) (fun c_10 => ?_)
      rotate_left
      · exact absurd c_9 c_10
      refine aw_iconst (v := 0) dX12_circles_40 (by decide) ?_
      refine aw_istore_n (ls' := [some (.ref (b + 100)), some (.int (nI zn0)), some (.int n1), some (.int 0), none, none]) dX12_circles_41 (Nat.le_of_ble_eq_true rfl) rfl ?_
      refine aw_iconst (v := 0) dX12_circles_42 (by decide) ?_
      refine aw_istore (ls' := [some (.ref (b + 100)), some (.int (nI zn0)), some (.int n1), some (.int 0), some (.int 0), none]) dX12_circles_43 (Nat.le_of_ble_eq_true rfl) rfl ?_
      refine aw_iconst (v := 0) dX12_circles_45 (by decide) ?_
      refine aw_istore (ls' := [some (.ref (b + 100)), some (.int (nI zn0)), some (.int n1), some (.int 0), some (.int 0), some (.int 0)]) dX12_circles_46 (Nat.le_of_ble_eq_true rfl) rfl ?_
      have loop_48_10 : ∀ (g_48 : Nat), ∀ (j48 : Nat) (v48_3 : Int32) (v48_4 : Int32), j48 + g_48 = 12 → AW l D b jX12_circles (fx_rm 3 0 0) none (fx_MQ D b 0 0 (fx_qi (fun r N9 V9 => N = N9 ∧ V = V9))) 48 [some (.ref (b + 100)), some (.int (nI zn0)), some (.int n1), some (.int v48_3), some (.int v48_4), some (.int (nI j48))] [] N V 0 0 := by
        intro g_48
        induction g_48 with
        | zero =>
          intro j48 v48_3 v48_4 hj48
          obtain rfl : j48 = 12 := by omega
          refine aw_iload dX12_circles_48 rfl ?_
          refine aw_bipush (v := 12) dX12_circles_50 (by decide) ?_
          refine aw_icmp_ge (tgt := 99) dX12_circles_52 (by decide) (fun c_13 => ?_) (fun c_13 => ?_)
          rotate_left
          · exact absurd (nI_le (a := 12) (b := 12) (Nat.le_refl _) (by omega)) c_13
          refine aw_iload_n dX12_circles_99 rfl ?_
          refine aw_ireti dX12_circles_100 rfl (Nat.le_of_ble_eq_true rfl) (Nat.le_of_ble_eq_true rfl) ?_
          exact ⟨rfl, rfl⟩
        | succ g_48 ih_48_11 =>
          intro j48 v48_3 v48_4 hj48
          have hlj48 : j48 < 12 := by omega
          refine aw_iload dX12_circles_48 rfl ?_
          refine aw_bipush (v := 12) dX12_circles_50 (by decide) ?_
          refine aw_icmp_ge (tgt := 99) dX12_circles_52 (by decide) (fun c_14 => ?_) (fun c_14 => ?_)
          · exact absurd c_14 (nI_ge (a := j48) (b := 12) (by omega) (by omega))
          refine aw_aload_n dX12_circles_55 rfl ?_
          refine aw_iload dX12_circles_56 rfl ?_
          obtain ⟨ftoldPeople_18, ftoldDoors_18, fwasDoors_18, ffault_18, fopen_18, flines_18, fmeantSet_18, fopenedNow_18, fvainNow_18, flowNow_18, fhighNow_18, fisKept_18, tad_18, pl0_18, le0_18, nu0_18, coy_18, wag_18, say_18, e_18, hntad_18, hnpl0_18, hnle0_18, hnnu0_18, hncoy_18, hnwag_18, hnsay_18⟩ := JR.get hJ0 cm_100
          refine aw_callVi (J' := jX12_isTold) (As := [.int (nI j48)]) (st := []) dX12_circles_58 tb_1351 ok_X12_isTold ⟨_, e_18⟩ (by omega) rfl rfl (r_isTold l D b N V hN cl hJ0.1 (nI j48)) rfl (Nat.le_of_ble_eq_true rfl) ⟨Nat.le_of_ble_eq_true rfl, Nat.le_of_ble_eq_true rfl, Nat.le_of_ble_eq_true rfl, Nat.le_of_ble_eq_true rfl⟩ (fun r_19 N_20 V_21 q_22 => ?_)
          obtain ⟨⟨z_17, h_16⟩, rfl, rfl⟩ := q_22
          refine aw_if_eq (tgt := 93) dX12_circles_61 (by decide) (fun c_23 => ?_) (fun c_23 => ?_)
          · skip
            refine aw_iinc (v := (nI (j48 + 1))) (ls' := [some (.ref (b + 100)), some (.int (nI zn0)), some (.int n1), some (.int v48_3), some (.int v48_4), some (.int (nI (j48 + 1)))]) dX12_circles_93 rfl (fx_up_1 _) (Nat.le_of_ble_eq_true rfl) rfl ?_
            refine aw_goto (tgt := 48) dX12_circles_96 (by decide) ?_
            refine aw_le ?_ (ih_48_11 (j48 + 1) v48_3 v48_4  (by omega))
            exact ⟨rfl, ⟨rfl, ⟨rfl, ⟨rfl, ⟨rfl, ⟨rfl, trivial⟩⟩⟩⟩⟩⟩
          · skip
            refine aw_iload dX12_circles_64 rfl ?_
            refine aw_iload dX12_circles_66 rfl ?_
            refine aw_callSi (J' := jX12_has) (As := [.int v48_4, .int (nI j48)]) (st := []) dX12_circles_68 tb_1315 ok_X12_has rfl (r_has l D b N V hN cl hJ0.1 v48_4 (nI j48)) rfl (Nat.le_of_ble_eq_true rfl) ⟨Nat.le_of_ble_eq_true rfl, Nat.le_of_ble_eq_true rfl, Nat.le_of_ble_eq_true rfl, Nat.le_of_ble_eq_true rfl⟩ (fun r_26 N_27 V_28 q_29 => ?_)
            obtain ⟨h_25, rfl, rfl⟩ := q_29
            refine aw_if_eq (tgt := 77) dX12_circles_71 (by decide) (fun c_30 => ?_) (fun c_30 => ?_)
            · skip
              refine aw_iload dX12_circles_77 rfl ?_
              refine aw_aload_n dX12_circles_79 rfl ?_
              refine aw_iload dX12_circles_80 rfl ?_
              refine aw_iload_n dX12_circles_82 rfl ?_
              refine aw_callVi (J' := jX12_circleOf) (As := [.int (nI j48), .int (nI zn0)]) (st := [.int v48_4]) dX12_circles_83 tb_1532 ok_X12_circleOf ⟨_, e_18⟩ (by omega) rfl rfl (r_circleOf l D b N V hN cl hJ0.1 (nI j48) ⟨j48, by omega, rfl⟩ (nI zn0)) rfl (Nat.le_of_ble_eq_true rfl) ⟨Nat.le_of_ble_eq_true rfl, Nat.le_of_ble_eq_true rfl, Nat.le_of_ble_eq_true rfl, Nat.le_of_ble_eq_true rfl⟩ (fun r_32 N_33 V_34 q_35 => ?_)
              obtain ⟨rfl, rfl⟩ := q_35
              refine aw_ior dX12_circles_86 ?_
              refine aw_istore (ls' := [some (.ref (b + 100)), some (.int (nI zn0)), some (.int n1), some (.int v48_3), some (.int (v48_4 ||| r_32)), some (.int (nI j48))]) dX12_circles_87 (Nat.le_of_ble_eq_true rfl) rfl ?_
              refine aw_iload_n dX12_circles_89 rfl ?_
              refine aw_iconst (v := 1) dX12_circles_90 (by decide) ?_
              refine aw_iadd dX12_circles_91 ?_
              refine aw_istore_n (ls' := [some (.ref (b + 100)), some (.int (nI zn0)), some (.int n1), some (.int (v48_3 + 1)), some (.int (v48_4 ||| r_32)), some (.int (nI j48))]) dX12_circles_92 (Nat.le_of_ble_eq_true rfl) rfl ?_
              refine aw_iinc (v := (nI (j48 + 1))) (ls' := [some (.ref (b + 100)), some (.int (nI zn0)), some (.int n1), some (.int (v48_3 + 1)), some (.int (v48_4 ||| r_32)), some (.int (nI (j48 + 1)))]) dX12_circles_93 rfl (fx_up_1 _) (Nat.le_of_ble_eq_true rfl) rfl ?_
              refine aw_goto (tgt := 48) dX12_circles_96 (by decide) ?_
              refine aw_le ?_ (ih_48_11 (j48 + 1) (v48_3 + 1) (v48_4 ||| r_32)  (by omega))
              exact ⟨rfl, ⟨rfl, ⟨rfl, ⟨rfl, ⟨rfl, ⟨rfl, trivial⟩⟩⟩⟩⟩⟩
            · skip
              refine aw_goto (tgt := 93) dX12_circles_74 (by decide) ?_
              refine aw_iinc (v := (nI (j48 + 1))) (ls' := [some (.ref (b + 100)), some (.int (nI zn0)), some (.int n1), some (.int v48_3), some (.int v48_4), some (.int (nI (j48 + 1)))]) dX12_circles_93 rfl (fx_up_1 _) (Nat.le_of_ble_eq_true rfl) rfl ?_
              refine aw_goto (tgt := 48) dX12_circles_96 (by decide) ?_
              refine aw_le ?_ (ih_48_11 (j48 + 1) v48_3 v48_4  (by omega))
              exact ⟨rfl, ⟨rfl, ⟨rfl, ⟨rfl, ⟨rfl, ⟨rfl, trivial⟩⟩⟩⟩⟩⟩
      refine aw_le ?_ (loop_48_10 12 0 0 0  (by omega))
      exact ⟨rfl, ⟨rfl, ⟨rfl, ⟨rfl, ⟨rfl, ⟨rfl, trivial⟩⟩⟩⟩⟩⟩
    · skip
      refine aw_aload_n dX12_circles_17 rfl ?_
      refine aw_iload_n dX12_circles_18 rfl ?_
      obtain ⟨ftoldPeople_39, ftoldDoors_39, fwasDoors_39, ffault_39, fopen_39, flines_39, fmeantSet_39, fopenedNow_39, fvainNow_39, flowNow_39, fhighNow_39, fisKept_39, tad_39, pl0_39, le0_39, nu0_39, coy_39, wag_39, say_39, e_39, hntad_39, hnpl0_39, hnle0_39, hnnu0_39, hncoy_39, hnwag_39, hnsay_39⟩ := JR.get hJ0 cm_100
      refine aw_callVi (J' := jX12_isTold) (As := [.int n1]) (st := []) dX12_circles_19 tb_1351 ok_X12_isTold ⟨_, e_39⟩ (by omega) rfl rfl (r_isTold l D b N V hN cl hJ0.1 n1) rfl (Nat.le_of_ble_eq_true rfl) ⟨Nat.le_of_ble_eq_true rfl, Nat.le_of_ble_eq_true rfl, Nat.le_of_ble_eq_true rfl, Nat.le_of_ble_eq_true rfl⟩ (fun r_40 N_41 V_42 q_43 => ?_)
      obtain ⟨⟨z_38, h_37⟩, rfl, rfl⟩ := q_43
      refine aw_if_ne (tgt := 27) dX12_circles_22 (by decide) (fun c_44 => ?_) (fun c_44 => ?_)
      · skip
        obtain ⟨zn1, hzn1, rfl⟩ := h_37.resolve_left c_44
        refine aw_iload_n dX12_circles_27 rfl ?_
        refine aw_bipush (v := 100) dX12_circles_28 (by decide) ?_
        refine aw_icmp_eq (tgt := 40) dX12_circles_30 (by decide) (fun c_45 => ?_) (fun c_45 => ?_)
        · first | exact absurd c_45 c_9 | exact absurd c_9 c_45 | exact absurd c_45 (Int32.not_lt.mpr c_9) | exact absurd c_9 (Int32.not_lt.mpr c_45) | exact c_9 (Int32.not_lt.mp c_45) | exact c_9 (Int32.not_le.mp c_45)
        have nc_45 : ¬ (zn1 = 100) := fun z => c_45 ((nI_eq (a := zn1) (b := 100) (by omega) (by omega)).mpr z)
        refine aw_aload_n dX12_circles_33 rfl ?_
        refine aw_iload_n dX12_circles_34 rfl ?_
        refine aw_iload_n dX12_circles_35 rfl ?_
        refine aw_callVi (J' := jX12_circleOf) (As := [.int (nI zn1), .int (nI zn0)]) (st := []) dX12_circles_36 tb_1532 ok_X12_circleOf ⟨_, e_39⟩ (by omega) rfl rfl (r_circleOf l D b N V hN cl hJ0.1 (nI zn1) ⟨zn1, by omega, rfl⟩ (nI zn0)) rfl (Nat.le_of_ble_eq_true rfl) ⟨Nat.le_of_ble_eq_true rfl, Nat.le_of_ble_eq_true rfl, Nat.le_of_ble_eq_true rfl, Nat.le_of_ble_eq_true rfl⟩ (fun r_47 N_48 V_49 q_50 => ?_)
        obtain ⟨rfl, rfl⟩ := q_50
        refine aw_ireti dX12_circles_39 rfl (Nat.le_of_ble_eq_true rfl) (Nat.le_of_ble_eq_true rfl) ?_
        exact ⟨rfl, rfl⟩
      · skip
        refine aw_iconst (v := (-1)) dX12_circles_25 (by decide) ?_
        refine aw_ireti dX12_circles_26 rfl (Nat.le_of_ble_eq_true rfl) (Nat.le_of_ble_eq_true rfl) ?_
        exact ⟨rfl, rfl⟩

set_option maxHeartbeats 4000000 in
set_option maxRecDepth 100000 in
theorem r_groupOf (l : Launch) (D : va_G) (b : Nat) (N : Nat) (V : Wd) (hN : 133 ≤ N) (cl : Nat) (hW : CR D b cl V) (n0 : Int32) (hn0 : ∃ j : Nat, j < 12 ∧ n0 = nI j) (n1 : Int32)  : MI l D b 1 jX12_groupOf [.ref (b + 100), .int n0, .int n1] N V 0 0 (fun r N9 V9 => N = N9 ∧ V = V9) := by
  have hJ0 : JR D b N cl [] V V := JR.rf hW
  obtain ⟨i0, hi0, rfl⟩ := hn0
  refine mw_of (by decide) (by simp [Value.category]) (Nat.le_of_ble_eq_true rfl) ?_
  show AW l D b jX12_groupOf (fx_rm 1 0 0) none (fx_MQ D b 0 0 (fx_qi (fun r N9 V9 => N = N9 ∧ V = V9))) 0 [some (.ref (b + 100)), some (.int (nI i0)), some (.int n1), none, none, none] [] N V 0 0
  refine aw_iconst (v := 1) dX12_groupOf_0 (by decide) ?_
  refine aw_iload_n dX12_groupOf_1 rfl ?_
  refine aw_ishl dX12_groupOf_2 ?_
  refine aw_eqi (y := (nI (2 ^ i0))) (fx_shl12 i0 (by omega)) ?_
  refine aw_istore_n (ls' := [some (.ref (b + 100)), some (.int (nI i0)), some (.int n1), some (.int (nI (2 ^ i0))), none, none]) dX12_groupOf_3 (Nat.le_of_ble_eq_true rfl) rfl ?_
  refine aw_iconst (v := 0) dX12_groupOf_4 (by decide) ?_
  refine aw_istore (ls' := [some (.ref (b + 100)), some (.int (nI i0)), some (.int n1), some (.int (nI (2 ^ i0))), some (.int 0), none]) dX12_groupOf_5 (Nat.le_of_ble_eq_true rfl) rfl ?_
  have ml_7_1 : ∀ (m : Nat) (s7 : Nat) (v7_4 : Int32), m = 2 * (4096 - s7) + (if v7_4 = nI s7 then 0 else 1) → (s7 < 4096) → AW l D b jX12_groupOf (fx_rm 1 0 0) none (fx_MQ D b 0 0 (fx_qi (fun r N9 V9 => N = N9 ∧ V = V9))) 7 [some (.ref (b + 100)), some (.int (nI i0)), some (.int n1), some (.int (nI s7)), some (.int v7_4), none] [] N V 0 0 := by
    intro m; refine Nat.strongRecOn m ?_
    intro m mih_7_1 s7 v7_4 hm7 i7_0
    refine aw_iload_n dX12_groupOf_7 rfl ?_
    refine aw_iload dX12_groupOf_8 rfl ?_
    refine aw_icmp_eq (tgt := 59) dX12_groupOf_10 (by decide) (fun c_2 => ?_) (fun c_2 => ?_)
    · skip
      refine aw_iload_n dX12_groupOf_59 rfl ?_
      refine aw_ireti dX12_groupOf_60 rfl (Nat.le_of_ble_eq_true rfl) (Nat.le_of_ble_eq_true rfl) ?_
      exact ⟨rfl, rfl⟩
    · skip
      refine aw_iload_n dX12_groupOf_13 rfl ?_
      refine aw_istore (ls' := [some (.ref (b + 100)), some (.int (nI i0)), some (.int n1), some (.int (nI s7)), some (.int (nI s7)), none]) dX12_groupOf_14 (Nat.le_of_ble_eq_true rfl) rfl ?_
      refine aw_iconst (v := 0) dX12_groupOf_16 (by decide) ?_
      refine aw_istore (ls' := [some (.ref (b + 100)), some (.int (nI i0)), some (.int n1), some (.int (nI s7)), some (.int (nI s7)), some (.int 0)]) dX12_groupOf_17 (Nat.le_of_ble_eq_true rfl) rfl ?_
      have ml_19_3 : ∀ (m : Nat) (p19 : Nat) (s19 : Nat), m = 12 - p19 → (p19 ≤ 12) → (s19 < 4096) → (s7 ≤ s19) → AW l D b jX12_groupOf (fx_rm 1 0 0) none (fx_MQ D b 0 0 (fx_qi (fun r N9 V9 => N = N9 ∧ V = V9))) 19 [some (.ref (b + 100)), some (.int (nI i0)), some (.int n1), some (.int (nI s19)), some (.int (nI s7)), some (.int (nI p19))] [] N V 0 0 := by
        intro m; refine Nat.strongRecOn m ?_
        intro m mih_19_3 p19 s19 hm19 i19_0 i19_1 i19_2
        refine aw_iload dX12_groupOf_19 rfl ?_
        refine aw_bipush (v := 12) dX12_groupOf_21 (by decide) ?_
        refine aw_icmp_ge (tgt := 56) dX12_groupOf_23 (by decide) (fun c_4 => ?_) (fun c_4 => ?_)
        · skip
          have nc_4 : 12 ≤ p19 := (nI_leI (a := 12) (b := p19) (by omega) (by omega)).mp c_4
          refine aw_goto (tgt := 7) dX12_groupOf_56 (by decide) ?_
          refine aw_le ?_ (mih_7_1 _ (by rw [hm7]; exact fx_fix (by first | omega | exact Nat.le_trans (by omega) Nat.left_le_or) (by first | omega | exact fx_pow12 (by omega) | exact or_lt (by omega) (by first | omega | exact fx_pow12 (by omega))) c_2) s19 (nI s7) rfl ((by first | omega | exact fx_pow12 (by omega) | exact or_lt (by omega) (by first | omega | exact fx_pow12 (by omega)))))
          exact ⟨rfl, ⟨rfl, ⟨rfl, ⟨rfl, ⟨rfl, trivial⟩⟩⟩⟩⟩
        · skip
          have nc_4 : ¬ (12 ≤ p19) := fun z => c_4 ((nI_leI (a := 12) (b := p19) (by omega) (by omega)).mpr z)
          refine aw_iload dX12_groupOf_26 rfl ?_
          refine aw_iload dX12_groupOf_28 rfl ?_
          refine aw_callSi (J' := jX12_has) (As := [.int (nI s7), .int (nI p19)]) (st := []) dX12_groupOf_30 tb_1315 ok_X12_has rfl (r_has l D b N V hN cl hJ0.1 (nI s7) (nI p19)) rfl (Nat.le_of_ble_eq_true rfl) ⟨Nat.le_of_ble_eq_true rfl, Nat.le_of_ble_eq_true rfl, Nat.le_of_ble_eq_true rfl, Nat.le_of_ble_eq_true rfl⟩ (fun r_7 N_8 V_9 q_10 => ?_)
          obtain ⟨h_6, rfl, rfl⟩ := q_10
          refine aw_if_eq (tgt := 50) dX12_groupOf_33 (by decide) (fun c_11 => ?_) (fun c_11 => ?_)
          · skip
            refine aw_iinc (v := (nI (p19 + 1))) (ls' := [some (.ref (b + 100)), some (.int (nI i0)), some (.int n1), some (.int (nI s19)), some (.int (nI s7)), some (.int (nI (p19 + 1)))]) dX12_groupOf_50 rfl (fx_up_1 _) (Nat.le_of_ble_eq_true rfl) rfl ?_
            refine aw_goto (tgt := 19) dX12_groupOf_53 (by decide) ?_
            refine aw_le ?_ (mih_19_3 _ (by omega) (p19 + 1) s19 rfl (by omega) ((by first | omega | exact fx_pow12 (by omega) | exact or_lt (by omega) (by first | omega | exact fx_pow12 (by omega)))) ((by first | omega | exact Nat.le_trans (by omega) Nat.left_le_or)))
            exact ⟨rfl, ⟨rfl, ⟨rfl, ⟨rfl, ⟨rfl, ⟨rfl, trivial⟩⟩⟩⟩⟩⟩
          · skip
            refine aw_iload_n dX12_groupOf_36 rfl ?_
            refine aw_aload_n dX12_groupOf_37 rfl ?_
            obtain ⟨ftoldPeople_12, ftoldDoors_12, fwasDoors_12, ffault_12, fopen_12, flines_12, fmeantSet_12, fopenedNow_12, fvainNow_12, flowNow_12, fhighNow_12, fisKept_12, tad_12, pl0_12, le0_12, nu0_12, coy_12, wag_12, say_12, e_12, hntad_12, hnpl0_12, hnle0_12, hnnu0_12, hncoy_12, hnwag_12, hnsay_12⟩ := JR.get hJ0 cm_100
            refine aw_get dX12_groupOf_38 fl_X12_19 e_12 (by omega) rfl ?_
            refine aw_iload dX12_groupOf_41 rfl ?_
            obtain ⟨g_13, e_13, p_13⟩ := JR.get hJ0 cm_104
            refine aw_iald (v := (g_13 p19)) dX12_groupOf_43 e_13 (by omega) (vp_in_nI (n := p19) (by omega) (by omega)) (congrArg g_13 (nI_clamp (n := p19) (by omega))) ?_
            obtain ⟨z_14, hz_14, ez_14⟩ := p_13 p19 (by omega)
            refine aw_eqi ez_14 ?_
            refine aw_iload_n dX12_groupOf_44 rfl ?_
            refine aw_iconst (v := (-1)) dX12_groupOf_45 (by decide) ?_
            refine aw_ixor dX12_groupOf_46 ?_
            refine aw_iand dX12_groupOf_47 ?_
            obtain ⟨z_15, hz_15, ez_15⟩ := fx_andle (s := z_14) (n1 ^^^ (-1))
            refine aw_eqi (y := (nI z_15)) ez_15 ?_
            refine aw_ior dX12_groupOf_48 ?_
            refine aw_eqi (y := (nI (s19 ||| z_15))) (fx_orI _ _) ?_
            refine aw_istore_n (ls' := [some (.ref (b + 100)), some (.int (nI i0)), some (.int n1), some (.int (nI (s19 ||| z_15))), some (.int (nI s7)), some (.int (nI p19))]) dX12_groupOf_49 (Nat.le_of_ble_eq_true rfl) rfl ?_
            refine aw_iinc (v := (nI (p19 + 1))) (ls' := [some (.ref (b + 100)), some (.int (nI i0)), some (.int n1), some (.int (nI (s19 ||| z_15))), some (.int (nI s7)), some (.int (nI (p19 + 1)))]) dX12_groupOf_50 rfl (fx_up_1 _) (Nat.le_of_ble_eq_true rfl) rfl ?_
            refine aw_goto (tgt := 19) dX12_groupOf_53 (by decide) ?_
            refine aw_le ?_ (mih_19_3 _ (by omega) (p19 + 1) (s19 ||| z_15) rfl (by omega) ((by first | omega | exact fx_pow12 (by omega) | exact or_lt (by omega) (by first | omega | exact fx_pow12 (by omega)))) ((by first | omega | exact Nat.le_trans (by omega) Nat.left_le_or)))
            exact ⟨rfl, ⟨rfl, ⟨rfl, ⟨rfl, ⟨rfl, ⟨rfl, trivial⟩⟩⟩⟩⟩⟩
      refine aw_le ?_ (ml_19_3 _ 0 s7 rfl (by omega) ((by first | omega | exact fx_pow12 (by omega) | exact or_lt (by omega) (by first | omega | exact fx_pow12 (by omega)))) ((by first | omega | exact Nat.le_trans (by omega) Nat.left_le_or)))
      exact ⟨rfl, ⟨rfl, ⟨rfl, ⟨rfl, ⟨rfl, ⟨rfl, trivial⟩⟩⟩⟩⟩⟩
  refine aw_le ?_ (ml_7_1 _ (2 ^ i0) 0 rfl ((by first | omega | exact fx_pow12 (by omega) | exact or_lt (by omega) (by first | omega | exact fx_pow12 (by omega)))))
  exact ⟨rfl, ⟨rfl, ⟨rfl, ⟨rfl, ⟨rfl, trivial⟩⟩⟩⟩⟩

set_option maxHeartbeats 4000000 in
set_option maxRecDepth 100000 in
theorem r_isKeystone (l : Launch) (D : va_G) (b : Nat) (N : Nat) (V : Wd) (hN : 133 ≤ N) (cl : Nat) (hW : CR D b cl V) (n0 : Int32) (hn0 : ∃ j : Nat, j < 12 ∧ n0 = nI j)  : MI l D b 2 jX12_isKeystone [.ref (b + 100), .int n0] N V 0 0 (fun r N9 V9 => (r = 0 ∨ r = 1) ∧ N = N9 ∧ V = V9) := by
  have hJ0 : JR D b N cl [] V V := JR.rf hW
  obtain ⟨i0, hi0, rfl⟩ := hn0
  refine mw_of (by decide) (by simp [Value.category]) (Nat.le_of_ble_eq_true rfl) ?_
  show AW l D b jX12_isKeystone (fx_rm 2 0 0) none (fx_MQ D b 0 0 (fx_qi (fun r N9 V9 => (r = 0 ∨ r = 1) ∧ N = N9 ∧ V = V9))) 0 [some (.ref (b + 100)), some (.int (nI i0)), none] [] N V 0 0
  refine aw_iconst (v := 0) dX12_isKeystone_0 (by decide) ?_
  refine aw_istore_n (ls' := [some (.ref (b + 100)), some (.int (nI i0)), some (.int 0)]) dX12_isKeystone_1 (Nat.le_of_ble_eq_true rfl) rfl ?_
  have loop_2_0 : ∀ (g_2 : Nat), ∀ (j2 : Nat), j2 + g_2 = 12 → AW l D b jX12_isKeystone (fx_rm 2 0 0) none (fx_MQ D b 0 0 (fx_qi (fun r N9 V9 => (r = 0 ∨ r = 1) ∧ N = N9 ∧ V = V9))) 2 [some (.ref (b + 100)), some (.int (nI i0)), some (.int (nI j2))] [] N V 0 0 := by
    intro g_2
    induction g_2 with
    | zero =>
      intro j2  hj2
      obtain rfl : j2 = 12 := by omega
      refine aw_iload_n dX12_isKeystone_2 rfl ?_
      refine aw_bipush (v := 12) dX12_isKeystone_3 (by decide) ?_
      refine aw_icmp_ge (tgt := 57) dX12_isKeystone_5 (by decide) (fun c_3 => ?_) (fun c_3 => ?_)
      rotate_left
      · exact absurd (nI_le (a := 12) (b := 12) (Nat.le_refl _) (by omega)) c_3
      refine aw_iconst (v := 0) dX12_isKeystone_57 (by decide) ?_
      refine aw_zreti dX12_isKeystone_58 rfl (by first | exact Or.inl rfl | exact Or.inr rfl | assumption) (Nat.le_of_ble_eq_true rfl) (Nat.le_of_ble_eq_true rfl) ?_
      exact ⟨(by first | exact Or.inl rfl | exact Or.inr rfl | assumption), rfl, rfl⟩
    | succ g_2 ih_2_1 =>
      intro j2  hj2
      have hlj2 : j2 < 12 := by omega
      refine aw_iload_n dX12_isKeystone_2 rfl ?_
      refine aw_bipush (v := 12) dX12_isKeystone_3 (by decide) ?_
      refine aw_icmp_ge (tgt := 57) dX12_isKeystone_5 (by decide) (fun c_4 => ?_) (fun c_4 => ?_)
      · exact absurd c_4 (nI_ge (a := j2) (b := 12) (by omega) (by omega))
      refine aw_iload_n dX12_isKeystone_8 rfl ?_
      refine aw_iload_n dX12_isKeystone_9 rfl ?_
      refine aw_icmp_eq (tgt := 51) dX12_isKeystone_10 (by decide) (fun c_5 => ?_) (fun c_5 => ?_)
      · skip
        have nc_5 : j2 = i0 := (nI_eq (a := j2) (b := i0) (by omega) (by omega)).mp c_5
        refine aw_iinc (v := (nI (j2 + 1))) (ls' := [some (.ref (b + 100)), some (.int (nI i0)), some (.int (nI (j2 + 1)))]) dX12_isKeystone_51 rfl (fx_up_1 _) (Nat.le_of_ble_eq_true rfl) rfl ?_
        refine aw_goto (tgt := 2) dX12_isKeystone_54 (by decide) ?_
        refine aw_le ?_ (ih_2_1 (j2 + 1)   (by omega))
        exact ⟨rfl, ⟨rfl, ⟨rfl, trivial⟩⟩⟩
      · skip
        have nc_5 : ¬ (j2 = i0) := fun z => c_5 ((nI_eq (a := j2) (b := i0) (by omega) (by omega)).mpr z)
        refine aw_aload_n dX12_isKeystone_13 rfl ?_
        obtain ⟨ftoldPeople_6, ftoldDoors_6, fwasDoors_6, ffault_6, fopen_6, flines_6, fmeantSet_6, fopenedNow_6, fvainNow_6, flowNow_6, fhighNow_6, fisKept_6, tad_6, pl0_6, le0_6, nu0_6, coy_6, wag_6, say_6, e_6, hntad_6, hnpl0_6, hnle0_6, hnnu0_6, hncoy_6, hnwag_6, hnsay_6⟩ := JR.get hJ0 cm_100
        refine aw_get dX12_isKeystone_14 fl_X12_19 e_6 (by omega) rfl ?_
        refine aw_iload_n dX12_isKeystone_17 rfl ?_
        obtain ⟨g_7, e_7, p_7⟩ := JR.get hJ0 cm_104
        refine aw_iald (v := (g_7 i0)) dX12_isKeystone_18 e_7 (by omega) (vp_in_nI (n := i0) (by omega) (by omega)) (congrArg g_7 (nI_clamp (n := i0) (by omega))) ?_
        refine aw_iload_n dX12_isKeystone_19 rfl ?_
        refine aw_callSi (J' := jX12_has) (As := [.int (g_7 i0), .int (nI j2)]) (st := []) dX12_isKeystone_20 tb_1315 ok_X12_has rfl (r_has l D b N V hN cl hJ0.1 (g_7 i0) (nI j2)) rfl (Nat.le_of_ble_eq_true rfl) ⟨Nat.le_of_ble_eq_true rfl, Nat.le_of_ble_eq_true rfl, Nat.le_of_ble_eq_true rfl, Nat.le_of_ble_eq_true rfl⟩ (fun r_10 N_11 V_12 q_13 => ?_)
        obtain ⟨h_9, rfl, rfl⟩ := q_13
        refine aw_if_eq (tgt := 51) dX12_isKeystone_23 (by decide) (fun c_14 => ?_) (fun c_14 => ?_)
        · skip
          refine aw_iinc (v := (nI (j2 + 1))) (ls' := [some (.ref (b + 100)), some (.int (nI i0)), some (.int (nI (j2 + 1)))]) dX12_isKeystone_51 rfl (fx_up_1 _) (Nat.le_of_ble_eq_true rfl) rfl ?_
          refine aw_goto (tgt := 2) dX12_isKeystone_54 (by decide) ?_
          refine aw_le ?_ (ih_2_1 (j2 + 1)   (by omega))
          exact ⟨rfl, ⟨rfl, ⟨rfl, trivial⟩⟩⟩
        · skip
          refine aw_aload_n dX12_isKeystone_26 rfl ?_
          refine aw_iload_n dX12_isKeystone_27 rfl ?_
          refine aw_iconst (v := 0) dX12_isKeystone_28 (by decide) ?_
          refine aw_callVi (J' := jX12_groupOf) (As := [.int (nI i0), .int 0]) (st := []) dX12_isKeystone_29 tb_1544 ok_X12_groupOf ⟨_, e_6⟩ (by omega) rfl rfl (r_groupOf l D b N V hN cl hJ0.1 (nI i0) ⟨i0, by omega, rfl⟩ 0) rfl (Nat.le_of_ble_eq_true rfl) ⟨Nat.le_of_ble_eq_true rfl, Nat.le_of_ble_eq_true rfl, Nat.le_of_ble_eq_true rfl, Nat.le_of_ble_eq_true rfl⟩ (fun r_16 N_17 V_18 q_19 => ?_)
          obtain ⟨rfl, rfl⟩ := q_19
          refine aw_iconst (v := 1) dX12_isKeystone_32 (by decide) ?_
          refine aw_iload_n dX12_isKeystone_33 rfl ?_
          refine aw_ishl dX12_isKeystone_34 ?_
          refine aw_iconst (v := (-1)) dX12_isKeystone_35 (by decide) ?_
          refine aw_ixor dX12_isKeystone_36 ?_
          refine aw_iand dX12_isKeystone_37 ?_
          refine aw_aload_n dX12_isKeystone_38 rfl ?_
          refine aw_iload_n dX12_isKeystone_39 rfl ?_
          refine aw_iconst (v := 1) dX12_isKeystone_40 (by decide) ?_
          refine aw_iload_n dX12_isKeystone_41 rfl ?_
          refine aw_ishl dX12_isKeystone_42 ?_
          refine aw_callVi (J' := jX12_groupOf) (As := [.int (nI j2), .int ((1 : Int32) <<< ((nI i0) &&& 31))]) (st := [.int (r_16 &&& (((1 : Int32) <<< ((nI i0) &&& 31)) ^^^ (-1)))]) dX12_isKeystone_43 tb_1544 ok_X12_groupOf ⟨_, e_6⟩ (by omega) rfl rfl (r_groupOf l D b N V hN cl hJ0.1 (nI j2) ⟨j2, by omega, rfl⟩ ((1 : Int32) <<< ((nI i0) &&& 31))) rfl (Nat.le_of_ble_eq_true rfl) ⟨Nat.le_of_ble_eq_true rfl, Nat.le_of_ble_eq_true rfl, Nat.le_of_ble_eq_true rfl, Nat.le_of_ble_eq_true rfl⟩ (fun r_21 N_22 V_23 q_24 => ?_)
          obtain ⟨rfl, rfl⟩ := q_24
          refine aw_icmp_eq (tgt := 51) dX12_isKeystone_46 (by decide) (fun c_25 => ?_) (fun c_25 => ?_)
          · skip
            refine aw_iinc (v := (nI (j2 + 1))) (ls' := [some (.ref (b + 100)), some (.int (nI i0)), some (.int (nI (j2 + 1)))]) dX12_isKeystone_51 rfl (fx_up_1 _) (Nat.le_of_ble_eq_true rfl) rfl ?_
            refine aw_goto (tgt := 2) dX12_isKeystone_54 (by decide) ?_
            refine aw_le ?_ (ih_2_1 (j2 + 1)   (by omega))
            exact ⟨rfl, ⟨rfl, ⟨rfl, trivial⟩⟩⟩
          · skip
            refine aw_iconst (v := 1) dX12_isKeystone_49 (by decide) ?_
            refine aw_zreti dX12_isKeystone_50 rfl (by first | exact Or.inl rfl | exact Or.inr rfl | assumption) (Nat.le_of_ble_eq_true rfl) (Nat.le_of_ble_eq_true rfl) ?_
            exact ⟨(by first | exact Or.inl rfl | exact Or.inr rfl | assumption), rfl, rfl⟩
  refine aw_le ?_ (loop_2_0 12 0   (by omega))
  exact ⟨rfl, ⟨rfl, ⟨rfl, trivial⟩⟩⟩

set_option maxHeartbeats 4000000 in
set_option maxRecDepth 100000 in
theorem r_keystones (l : Launch) (D : va_G) (b : Nat) (N : Nat) (V : Wd) (hN : 133 ≤ N) (cl : Nat) (hW : CR D b cl V)   : MI l D b 3 jX12_keystones [.ref (b + 100)] N V 0 0 (fun r N9 V9 => N = N9 ∧ V = V9) := by
  have hJ0 : JR D b N cl [] V V := JR.rf hW
  refine mw_of (by decide) (by simp [Value.category]) (Nat.le_of_ble_eq_true rfl) ?_
  show AW l D b jX12_keystones (fx_rm 3 0 0) none (fx_MQ D b 0 0 (fx_qi (fun r N9 V9 => N = N9 ∧ V = V9))) 0 [some (.ref (b + 100)), none, none] [] N V 0 0
  refine aw_iconst (v := 0) dX12_keystones_0 (by decide) ?_
  refine aw_istore_n (ls' := [some (.ref (b + 100)), some (.int 0), none]) dX12_keystones_1 (Nat.le_of_ble_eq_true rfl) rfl ?_
  refine aw_iconst (v := 0) dX12_keystones_2 (by decide) ?_
  refine aw_istore_n (ls' := [some (.ref (b + 100)), some (.int 0), some (.int 0)]) dX12_keystones_3 (Nat.le_of_ble_eq_true rfl) rfl ?_
  have loop_4_0 : ∀ (g_4 : Nat), ∀ (j4 : Nat) (v4_1 : Int32), j4 + g_4 = 12 → AW l D b jX12_keystones (fx_rm 3 0 0) none (fx_MQ D b 0 0 (fx_qi (fun r N9 V9 => N = N9 ∧ V = V9))) 4 [some (.ref (b + 100)), some (.int v4_1), some (.int (nI j4))] [] N V 0 0 := by
    intro g_4
    induction g_4 with
    | zero =>
      intro j4 v4_1 hj4
      obtain rfl : j4 = 12 := by omega
      refine aw_iload_n dX12_keystones_4 rfl ?_
      refine aw_bipush (v := 12) dX12_keystones_5 (by decide) ?_
      refine aw_icmp_ge (tgt := 38) dX12_keystones_7 (by decide) (fun c_3 => ?_) (fun c_3 => ?_)
      rotate_left
      · exact absurd (nI_le (a := 12) (b := 12) (Nat.le_refl _) (by omega)) c_3
      refine aw_iload_n dX12_keystones_38 rfl ?_
      refine aw_ireti dX12_keystones_39 rfl (Nat.le_of_ble_eq_true rfl) (Nat.le_of_ble_eq_true rfl) ?_
      exact ⟨rfl, rfl⟩
    | succ g_4 ih_4_1 =>
      intro j4 v4_1 hj4
      have hlj4 : j4 < 12 := by omega
      refine aw_iload_n dX12_keystones_4 rfl ?_
      refine aw_bipush (v := 12) dX12_keystones_5 (by decide) ?_
      refine aw_icmp_ge (tgt := 38) dX12_keystones_7 (by decide) (fun c_4 => ?_) (fun c_4 => ?_)
      · exact absurd c_4 (nI_ge (a := j4) (b := 12) (by omega) (by omega))
      refine aw_aload_n dX12_keystones_10 rfl ?_
      refine aw_iload_n dX12_keystones_11 rfl ?_
      obtain ⟨ftoldPeople_8, ftoldDoors_8, fwasDoors_8, ffault_8, fopen_8, flines_8, fmeantSet_8, fopenedNow_8, fvainNow_8, flowNow_8, fhighNow_8, fisKept_8, tad_8, pl0_8, le0_8, nu0_8, coy_8, wag_8, say_8, e_8, hntad_8, hnpl0_8, hnle0_8, hnnu0_8, hncoy_8, hnwag_8, hnsay_8⟩ := JR.get hJ0 cm_100
      refine aw_callVi (J' := jX12_isTold) (As := [.int (nI j4)]) (st := []) dX12_keystones_12 tb_1351 ok_X12_isTold ⟨_, e_8⟩ (by omega) rfl rfl (r_isTold l D b N V hN cl hJ0.1 (nI j4)) rfl (Nat.le_of_ble_eq_true rfl) ⟨Nat.le_of_ble_eq_true rfl, Nat.le_of_ble_eq_true rfl, Nat.le_of_ble_eq_true rfl, Nat.le_of_ble_eq_true rfl⟩ (fun r_9 N_10 V_11 q_12 => ?_)
      obtain ⟨⟨z_7, h_6⟩, rfl, rfl⟩ := q_12
      refine aw_if_eq (tgt := 32) dX12_keystones_15 (by decide) (fun c_13 => ?_) (fun c_13 => ?_)
      · skip
        refine aw_iinc (v := (nI (j4 + 1))) (ls' := [some (.ref (b + 100)), some (.int v4_1), some (.int (nI (j4 + 1)))]) dX12_keystones_32 rfl (fx_up_1 _) (Nat.le_of_ble_eq_true rfl) rfl ?_
        refine aw_goto (tgt := 4) dX12_keystones_35 (by decide) ?_
        refine aw_le ?_ (ih_4_1 (j4 + 1) v4_1  (by omega))
        exact ⟨rfl, ⟨rfl, ⟨rfl, trivial⟩⟩⟩
      · skip
        refine aw_aload_n dX12_keystones_18 rfl ?_
        refine aw_iload_n dX12_keystones_19 rfl ?_
        refine aw_callVi (J' := jX12_isKeystone) (As := [.int (nI j4)]) (st := []) dX12_keystones_20 tb_1540 ok_X12_isKeystone ⟨_, e_8⟩ (by omega) rfl rfl (r_isKeystone l D b N V hN cl hJ0.1 (nI j4) ⟨j4, by omega, rfl⟩) rfl (Nat.le_of_ble_eq_true rfl) ⟨Nat.le_of_ble_eq_true rfl, Nat.le_of_ble_eq_true rfl, Nat.le_of_ble_eq_true rfl, Nat.le_of_ble_eq_true rfl⟩ (fun r_16 N_17 V_18 q_19 => ?_)
        obtain ⟨h_15, rfl, rfl⟩ := q_19
        refine aw_if_eq (tgt := 32) dX12_keystones_23 (by decide) (fun c_20 => ?_) (fun c_20 => ?_)
        · skip
          refine aw_iinc (v := (nI (j4 + 1))) (ls' := [some (.ref (b + 100)), some (.int v4_1), some (.int (nI (j4 + 1)))]) dX12_keystones_32 rfl (fx_up_1 _) (Nat.le_of_ble_eq_true rfl) rfl ?_
          refine aw_goto (tgt := 4) dX12_keystones_35 (by decide) ?_
          refine aw_le ?_ (ih_4_1 (j4 + 1) v4_1  (by omega))
          exact ⟨rfl, ⟨rfl, ⟨rfl, trivial⟩⟩⟩
        · skip
          refine aw_iload_n dX12_keystones_26 rfl ?_
          refine aw_iconst (v := 1) dX12_keystones_27 (by decide) ?_
          refine aw_iload_n dX12_keystones_28 rfl ?_
          refine aw_ishl dX12_keystones_29 ?_
          refine aw_ior dX12_keystones_30 ?_
          refine aw_istore_n (ls' := [some (.ref (b + 100)), some (.int (v4_1 ||| ((1 : Int32) <<< ((nI j4) &&& 31)))), some (.int (nI j4))]) dX12_keystones_31 (Nat.le_of_ble_eq_true rfl) rfl ?_
          refine aw_iinc (v := (nI (j4 + 1))) (ls' := [some (.ref (b + 100)), some (.int (v4_1 ||| ((1 : Int32) <<< ((nI j4) &&& 31)))), some (.int (nI (j4 + 1)))]) dX12_keystones_32 rfl (fx_up_1 _) (Nat.le_of_ble_eq_true rfl) rfl ?_
          refine aw_goto (tgt := 4) dX12_keystones_35 (by decide) ?_
          refine aw_le ?_ (ih_4_1 (j4 + 1) (v4_1 ||| ((1 : Int32) <<< ((nI j4) &&& 31)))  (by omega))
          exact ⟨rfl, ⟨rfl, ⟨rfl, trivial⟩⟩⟩
  refine aw_le ?_ (loop_4_0 12 0 0  (by omega))
  exact ⟨rfl, ⟨rfl, ⟨rfl, trivial⟩⟩⟩

set_option maxHeartbeats 4000000 in
set_option maxRecDepth 100000 in
theorem r_steps (l : Launch) (D : va_G) (b : Nat) (N : Nat) (V : Wd) (hN : 133 ≤ N) (cl : Nat) (hW : CR D b cl V) (n0 : Int32) (n1 : Int32)  : MI l D b 2 jX12_steps [.ref (b + 100), .int n0, .int n1] N V 0 0 (fun r N9 V9 => N = N9 ∧ V = V9) := by
  have hJ0 : JR D b N cl [] V V := JR.rf hW
  refine mw_of (by decide) (by simp [Value.category]) (Nat.le_of_ble_eq_true rfl) ?_
  show AW l D b jX12_steps (fx_rm 2 0 0) none (fx_MQ D b 0 0 (fx_qi (fun r N9 V9 => N = N9 ∧ V = V9))) 0 [some (.ref (b + 100)), some (.int n0), some (.int n1), none, none, none, none] [] N V 0 0
  refine aw_aload_n dX12_steps_0 rfl ?_
  refine aw_iload_n dX12_steps_1 rfl ?_
  obtain ⟨ftoldPeople_4, ftoldDoors_4, fwasDoors_4, ffault_4, fopen_4, flines_4, fmeantSet_4, fopenedNow_4, fvainNow_4, flowNow_4, fhighNow_4, fisKept_4, tad_4, pl0_4, le0_4, nu0_4, coy_4, wag_4, say_4, e_4, hntad_4, hnpl0_4, hnle0_4, hnnu0_4, hncoy_4, hnwag_4, hnsay_4⟩ := JR.get hJ0 cm_100
  refine aw_callVi (J' := jX12_isTold) (As := [.int n0]) (st := []) dX12_steps_2 tb_1351 ok_X12_isTold ⟨_, e_4⟩ (by omega) rfl rfl (r_isTold l D b N V hN cl hJ0.1 n0) rfl (Nat.le_of_ble_eq_true rfl) ⟨Nat.le_of_ble_eq_true rfl, Nat.le_of_ble_eq_true rfl, Nat.le_of_ble_eq_true rfl, Nat.le_of_ble_eq_true rfl⟩ (fun r_5 N_6 V_7 q_8 => ?_)
  obtain ⟨⟨z_3, h_2⟩, rfl, rfl⟩ := q_8
  refine aw_if_eq (tgt := 16) dX12_steps_5 (by decide) (fun c_9 => ?_) (fun c_9 => ?_)
  · skip
    refine aw_iconst (v := (-1)) dX12_steps_16 (by decide) ?_
    refine aw_ireti dX12_steps_17 rfl (Nat.le_of_ble_eq_true rfl) (Nat.le_of_ble_eq_true rfl) ?_
    exact ⟨rfl, rfl⟩
  · skip
    obtain ⟨zn0, hzn0, rfl⟩ := h_2.resolve_left c_9
    refine aw_aload_n dX12_steps_8 rfl ?_
    refine aw_iload_n dX12_steps_9 rfl ?_
    refine aw_callVi (J' := jX12_isTold) (As := [.int n1]) (st := []) dX12_steps_10 tb_1351 ok_X12_isTold ⟨_, e_4⟩ (by omega) rfl rfl (r_isTold l D b N V hN cl hJ0.1 n1) rfl (Nat.le_of_ble_eq_true rfl) ⟨Nat.le_of_ble_eq_true rfl, Nat.le_of_ble_eq_true rfl, Nat.le_of_ble_eq_true rfl, Nat.le_of_ble_eq_true rfl⟩ (fun r_13 N_14 V_15 q_16 => ?_)
    obtain ⟨⟨z_12, h_11⟩, rfl, rfl⟩ := q_16
    refine aw_if_ne (tgt := 18) dX12_steps_13 (by decide) (fun c_17 => ?_) (fun c_17 => ?_)
    · skip
      obtain ⟨zn1, hzn1, rfl⟩ := h_11.resolve_left c_17
      refine aw_iconst (v := 1) dX12_steps_18 (by decide) ?_
      refine aw_iload_n dX12_steps_19 rfl ?_
      refine aw_ishl dX12_steps_20 ?_
      refine aw_eqi (y := (nI (2 ^ zn0))) (fx_shl12 zn0 (by omega)) ?_
      refine aw_istore_n (ls' := [some (.ref (b + 100)), some (.int (nI zn0)), some (.int (nI zn1)), some (.int (nI (2 ^ zn0))), none, none, none]) dX12_steps_21 (Nat.le_of_ble_eq_true rfl) rfl ?_
      refine aw_iconst (v := 0) dX12_steps_22 (by decide) ?_
      refine aw_istore (ls' := [some (.ref (b + 100)), some (.int (nI zn0)), some (.int (nI zn1)), some (.int (nI (2 ^ zn0))), some (.int 0), none, none]) dX12_steps_23 (Nat.le_of_ble_eq_true rfl) rfl ?_
      refine aw_iconst (v := 0) dX12_steps_25 (by decide) ?_
      refine aw_istore (ls' := [some (.ref (b + 100)), some (.int (nI zn0)), some (.int (nI zn1)), some (.int (nI (2 ^ zn0))), some (.int 0), some (.int 0), none]) dX12_steps_26 (Nat.le_of_ble_eq_true rfl) rfl ?_
      have ml_28_18 : ∀ (m : Nat) (s28 : Nat) (v28_4 : Int32) (v28_5 : Int32), m = 2 * (4096 - s28) + (if v28_5 = nI s28 then 0 else 1) → (s28 < 4096) → AW l D b jX12_steps (fx_rm 2 0 0) none (fx_MQ D b 0 0 (fx_qi (fun r N9 V9 => N = N9 ∧ V = V9))) 28 [some (.ref (b + 100)), some (.int (nI zn0)), some (.int (nI zn1)), some (.int (nI s28)), some (.int v28_4), some (.int v28_5), none] [] N V 0 0 := by
        intro m; refine Nat.strongRecOn m ?_
        intro m mih_28_18 s28 v28_4 v28_5 hm28 i28_0
        refine aw_iload_n dX12_steps_28 rfl ?_
        refine aw_iload_n dX12_steps_29 rfl ?_
        refine aw_callSi (J' := jX12_has) (As := [.int (nI s28), .int (nI zn1)]) (st := []) dX12_steps_30 tb_1315 ok_X12_has rfl (r_has l D b N V hN cl hJ0.1 (nI s28) (nI zn1)) rfl (Nat.le_of_ble_eq_true rfl) ⟨Nat.le_of_ble_eq_true rfl, Nat.le_of_ble_eq_true rfl, Nat.le_of_ble_eq_true rfl, Nat.le_of_ble_eq_true rfl⟩ (fun r_21 N_22 V_23 q_24 => ?_)
        obtain ⟨h_20, rfl, rfl⟩ := q_24
        refine aw_if_ne (tgt := 93) dX12_steps_33 (by decide) (fun c_25 => ?_) (fun c_25 => ?_)
        · skip
          refine aw_iload dX12_steps_93 rfl ?_
          refine aw_ireti dX12_steps_95 rfl (Nat.le_of_ble_eq_true rfl) (Nat.le_of_ble_eq_true rfl) ?_
          exact ⟨rfl, rfl⟩
        · skip
          refine aw_iload_n dX12_steps_36 rfl ?_
          refine aw_iload dX12_steps_37 rfl ?_
          refine aw_icmp_ne (tgt := 45) dX12_steps_39 (by decide) (fun c_26 => ?_) (fun c_26 => ?_)
          · skip
            refine aw_iload_n dX12_steps_45 rfl ?_
            refine aw_istore (ls' := [some (.ref (b + 100)), some (.int (nI zn0)), some (.int (nI zn1)), some (.int (nI s28)), some (.int v28_4), some (.int (nI s28)), none]) dX12_steps_46 (Nat.le_of_ble_eq_true rfl) rfl ?_
            refine aw_iload dX12_steps_48 rfl ?_
            refine aw_iconst (v := 1) dX12_steps_50 (by decide) ?_
            refine aw_iadd dX12_steps_51 ?_
            refine aw_istore (ls' := [some (.ref (b + 100)), some (.int (nI zn0)), some (.int (nI zn1)), some (.int (nI s28)), some (.int (v28_4 + 1)), some (.int (nI s28)), none]) dX12_steps_52 (Nat.le_of_ble_eq_true rfl) rfl ?_
            refine aw_iconst (v := 0) dX12_steps_54 (by decide) ?_
            refine aw_istore (ls' := [some (.ref (b + 100)), some (.int (nI zn0)), some (.int (nI zn1)), some (.int (nI s28)), some (.int (v28_4 + 1)), some (.int (nI s28)), some (.int 0)]) dX12_steps_55 (Nat.le_of_ble_eq_true rfl) rfl ?_
            have ml_57_27 : ∀ (m : Nat) (p57 : Nat) (s57 : Nat), m = 12 - p57 → (p57 ≤ 12) → (s57 < 4096) → (s28 ≤ s57) → AW l D b jX12_steps (fx_rm 2 0 0) none (fx_MQ D b 0 0 (fx_qi (fun r N9 V9 => N = N9 ∧ V = V9))) 57 [some (.ref (b + 100)), some (.int (nI zn0)), some (.int (nI zn1)), some (.int (nI s57)), some (.int (v28_4 + 1)), some (.int (nI s28)), some (.int (nI p57))] [] N V 0 0 := by
              intro m; refine Nat.strongRecOn m ?_
              intro m mih_57_27 p57 s57 hm57 i57_0 i57_1 i57_2
              refine aw_iload dX12_steps_57 rfl ?_
              refine aw_bipush (v := 12) dX12_steps_59 (by decide) ?_
              refine aw_icmp_ge (tgt := 90) dX12_steps_61 (by decide) (fun c_28 => ?_) (fun c_28 => ?_)
              · skip
                have nc_28 : 12 ≤ p57 := (nI_leI (a := 12) (b := p57) (by omega) (by omega)).mp c_28
                refine aw_goto (tgt := 28) dX12_steps_90 (by decide) ?_
                refine aw_le ?_ (mih_28_18 _ (by rw [hm28]; exact fx_fix (by first | omega | exact Nat.le_trans (by omega) Nat.left_le_or) (by first | omega | exact fx_pow12 (by omega) | exact or_lt (by omega) (by first | omega | exact fx_pow12 (by omega))) c_26) s57 (v28_4 + 1) (nI s28) rfl ((by first | omega | exact fx_pow12 (by omega) | exact or_lt (by omega) (by first | omega | exact fx_pow12 (by omega)))))
                exact ⟨rfl, ⟨rfl, ⟨rfl, ⟨rfl, ⟨rfl, ⟨rfl, trivial⟩⟩⟩⟩⟩⟩
              · skip
                have nc_28 : ¬ (12 ≤ p57) := fun z => c_28 ((nI_leI (a := 12) (b := p57) (by omega) (by omega)).mpr z)
                refine aw_iload dX12_steps_64 rfl ?_
                refine aw_iload dX12_steps_66 rfl ?_
                refine aw_callSi (J' := jX12_has) (As := [.int (nI s28), .int (nI p57)]) (st := []) dX12_steps_68 tb_1315 ok_X12_has rfl (r_has l D b N V hN cl hJ0.1 (nI s28) (nI p57)) rfl (Nat.le_of_ble_eq_true rfl) ⟨Nat.le_of_ble_eq_true rfl, Nat.le_of_ble_eq_true rfl, Nat.le_of_ble_eq_true rfl, Nat.le_of_ble_eq_true rfl⟩ (fun r_31 N_32 V_33 q_34 => ?_)
                obtain ⟨h_30, rfl, rfl⟩ := q_34
                refine aw_if_eq (tgt := 84) dX12_steps_71 (by decide) (fun c_35 => ?_) (fun c_35 => ?_)
                · skip
                  refine aw_iinc (v := (nI (p57 + 1))) (ls' := [some (.ref (b + 100)), some (.int (nI zn0)), some (.int (nI zn1)), some (.int (nI s57)), some (.int (v28_4 + 1)), some (.int (nI s28)), some (.int (nI (p57 + 1)))]) dX12_steps_84 rfl (fx_up_1 _) (Nat.le_of_ble_eq_true rfl) rfl ?_
                  refine aw_goto (tgt := 57) dX12_steps_87 (by decide) ?_
                  refine aw_le ?_ (mih_57_27 _ (by omega) (p57 + 1) s57 rfl (by omega) ((by first | omega | exact fx_pow12 (by omega) | exact or_lt (by omega) (by first | omega | exact fx_pow12 (by omega)))) ((by first | omega | exact Nat.le_trans (by omega) Nat.left_le_or)))
                  exact ⟨rfl, ⟨rfl, ⟨rfl, ⟨rfl, ⟨rfl, ⟨rfl, ⟨rfl, trivial⟩⟩⟩⟩⟩⟩⟩
                · skip
                  refine aw_iload_n dX12_steps_74 rfl ?_
                  refine aw_aload_n dX12_steps_75 rfl ?_
                  refine aw_get dX12_steps_76 fl_X12_19 e_4 (by omega) rfl ?_
                  refine aw_iload dX12_steps_79 rfl ?_
                  obtain ⟨g_36, e_36, p_36⟩ := JR.get hJ0 cm_104
                  refine aw_iald (v := (g_36 p57)) dX12_steps_81 e_36 (by omega) (vp_in_nI (n := p57) (by omega) (by omega)) (congrArg g_36 (nI_clamp (n := p57) (by omega))) ?_
                  obtain ⟨z_37, hz_37, ez_37⟩ := p_36 p57 (by omega)
                  refine aw_eqi ez_37 ?_
                  refine aw_ior dX12_steps_82 ?_
                  refine aw_eqi (y := (nI (s57 ||| z_37))) (fx_orI _ _) ?_
                  refine aw_istore_n (ls' := [some (.ref (b + 100)), some (.int (nI zn0)), some (.int (nI zn1)), some (.int (nI (s57 ||| z_37))), some (.int (v28_4 + 1)), some (.int (nI s28)), some (.int (nI p57))]) dX12_steps_83 (Nat.le_of_ble_eq_true rfl) rfl ?_
                  refine aw_iinc (v := (nI (p57 + 1))) (ls' := [some (.ref (b + 100)), some (.int (nI zn0)), some (.int (nI zn1)), some (.int (nI (s57 ||| z_37))), some (.int (v28_4 + 1)), some (.int (nI s28)), some (.int (nI (p57 + 1)))]) dX12_steps_84 rfl (fx_up_1 _) (Nat.le_of_ble_eq_true rfl) rfl ?_
                  refine aw_goto (tgt := 57) dX12_steps_87 (by decide) ?_
                  refine aw_le ?_ (mih_57_27 _ (by omega) (p57 + 1) (s57 ||| z_37) rfl (by omega) ((by first | omega | exact fx_pow12 (by omega) | exact or_lt (by omega) (by first | omega | exact fx_pow12 (by omega)))) ((by first | omega | exact Nat.le_trans (by omega) Nat.left_le_or)))
                  exact ⟨rfl, ⟨rfl, ⟨rfl, ⟨rfl, ⟨rfl, ⟨rfl, ⟨rfl, trivial⟩⟩⟩⟩⟩⟩⟩
            refine aw_le ?_ (ml_57_27 _ 0 s28 rfl (by omega) ((by first | omega | exact fx_pow12 (by omega) | exact or_lt (by omega) (by first | omega | exact fx_pow12 (by omega)))) ((by first | omega | exact Nat.le_trans (by omega) Nat.left_le_or)))
            exact ⟨rfl, ⟨rfl, ⟨rfl, ⟨rfl, ⟨rfl, ⟨rfl, ⟨rfl, trivial⟩⟩⟩⟩⟩⟩⟩
          · skip
            refine aw_bipush (v := (-2)) dX12_steps_42 (by decide) ?_
            refine aw_ireti dX12_steps_44 rfl (Nat.le_of_ble_eq_true rfl) (Nat.le_of_ble_eq_true rfl) ?_
            exact ⟨rfl, rfl⟩
      refine aw_le ?_ (ml_28_18 _ (2 ^ zn0) 0 0 rfl ((by first | omega | exact fx_pow12 (by omega) | exact or_lt (by omega) (by first | omega | exact fx_pow12 (by omega)))))
      exact ⟨rfl, ⟨rfl, ⟨rfl, ⟨rfl, ⟨rfl, ⟨rfl, trivial⟩⟩⟩⟩⟩⟩
    · skip
      refine aw_iconst (v := (-1)) dX12_steps_16 (by decide) ?_
      refine aw_ireti dX12_steps_17 rfl (Nat.le_of_ble_eq_true rfl) (Nat.le_of_ble_eq_true rfl) ?_
      exact ⟨rfl, rfl⟩

set_option maxHeartbeats 4000000 in
set_option maxRecDepth 100000 in
theorem r_leaves (l : Launch) (D : va_G) (b : Nat) (N : Nat) (V : Wd) (hN : 133 ≤ N) (cl : Nat) (hW : CR D b cl V) (n0 : Int32) (hn0 : ∃ j : Nat, j < 12 ∧ n0 = nI j) (n1 : Int32)  : MI l D b 3 jX12_leaves [.ref (b + 100), .int n0, .int n1] N V 0 0 (fun r N9 V9 => N = N9 ∧ V = V9) := by
  have hJ0 : JR D b N cl [] V V := JR.rf hW
  obtain ⟨i0, hi0, rfl⟩ := hn0
  refine mw_of (by decide) (by simp [Value.category]) (Nat.le_of_ble_eq_true rfl) ?_
  show AW l D b jX12_leaves (fx_rm 3 0 0) none (fx_MQ D b 0 0 (fx_qi (fun r N9 V9 => N = N9 ∧ V = V9))) 0 [some (.ref (b + 100)), some (.int (nI i0)), some (.int n1), none] [] N V 0 0
  refine aw_aload_n dX12_leaves_0 rfl ?_
  refine aw_iload_n dX12_leaves_1 rfl ?_
  obtain ⟨ftoldPeople_3, ftoldDoors_3, fwasDoors_3, ffault_3, fopen_3, flines_3, fmeantSet_3, fopenedNow_3, fvainNow_3, flowNow_3, fhighNow_3, fisKept_3, tad_3, pl0_3, le0_3, nu0_3, coy_3, wag_3, say_3, e_3, hntad_3, hnpl0_3, hnle0_3, hnnu0_3, hncoy_3, hnwag_3, hnsay_3⟩ := JR.get hJ0 cm_100
  refine aw_callVi (J' := jX12_fearOf) (As := [.int (nI i0)]) (st := []) dX12_leaves_2 tb_1430 ok_X12_fearOf ⟨_, e_3⟩ (by omega) rfl rfl (r_fearOf l D b N V hN cl hJ0.1 (nI i0) ⟨i0, by omega, rfl⟩) rfl (Nat.le_of_ble_eq_true rfl) ⟨Nat.le_of_ble_eq_true rfl, Nat.le_of_ble_eq_true rfl, Nat.le_of_ble_eq_true rfl, Nat.le_of_ble_eq_true rfl⟩ (fun r_4 N_5 V_6 q_7 => ?_)
  obtain ⟨h_2, rfl, rfl⟩ := q_7
  refine aw_istore_n (ls' := [some (.ref (b + 100)), some (.int (nI i0)), some (.int n1), some (.int r_4)]) dX12_leaves_5 (Nat.le_of_ble_eq_true rfl) rfl ?_
  refine aw_iload_n dX12_leaves_6 rfl ?_
  refine aw_iconst (v := (-1)) dX12_leaves_7 (by decide) ?_
  refine aw_icmp_eq (tgt := 32) dX12_leaves_8 (by decide) (fun c_8 => ?_) (fun c_8 => ?_)
  · skip
    refine aw_iload_n dX12_leaves_32 rfl ?_
    refine aw_callSi (J' := jX12_bits) (As := [.int n1]) (st := []) dX12_leaves_33 tb_1396 ok_X12_bits rfl (r_bits l D b N V hN cl hJ0.1 n1) rfl (Nat.le_of_ble_eq_true rfl) ⟨Nat.le_of_ble_eq_true rfl, Nat.le_of_ble_eq_true rfl, Nat.le_of_ble_eq_true rfl, Nat.le_of_ble_eq_true rfl⟩ (fun r_10 N_11 V_12 q_13 => ?_)
    obtain ⟨rfl, rfl⟩ := q_13
    refine aw_ireti dX12_leaves_36 rfl (Nat.le_of_ble_eq_true rfl) (Nat.le_of_ble_eq_true rfl) ?_
    exact ⟨rfl, rfl⟩
  · skip
    refine aw_iload_n dX12_leaves_11 rfl ?_
    refine aw_iload_n dX12_leaves_12 rfl ?_
    refine aw_callSi (J' := jX12_has) (As := [.int n1, .int r_4]) (st := []) dX12_leaves_13 tb_1315 ok_X12_has rfl (r_has l D b N V hN cl hJ0.1 n1 r_4) rfl (Nat.le_of_ble_eq_true rfl) ⟨Nat.le_of_ble_eq_true rfl, Nat.le_of_ble_eq_true rfl, Nat.le_of_ble_eq_true rfl, Nat.le_of_ble_eq_true rfl⟩ (fun r_16 N_17 V_18 q_19 => ?_)
    obtain ⟨h_15, rfl, rfl⟩ := q_19
    refine aw_if_eq (tgt := 32) dX12_leaves_16 (by decide) (fun c_20 => ?_) (fun c_20 => ?_)
    · skip
      refine aw_iload_n dX12_leaves_32 rfl ?_
      refine aw_callSi (J' := jX12_bits) (As := [.int n1]) (st := []) dX12_leaves_33 tb_1396 ok_X12_bits rfl (r_bits l D b N V hN cl hJ0.1 n1) rfl (Nat.le_of_ble_eq_true rfl) ⟨Nat.le_of_ble_eq_true rfl, Nat.le_of_ble_eq_true rfl, Nat.le_of_ble_eq_true rfl, Nat.le_of_ble_eq_true rfl⟩ (fun r_22 N_23 V_24 q_25 => ?_)
      obtain ⟨rfl, rfl⟩ := q_25
      refine aw_ireti dX12_leaves_36 rfl (Nat.le_of_ble_eq_true rfl) (Nat.le_of_ble_eq_true rfl) ?_
      exact ⟨rfl, rfl⟩
    · skip
      refine aw_iconst (v := 1) dX12_leaves_19 (by decide) ?_
      refine aw_iload_n dX12_leaves_20 rfl ?_
      refine aw_callSi (J' := jX12_bits) (As := [.int n1]) (st := [.int 1]) dX12_leaves_21 tb_1396 ok_X12_bits rfl (r_bits l D b N V hN cl hJ0.1 n1) rfl (Nat.le_of_ble_eq_true rfl) ⟨Nat.le_of_ble_eq_true rfl, Nat.le_of_ble_eq_true rfl, Nat.le_of_ble_eq_true rfl, Nat.le_of_ble_eq_true rfl⟩ (fun r_27 N_28 V_29 q_30 => ?_)
      obtain ⟨rfl, rfl⟩ := q_30
      refine aw_iconst (v := 1) dX12_leaves_24 (by decide) ?_
      refine aw_isub dX12_leaves_25 ?_
      refine aw_callSi (J' := jX12_max) (As := [.int 1, .int (r_27 - 1)]) (st := []) dX12_leaves_26 tb_1328 ok_X12_max rfl (r_max l D b N V hN cl hJ0.1 1 (r_27 - 1)) rfl (Nat.le_of_ble_eq_true rfl) ⟨Nat.le_of_ble_eq_true rfl, Nat.le_of_ble_eq_true rfl, Nat.le_of_ble_eq_true rfl, Nat.le_of_ble_eq_true rfl⟩ (fun r_32 N_33 V_34 q_35 => ?_)
      obtain ⟨rfl, rfl⟩ := q_35
      refine aw_goto (tgt := 36) dX12_leaves_29 (by decide) ?_
      refine aw_ireti dX12_leaves_36 rfl (Nat.le_of_ble_eq_true rfl) (Nat.le_of_ble_eq_true rfl) ?_
      exact ⟨rfl, rfl⟩

set_option maxHeartbeats 4000000 in
set_option maxRecDepth 100000 in
theorem r_sentNext (l : Launch) (D : va_G) (b : Nat) (N : Nat) (V : Wd) (hN : 133 ≤ N) (cl : Nat) (hW : CR D b cl V) (n0 : Int32) (n1 : Int32)  : MI l D b 4 jX12_sentNext [.ref (b + 100), .int n0, .int n1] N V 0 0 (fun r N9 V9 => N = N9 ∧ V = V9) := by
  have hJ0 : JR D b N cl [] V V := JR.rf hW
  refine mw_of (by decide) (by simp [Value.category]) (Nat.le_of_ble_eq_true rfl) ?_
  show AW l D b jX12_sentNext (fx_rm 4 0 0) none (fx_MQ D b 0 0 (fx_qi (fun r N9 V9 => N = N9 ∧ V = V9))) 0 [some (.ref (b + 100)), some (.int n0), some (.int n1), none, none] [] N V 0 0
  refine aw_iload_n dX12_sentNext_0 rfl ?_
  refine aw_iconst (v := 1) dX12_sentNext_1 (by decide) ?_
  refine aw_ldcw (v := 65535) dX12_sentNext_2 tb_1314 ?_
  refine aw_callSi (J' := jX12_in) (As := [.int n0, .int 1, .int 65535]) (st := []) dX12_sentNext_5 tb_1209 ok_X12_in rfl (r_in l D b N V hN cl hJ0.1 n0 1 65535) rfl (Nat.le_of_ble_eq_true rfl) ⟨Nat.le_of_ble_eq_true rfl, Nat.le_of_ble_eq_true rfl, Nat.le_of_ble_eq_true rfl, Nat.le_of_ble_eq_true rfl⟩ (fun r_4 N_5 V_6 q_7 => ?_)
  obtain ⟨⟨z_3, h_2⟩, rfl, rfl⟩ := q_7
  refine aw_if_eq (tgt := 20) dX12_sentNext_8 (by decide) (fun c_8 => ?_) (fun c_8 => ?_)
  · skip
    refine aw_iconst (v := (-1)) dX12_sentNext_20 (by decide) ?_
    refine aw_ireti dX12_sentNext_21 rfl (Nat.le_of_ble_eq_true rfl) (Nat.le_of_ble_eq_true rfl) ?_
    exact ⟨rfl, rfl⟩
  · skip
    obtain ⟨zn0, h0zn0, hzn0, rfl⟩ := in_nat (a := 1) (b := 65535) (by decide) (h_2.resolve_left c_8)
    refine aw_iload_n dX12_sentNext_11 rfl ?_
    refine aw_iconst (v := 0) dX12_sentNext_12 (by decide) ?_
    refine aw_iconst (v := 1) dX12_sentNext_13 (by decide) ?_
    refine aw_callSi (J' := jX12_in) (As := [.int n1, .int 0, .int 1]) (st := []) dX12_sentNext_14 tb_1209 ok_X12_in rfl (r_in l D b N V hN cl hJ0.1 n1 0 1) rfl (Nat.le_of_ble_eq_true rfl) ⟨Nat.le_of_ble_eq_true rfl, Nat.le_of_ble_eq_true rfl, Nat.le_of_ble_eq_true rfl, Nat.le_of_ble_eq_true rfl⟩ (fun r_12 N_13 V_14 q_15 => ?_)
    obtain ⟨⟨z_11, h_10⟩, rfl, rfl⟩ := q_15
    refine aw_if_ne (tgt := 22) dX12_sentNext_17 (by decide) (fun c_16 => ?_) (fun c_16 => ?_)
    · skip
      obtain ⟨zn1, h0zn1, hzn1, rfl⟩ := in_nat (a := 0) (b := 1) (by decide) (h_10.resolve_left c_16)
      refine aw_bipush (v := (-2)) dX12_sentNext_22 (by decide) ?_
      refine aw_istore_n (ls' := [some (.ref (b + 100)), some (.int (nI zn0)), some (.int (nI zn1)), some (.int (-2)), none]) dX12_sentNext_24 (Nat.le_of_ble_eq_true rfl) rfl ?_
      refine aw_iconst (v := 0) dX12_sentNext_25 (by decide) ?_
      refine aw_istore (ls' := [some (.ref (b + 100)), some (.int (nI zn0)), some (.int (nI zn1)), some (.int (-2)), some (.int 0)]) dX12_sentNext_26 (Nat.le_of_ble_eq_true rfl) rfl ?_
      have loop_28_16 : ∀ (g_28 : Nat), ∀ (j28 : Nat) (v28_3 : Int32), j28 + g_28 = 12 → (v28_3 = -2 ∨ ∃ k : Nat, k < 12 ∧ v28_3 = nI k) → AW l D b jX12_sentNext (fx_rm 4 0 0) none (fx_MQ D b 0 0 (fx_qi (fun r N9 V9 => N = N9 ∧ V = V9))) 28 [some (.ref (b + 100)), some (.int (nI zn0)), some (.int (nI zn1)), some (.int v28_3), some (.int (nI j28))] [] N V 0 0 := by
        intro g_28
        induction g_28 with
        | zero =>
          intro j28 v28_3 hj28 i28_0
          obtain rfl : j28 = 12 := by omega
          refine aw_iload dX12_sentNext_28 rfl ?_
          refine aw_bipush (v := 12) dX12_sentNext_30 (by decide) ?_
          refine aw_icmp_ge (tgt := 75) dX12_sentNext_32 (by decide) (fun c_19 => ?_) (fun c_19 => ?_)
          rotate_left
          · exact absurd (nI_le (a := 12) (b := 12) (Nat.le_refl _) (by omega)) c_19
          refine aw_iload_n dX12_sentNext_75 rfl ?_
          refine aw_if_eq (tgt := 85) dX12_sentNext_76 (by decide) (fun c_20 => ?_) (fun c_20 => ?_)
          · skip
            have nc_20 : zn1 = 0 := (nI_eq (a := zn1) (b := 0) (by omega) (by omega)).mp c_20
            refine aw_iload_n dX12_sentNext_85 rfl ?_
            refine aw_goto (tgt := 95) dX12_sentNext_86 (by decide) ?_
            refine aw_ireti dX12_sentNext_95 rfl (Nat.le_of_ble_eq_true rfl) (Nat.le_of_ble_eq_true rfl) ?_
            exact ⟨rfl, rfl⟩
          · skip
            have nc_20 : ¬ (zn1 = 0) := fun z => c_20 ((nI_eq (a := zn1) (b := 0) (by omega) (by omega)).mpr z)
            refine aw_iload_n dX12_sentNext_79 rfl ?_
            refine aw_bipush (v := (-2)) dX12_sentNext_80 (by decide) ?_
            refine aw_icmp_ne (tgt := 89) dX12_sentNext_82 (by decide) (fun c_21 => ?_) (fun c_21 => ?_)
            · skip
              refine aw_aload_n dX12_sentNext_89 rfl ?_
              refine aw_iload_n dX12_sentNext_90 rfl ?_
              refine aw_iload_n dX12_sentNext_91 rfl ?_
              obtain ⟨ftoldPeople_23, ftoldDoors_23, fwasDoors_23, ffault_23, fopen_23, flines_23, fmeantSet_23, fopenedNow_23, fvainNow_23, flowNow_23, fhighNow_23, fisKept_23, tad_23, pl0_23, le0_23, nu0_23, coy_23, wag_23, say_23, e_23, hntad_23, hnpl0_23, hnle0_23, hnnu0_23, hncoy_23, hnwag_23, hnsay_23⟩ := JR.get hJ0 cm_100
              refine aw_callVi (J' := jX12_leaves) (As := [.int v28_3, .int (nI zn0)]) (st := []) dX12_sentNext_92 tb_1568 ok_X12_leaves ⟨_, e_23⟩ (by omega) rfl rfl (r_leaves l D b N V hN cl hJ0.1 v28_3 (i28_0.resolve_left c_21) (nI zn0)) rfl (Nat.le_of_ble_eq_true rfl) ⟨Nat.le_of_ble_eq_true rfl, Nat.le_of_ble_eq_true rfl, Nat.le_of_ble_eq_true rfl, Nat.le_of_ble_eq_true rfl⟩ (fun r_24 N_25 V_26 q_27 => ?_)
              obtain ⟨rfl, rfl⟩ := q_27
              refine aw_ireti dX12_sentNext_95 rfl (Nat.le_of_ble_eq_true rfl) (Nat.le_of_ble_eq_true rfl) ?_
              exact ⟨rfl, rfl⟩
            · skip
              refine aw_iload_n dX12_sentNext_85 rfl ?_
              refine aw_goto (tgt := 95) dX12_sentNext_86 (by decide) ?_
              refine aw_ireti dX12_sentNext_95 rfl (Nat.le_of_ble_eq_true rfl) (Nat.le_of_ble_eq_true rfl) ?_
              exact ⟨rfl, rfl⟩
        | succ g_28 ih_28_17 =>
          intro j28 v28_3 hj28 i28_0
          have hlj28 : j28 < 12 := by omega
          refine aw_iload dX12_sentNext_28 rfl ?_
          refine aw_bipush (v := 12) dX12_sentNext_30 (by decide) ?_
          refine aw_icmp_ge (tgt := 75) dX12_sentNext_32 (by decide) (fun c_28 => ?_) (fun c_28 => ?_)
          · exact absurd c_28 (nI_ge (a := j28) (b := 12) (by omega) (by omega))
          refine aw_aload_n dX12_sentNext_35 rfl ?_
          refine aw_iload dX12_sentNext_36 rfl ?_
          obtain ⟨ftoldPeople_32, ftoldDoors_32, fwasDoors_32, ffault_32, fopen_32, flines_32, fmeantSet_32, fopenedNow_32, fvainNow_32, flowNow_32, fhighNow_32, fisKept_32, tad_32, pl0_32, le0_32, nu0_32, coy_32, wag_32, say_32, e_32, hntad_32, hnpl0_32, hnle0_32, hnnu0_32, hncoy_32, hnwag_32, hnsay_32⟩ := JR.get hJ0 cm_100
          refine aw_callVi (J' := jX12_isTold) (As := [.int (nI j28)]) (st := []) dX12_sentNext_38 tb_1351 ok_X12_isTold ⟨_, e_32⟩ (by omega) rfl rfl (r_isTold l D b N V hN cl hJ0.1 (nI j28)) rfl (Nat.le_of_ble_eq_true rfl) ⟨Nat.le_of_ble_eq_true rfl, Nat.le_of_ble_eq_true rfl, Nat.le_of_ble_eq_true rfl, Nat.le_of_ble_eq_true rfl⟩ (fun r_33 N_34 V_35 q_36 => ?_)
          obtain ⟨⟨z_31, h_30⟩, rfl, rfl⟩ := q_36
          refine aw_if_eq (tgt := 69) dX12_sentNext_41 (by decide) (fun c_37 => ?_) (fun c_37 => ?_)
          · skip
            refine aw_iinc (v := (nI (j28 + 1))) (ls' := [some (.ref (b + 100)), some (.int (nI zn0)), some (.int (nI zn1)), some (.int v28_3), some (.int (nI (j28 + 1)))]) dX12_sentNext_69 rfl (fx_up_1 _) (Nat.le_of_ble_eq_true rfl) rfl ?_
            refine aw_goto (tgt := 28) dX12_sentNext_72 (by decide) ?_
            refine aw_le ?_ (ih_28_17 (j28 + 1) v28_3  (by omega) (i28_0))
            exact ⟨rfl, ⟨rfl, ⟨rfl, ⟨rfl, ⟨rfl, trivial⟩⟩⟩⟩⟩
          · skip
            refine aw_iload_n dX12_sentNext_44 rfl ?_
            refine aw_bipush (v := (-2)) dX12_sentNext_45 (by decide) ?_
            refine aw_icmp_eq (tgt := 66) dX12_sentNext_47 (by decide) (fun c_38 => ?_) (fun c_38 => ?_)
            · skip
              refine aw_iload dX12_sentNext_66 rfl ?_
              refine aw_istore_n (ls' := [some (.ref (b + 100)), some (.int (nI zn0)), some (.int (nI zn1)), some (.int (nI j28)), some (.int (nI j28))]) dX12_sentNext_68 (Nat.le_of_ble_eq_true rfl) rfl ?_
              refine aw_iinc (v := (nI (j28 + 1))) (ls' := [some (.ref (b + 100)), some (.int (nI zn0)), some (.int (nI zn1)), some (.int (nI j28)), some (.int (nI (j28 + 1)))]) dX12_sentNext_69 rfl (fx_up_1 _) (Nat.le_of_ble_eq_true rfl) rfl ?_
              refine aw_goto (tgt := 28) dX12_sentNext_72 (by decide) ?_
              refine aw_le ?_ (ih_28_17 (j28 + 1) (nI j28)  (by omega) (Or.inr ⟨j28, by omega, rfl⟩))
              exact ⟨rfl, ⟨rfl, ⟨rfl, ⟨rfl, ⟨rfl, trivial⟩⟩⟩⟩⟩
            · skip
              refine aw_aload_n dX12_sentNext_50 rfl ?_
              refine aw_iload dX12_sentNext_51 rfl ?_
              refine aw_iload_n dX12_sentNext_53 rfl ?_
              refine aw_callVi (J' := jX12_leaves) (As := [.int (nI j28), .int (nI zn0)]) (st := []) dX12_sentNext_54 tb_1568 ok_X12_leaves ⟨_, e_32⟩ (by omega) rfl rfl (r_leaves l D b N V hN cl hJ0.1 (nI j28) ⟨j28, by omega, rfl⟩ (nI zn0)) rfl (Nat.le_of_ble_eq_true rfl) ⟨Nat.le_of_ble_eq_true rfl, Nat.le_of_ble_eq_true rfl, Nat.le_of_ble_eq_true rfl, Nat.le_of_ble_eq_true rfl⟩ (fun r_40 N_41 V_42 q_43 => ?_)
              obtain ⟨rfl, rfl⟩ := q_43
              refine aw_aload_n dX12_sentNext_57 rfl ?_
              refine aw_iload_n dX12_sentNext_58 rfl ?_
              refine aw_iload_n dX12_sentNext_59 rfl ?_
              refine aw_callVi (J' := jX12_leaves) (As := [.int v28_3, .int (nI zn0)]) (st := [.int r_40]) dX12_sentNext_60 tb_1568 ok_X12_leaves ⟨_, e_32⟩ (by omega) rfl rfl (r_leaves l D b N V hN cl hJ0.1 v28_3 (i28_0.resolve_left c_38) (nI zn0)) rfl (Nat.le_of_ble_eq_true rfl) ⟨Nat.le_of_ble_eq_true rfl, Nat.le_of_ble_eq_true rfl, Nat.le_of_ble_eq_true rfl, Nat.le_of_ble_eq_true rfl⟩ (fun r_45 N_46 V_47 q_48 => ?_)
              obtain ⟨rfl, rfl⟩ := q_48
              refine aw_icmp_ge (tgt := 69) dX12_sentNext_63 (by decide) (fun c_49 => ?_) (fun c_49 => ?_)
              · skip
                refine aw_iinc (v := (nI (j28 + 1))) (ls' := [some (.ref (b + 100)), some (.int (nI zn0)), some (.int (nI zn1)), some (.int v28_3), some (.int (nI (j28 + 1)))]) dX12_sentNext_69 rfl (fx_up_1 _) (Nat.le_of_ble_eq_true rfl) rfl ?_
                refine aw_goto (tgt := 28) dX12_sentNext_72 (by decide) ?_
                refine aw_le ?_ (ih_28_17 (j28 + 1) v28_3  (by omega) (i28_0))
                exact ⟨rfl, ⟨rfl, ⟨rfl, ⟨rfl, ⟨rfl, trivial⟩⟩⟩⟩⟩
              · skip
                refine aw_iload dX12_sentNext_66 rfl ?_
                refine aw_istore_n (ls' := [some (.ref (b + 100)), some (.int (nI zn0)), some (.int (nI zn1)), some (.int (nI j28)), some (.int (nI j28))]) dX12_sentNext_68 (Nat.le_of_ble_eq_true rfl) rfl ?_
                refine aw_iinc (v := (nI (j28 + 1))) (ls' := [some (.ref (b + 100)), some (.int (nI zn0)), some (.int (nI zn1)), some (.int (nI j28)), some (.int (nI (j28 + 1)))]) dX12_sentNext_69 rfl (fx_up_1 _) (Nat.le_of_ble_eq_true rfl) rfl ?_
                refine aw_goto (tgt := 28) dX12_sentNext_72 (by decide) ?_
                refine aw_le ?_ (ih_28_17 (j28 + 1) (nI j28)  (by omega) (Or.inr ⟨j28, by omega, rfl⟩))
                exact ⟨rfl, ⟨rfl, ⟨rfl, ⟨rfl, ⟨rfl, trivial⟩⟩⟩⟩⟩
      refine aw_le ?_ (loop_28_16 12 0 (-2)  (by omega) (Or.inl rfl))
      exact ⟨rfl, ⟨rfl, ⟨rfl, ⟨rfl, ⟨rfl, trivial⟩⟩⟩⟩⟩
    · skip
      refine aw_iconst (v := (-1)) dX12_sentNext_20 (by decide) ?_
      refine aw_ireti dX12_sentNext_21 rfl (Nat.le_of_ble_eq_true rfl) (Nat.le_of_ble_eq_true rfl) ?_
      exact ⟨rfl, rfl⟩
