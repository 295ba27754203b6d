set_option maxHeartbeats 4000000 in
set_option maxRecDepth 100000 in
theorem r_feedK (l : Launch) (D : va_G) (b : Nat) (N : Nat) (V : Wd) (hN : 133 ≤ N) (cl : Nat) (hW : CR D b cl V) (n0 : Int32) (n1 : Int32) (n2 : Int32) (n3 : Int32) (n4 : Int32)  : MI l D b 1 jX12_feed [.ref (b + 100), .int n0, .int n1, .int n2, .int n3, .int n4] N V 0 0 (fun r N9 V9 => (FDS (fI (V 100) 13) r (fI (V9 100) 13)) ∧ N = N9 ∧ JR D b N cl [(110, 110, 0, 1000000), (100, 100, 13, 13)] V V9) := by
  have hJ0 : JR D b N cl [(110, 110, 0, 1000000), (100, 100, 13, 13)] V V := JR.rf hW
  refine mw_of (by decide) (by simp [Value.category]) (Nat.le_of_ble_eq_true rfl) ?_
  show AW l D b jX12_feed (fx_rm 1 0 0) none (fx_MQ D b 0 0 (fx_qi (fun r N9 V9 => (FDS (fI (V 100) 13) r (fI (V9 100) 13)) ∧ N = N9 ∧ JR D b N cl [(110, 110, 0, 1000000), (100, 100, 13, 13)] V V9))) 0 [some (.ref (b + 100)), some (.int n0), some (.int n1), some (.int n2), some (.int n3), some (.int n4)] [] N V 0 0
  obtain ⟨ftoldPeople_1, ftoldDoors_1, fwasDoors_1, ffault_1, fopen_1, flines_1, fmeantSet_1, fopenedNow_1, fvainNow_1, flowNow_1, fhighNow_1, fisKept_1, tad_1, pl0_1, le0_1, nu0_1, coy_1, wag_1, say_1, e_1, hntad_1, hnpl0_1, hnle0_1, hnnu0_1, hncoy_1, hnwag_1, hnsay_1⟩ := JR.get hJ0 cm_100
  have hta0 : fI (V 100) 13 = nI tad_1 := ((congrArg (fun z => fI z 13) e_1).trans rfl)
  refine aw_aload_n dX12_feed_0 rfl ?_
  refine aw_get dX12_feed_1 fl_X12_152 e_1 (by omega) rfl ?_
  refine aw_bipush (v := 20) dX12_feed_4 (by decide) ?_
  refine aw_iadd dX12_feed_6 ?_
  refine aw_eqi (y := nI (tad_1 + 20)) (nI_add _ _) ?_
  refine aw_sipush (v := 260) dX12_feed_7 (by decide) ?_
  refine aw_icmp_le (tgt := 15) dX12_feed_10 (by decide) (fun c_2 => ?_) (fun c_2 => ?_)
  · skip
    have nc_2 : (tad_1 + 20) ≤ 260 := (nI_leI (a := (tad_1 + 20)) (b := 260) (by omega) (by omega)).mp c_2
    refine aw_aload_n dX12_feed_15 rfl ?_
    refine aw_iload_n dX12_feed_16 rfl ?_
    refine aw_callVv (J' := jX12_types) (As := [.int n0]) (st := []) dX12_feed_17 tb_1201 ok_X12_types ⟨_, e_1⟩ (by omega) rfl rfl (r_types l D b N V hN cl hJ0.1 n0 tad_1 (FG.of e_1 rfl rfl) (by omega)) rfl (Nat.le_of_ble_eq_true rfl) ⟨Nat.le_of_ble_eq_true rfl, Nat.le_of_ble_eq_true rfl, Nat.le_of_ble_eq_true rfl, Nat.le_of_ble_eq_true rfl⟩ (fun  N_8 V_6 q_9 => ?_)
    obtain ⟨h_5, rfl, q_3⟩ := q_9
    have j_4 := JR.trans hJ0 (JR.weak q_3 (Sub.cons LM0 (by decide) (by decide) (by decide) (Or.inl rfl) (Sub.cons (LMs LM0) (by decide) (by decide) (by decide) (Or.inr ⟨by decide, by decide⟩) Sub.nil)))
    obtain ⟨ftoldPeople_t7, ftoldDoors_t7, fwasDoors_t7, ffault_t7, fopen_t7, flines_t7, fmeantSet_t7, fopenedNow_t7, fvainNow_t7, flowNow_t7, fhighNow_t7, fisKept_t7, tad_t7, pl0_t7, le0_t7, nu0_t7, coy_t7, wag_t7, say_t7, e_t7, hntad_t7, hnpl0_t7, hnle0_t7, hnnu0_t7, hncoy_t7, hnwag_t7, hnsay_t7⟩ := JR.get j_4 cm_100
    have hq_t7 := FG.eq h_5 e_t7 rfl (by omega) (by omega)
    refine aw_aload_n dX12_feed_20 rfl ?_
    refine aw_iload_n dX12_feed_21 rfl ?_
    refine aw_callVv (J' := jX12_types) (As := [.int n1]) (st := []) dX12_feed_22 tb_1201 ok_X12_types ⟨_, e_t7⟩ (by omega) rfl rfl (r_types l D b N V_6 hN cl j_4.1 n1 tad_t7 (FG.of e_t7 rfl rfl) (by omega)) rfl (Nat.le_of_ble_eq_true rfl) ⟨Nat.le_of_ble_eq_true rfl, Nat.le_of_ble_eq_true rfl, Nat.le_of_ble_eq_true rfl, Nat.le_of_ble_eq_true rfl⟩ (fun  N_15 V_13 q_16 => ?_)
    obtain ⟨h_12, rfl, q_10⟩ := q_16
    have j_11 := JR.trans j_4 (JR.weak q_10 (Sub.cons LM0 (by decide) (by decide) (by decide) (Or.inl rfl) (Sub.cons (LMs LM0) (by decide) (by decide) (by decide) (Or.inr ⟨by decide, by decide⟩) Sub.nil)))
    obtain ⟨ftoldPeople_t14, ftoldDoors_t14, fwasDoors_t14, ffault_t14, fopen_t14, flines_t14, fmeantSet_t14, fopenedNow_t14, fvainNow_t14, flowNow_t14, fhighNow_t14, fisKept_t14, tad_t14, pl0_t14, le0_t14, nu0_t14, coy_t14, wag_t14, say_t14, e_t14, hntad_t14, hnpl0_t14, hnle0_t14, hnnu0_t14, hncoy_t14, hnwag_t14, hnsay_t14⟩ := JR.get j_11 cm_100
    have hq_t14 := FG.eq h_12 e_t14 rfl (by omega) (by omega)
    refine aw_aload_n dX12_feed_25 rfl ?_
    refine aw_iload_n dX12_feed_26 rfl ?_
    refine aw_callVv (J' := jX12_types) (As := [.int n2]) (st := []) dX12_feed_27 tb_1201 ok_X12_types ⟨_, e_t14⟩ (by omega) rfl rfl (r_types l D b N V_13 hN cl j_11.1 n2 tad_t14 (FG.of e_t14 rfl rfl) (by omega)) rfl (Nat.le_of_ble_eq_true rfl) ⟨Nat.le_of_ble_eq_true rfl, Nat.le_of_ble_eq_true rfl, Nat.le_of_ble_eq_true rfl, Nat.le_of_ble_eq_true rfl⟩ (fun  N_22 V_20 q_23 => ?_)
    obtain ⟨h_19, rfl, q_17⟩ := q_23
    have j_18 := JR.trans j_11 (JR.weak q_17 (Sub.cons LM0 (by decide) (by decide) (by decide) (Or.inl rfl) (Sub.cons (LMs LM0) (by decide) (by decide) (by decide) (Or.inr ⟨by decide, by decide⟩) Sub.nil)))
    obtain ⟨ftoldPeople_t21, ftoldDoors_t21, fwasDoors_t21, ffault_t21, fopen_t21, flines_t21, fmeantSet_t21, fopenedNow_t21, fvainNow_t21, flowNow_t21, fhighNow_t21, fisKept_t21, tad_t21, pl0_t21, le0_t21, nu0_t21, coy_t21, wag_t21, say_t21, e_t21, hntad_t21, hnpl0_t21, hnle0_t21, hnnu0_t21, hncoy_t21, hnwag_t21, hnsay_t21⟩ := JR.get j_18 cm_100
    have hq_t21 := FG.eq h_19 e_t21 rfl (by omega) (by omega)
    refine aw_aload_n dX12_feed_30 rfl ?_
    refine aw_iload dX12_feed_31 rfl ?_
    refine aw_callVv (J' := jX12_types) (As := [.int n3]) (st := []) dX12_feed_33 tb_1201 ok_X12_types ⟨_, e_t21⟩ (by omega) rfl rfl (r_types l D b N V_20 hN cl j_18.1 n3 tad_t21 (FG.of e_t21 rfl rfl) (by omega)) rfl (Nat.le_of_ble_eq_true rfl) ⟨Nat.le_of_ble_eq_true rfl, Nat.le_of_ble_eq_true rfl, Nat.le_of_ble_eq_true rfl, Nat.le_of_ble_eq_true rfl⟩ (fun  N_29 V_27 q_30 => ?_)
    obtain ⟨h_26, rfl, q_24⟩ := q_30
    have j_25 := JR.trans j_18 (JR.weak q_24 (Sub.cons LM0 (by decide) (by decide) (by decide) (Or.inl rfl) (Sub.cons (LMs LM0) (by decide) (by decide) (by decide) (Or.inr ⟨by decide, by decide⟩) Sub.nil)))
    obtain ⟨ftoldPeople_t28, ftoldDoors_t28, fwasDoors_t28, ffault_t28, fopen_t28, flines_t28, fmeantSet_t28, fopenedNow_t28, fvainNow_t28, flowNow_t28, fhighNow_t28, fisKept_t28, tad_t28, pl0_t28, le0_t28, nu0_t28, coy_t28, wag_t28, say_t28, e_t28, hntad_t28, hnpl0_t28, hnle0_t28, hnnu0_t28, hncoy_t28, hnwag_t28, hnsay_t28⟩ := JR.get j_25 cm_100
    have hq_t28 := FG.eq h_26 e_t28 rfl (by omega) (by omega)
    refine aw_aload_n dX12_feed_36 rfl ?_
    refine aw_iload dX12_feed_37 rfl ?_
    refine aw_callVv (J' := jX12_types) (As := [.int n4]) (st := []) dX12_feed_39 tb_1201 ok_X12_types ⟨_, e_t28⟩ (by omega) rfl rfl (r_types l D b N V_27 hN cl j_25.1 n4 tad_t28 (FG.of e_t28 rfl rfl) (by omega)) rfl (Nat.le_of_ble_eq_true rfl) ⟨Nat.le_of_ble_eq_true rfl, Nat.le_of_ble_eq_true rfl, Nat.le_of_ble_eq_true rfl, Nat.le_of_ble_eq_true rfl⟩ (fun  N_36 V_34 q_37 => ?_)
    obtain ⟨h_33, rfl, q_31⟩ := q_37
    have j_32 := JR.trans j_25 (JR.weak q_31 (Sub.cons LM0 (by decide) (by decide) (by decide) (Or.inl rfl) (Sub.cons (LMs LM0) (by decide) (by decide) (by decide) (Or.inr ⟨by decide, by decide⟩) Sub.nil)))
    obtain ⟨ftoldPeople_t35, ftoldDoors_t35, fwasDoors_t35, ffault_t35, fopen_t35, flines_t35, fmeantSet_t35, fopenedNow_t35, fvainNow_t35, flowNow_t35, fhighNow_t35, fisKept_t35, tad_t35, pl0_t35, le0_t35, nu0_t35, coy_t35, wag_t35, say_t35, e_t35, hntad_t35, hnpl0_t35, hnle0_t35, hnnu0_t35, hncoy_t35, hnwag_t35, hnsay_t35⟩ := JR.get j_32 cm_100
    have hq_t35 := FG.eq h_33 e_t35 rfl (by omega) (by omega)
    refine aw_aload_n dX12_feed_42 rfl ?_
    refine aw_get dX12_feed_43 fl_X12_152 e_t35 (by omega) rfl ?_
    refine aw_ireti dX12_feed_46 rfl (Nat.le_of_ble_eq_true rfl) (Nat.le_of_ble_eq_true rfl) ?_
    exact ⟨Or.inr ⟨by rw [hta0]; exact fun z => absurd ((nI_ltI (a := 240) (b := tad_1) (by omega) (by omega)).mp z) (by omega), by rw [hta0]; exact (congrArg nI (by omega)).trans (nI_a20 _).symm, by rw [hta0]; exact ((congrArg (fun z => fI z 13) e_t35).trans rfl).trans ((congrArg nI (by omega)).trans (nI_a20 _).symm)⟩, rfl, j_32⟩
  · skip
    have nc_2 : ¬ ((tad_1 + 20) ≤ 260) := fun z => c_2 ((nI_leI (a := (tad_1 + 20)) (b := 260) (by omega) (by omega)).mpr z)
    refine aw_iconst (v := (-1)) dX12_feed_13 (by decide) ?_
    refine aw_ireti dX12_feed_14 rfl (Nat.le_of_ble_eq_true rfl) (Nat.le_of_ble_eq_true rfl) ?_
    exact ⟨Or.inl ⟨by rw [hta0]; exact (nI_ltI (a := 240) (b := tad_1) (by omega) (by omega)).mpr (by omega), rfl, (Eq.refl (fI (V 100) 13))⟩, rfl, hJ0⟩

set_option maxHeartbeats 20000000 in
set_option maxRecDepth 100000 in
theorem r_lawtailK (l : Launch) (D : va_G) (b : Nat) (N : Nat) (V0 V : Wd) (hN : 133 ≤ N) (cl : Nat) (hJ0 : JR D b N cl [(111, 121, 0, 1000000), (100, 100, 22, 22), (100, 100, 14, 14), (100, 100, 15, 15), (100, 100, 19, 19), (100, 100, 21, 21), (100, 100, 18, 18), (100, 100, 20, 20), (100, 100, 16, 16), (100, 100, 17, 17), (100, 100, 13, 13)] V0 V) (ftoldPeople_0 : Int32) (ftoldDoors_0 : Int32) (fwasDoors_0 : Int32) (ffault_0 : Int32) (fopen_0 : Int32) (flines_0 : Int32) (fmeantSet_0 : Int32) (fopenedNow_0 : Int32) (fvainNow_0 : Int32) (flowNow_0 : Int32) (fhighNow_0 : Int32) (fisKept_0 : Int32) (tad_0 : Nat) (pl0_0 : Nat) (le0_0 : Nat) (nu0_0 : Nat) (coy_0 : Nat) (wag_0 : Nat) (say_0 : Nat) (hn0 : tad_0 ≤ 260 ∧ pl0_0 ≤ 240 ∧ le0_0 ≤ 240 ∧ nu0_0 ≤ 99999 ∧ coy_0 ≤ 260 ∧ wag_0 ≤ 260 ∧ say_0 ≤ 16) (h100 : V 100 = cO 11 [.ref (b + 101), .ref (b + 102), .ref (b + 103), .ref (b + 104), .ref (b + 105), .ref (b + 106), .ref (b + 107), .ref (b + 108), .ref (b + 109), .int ftoldPeople_0, .int ftoldDoors_0, .int fwasDoors_0, .ref (b + 110), .int (nI tad_0), .int (nI pl0_0), .int (nI le0_0), .int ffault_0, .int (nI nu0_0), .int fopen_0, .int (nI coy_0), .int (nI wag_0), .int (nI say_0), .int (nI cl), .ref (b + 111), .ref (b + 112), .ref (b + 113), .ref (b + 114), .ref (b + 115), .ref (b + 116), .ref (b + 117), .ref (b + 118), .ref (b + 119), .ref (b + 120), .ref (b + 121), .ref (b + 122), .ref (b + 123), .int flines_0, .int fmeantSet_0, .int fopenedNow_0, .int fvainNow_0, .ref (b + 124), .ref (b + 125), .ref (b + 126), .ref (b + 127), .ref (b + 128), .int flowNow_0, .int fhighNow_0, .ref (b + 129), .ref (b + 130), .ref (b + 131), .ref (b + 132), .int fisKept_0]) (sd wa sl sf sh st : Nat → Int32) (hsd : V 111 = cI D 260 sd) (h113 : V 113 = cI D 16 sl) (h114 : V 114 = cI D 16 sf) (h115 : V 115 = cI D 16 sh) (h116 : V 116 = cI D 16 st) (hcm : coy_0 ≤ 240) (hR : RI sd sf sh st say_0 coy_0) (x1 x2 : Int32) (C : Prop) (hC : C) (h13 : fI (V 100) 13 = 0) : AW l D b jX12_law (fx_rm 8 0 0) none (fx_MQ D b 0 0 (fx_qi (fun r N9 V9 => N = N9 ∧ ∃ cl9, CR D b cl9 V9 ∧ (∀ i, (i < 100 ∨ 133 ≤ i) → i < N → V9 i = V0 i) ∧ WF D cl9 V9 ∧ (∀ i k, 100 ≤ i → i < 133 → fwB [(111, 121, 0, 1000000), (100, 100, 22, 22), (100, 100, 14, 14), (100, 100, 15, 15), (100, 100, 19, 19), (100, 100, 21, 21), (100, 100, 18, 18), (100, 100, 20, 20), (100, 100, 16, 16), (100, 100, 17, 17), (100, 100, 13, 13)] i k = false → pj (V9 i) k = pj (V0 i) k) ∧ TKS C (fI (V0 100) 13) (fI (V9 100) 13)))) 85 [some (.ref (b + 100)), some (.int x1), some (.int x2), none] [] N V 0 0 := by
  obtain ⟨hb_tad, hb_pl0, hb_le0, hb_nu0, hb_coy, hb_wag, hb_say⟩ := id hn0
  refine aw_aload_n dX12_law_85 rfl ?_
  refine aw_aload_n dX12_law_86 rfl ?_
  refine aw_get dX12_law_87 fl_X12_236 h100 (by omega) rfl ?_
  refine aw_put dX12_law_90 fp_X12_251 h100 (by omega) rfl rfl (Nat.le_of_ble_eq_true rfl) rfl ?_
  refine aw_cl (cl' := say_0) hJ0 ⟨_, _, _, _, _, _, _, _, _, _, _, _, tad_0, pl0_0, le0_0, nu0_0, coy_0, wag_0, say_0, rfl, by omega, by omega, by omega, by omega, by omega, by omega, by omega⟩ (WO (s := 22) (x := .int (nI say_0)) h100 rfl (LMs LM0) (by decide) (by decide) (by decide) (Or.inl (by decide))) (fun V_1 j_1 k_1 e_1 => ?_)
  refine aw_iconst (v := 0) dX12_law_93 (by decide) ?_
  refine aw_istore_n (ls' := [some (.ref (b + 100)), some (.int x1), some (.int x2), some (.int 0)]) dX12_law_94 (Nat.le_of_ble_eq_true rfl) rfl ?_
  have loop_95_1 : ∀ (g_95 : Nat), ∀ (j95 : Nat)  (V95 : Wd), j95 + g_95 = coy_0 → (∃ cd, V95 117 = cI D 260 cd ∧ ∀ i, i < j95 → cd i = sd i) → (JL D b N say_0 [(111, 121, 0, 1000000), (100, 100, 22, 22), (100, 100, 14, 14), (100, 100, 15, 15), (100, 100, 19, 19), (100, 100, 21, 21), (100, 100, 18, 18), (100, 100, 20, 20), (100, 100, 16, 16), (100, 100, 17, 17), (100, 100, 13, 13)] V0 V95) → (V95 100 = cO 11 [.ref (b + 101), .ref (b + 102), .ref (b + 103), .ref (b + 104), .ref (b + 105), .ref (b + 106), .ref (b + 107), .ref (b + 108), .ref (b + 109), .int ftoldPeople_0, .int ftoldDoors_0, .int fwasDoors_0, .ref (b + 110), .int (nI tad_0), .int (nI pl0_0), .int (nI le0_0), .int ffault_0, .int (nI nu0_0), .int fopen_0, .int (nI coy_0), .int (nI wag_0), .int (nI say_0), .int (nI say_0), .ref (b + 111), .ref (b + 112), .ref (b + 113), .ref (b + 114), .ref (b + 115), .ref (b + 116), .ref (b + 117), .ref (b + 118), .ref (b + 119), .ref (b + 120), .ref (b + 121), .ref (b + 122), .ref (b + 123), .int flines_0, .int fmeantSet_0, .int fopenedNow_0, .int fvainNow_0, .ref (b + 124), .ref (b + 125), .ref (b + 126), .ref (b + 127), .ref (b + 128), .int flowNow_0, .int fhighNow_0, .ref (b + 129), .ref (b + 130), .ref (b + 131), .ref (b + 132), .int fisKept_0]) → (V95 111 = cI D 260 sd) → (V95 113 = cI D 16 sl) → (V95 114 = cI D 16 sf) → (V95 115 = cI D 16 sh) → (V95 116 = cI D 16 st) → (fI (V95 100) 13 = 0) → AW l D b jX12_law (fx_rm 8 0 0) none (fx_MQ D b 0 0 (fx_qi (fun r N9 V9 => N = N9 ∧ ∃ cl9, CR D b cl9 V9 ∧ (∀ i, (i < 100 ∨ 133 ≤ i) → i < N → V9 i = V0 i) ∧ WF D cl9 V9 ∧ (∀ i k, 100 ≤ i → i < 133 → fwB [(111, 121, 0, 1000000), (100, 100, 22, 22), (100, 100, 14, 14), (100, 100, 15, 15), (100, 100, 19, 19), (100, 100, 21, 21), (100, 100, 18, 18), (100, 100, 20, 20), (100, 100, 16, 16), (100, 100, 17, 17), (100, 100, 13, 13)] i k = false → pj (V9 i) k = pj (V0 i) k) ∧ TKS C (fI (V0 100) 13) (fI (V9 100) 13)))) 95 [some (.ref (b + 100)), some (.int x1), some (.int x2), some (.int (nI j95))] [] N V95 0 0 := by
    intro g_95
    induction g_95 with
    | zero =>
      intro j95  V95 hj95 i95_0 i95_1 i95_2 i95_3 i95_4 i95_5 i95_6 i95_7 i95_8
      obtain rfl : coy_0 = j95 := by omega
      refine aw_iload_n dX12_law_95 rfl ?_
      refine aw_aload_n dX12_law_96 rfl ?_
      refine aw_get dX12_law_97 fl_X12_182 i95_2 (by omega) rfl ?_
      refine aw_icmp_ge (tgt := 121) dX12_law_100 (by decide) (fun c_4 => ?_) (fun c_4 => ?_)
      rotate_left
      · exact absurd (nI_le (a := coy_0) (b := coy_0) (Nat.le_refl _) (by omega)) c_4
      refine aw_iconst (v := 0) dX12_law_121 (by decide) ?_
      refine aw_istore_n (ls' := [some (.ref (b + 100)), some (.int x1), some (.int x2), some (.int 0)]) dX12_law_122 (Nat.le_of_ble_eq_true rfl) rfl ?_
      have loop_123_4 : ∀ (g_123 : Nat), ∀ (j123 : Nat)  (V123 : Wd), j123 + g_123 = say_0 → (∃ cd, V123 117 = cI D 260 cd ∧ ∀ i, i < coy_0 → cd i = sd i) → (∃ fr hf to, V123 119 = cI D 16 fr ∧ V123 120 = cI D 16 hf ∧ V123 121 = cI D 16 to ∧ ∀ q, q < j123 → fr q = sf q ∧ hf q = sh q ∧ to q = st q) → (JL D b N say_0 [(111, 121, 0, 1000000), (100, 100, 22, 22), (100, 100, 14, 14), (100, 100, 15, 15), (100, 100, 19, 19), (100, 100, 21, 21), (100, 100, 18, 18), (100, 100, 20, 20), (100, 100, 16, 16), (100, 100, 17, 17), (100, 100, 13, 13)] V0 V123) → (V123 100 = cO 11 [.ref (b + 101), .ref (b + 102), .ref (b + 103), .ref (b + 104), .ref (b + 105), .ref (b + 106), .ref (b + 107), .ref (b + 108), .ref (b + 109), .int ftoldPeople_0, .int ftoldDoors_0, .int fwasDoors_0, .ref (b + 110), .int (nI tad_0), .int (nI pl0_0), .int (nI le0_0), .int ffault_0, .int (nI nu0_0), .int fopen_0, .int (nI coy_0), .int (nI wag_0), .int (nI say_0), .int (nI say_0), .ref (b + 111), .ref (b + 112), .ref (b + 113), .ref (b + 114), .ref (b + 115), .ref (b + 116), .ref (b + 117), .ref (b + 118), .ref (b + 119), .ref (b + 120), .ref (b + 121), .ref (b + 122), .ref (b + 123), .int flines_0, .int fmeantSet_0, .int fopenedNow_0, .int fvainNow_0, .ref (b + 124), .ref (b + 125), .ref (b + 126), .ref (b + 127), .ref (b + 128), .int flowNow_0, .int fhighNow_0, .ref (b + 129), .ref (b + 130), .ref (b + 131), .ref (b + 132), .int fisKept_0]) → (V123 111 = cI D 260 sd) → (V123 113 = cI D 16 sl) → (V123 114 = cI D 16 sf) → (V123 115 = cI D 16 sh) → (V123 116 = cI D 16 st) → (fI (V123 100) 13 = 0) → AW l D b jX12_law (fx_rm 8 0 0) none (fx_MQ D b 0 0 (fx_qi (fun r N9 V9 => N = N9 ∧ ∃ cl9, CR D b cl9 V9 ∧ (∀ i, (i < 100 ∨ 133 ≤ i) → i < N → V9 i = V0 i) ∧ WF D cl9 V9 ∧ (∀ i k, 100 ≤ i → i < 133 → fwB [(111, 121, 0, 1000000), (100, 100, 22, 22), (100, 100, 14, 14), (100, 100, 15, 15), (100, 100, 19, 19), (100, 100, 21, 21), (100, 100, 18, 18), (100, 100, 20, 20), (100, 100, 16, 16), (100, 100, 17, 17), (100, 100, 13, 13)] i k = false → pj (V9 i) k = pj (V0 i) k) ∧ TKS C (fI (V0 100) 13) (fI (V9 100) 13)))) 123 [some (.ref (b + 100)), some (.int x1), some (.int x2), some (.int (nI j123))] [] N V123 0 0 := by
        intro g_123
        induction g_123 with
        | zero =>
          intro j123  V123 hj123 i123_0 i123_1 i123_2 i123_3 i123_4 i123_5 i123_6 i123_7 i123_8 i123_9
          obtain rfl : say_0 = j123 := by omega
          refine aw_iload_n dX12_law_123 rfl ?_
          refine aw_aload_n dX12_law_124 rfl ?_
          refine aw_get dX12_law_125 fl_X12_236 i123_3 (by omega) rfl ?_
          refine aw_icmp_ge (tgt := 185) dX12_law_128 (by decide) (fun c_7 => ?_) (fun c_7 => ?_)
          rotate_left
          · exact absurd (nI_le (a := say_0) (b := say_0) (Nat.le_refl _) (by omega)) c_7
          refine aw_aload_n dX12_law_185 rfl ?_
          refine aw_get dX12_law_186 fl_X12_236 i123_3 (by omega) rfl ?_
          obtain ⟨cd9, e7, hc9⟩ := i123_0
          obtain ⟨fr8, hf8, to8, e9, e10, e11, hq8⟩ := i123_1
          refine aw_ireti dX12_law_189 rfl (Nat.le_of_ble_eq_true rfl) (Nat.le_of_ble_eq_true rfl) ?_
          exact ⟨rfl, say_0, i123_2.1, i123_2.2.1, WF.mk' e7 e9 e10 e11 (by omega) (by omega) hc9 hq8 hR, i123_2.2.2, Or.inl ⟨hC, i123_9⟩⟩
        | succ g_123 ih_123_5 =>
          intro j123  V123 hj123 i123_0 i123_1 i123_2 i123_3 i123_4 i123_5 i123_6 i123_7 i123_8 i123_9
          have hlj123 : j123 < say_0 := by omega
          refine aw_iload_n dX12_law_123 rfl ?_
          refine aw_aload_n dX12_law_124 rfl ?_
          refine aw_get dX12_law_125 fl_X12_236 i123_3 (by omega) rfl ?_
          refine aw_icmp_ge (tgt := 185) dX12_law_128 (by decide) (fun c_8 => ?_) (fun c_8 => ?_)
          · exact absurd c_8 (nI_ge (a := j123) (b := say_0) (by omega) (by omega))
          obtain ⟨cd123, e117, hcd123⟩ := i123_0
          obtain ⟨fr9, hf9, to9, e119, e120, e121, hq123⟩ := i123_1
          refine aw_aload_n dX12_law_131 rfl ?_
          refine aw_get dX12_law_132 fl_X12_62 i123_3 (by omega) rfl ?_
          refine aw_iload_n dX12_law_135 rfl ?_
          refine aw_aload_n dX12_law_136 rfl ?_
          refine aw_get dX12_law_137 fl_X12_47 i123_3 (by omega) rfl ?_
          refine aw_iload_n dX12_law_140 rfl ?_
          refine aw_iald (v := (sl j123)) dX12_law_141 i123_5 (by omega) (vp_in_nI (n := j123) (by omega) (by omega)) (congrArg sl (nI_clamp (n := j123) (by omega))) ?_
          obtain ⟨g_9, e_9⟩ := JL.get i123_2 cm_118
          refine aw_iast dX12_law_142 e_9 (by omega) (vp_in_nI (n := j123) (by omega) (by omega)) ?_
          refine aw_upL i123_2 cm_118 ⟨_, rfl⟩ (WA LM0 (by decide) (by decide)) (fun V_10 j_10 k_10 e_10 => ?_)
          have e_11 : V_10 118 = cI D 16 (upd g_9 j123 (sl j123)) := by rw [e_10, nI_clamp (n := j123) (by omega)]
          refine aw_aload_n dX12_law_143 rfl ?_
          refine aw_get dX12_law_144 fl_X12_65 ((k_10 _ (by decide)).trans i123_3) (by omega) rfl ?_
          refine aw_iload_n dX12_law_147 rfl ?_
          refine aw_aload_n dX12_law_148 rfl ?_
          refine aw_get dX12_law_149 fl_X12_50 ((k_10 _ (by decide)).trans i123_3) (by omega) rfl ?_
          refine aw_iload_n dX12_law_152 rfl ?_
          refine aw_iald (v := (sf j123)) dX12_law_153 ((k_10 _ (by decide)).trans i123_6) (by omega) (vp_in_nI (n := j123) (by omega) (by omega)) (congrArg sf (nI_clamp (n := j123) (by omega))) ?_
          refine aw_iast dX12_law_154 ((k_10 _ (by decide)).trans e119) (by omega) (vp_in_nI (n := j123) (by omega) (by omega)) ?_
          refine aw_upL j_10 cm_119 ⟨_, rfl⟩ (WA LM0 (by decide) (by decide)) (fun V_12 j_12 k_12 e_12 => ?_)
          have e_13 : V_12 119 = cI D 16 (upd fr9 j123 (sf j123)) := by rw [e_12, nI_clamp (n := j123) (by omega)]
          refine aw_aload_n dX12_law_155 rfl ?_
          refine aw_get dX12_law_156 fl_X12_68 ((k_12 _ (by decide)).trans ((k_10 _ (by decide)).trans i123_3)) (by omega) rfl ?_
          refine aw_iload_n dX12_law_159 rfl ?_
          refine aw_aload_n dX12_law_160 rfl ?_
          refine aw_get dX12_law_161 fl_X12_53 ((k_12 _ (by decide)).trans ((k_10 _ (by decide)).trans i123_3)) (by omega) rfl ?_
          refine aw_iload_n dX12_law_164 rfl ?_
          refine aw_iald (v := (sh j123)) dX12_law_165 ((k_12 _ (by decide)).trans ((k_10 _ (by decide)).trans i123_7)) (by omega) (vp_in_nI (n := j123) (by omega) (by omega)) (congrArg sh (nI_clamp (n := j123) (by omega))) ?_
          refine aw_iast dX12_law_166 ((k_12 _ (by decide)).trans ((k_10 _ (by decide)).trans e120)) (by omega) (vp_in_nI (n := j123) (by omega) (by omega)) ?_
          refine aw_upL j_12 cm_120 ⟨_, rfl⟩ (WA LM0 (by decide) (by decide)) (fun V_14 j_14 k_14 e_14 => ?_)
          have e_15 : V_14 120 = cI D 16 (upd hf9 j123 (sh j123)) := by rw [e_14, nI_clamp (n := j123) (by omega)]
          refine aw_aload_n dX12_law_167 rfl ?_
          refine aw_get dX12_law_168 fl_X12_71 ((k_14 _ (by decide)).trans ((k_12 _ (by decide)).trans ((k_10 _ (by decide)).trans i123_3))) (by omega) rfl ?_
          refine aw_iload_n dX12_law_171 rfl ?_
          refine aw_aload_n dX12_law_172 rfl ?_
          refine aw_get dX12_law_173 fl_X12_56 ((k_14 _ (by decide)).trans ((k_12 _ (by decide)).trans ((k_10 _ (by decide)).trans i123_3))) (by omega) rfl ?_
          refine aw_iload_n dX12_law_176 rfl ?_
          refine aw_iald (v := (st j123)) dX12_law_177 ((k_14 _ (by decide)).trans ((k_12 _ (by decide)).trans ((k_10 _ (by decide)).trans i123_8))) (by omega) (vp_in_nI (n := j123) (by omega) (by omega)) (congrArg st (nI_clamp (n := j123) (by omega))) ?_
          refine aw_iast dX12_law_178 ((k_14 _ (by decide)).trans ((k_12 _ (by decide)).trans ((k_10 _ (by decide)).trans e121))) (by omega) (vp_in_nI (n := j123) (by omega) (by omega)) ?_
          refine aw_upL j_14 cm_121 ⟨_, rfl⟩ (WA LM0 (by decide) (by decide)) (fun V_16 j_16 k_16 e_16 => ?_)
          have e_17 : V_16 121 = cI D 16 (upd to9 j123 (st j123)) := by rw [e_16, nI_clamp (n := j123) (by omega)]
          refine aw_iinc (v := (nI (j123 + 1))) (ls' := [some (.ref (b + 100)), some (.int x1), some (.int x2), some (.int (nI (j123 + 1)))]) dX12_law_179 rfl (fx_up_1 _) (Nat.le_of_ble_eq_true rfl) rfl ?_
          refine aw_goto (tgt := 123) dX12_law_182 (by decide) ?_
          refine aw_le ?_ (ih_123_5 (j123 + 1)  V_16 (by omega) (⟨_, ((k_16 _ (by decide)).trans ((k_14 _ (by decide)).trans ((k_12 _ (by decide)).trans ((k_10 _ (by decide)).trans e117)))), hcd123⟩) (⟨_, _, _, ((k_16 _ (by decide)).trans ((k_14 _ (by decide)).trans e_13)), ((k_16 _ (by decide)).trans e_15), e_17, fun q hq => if e : q = j123 then (by subst e; exact ⟨pk_us, pk_us, pk_us⟩) else ⟨(pk_un e).trans (hq123 q (by omega)).1, (pk_un e).trans (hq123 q (by omega)).2.1, (pk_un e).trans (hq123 q (by omega)).2.2⟩⟩) (j_16) (((k_16 _ (by decide)).trans ((k_14 _ (by decide)).trans ((k_12 _ (by decide)).trans ((k_10 _ (by decide)).trans i123_3))))) (((k_16 _ (by decide)).trans ((k_14 _ (by decide)).trans ((k_12 _ (by decide)).trans ((k_10 _ (by decide)).trans i123_4))))) (((k_16 _ (by decide)).trans ((k_14 _ (by decide)).trans ((k_12 _ (by decide)).trans ((k_10 _ (by decide)).trans i123_5))))) (((k_16 _ (by decide)).trans ((k_14 _ (by decide)).trans ((k_12 _ (by decide)).trans ((k_10 _ (by decide)).trans i123_6))))) (((k_16 _ (by decide)).trans ((k_14 _ (by decide)).trans ((k_12 _ (by decide)).trans ((k_10 _ (by decide)).trans i123_7))))) (((k_16 _ (by decide)).trans ((k_14 _ (by decide)).trans ((k_12 _ (by decide)).trans ((k_10 _ (by decide)).trans i123_8))))) (((congrArg (fun z => fI z 13) (k_16 _ (by omega))).trans ((congrArg (fun z => fI z 13) (k_14 _ (by omega))).trans ((congrArg (fun z => fI z 13) (k_12 _ (by omega))).trans ((congrArg (fun z => fI z 13) (k_10 _ (by omega))).trans i123_9))))))
          exact ⟨rfl, ⟨rfl, ⟨rfl, ⟨rfl, trivial⟩⟩⟩⟩
      obtain ⟨g_18, e_18⟩ := JL.get i95_1 cm_119
      obtain ⟨g_19, e_19⟩ := JL.get i95_1 cm_120
      obtain ⟨g_20, e_20⟩ := JL.get i95_1 cm_121
      refine aw_le ?_ (loop_123_4 say_0 0  V95 (by omega) (i95_0) (⟨_, _, _, e_18, e_19, e_20, fun q h => absurd h (Nat.not_lt_zero q)⟩) (i95_1) (i95_2) (i95_3) (i95_4) (i95_5) (i95_6) (i95_7) (i95_8))
      exact ⟨rfl, ⟨rfl, ⟨rfl, ⟨rfl, trivial⟩⟩⟩⟩
    | succ g_95 ih_95_2 =>
      intro j95  V95 hj95 i95_0 i95_1 i95_2 i95_3 i95_4 i95_5 i95_6 i95_7 i95_8
      have hlj95 : j95 < coy_0 := by omega
      refine aw_iload_n dX12_law_95 rfl ?_
      refine aw_aload_n dX12_law_96 rfl ?_
      refine aw_get dX12_law_97 fl_X12_182 i95_2 (by omega) rfl ?_
      refine aw_icmp_ge (tgt := 121) dX12_law_100 (by decide) (fun c_21 => ?_) (fun c_21 => ?_)
      · exact absurd c_21 (nI_ge (a := j95) (b := coy_0) (by omega) (by omega))
      obtain ⟨cd95, e117, hcd95⟩ := i95_0
      refine aw_aload_n dX12_law_103 rfl ?_
      refine aw_get dX12_law_104 fl_X12_59 i95_2 (by omega) rfl ?_
      refine aw_iload_n dX12_law_107 rfl ?_
      refine aw_aload_n dX12_law_108 rfl ?_
      refine aw_get dX12_law_109 fl_X12_41 i95_2 (by omega) rfl ?_
      refine aw_iload_n dX12_law_112 rfl ?_
      refine aw_iald (v := (sd j95)) dX12_law_113 i95_3 (by omega) (vp_in_nI (n := j95) (by omega) (by omega)) (congrArg sd (nI_clamp (n := j95) (by omega))) ?_
      refine aw_iast dX12_law_114 e117 (by omega) (vp_in_nI (n := j95) (by omega) (by omega)) ?_
      refine aw_upL i95_1 cm_117 ⟨_, rfl⟩ (WA LM0 (by decide) (by decide)) (fun V_22 j_22 k_22 e_22 => ?_)
      have e_23 : V_22 117 = cI D 260 (upd cd95 j95 (sd j95)) := by rw [e_22, nI_clamp (n := j95) (by omega)]
      refine aw_iinc (v := (nI (j95 + 1))) (ls' := [some (.ref (b + 100)), some (.int x1), some (.int x2), some (.int (nI (j95 + 1)))]) dX12_law_115 rfl (fx_up_1 _) (Nat.le_of_ble_eq_true rfl) rfl ?_
      refine aw_goto (tgt := 95) dX12_law_118 (by decide) ?_
      refine aw_le ?_ (ih_95_2 (j95 + 1)  V_22 (by omega) (⟨_, e_23, fun i hi => if e : i = j95 then (by rw [e, pk_us]) else (pk_un e).trans (hcd95 i (by omega))⟩) (j_22) (((k_22 _ (by decide)).trans i95_2)) (((k_22 _ (by decide)).trans i95_3)) (((k_22 _ (by decide)).trans i95_4)) (((k_22 _ (by decide)).trans i95_5)) (((k_22 _ (by decide)).trans i95_6)) (((k_22 _ (by decide)).trans i95_7)) (((congrArg (fun z => fI z 13) (k_22 _ (by omega))).trans i95_8)))
      exact ⟨rfl, ⟨rfl, ⟨rfl, ⟨rfl, trivial⟩⟩⟩⟩
  obtain ⟨g_24, e_24⟩ := JL.get j_1 cm_117
  refine aw_le ?_ (loop_95_1 coy_0 0  V_1 (by omega) (⟨_, e_24, fun i h => absurd h (Nat.not_lt_zero i)⟩) (j_1) (e_1) (((k_1 _ (by decide)).trans hsd)) (((k_1 _ (by decide)).trans h113)) (((k_1 _ (by decide)).trans h114)) (((k_1 _ (by decide)).trans h115)) (((k_1 _ (by decide)).trans h116)) ((KA (s := 22) (x := .int (nI say_0)) h100 rfl (by decide) e_1 k_1 h13)))
  exact ⟨rfl, ⟨rfl, ⟨rfl, ⟨rfl, trivial⟩⟩⟩⟩

set_option maxHeartbeats 20000000 in
set_option maxRecDepth 100000 in
theorem r_lawK (l : Launch) (D : va_G) (b : Nat) (N : Nat) (V : Wd) (hN : 133 ≤ N) (cl : Nat) (hW : CR D b cl V) (n0 : Int32) (hwf : WF D cl V) (m0 : Int32) (hm : m0 = n0) : MI l D b 8 jX12_law [.ref (b + 100), .int n0] N V 0 0 (fun r N9 V9 => N = N9 ∧ ∃ cl9, CR D b cl9 V9 ∧ (∀ i, (i < 100 ∨ 133 ≤ i) → i < N → V9 i = V i) ∧ WF D cl9 V9 ∧ (∀ i k, 100 ≤ i → i < 133 → fwB [(111, 121, 0, 1000000), (100, 100, 22, 22), (100, 100, 14, 14), (100, 100, 15, 15), (100, 100, 19, 19), (100, 100, 21, 21), (100, 100, 18, 18), (100, 100, 20, 20), (100, 100, 16, 16), (100, 100, 17, 17), (100, 100, 13, 13)] i k = false → pj (V9 i) k = pj (V i) k) ∧ TKS (cIn m0 1 240 (fI (V 100) 13)) (fI (V 100) 13) (fI (V9 100) 13)) := by
  have hJ0 : JR D b N cl [(111, 121, 0, 1000000), (100, 100, 22, 22), (100, 100, 14, 14), (100, 100, 15, 15), (100, 100, 19, 19), (100, 100, 21, 21), (100, 100, 18, 18), (100, 100, 20, 20), (100, 100, 16, 16), (100, 100, 17, 17), (100, 100, 13, 13)] V V := JR.rf hW
  refine mw_of (by decide) (by simp [Value.category]) (Nat.le_of_ble_eq_true rfl) ?_
  show AW l D b jX12_law (fx_rm 8 0 0) none (fx_MQ D b 0 0 (fx_qi (fun r N9 V9 => N = N9 ∧ ∃ cl9, CR D b cl9 V9 ∧ (∀ i, (i < 100 ∨ 133 ≤ i) → i < N → V9 i = V i) ∧ WF D cl9 V9 ∧ (∀ i k, 100 ≤ i → i < 133 → fwB [(111, 121, 0, 1000000), (100, 100, 22, 22), (100, 100, 14, 14), (100, 100, 15, 15), (100, 100, 19, 19), (100, 100, 21, 21), (100, 100, 18, 18), (100, 100, 20, 20), (100, 100, 16, 16), (100, 100, 17, 17), (100, 100, 13, 13)] i k = false → pj (V9 i) k = pj (V i) k) ∧ TKS (cIn m0 1 240 (fI (V 100) 13)) (fI (V 100) 13) (fI (V9 100) 13)))) 0 [some (.ref (b + 100)), some (.int n0), none, none] [] N V 0 0
  obtain ⟨ftoldPeople_1, ftoldDoors_1, fwasDoors_1, ffault_1, fopen_1, flines_1, fmeantSet_1, fopenedNow_1, fvainNow_1, flowNow_1, fhighNow_1, fisKept_1, tad_1, pl0_1, le0_1, nu0_1, coy_1, wag_1, say_1, e_1, hntad_1, hnpl0_1, hnle0_1, hnnu0_1, hncoy_1, hnwag_1, hnsay_1⟩ := JR.get hJ0 cm_100
  have hta0 : fI (V 100) 13 = nI tad_1 := ((congrArg (fun z => fI z 13) e_1).trans rfl)
  refine aw_iload_n dX12_law_0 rfl ?_
  refine aw_iconst (v := 1) dX12_law_1 (by decide) ?_
  refine aw_sipush (v := 240) dX12_law_2 (by decide) ?_
  refine aw_callSi (J' := jX12_in) (As := [.int n0, .int 1, .int 240]) (st := []) dX12_law_5 tb_1209 ok_X12_in rfl (r_inK l D b N V hN cl hJ0.1 n0 1 240) rfl (Nat.le_of_ble_eq_true rfl) ⟨Nat.le_of_ble_eq_true rfl, Nat.le_of_ble_eq_true rfl, Nat.le_of_ble_eq_true rfl, Nat.le_of_ble_eq_true rfl⟩ (fun r_7 N_8 V_9 q_10 => ?_)
  obtain ⟨⟨z_4, h_3⟩, rfl, rfl⟩ := q_10
  obtain ⟨hi_5, hi_6⟩ := h_3
  refine aw_if_eq (tgt := 19) dX12_law_8 (by decide) (fun c_11 => ?_) (fun c_11 => ?_)
  · skip
    refine aw_iconst (v := (-1)) dX12_law_19 (by decide) ?_
    refine aw_ireti dX12_law_20 rfl (Nat.le_of_ble_eq_true rfl) (Nat.le_of_ble_eq_true rfl) ?_
    exact ⟨rfl, cl, hJ0.1, hJ0.2.1, WF.fr hwf hJ0.2.2.1, hJ0.2.2.2, Or.inr ⟨(by have zhi_6 := hi_6 c_11; have zt := fx_nIt (n := tad_1) (by omega); have e0 : (0 : Int32).toInt = 0 := (by decide); have e1 : (1 : Int32).toInt = 1 := (by decide); have e240 : (240 : Int32).toInt = 240 := (by decide); have q0 := zhi_6; have q1 := hm; have q2 := hta0; simp only [cIn, ← Int32.toInt_inj, Int32.le_iff_toInt_le, Int32.lt_iff_toInt_lt] at q0 q1 q2 ⊢; omega), (Eq.refl (fI (V 100) 13))⟩⟩
  · skip
    obtain ⟨zn0, h0zn0, hzn0, rfl⟩ := in_nat (a := 1) (b := 240) (by decide) (hi_5.resolve_left c_11)
    refine aw_iload_n dX12_law_11 rfl ?_
    refine aw_aload_n dX12_law_12 rfl ?_
    refine aw_get dX12_law_13 fl_X12_152 e_1 (by omega) rfl ?_
    refine aw_icmp_le (tgt := 21) dX12_law_16 (by decide) (fun c_12 => ?_) (fun c_12 => ?_)
    · skip
      have nc_12 : zn0 ≤ tad_1 := (nI_leI (a := zn0) (b := tad_1) (by omega) (by omega)).mp c_12
      refine aw_aload_n dX12_law_21 rfl ?_
      refine aw_iload_n dX12_law_22 rfl ?_
      refine aw_callVv (J' := jX12_beginsText) (As := [.int (nI zn0)]) (st := []) dX12_law_23 tb_1212 ok_X12_beginsText ⟨_, e_1⟩ (by omega) rfl rfl (r_beginsText l D b N V hN cl hJ0.1 (nI zn0) ⟨zn0, by omega, rfl⟩) rfl (Nat.le_of_ble_eq_true rfl) ⟨Nat.le_of_ble_eq_true rfl, Nat.le_of_ble_eq_true rfl, Nat.le_of_ble_eq_true rfl, Nat.le_of_ble_eq_true rfl⟩ (fun  N_24 V_16 q_25 => ?_)
      obtain ⟨h_14, rfl, q_13⟩ := q_25
      have j_15 := JR.trans hJ0 (JR.weak q_13 (Sub.cons (LMs (LMs LM0)) (by decide) (by decide) (by decide) (Or.inr ⟨by decide, by decide⟩) (Sub.cons (LMs (LMs (LMs LM0))) (by decide) (by decide) (by decide) (Or.inr ⟨by decide, by decide⟩) (Sub.cons (LMs (LMs (LMs (LMs LM0)))) (by decide) (by decide) (by decide) (Or.inr ⟨by decide, by decide⟩) (Sub.cons (LMs (LMs (LMs (LMs (LMs LM0))))) (by decide) (by decide) (by decide) (Or.inr ⟨by decide, by decide⟩) Sub.nil)))))
      obtain ⟨hB_17, hB_19, hB_20, hB_21, hB_22, hB_18⟩ := h_14
      have hk_k23 : zn0 = hB_21 := (nI_eq (by omega) (by omega)).mp hB_22.1
      obtain ⟨ftoldPeople_k23, ftoldDoors_k23, fwasDoors_k23, ffault_k23, fopen_k23, flines_k23, fmeantSet_k23, fopenedNow_k23, fvainNow_k23, flowNow_k23, fhighNow_k23, fisKept_k23, tad_k23, pl0_k23, le0_k23, nu0_k23, coy_k23, wag_k23, say_k23, e_k23, hntad_k23, hnpl0_k23, hnle0_k23, hnnu0_k23, hncoy_k23, hnwag_k23, hnsay_k23⟩ := JR.get j_15 cm_100
      have hq0_k23 := FG.eq hB_17 e_k23 rfl (by omega) (by omega)
      have hq1_k23 := FG.eq hB_18 e_k23 rfl (by omega) (by omega)
      have hq2_k23 := FG.eq hB_19 e_k23 rfl (by omega) (by omega)
      have hq3_k23 := FG.eq hB_20 e_k23 rfl (by omega) (by omega)
      obtain ⟨g_26, e_26⟩ := JR.get j_15 cm_110
      obtain ⟨g_27, e_27⟩ := JR.get j_15 cm_111
      obtain ⟨g_28, e_28⟩ := JR.get j_15 cm_112
      obtain ⟨g_29, e_29⟩ := JR.get j_15 cm_113
      obtain ⟨g_30, e_30⟩ := JR.get j_15 cm_114
      obtain ⟨g_31, e_31⟩ := JR.get j_15 cm_115
      obtain ⟨g_32, e_32⟩ := JR.get j_15 cm_116
      refine aw_aload_n dX12_law_26 rfl ?_
      refine aw_callVi (J' := jX12_readsRule) (As := []) (st := []) dX12_law_27 tb_1216 ok_X12_readsRule ⟨_, e_k23⟩ (by omega) rfl rfl (r_readsRule l D b N V_16 hN cl j_15.1 g_26 g_27 g_28 g_29 g_30 g_31 g_32 pl0_k23 le0_k23 coy_k23 say_k23 ⟨e_26, e_27, e_28, e_29, e_30, e_31, e_32, (FG.of e_k23 rfl rfl), (FG.of e_k23 rfl (by omega : le0_k23 = le0_k23)), (FG.of e_k23 rfl rfl), (FG.of e_k23 rfl rfl), ⟨by omega, by omega, by omega, by omega⟩, (fun q hq => absurd hq (by omega))⟩) rfl (Nat.le_of_ble_eq_true rfl) ⟨Nat.le_of_ble_eq_true rfl, Nat.le_of_ble_eq_true rfl, Nat.le_of_ble_eq_true rfl, Nat.le_of_ble_eq_true rfl⟩ (fun r_38 N_39 V_37 q_40 => ?_)
      obtain ⟨⟨z_35, h_34⟩, rfl, q_33⟩ := q_40
      have j_36 := JR.trans j_15 (JR.weak q_33 (Sub.cons LM0 (by decide) (by decide) (by decide) (Or.inl rfl) (Sub.cons (LMs (LMs LM0)) (by decide) (by decide) (by decide) (Or.inr ⟨by decide, by decide⟩) (Sub.cons (LMs (LMs (LMs (LMs (LMs (LMs LM0)))))) (by decide) (by decide) (by decide) (Or.inr ⟨by decide, by decide⟩) (Sub.cons (LMs (LMs (LMs (LMs (LMs (LMs (LMs LM0))))))) (by decide) (by decide) (by decide) (Or.inr ⟨by decide, by decide⟩) (Sub.cons (LMs (LMs (LMs (LMs LM0)))) (by decide) (by decide) (by decide) (Or.inr ⟨by decide, by decide⟩) (Sub.cons (LMs (LMs (LMs (LMs (LMs (LMs (LMs (LMs LM0)))))))) (by decide) (by decide) (by decide) (Or.inr ⟨by decide, by decide⟩) (Sub.cons (LMs (LMs (LMs (LMs (LMs (LMs (LMs (LMs (LMs LM0))))))))) (by decide) (by decide) (by decide) (Or.inr ⟨by decide, by decide⟩) (Sub.cons (LMs (LMs (LMs (LMs (LMs LM0))))) (by decide) (by decide) (by decide) (Or.inr ⟨by decide, by decide⟩) Sub.nil)))))))))
      rcases h_34 with hz | hz
      · skip
        refine aw_eqi (y := 0) hz ?_
        refine aw_istore_n (ls' := [some (.ref (b + 100)), some (.int (nI zn0)), some (.int 0), none]) dX12_law_30 (Nat.le_of_ble_eq_true rfl) rfl ?_
        have ml_31_41 : ∀ (m : Nat) (a31 : Nat) (c31 : Nat) (m31 : Nat) (sd31 : Nat → Int32) (wa31 : Nat → Int32) (sl31 : Nat → Int32) (sf31 : Nat → Int32) (sh31 : Nat → Int32) (st31 : Nat → Int32) (v31_2 : Int32) (V31 : Wd), m = (if v31_2 = 0 then 0 else 1 + (240 - a31)) → (JR D b N cl [(111, 121, 0, 1000000), (100, 100, 22, 22), (100, 100, 14, 14), (100, 100, 15, 15), (100, 100, 19, 19), (100, 100, 21, 21), (100, 100, 18, 18), (100, 100, 20, 20), (100, 100, 16, 16), (100, 100, 17, 17), (100, 100, 13, 13)] V V31) → (v31_2 = 0 ∨ RX D b V31 g_26 a31 le0_k23 c31 sd31 wa31 sl31 sf31 sh31 st31 m31) → AW l D b jX12_law (fx_rm 8 0 0) none (fx_MQ D b 0 0 (fx_qi (fun r N9 V9 => N = N9 ∧ ∃ cl9, CR D b cl9 V9 ∧ (∀ i, (i < 100 ∨ 133 ≤ i) → i < N → V9 i = V i) ∧ WF D cl9 V9 ∧ (∀ i k, 100 ≤ i → i < 133 → fwB [(111, 121, 0, 1000000), (100, 100, 22, 22), (100, 100, 14, 14), (100, 100, 15, 15), (100, 100, 19, 19), (100, 100, 21, 21), (100, 100, 18, 18), (100, 100, 20, 20), (100, 100, 16, 16), (100, 100, 17, 17), (100, 100, 13, 13)] i k = false → pj (V9 i) k = pj (V i) k) ∧ TKS (cIn m0 1 240 (fI (V 100) 13)) (fI (V 100) 13) (fI (V9 100) 13)))) 31 [some (.ref (b + 100)), some (.int (nI zn0)), some (.int v31_2), none] [] N V31 0 0 := by
          intro m; refine Nat.strongRecOn m ?_
          intro m mih_31_41 a31 c31 m31 sd31 wa31 sl31 sf31 sh31 st31 v31_2 V31 hm31 i31_0 i31_1
          refine aw_iload_n dX12_law_31 rfl ?_
          refine aw_if_eq (tgt := 71) dX12_law_32 (by decide) (fun c_42 => ?_) (fun c_42 => ?_)
          · skip
            refine aw_aload_n dX12_law_71 rfl ?_
            refine aw_iconst (v := 0) dX12_law_72 (by decide) ?_
            obtain ⟨ftoldPeople_43, ftoldDoors_43, fwasDoors_43, ffault_43, fopen_43, flines_43, fmeantSet_43, fopenedNow_43, fvainNow_43, flowNow_43, fhighNow_43, fisKept_43, tad_43, pl0_43, le0_43, nu0_43, coy_43, wag_43, say_43, e_43, hntad_43, hnpl0_43, hnle0_43, hnnu0_43, hncoy_43, hnwag_43, hnsay_43⟩ := JR.get i31_0 cm_100
            refine aw_put dX12_law_73 fp_X12_152 e_43 (by omega) rfl rfl (Nat.le_of_ble_eq_true rfl) rfl ?_
            refine aw_upR i31_0 cm_100 ⟨_, _, _, _, _, _, _, _, _, _, _, _, 0, pl0_43, le0_43, nu0_43, coy_43, wag_43, say_43, rfl, by omega, by omega, by omega, by omega, by omega, by omega, by omega⟩ (by decide) (WO (s := 13) (x := .int 0) e_43 rfl (LMs (LMs (LMs (LMs (LMs (LMs (LMs (LMs (LMs (LMs LM0)))))))))) (by decide) (by decide) (by decide) (Or.inl (by decide))) (fun V_44 j_44 k_44 e_44 => ?_)
            refine aw_iload_n dX12_law_76 rfl ?_
            refine aw_if_ne (tgt := 85) dX12_law_77 (by decide) (fun c_45 => ?_) (fun c_45 => ?_)
            · first | exact absurd c_45 c_42 | exact absurd c_42 c_45 | exact absurd c_45 (Int32.not_lt.mpr c_42) | exact absurd c_42 (Int32.not_lt.mpr c_45) | exact c_42 (Int32.not_lt.mp c_45) | exact c_42 (Int32.not_le.mp c_45)
            refine aw_aload_n dX12_law_80 rfl ?_
            refine aw_get dX12_law_81 fl_X12_169 e_44 (by omega) rfl ?_
            refine aw_ireti dX12_law_84 rfl (Nat.le_of_ble_eq_true rfl) (Nat.le_of_ble_eq_true rfl) ?_
            exact ⟨rfl, cl, j_44.1, j_44.2.1, WF.fr hwf j_44.2.2.1, j_44.2.2.2, Or.inl ⟨(by have zhi_5 := hi_5.resolve_left c_11; have zzzn0 := fx_nIt (n := zn0) (by omega); have zt := fx_nIt (n := tad_1) (by omega); have e0 : (0 : Int32).toInt = 0 := (by decide); have e1 : (1 : Int32).toInt = 1 := (by decide); have e240 : (240 : Int32).toInt = 240 := (by decide); have q0 := zhi_5; have q1 := hm; have q2 := hta0; simp only [cIn, ← Int32.toInt_inj, Int32.le_iff_toInt_le, Int32.lt_iff_toInt_lt] at q0 q1 q2 ⊢; omega), ((congrArg (fun z => fI z 13) e_44).trans rfl)⟩⟩
          · skip
            have hX31 := i31_1.resolve_left c_42
            obtain ⟨xg_r46, xs_r46, xw_r46, xa_r46, xb_r46, xd_r46, xe_r46, xp_r46, xl_r46, xc_r46, xm_r46, ⟨hB1_r46, hB2_r46, hB3_r46, hB4_r46⟩, hR_r46⟩ := hX31
            obtain ⟨ftoldPeople_47, ftoldDoors_47, fwasDoors_47, ffault_47, fopen_47, flines_47, fmeantSet_47, fopenedNow_47, fvainNow_47, flowNow_47, fhighNow_47, fisKept_47, tad_47, pl0_47, le0_47, nu0_47, coy_47, wag_47, say_47, e_47, hntad_47, hnpl0_47, hnle0_47, hnnu0_47, hncoy_47, hnwag_47, hnsay_47⟩ := JR.get i31_0 cm_100
            have sb_r46pl := FG.eq xp_r46 e_47 rfl (by omega) (by omega)
            subst sb_r46pl
            have sb_r46cm := FG.eq xc_r46 e_47 rfl (by omega) (by omega)
            subst sb_r46cm
            have sb_r46sm := FG.eq xm_r46 e_47 rfl (by omega) (by omega)
            subst sb_r46sm
            have sb_r46ln := FG.eq xl_r46 e_47 rfl (by omega) (by omega)
            refine aw_aload_n dX12_law_35 rfl ?_
            refine aw_get dX12_law_36 fl_X12_159 e_47 (by omega) rfl ?_
            refine aw_aload_n dX12_law_39 rfl ?_
            refine aw_get dX12_law_40 fl_X12_162 e_47 (by omega) rfl ?_
            refine aw_icmp_ge (tgt := 71) dX12_law_43 (by decide) (fun c_48 => ?_) (fun c_48 => ?_)
            · skip
              have nc_48 : le0_47 ≤ pl0_47 := (nI_leI (a := le0_47) (b := pl0_47) (by omega) (by omega)).mp c_48
              refine aw_aload_n dX12_law_71 rfl ?_
              refine aw_iconst (v := 0) dX12_law_72 (by decide) ?_
              refine aw_put dX12_law_73 fp_X12_152 e_47 (by omega) rfl rfl (Nat.le_of_ble_eq_true rfl) rfl ?_
              refine aw_upR i31_0 cm_100 ⟨_, _, _, _, _, _, _, _, _, _, _, _, 0, pl0_47, le0_47, nu0_47, coy_47, wag_47, say_47, rfl, by omega, by omega, by omega, by omega, by omega, by omega, by omega⟩ (by decide) (WO (s := 13) (x := .int 0) e_47 rfl (LMs (LMs (LMs (LMs (LMs (LMs (LMs (LMs (LMs (LMs LM0)))))))))) (by decide) (by decide) (by decide) (Or.inl (by decide))) (fun V_49 j_49 k_49 e_49 => ?_)
              refine aw_iload_n dX12_law_76 rfl ?_
              refine aw_if_ne (tgt := 85) dX12_law_77 (by decide) (fun c_50 => ?_) (fun c_50 => ?_)
              rotate_left
              · first | exact absurd c_42 c_50 | exact absurd c_50 c_42
              exact r_lawtailK l D b N V V_49 hN cl j_49 ftoldPeople_47 ftoldDoors_47 fwasDoors_47 ffault_47 fopen_47 flines_47 fmeantSet_47 fopenedNow_47 fvainNow_47 flowNow_47 fhighNow_47 fisKept_47 0 pl0_47 le0_47 nu0_47 coy_47 wag_47 say_47 ⟨by omega, by omega, by omega, by omega, by omega, by omega, by omega⟩ e_49 sd31 wa31 sl31 sf31 sh31 st31 ((k_49 _ (by decide)).trans xs_r46) ((k_49 _ (by decide)).trans xa_r46) ((k_49 _ (by decide)).trans xb_r46) ((k_49 _ (by decide)).trans xd_r46) ((k_49 _ (by decide)).trans xe_r46) (by omega) hR_r46 _ _ (cIn m0 1 240 (fI (V 100) 13)) (by have zhi_5 := hi_5.resolve_left c_11; have zzzn0 := fx_nIt (n := zn0) (by omega); have zt := fx_nIt (n := tad_1) (by omega); have e0 : (0 : Int32).toInt = 0 := (by decide); have e1 : (1 : Int32).toInt = 1 := (by decide); have e240 : (240 : Int32).toInt = 240 := (by decide); have q0 := zhi_5; have q1 := hm; have q2 := hta0; simp only [cIn, ← Int32.toInt_inj, Int32.le_iff_toInt_le, Int32.lt_iff_toInt_lt] at q0 q1 q2 ⊢; omega) ((congrArg (fun z => fI z 13) e_49).trans rfl)
            · skip
              have nc_48 : ¬ (le0_47 ≤ pl0_47) := fun z => c_48 ((nI_leI (a := le0_47) (b := pl0_47) (by omega) (by omega)).mpr z)
              refine aw_aload_n dX12_law_46 rfl ?_
              refine aw_bipush (v := 59) dX12_law_47 (by decide) ?_
              refine aw_callVi (J' := jX12_takes) (As := [.int 59]) (st := []) dX12_law_49 tb_1291 ok_X12_takes ⟨_, e_47⟩ (by omega) rfl rfl (r_takesF l D b N V31 hN cl i31_0.1 59 ftoldPeople_47 ftoldDoors_47 fwasDoors_47 ffault_47 fopen_47 flines_47 fmeantSet_47 fopenedNow_47 fvainNow_47 flowNow_47 fhighNow_47 fisKept_47 tad_47 pl0_47 le0_47 nu0_47 coy_47 wag_47 say_47 ⟨by omega, by omega, by omega, by omega, by omega, by omega, by omega⟩ e_47 g_26 xg_r46 (by decide)) rfl (Nat.le_of_ble_eq_true rfl) ⟨Nat.le_of_ble_eq_true rfl, Nat.le_of_ble_eq_true rfl, Nat.le_of_ble_eq_true rfl, Nat.le_of_ble_eq_true rfl⟩ (fun r_56 N_57 V_55 q_58 => ?_)
              obtain ⟨⟨z_53, h_52⟩, rfl, q_51⟩ := q_58
              have j_54 := JR.trans i31_0 (JR.weak q_51 (Sub.cons (LMs (LMs LM0)) (by decide) (by decide) (by decide) (Or.inr ⟨by decide, by decide⟩) (Sub.cons (LMs (LMs (LMs (LMs (LMs (LMs (LMs (LMs LM0)))))))) (by decide) (by decide) (by decide) (Or.inr ⟨by decide, by decide⟩) Sub.nil)))
              refine aw_if_eq (tgt := 66) dX12_law_52 (by decide) (fun c_59 => ?_) (fun c_59 => ?_)
              · skip
                refine aw_iconst (v := 0) dX12_law_66 (by decide) ?_
                refine aw_istore_n (ls' := [some (.ref (b + 100)), some (.int (nI zn0)), some (.int 0), none]) dX12_law_67 (Nat.le_of_ble_eq_true rfl) rfl ?_
                refine aw_goto (tgt := 31) dX12_law_68 (by decide) ?_
                refine aw_le ?_ (mih_31_41 _ (by rw [hm31]; exact tl2 c_42 (Or.inl rfl) (by decide)) 0 0 0 (fun _ => 0) (fun _ => 0) (fun _ => 0) (fun _ => 0) (fun _ => 0) (fun _ => 0) 0 V_55 rfl (j_54) (Or.inl rfl))
                exact ⟨rfl, ⟨rfl, ⟨rfl, trivial⟩⟩⟩
              · skip
                obtain ⟨hT_60, hT_61, hT_62⟩ := (h_52.resolve_left c_59)
                refine aw_aload_n dX12_law_55 rfl ?_
                refine aw_callVi (J' := jX12_readsRule) (As := []) (st := []) dX12_law_56 tb_1216 ok_X12_readsRule ⟨_, hT_60⟩ (by omega) rfl rfl (r_readsRule l D b N V_55 hN cl j_54.1 g_26 sd31 wa31 sl31 sf31 sh31 st31 (pl0_47 + 1) le0_k23 coy_47 say_47 ⟨((hT_61 _ (by decide)).trans xg_r46), ((hT_61 _ (by decide)).trans xs_r46), ((hT_61 _ (by decide)).trans xw_r46), ((hT_61 _ (by decide)).trans xa_r46), ((hT_61 _ (by decide)).trans xb_r46), ((hT_61 _ (by decide)).trans xd_r46), ((hT_61 _ (by decide)).trans xe_r46), (FG.of hT_60 rfl rfl), (FG.of hT_60 rfl (by omega : le0_47 = le0_k23)), (FG.of hT_60 rfl rfl), (FG.of hT_60 rfl rfl), ⟨by omega, by omega, by omega, by omega⟩, hR_r46⟩) rfl (Nat.le_of_ble_eq_true rfl) ⟨Nat.le_of_ble_eq_true rfl, Nat.le_of_ble_eq_true rfl, Nat.le_of_ble_eq_true rfl, Nat.le_of_ble_eq_true rfl⟩ (fun r_68 N_69 V_67 q_70 => ?_)
                obtain ⟨⟨z_65, h_64⟩, rfl, q_63⟩ := q_70
                have j_66 := JR.trans j_54 (JR.weak q_63 (Sub.cons LM0 (by decide) (by decide) (by decide) (Or.inl rfl) (Sub.cons (LMs (LMs LM0)) (by decide) (by decide) (by decide) (Or.inr ⟨by decide, by decide⟩) (Sub.cons (LMs (LMs (LMs (LMs (LMs (LMs LM0)))))) (by decide) (by decide) (by decide) (Or.inr ⟨by decide, by decide⟩) (Sub.cons (LMs (LMs (LMs (LMs (LMs (LMs (LMs LM0))))))) (by decide) (by decide) (by decide) (Or.inr ⟨by decide, by decide⟩) (Sub.cons (LMs (LMs (LMs (LMs LM0)))) (by decide) (by decide) (by decide) (Or.inr ⟨by decide, by decide⟩) (Sub.cons (LMs (LMs (LMs (LMs (LMs (LMs (LMs (LMs LM0)))))))) (by decide) (by decide) (by decide) (Or.inr ⟨by decide, by decide⟩) (Sub.cons (LMs (LMs (LMs (LMs (LMs (LMs (LMs (LMs (LMs LM0))))))))) (by decide) (by decide) (by decide) (Or.inr ⟨by decide, by decide⟩) (Sub.cons (LMs (LMs (LMs (LMs (LMs LM0))))) (by decide) (by decide) (by decide) (Or.inr ⟨by decide, by decide⟩) Sub.nil)))))))))
                refine aw_if_eq (tgt := 66) dX12_law_59 (by decide) (fun c_71 => ?_) (fun c_71 => ?_)
                · skip
                  refine aw_iconst (v := 0) dX12_law_66 (by decide) ?_
                  refine aw_istore_n (ls' := [some (.ref (b + 100)), some (.int (nI zn0)), some (.int 0), none]) dX12_law_67 (Nat.le_of_ble_eq_true rfl) rfl ?_
                  refine aw_goto (tgt := 31) dX12_law_68 (by decide) ?_
                  refine aw_le ?_ (mih_31_41 _ (by rw [hm31]; exact tl2 c_42 (Or.inl rfl) (by decide)) 0 0 0 (fun _ => 0) (fun _ => 0) (fun _ => 0) (fun _ => 0) (fun _ => 0) (fun _ => 0) 0 V_67 rfl (j_66) (Or.inl rfl))
                  exact ⟨rfl, ⟨rfl, ⟨rfl, trivial⟩⟩⟩
                · skip
                  obtain ⟨sd_z72, wa_z72, pl_z72, cm_z72, sl_z72, sf_z72, sh_z72, st_z72, hX_z72, hg_z72⟩ := (h_64.resolve_left c_71)
                  refine aw_iconst (v := 1) dX12_law_62 (by decide) ?_
                  refine aw_goto (tgt := 67) dX12_law_63 (by decide) ?_
                  refine aw_istore_n (ls' := [some (.ref (b + 100)), some (.int (nI zn0)), some (.int 1), none]) dX12_law_67 (Nat.le_of_ble_eq_true rfl) rfl ?_
                  refine aw_goto (tgt := 31) dX12_law_68 (by decide) ?_
                  have hbx := hX_z72.2.2.2.2.2.2.2.2.2.2.2.1
                  refine aw_le ?_ (mih_31_41 _ (by rw [hm31]; exact tl2 c_42 (Or.inr (by omega)) (by omega)) pl_z72 cm_z72 (say_47 + 1) sd_z72 wa_z72 sl_z72 sf_z72 sh_z72 st_z72 1 V_67 rfl (j_66) (Or.inr hX_z72))
                  exact ⟨rfl, ⟨rfl, ⟨rfl, trivial⟩⟩⟩
        refine aw_le ?_ (ml_31_41 _ 0 0 0 (fun _ => 0) (fun _ => 0) (fun _ => 0) (fun _ => 0) (fun _ => 0) (fun _ => 0) 0 V_37 rfl (j_36) (Or.inl rfl))
        exact ⟨rfl, ⟨rfl, ⟨rfl, trivial⟩⟩⟩
      · skip
        obtain ⟨sd_z73, wa_z73, pl_z73, cm_z73, sl_z73, sf_z73, sh_z73, st_z73, hX_z73, hg_z73⟩ := hz
        refine aw_istore_n (ls' := [some (.ref (b + 100)), some (.int (nI zn0)), some (.int r_38), none]) dX12_law_30 (Nat.le_of_ble_eq_true rfl) rfl ?_
        have ml_31_74 : ∀ (m : Nat) (a31 : Nat) (c31 : Nat) (m31 : Nat) (sd31 : Nat → Int32) (wa31 : Nat → Int32) (sl31 : Nat → Int32) (sf31 : Nat → Int32) (sh31 : Nat → Int32) (st31 : Nat → Int32) (v31_2 : Int32) (V31 : Wd), m = (if v31_2 = 0 then 0 else 1 + (240 - a31)) → (JR D b N cl [(111, 121, 0, 1000000), (100, 100, 22, 22), (100, 100, 14, 14), (100, 100, 15, 15), (100, 100, 19, 19), (100, 100, 21, 21), (100, 100, 18, 18), (100, 100, 20, 20), (100, 100, 16, 16), (100, 100, 17, 17), (100, 100, 13, 13)] V V31) → (v31_2 = 0 ∨ RX D b V31 g_26 a31 le0_k23 c31 sd31 wa31 sl31 sf31 sh31 st31 m31) → AW l D b jX12_law (fx_rm 8 0 0) none (fx_MQ D b 0 0 (fx_qi (fun r N9 V9 => N = N9 ∧ ∃ cl9, CR D b cl9 V9 ∧ (∀ i, (i < 100 ∨ 133 ≤ i) → i < N → V9 i = V i) ∧ WF D cl9 V9 ∧ (∀ i k, 100 ≤ i → i < 133 → fwB [(111, 121, 0, 1000000), (100, 100, 22, 22), (100, 100, 14, 14), (100, 100, 15, 15), (100, 100, 19, 19), (100, 100, 21, 21), (100, 100, 18, 18), (100, 100, 20, 20), (100, 100, 16, 16), (100, 100, 17, 17), (100, 100, 13, 13)] i k = false → pj (V9 i) k = pj (V i) k) ∧ TKS (cIn m0 1 240 (fI (V 100) 13)) (fI (V 100) 13) (fI (V9 100) 13)))) 31 [some (.ref (b + 100)), some (.int (nI zn0)), some (.int v31_2), none] [] N V31 0 0 := by
          intro m; refine Nat.strongRecOn m ?_
          intro m mih_31_74 a31 c31 m31 sd31 wa31 sl31 sf31 sh31 st31 v31_2 V31 hm31 i31_0 i31_1
          refine aw_iload_n dX12_law_31 rfl ?_
          refine aw_if_eq (tgt := 71) dX12_law_32 (by decide) (fun c_75 => ?_) (fun c_75 => ?_)
          · skip
            refine aw_aload_n dX12_law_71 rfl ?_
            refine aw_iconst (v := 0) dX12_law_72 (by decide) ?_
            obtain ⟨ftoldPeople_76, ftoldDoors_76, fwasDoors_76, ffault_76, fopen_76, flines_76, fmeantSet_76, fopenedNow_76, fvainNow_76, flowNow_76, fhighNow_76, fisKept_76, tad_76, pl0_76, le0_76, nu0_76, coy_76, wag_76, say_76, e_76, hntad_76, hnpl0_76, hnle0_76, hnnu0_76, hncoy_76, hnwag_76, hnsay_76⟩ := JR.get i31_0 cm_100
            refine aw_put dX12_law_73 fp_X12_152 e_76 (by omega) rfl rfl (Nat.le_of_ble_eq_true rfl) rfl ?_
            refine aw_upR i31_0 cm_100 ⟨_, _, _, _, _, _, _, _, _, _, _, _, 0, pl0_76, le0_76, nu0_76, coy_76, wag_76, say_76, rfl, by omega, by omega, by omega, by omega, by omega, by omega, by omega⟩ (by decide) (WO (s := 13) (x := .int 0) e_76 rfl (LMs (LMs (LMs (LMs (LMs (LMs (LMs (LMs (LMs (LMs LM0)))))))))) (by decide) (by decide) (by decide) (Or.inl (by decide))) (fun V_77 j_77 k_77 e_77 => ?_)
            refine aw_iload_n dX12_law_76 rfl ?_
            refine aw_if_ne (tgt := 85) dX12_law_77 (by decide) (fun c_78 => ?_) (fun c_78 => ?_)
            · first | exact absurd c_78 c_75 | exact absurd c_75 c_78 | exact absurd c_78 (Int32.not_lt.mpr c_75) | exact absurd c_75 (Int32.not_lt.mpr c_78) | exact c_75 (Int32.not_lt.mp c_78) | exact c_75 (Int32.not_le.mp c_78)
            refine aw_aload_n dX12_law_80 rfl ?_
            refine aw_get dX12_law_81 fl_X12_169 e_77 (by omega) rfl ?_
            refine aw_ireti dX12_law_84 rfl (Nat.le_of_ble_eq_true rfl) (Nat.le_of_ble_eq_true rfl) ?_
            exact ⟨rfl, cl, j_77.1, j_77.2.1, WF.fr hwf j_77.2.2.1, j_77.2.2.2, Or.inl ⟨(by have zhi_5 := hi_5.resolve_left c_11; have zzzn0 := fx_nIt (n := zn0) (by omega); have zt := fx_nIt (n := tad_1) (by omega); have e0 : (0 : Int32).toInt = 0 := (by decide); have e1 : (1 : Int32).toInt = 1 := (by decide); have e240 : (240 : Int32).toInt = 240 := (by decide); have q0 := zhi_5; have q1 := hm; have q2 := hta0; simp only [cIn, ← Int32.toInt_inj, Int32.le_iff_toInt_le, Int32.lt_iff_toInt_lt] at q0 q1 q2 ⊢; omega), ((congrArg (fun z => fI z 13) e_77).trans rfl)⟩⟩
          · skip
            have hX31 := i31_1.resolve_left c_75
            obtain ⟨xg_r79, xs_r79, xw_r79, xa_r79, xb_r79, xd_r79, xe_r79, xp_r79, xl_r79, xc_r79, xm_r79, ⟨hB1_r79, hB2_r79, hB3_r79, hB4_r79⟩, hR_r79⟩ := hX31
            obtain ⟨ftoldPeople_80, ftoldDoors_80, fwasDoors_80, ffault_80, fopen_80, flines_80, fmeantSet_80, fopenedNow_80, fvainNow_80, flowNow_80, fhighNow_80, fisKept_80, tad_80, pl0_80, le0_80, nu0_80, coy_80, wag_80, say_80, e_80, hntad_80, hnpl0_80, hnle0_80, hnnu0_80, hncoy_80, hnwag_80, hnsay_80⟩ := JR.get i31_0 cm_100
            have sb_r79pl := FG.eq xp_r79 e_80 rfl (by omega) (by omega)
            subst sb_r79pl
            have sb_r79cm := FG.eq xc_r79 e_80 rfl (by omega) (by omega)
            subst sb_r79cm
            have sb_r79sm := FG.eq xm_r79 e_80 rfl (by omega) (by omega)
            subst sb_r79sm
            have sb_r79ln := FG.eq xl_r79 e_80 rfl (by omega) (by omega)
            refine aw_aload_n dX12_law_35 rfl ?_
            refine aw_get dX12_law_36 fl_X12_159 e_80 (by omega) rfl ?_
            refine aw_aload_n dX12_law_39 rfl ?_
            refine aw_get dX12_law_40 fl_X12_162 e_80 (by omega) rfl ?_
            refine aw_icmp_ge (tgt := 71) dX12_law_43 (by decide) (fun c_81 => ?_) (fun c_81 => ?_)
            · skip
              have nc_81 : le0_80 ≤ pl0_80 := (nI_leI (a := le0_80) (b := pl0_80) (by omega) (by omega)).mp c_81
              refine aw_aload_n dX12_law_71 rfl ?_
              refine aw_iconst (v := 0) dX12_law_72 (by decide) ?_
              refine aw_put dX12_law_73 fp_X12_152 e_80 (by omega) rfl rfl (Nat.le_of_ble_eq_true rfl) rfl ?_
              refine aw_upR i31_0 cm_100 ⟨_, _, _, _, _, _, _, _, _, _, _, _, 0, pl0_80, le0_80, nu0_80, coy_80, wag_80, say_80, rfl, by omega, by omega, by omega, by omega, by omega, by omega, by omega⟩ (by decide) (WO (s := 13) (x := .int 0) e_80 rfl (LMs (LMs (LMs (LMs (LMs (LMs (LMs (LMs (LMs (LMs LM0)))))))))) (by decide) (by decide) (by decide) (Or.inl (by decide))) (fun V_82 j_82 k_82 e_82 => ?_)
              refine aw_iload_n dX12_law_76 rfl ?_
              refine aw_if_ne (tgt := 85) dX12_law_77 (by decide) (fun c_83 => ?_) (fun c_83 => ?_)
              rotate_left
              · first | exact absurd c_75 c_83 | exact absurd c_83 c_75
              exact r_lawtailK l D b N V V_82 hN cl j_82 ftoldPeople_80 ftoldDoors_80 fwasDoors_80 ffault_80 fopen_80 flines_80 fmeantSet_80 fopenedNow_80 fvainNow_80 flowNow_80 fhighNow_80 fisKept_80 0 pl0_80 le0_80 nu0_80 coy_80 wag_80 say_80 ⟨by omega, by omega, by omega, by omega, by omega, by omega, by omega⟩ e_82 sd31 wa31 sl31 sf31 sh31 st31 ((k_82 _ (by decide)).trans xs_r79) ((k_82 _ (by decide)).trans xa_r79) ((k_82 _ (by decide)).trans xb_r79) ((k_82 _ (by decide)).trans xd_r79) ((k_82 _ (by decide)).trans xe_r79) (by omega) hR_r79 _ _ (cIn m0 1 240 (fI (V 100) 13)) (by have zhi_5 := hi_5.resolve_left c_11; have zzzn0 := fx_nIt (n := zn0) (by omega); have zt := fx_nIt (n := tad_1) (by omega); have e0 : (0 : Int32).toInt = 0 := (by decide); have e1 : (1 : Int32).toInt = 1 := (by decide); have e240 : (240 : Int32).toInt = 240 := (by decide); have q0 := zhi_5; have q1 := hm; have q2 := hta0; simp only [cIn, ← Int32.toInt_inj, Int32.le_iff_toInt_le, Int32.lt_iff_toInt_lt] at q0 q1 q2 ⊢; omega) ((congrArg (fun z => fI z 13) e_82).trans rfl)
            · skip
              have nc_81 : ¬ (le0_80 ≤ pl0_80) := fun z => c_81 ((nI_leI (a := le0_80) (b := pl0_80) (by omega) (by omega)).mpr z)
              refine aw_aload_n dX12_law_46 rfl ?_
              refine aw_bipush (v := 59) dX12_law_47 (by decide) ?_
              refine aw_callVi (J' := jX12_takes) (As := [.int 59]) (st := []) dX12_law_49 tb_1291 ok_X12_takes ⟨_, e_80⟩ (by omega) rfl rfl (r_takesF l D b N V31 hN cl i31_0.1 59 ftoldPeople_80 ftoldDoors_80 fwasDoors_80 ffault_80 fopen_80 flines_80 fmeantSet_80 fopenedNow_80 fvainNow_80 flowNow_80 fhighNow_80 fisKept_80 tad_80 pl0_80 le0_80 nu0_80 coy_80 wag_80 say_80 ⟨by omega, by omega, by omega, by omega, by omega, by omega, by omega⟩ e_80 g_26 xg_r79 (by decide)) rfl (Nat.le_of_ble_eq_true rfl) ⟨Nat.le_of_ble_eq_true rfl, Nat.le_of_ble_eq_true rfl, Nat.le_of_ble_eq_true rfl, Nat.le_of_ble_eq_true rfl⟩ (fun r_89 N_90 V_88 q_91 => ?_)
              obtain ⟨⟨z_86, h_85⟩, rfl, q_84⟩ := q_91
              have j_87 := JR.trans i31_0 (JR.weak q_84 (Sub.cons (LMs (LMs LM0)) (by decide) (by decide) (by decide) (Or.inr ⟨by decide, by decide⟩) (Sub.cons (LMs (LMs (LMs (LMs (LMs (LMs (LMs (LMs LM0)))))))) (by decide) (by decide) (by decide) (Or.inr ⟨by decide, by decide⟩) Sub.nil)))
              refine aw_if_eq (tgt := 66) dX12_law_52 (by decide) (fun c_92 => ?_) (fun c_92 => ?_)
              · skip
                refine aw_iconst (v := 0) dX12_law_66 (by decide) ?_
                refine aw_istore_n (ls' := [some (.ref (b + 100)), some (.int (nI zn0)), some (.int 0), none]) dX12_law_67 (Nat.le_of_ble_eq_true rfl) rfl ?_
                refine aw_goto (tgt := 31) dX12_law_68 (by decide) ?_
                refine aw_le ?_ (mih_31_74 _ (by rw [hm31]; exact tl2 c_75 (Or.inl rfl) (by decide)) 0 0 0 (fun _ => 0) (fun _ => 0) (fun _ => 0) (fun _ => 0) (fun _ => 0) (fun _ => 0) 0 V_88 rfl (j_87) (Or.inl rfl))
                exact ⟨rfl, ⟨rfl, ⟨rfl, trivial⟩⟩⟩
              · skip
                obtain ⟨hT_93, hT_94, hT_95⟩ := (h_85.resolve_left c_92)
                refine aw_aload_n dX12_law_55 rfl ?_
                refine aw_callVi (J' := jX12_readsRule) (As := []) (st := []) dX12_law_56 tb_1216 ok_X12_readsRule ⟨_, hT_93⟩ (by omega) rfl rfl (r_readsRule l D b N V_88 hN cl j_87.1 g_26 sd31 wa31 sl31 sf31 sh31 st31 (pl0_80 + 1) le0_k23 coy_80 say_80 ⟨((hT_94 _ (by decide)).trans xg_r79), ((hT_94 _ (by decide)).trans xs_r79), ((hT_94 _ (by decide)).trans xw_r79), ((hT_94 _ (by decide)).trans xa_r79), ((hT_94 _ (by decide)).trans xb_r79), ((hT_94 _ (by decide)).trans xd_r79), ((hT_94 _ (by decide)).trans xe_r79), (FG.of hT_93 rfl rfl), (FG.of hT_93 rfl (by omega : le0_80 = le0_k23)), (FG.of hT_93 rfl rfl), (FG.of hT_93 rfl rfl), ⟨by omega, by omega, by omega, by omega⟩, hR_r79⟩) rfl (Nat.le_of_ble_eq_true rfl) ⟨Nat.le_of_ble_eq_true rfl, Nat.le_of_ble_eq_true rfl, Nat.le_of_ble_eq_true rfl, Nat.le_of_ble_eq_true rfl⟩ (fun r_101 N_102 V_100 q_103 => ?_)
                obtain ⟨⟨z_98, h_97⟩, rfl, q_96⟩ := q_103
                have j_99 := JR.trans j_87 (JR.weak q_96 (Sub.cons LM0 (by decide) (by decide) (by decide) (Or.inl rfl) (Sub.cons (LMs (LMs LM0)) (by decide) (by decide) (by decide) (Or.inr ⟨by decide, by decide⟩) (Sub.cons (LMs (LMs (LMs (LMs (LMs (LMs LM0)))))) (by decide) (by decide) (by decide) (Or.inr ⟨by decide, by decide⟩) (Sub.cons (LMs (LMs (LMs (LMs (LMs (LMs (LMs LM0))))))) (by decide) (by decide) (by decide) (Or.inr ⟨by decide, by decide⟩) (Sub.cons (LMs (LMs (LMs (LMs LM0)))) (by decide) (by decide) (by decide) (Or.inr ⟨by decide, by decide⟩) (Sub.cons (LMs (LMs (LMs (LMs (LMs (LMs (LMs (LMs LM0)))))))) (by decide) (by decide) (by decide) (Or.inr ⟨by decide, by decide⟩) (Sub.cons (LMs (LMs (LMs (LMs (LMs (LMs (LMs (LMs (LMs LM0))))))))) (by decide) (by decide) (by decide) (Or.inr ⟨by decide, by decide⟩) (Sub.cons (LMs (LMs (LMs (LMs (LMs LM0))))) (by decide) (by decide) (by decide) (Or.inr ⟨by decide, by decide⟩) Sub.nil)))))))))
                refine aw_if_eq (tgt := 66) dX12_law_59 (by decide) (fun c_104 => ?_) (fun c_104 => ?_)
                · skip
                  refine aw_iconst (v := 0) dX12_law_66 (by decide) ?_
                  refine aw_istore_n (ls' := [some (.ref (b + 100)), some (.int (nI zn0)), some (.int 0), none]) dX12_law_67 (Nat.le_of_ble_eq_true rfl) rfl ?_
                  refine aw_goto (tgt := 31) dX12_law_68 (by decide) ?_
                  refine aw_le ?_ (mih_31_74 _ (by rw [hm31]; exact tl2 c_75 (Or.inl rfl) (by decide)) 0 0 0 (fun _ => 0) (fun _ => 0) (fun _ => 0) (fun _ => 0) (fun _ => 0) (fun _ => 0) 0 V_100 rfl (j_99) (Or.inl rfl))
                  exact ⟨rfl, ⟨rfl, ⟨rfl, trivial⟩⟩⟩
                · skip
                  obtain ⟨sd_z105, wa_z105, pl_z105, cm_z105, sl_z105, sf_z105, sh_z105, st_z105, hX_z105, hg_z105⟩ := (h_97.resolve_left c_104)
                  refine aw_iconst (v := 1) dX12_law_62 (by decide) ?_
                  refine aw_goto (tgt := 67) dX12_law_63 (by decide) ?_
                  refine aw_istore_n (ls' := [some (.ref (b + 100)), some (.int (nI zn0)), some (.int 1), none]) dX12_law_67 (Nat.le_of_ble_eq_true rfl) rfl ?_
                  refine aw_goto (tgt := 31) dX12_law_68 (by decide) ?_
                  have hbx := hX_z105.2.2.2.2.2.2.2.2.2.2.2.1
                  refine aw_le ?_ (mih_31_74 _ (by rw [hm31]; exact tl2 c_75 (Or.inr (by omega)) (by omega)) pl_z105 cm_z105 (say_80 + 1) sd_z105 wa_z105 sl_z105 sf_z105 sh_z105 st_z105 1 V_100 rfl (j_99) (Or.inr hX_z105))
                  exact ⟨rfl, ⟨rfl, ⟨rfl, trivial⟩⟩⟩
        refine aw_le ?_ (ml_31_74 _ pl_z73 cm_z73 (say_k23 + 1) sd_z73 wa_z73 sl_z73 sf_z73 sh_z73 st_z73 r_38 V_37 rfl (j_36) (Or.inr hX_z73))
        exact ⟨rfl, ⟨rfl, ⟨rfl, trivial⟩⟩⟩
    · skip
      have nc_12 : ¬ (zn0 ≤ tad_1) := fun z => c_12 ((nI_leI (a := zn0) (b := tad_1) (by omega) (by omega)).mpr z)
      refine aw_iconst (v := (-1)) dX12_law_19 (by decide) ?_
      refine aw_ireti dX12_law_20 rfl (Nat.le_of_ble_eq_true rfl) (Nat.le_of_ble_eq_true rfl) ?_
      exact ⟨rfl, cl, hJ0.1, hJ0.2.1, WF.fr hwf hJ0.2.2.1, hJ0.2.2.2, Or.inr ⟨(by have zhi_5 := hi_5.resolve_left c_11; have zzzn0 := fx_nIt (n := zn0) (by omega); have zt := fx_nIt (n := tad_1) (by omega); have e0 : (0 : Int32).toInt = 0 := (by decide); have e1 : (1 : Int32).toInt = 1 := (by decide); have e240 : (240 : Int32).toInt = 240 := (by decide); have q0 := zhi_5; have q1 := hm; have q2 := hta0; simp only [cIn, ← Int32.toInt_inj, Int32.le_iff_toInt_le, Int32.lt_iff_toInt_lt] at q0 q1 q2 ⊢; omega), (Eq.refl (fI (V 100) 13))⟩⟩
