set_option maxHeartbeats 4000000 in
set_option maxRecDepth 100000 in
theorem r_here (l : Launch) (D : va_G) (b : Nat) (N : Nat) (V : Wd) (hN : 133 ≤ N) (cl : Nat) (hW : CR D b cl V)  (g : Nat → Int32) (hg : V 110 = cB D 260 g) (pl ln : Nat) (hpl : FG b 14 pl V) (hln : FG b 15 ln V) (hb : pl ≤ 240 ∧ ln ≤ 240) : MI l D b 0 jX12_here [.ref (b + 100)] N V 0 0 (fun r N9 V9 => (r = hereF g pl ln) ∧ N = N9 ∧ V = V9) := by
  have hJ0 : JR D b N cl [] V V := JR.rf hW
  refine mw_of (by decide) (by simp [Value.category]) (Nat.le_of_ble_eq_true rfl) ?_
  show AW l D b jX12_here (fx_rm 0 0 0) none (fx_MQ D b 0 0 (fx_qi (fun r N9 V9 => (r = hereF g pl ln) ∧ N = N9 ∧ V = V9))) 0 [some (.ref (b + 100))] [] N V 0 0
  obtain ⟨ftoldPeople_1, ftoldDoors_1, fwasDoors_1, ffault_1, fopen_1, flines_1, fmeantSet_1, fopenedNow_1, fvainNow_1, flowNow_1, fhighNow_1, fisKept_1, tad_1, pl0_1, le0_1, nu0_1, coy_1, wag_1, say_1, e_1, hntad_1, hnpl0_1, hnle0_1, hnnu0_1, hncoy_1, hnwag_1, hnsay_1⟩ := JR.get hJ0 cm_100
  have hq_p := FG.eq hpl e_1 rfl (by omega) (by omega)
  have hq_l := FG.eq hln e_1 rfl (by omega) (by omega)
  refine aw_aload_n dX12_here_0 rfl ?_
  refine aw_get dX12_here_1 fl_X12_159 e_1 (by omega) rfl ?_
  refine aw_aload_n dX12_here_4 rfl ?_
  refine aw_get dX12_here_5 fl_X12_162 e_1 (by omega) rfl ?_
  refine aw_icmp_ge (tgt := 27) dX12_here_8 (by decide) (fun c_2 => ?_) (fun c_2 => ?_)
  · skip
    have nc_2 : le0_1 ≤ pl0_1 := (nI_leI (a := le0_1) (b := pl0_1) (by omega) (by omega)).mp c_2
    refine aw_iconst (v := (-1)) dX12_here_27 (by decide) ?_
    refine aw_ireti dX12_here_28 rfl (Nat.le_of_ble_eq_true rfl) (Nat.le_of_ble_eq_true rfl) ?_
    exact ⟨(by rw [← hq_p, ← hq_l]; exact (if_neg (by omega)).symm), rfl, rfl⟩
  · skip
    have nc_2 : ¬ (le0_1 ≤ pl0_1) := fun z => c_2 ((nI_leI (a := le0_1) (b := pl0_1) (by omega) (by omega)).mpr z)
    refine aw_aload_n dX12_here_11 rfl ?_
    refine aw_get dX12_here_12 fl_X12_37 e_1 (by omega) rfl ?_
    refine aw_aload_n dX12_here_15 rfl ?_
    refine aw_get dX12_here_16 fl_X12_159 e_1 (by omega) rfl ?_
    refine aw_bald (v := (g pl0_1)) dX12_here_19 hg (by omega) (vp_in_nI (n := pl0_1) (by omega) (by omega)) (congrArg g (nI_clamp (n := pl0_1) (by omega))) ?_
    refine aw_sipush (v := 255) dX12_here_20 (by decide) ?_
    refine aw_iand dX12_here_23 ?_
    refine aw_goto (tgt := 28) dX12_here_24 (by decide) ?_
    refine aw_ireti dX12_here_28 rfl (Nat.le_of_ble_eq_true rfl) (Nat.le_of_ble_eq_true rfl) ?_
    exact ⟨(by rw [← hq_p, ← hq_l]; exact (if_pos (by omega)).symm), rfl, rfl⟩

set_option maxHeartbeats 4000000 in
set_option maxRecDepth 100000 in
theorem r_isDigit (l : Launch) (D : va_G) (b : Nat) (N : Nat) (V : Wd) (hN : 133 ≤ N) (cl : Nat) (hW : CR D b cl V)  (g : Nat → Int32) (hg : V 110 = cB D 260 g) (pl ln : Nat) (hpl : FG b 14 pl V) (hln : FG b 15 ln V) (hb : pl ≤ 240 ∧ ln ≤ 240) : MI l D b 1 jX12_isDigit [.ref (b + 100)] N V 0 0 (fun r N9 V9 => ((r = 0 ∨ r = 1) ∧ (r = 0 ∨ ∃ q : Nat, q < 10 ∧ hereF g pl ln = nI (48 + q))) ∧ N = N9 ∧ V = V9) := by
  have hJ0 : JR D b N cl [] V V := JR.rf hW
  refine mw_of (by decide) (by simp [Value.category]) (Nat.le_of_ble_eq_true rfl) ?_
  show AW l D b jX12_isDigit (fx_rm 1 0 0) none (fx_MQ D b 0 0 (fx_qi (fun r N9 V9 => ((r = 0 ∨ r = 1) ∧ (r = 0 ∨ ∃ q : Nat, q < 10 ∧ hereF g pl ln = nI (48 + q))) ∧ N = N9 ∧ V = V9))) 0 [some (.ref (b + 100))] [] N V 0 0
  obtain ⟨ftoldPeople_1, ftoldDoors_1, fwasDoors_1, ffault_1, fopen_1, flines_1, fmeantSet_1, fopenedNow_1, fvainNow_1, flowNow_1, fhighNow_1, fisKept_1, tad_1, pl0_1, le0_1, nu0_1, coy_1, wag_1, say_1, e_1, hntad_1, hnpl0_1, hnle0_1, hnnu0_1, hncoy_1, hnwag_1, hnsay_1⟩ := JR.get hJ0 cm_100
  have hq_p := FG.eq hpl e_1 rfl (by omega) (by omega)
  have hq_l := FG.eq hln e_1 rfl (by omega) (by omega)
  refine aw_aload_n dX12_isDigit_0 rfl ?_
  refine aw_callVi (J' := jX12_here) (As := []) (st := []) dX12_isDigit_1 tb_1220 ok_X12_here ⟨_, e_1⟩ (by omega) rfl rfl (r_here l D b N V hN cl hJ0.1 g hg pl0_1 le0_1 (FG.of e_1 rfl rfl) (FG.of e_1 rfl rfl) ⟨by omega, by omega⟩) rfl (Nat.le_of_ble_eq_true rfl) ⟨Nat.le_of_ble_eq_true rfl, Nat.le_of_ble_eq_true rfl, Nat.le_of_ble_eq_true rfl, Nat.le_of_ble_eq_true rfl⟩ (fun r_4 N_5 V_6 q_7 => ?_)
  obtain ⟨h_3, rfl, rfl⟩ := q_7
  refine aw_bipush (v := 48) dX12_isDigit_4 (by decide) ?_
  refine aw_icmp_lt (tgt := 22) dX12_isDigit_6 (by decide) (fun c_8 => ?_) (fun c_8 => ?_)
  · skip
    refine aw_iconst (v := 0) dX12_isDigit_22 (by decide) ?_
    refine aw_zreti dX12_isDigit_23 rfl (by first | exact Or.inl rfl | exact Or.inr rfl | assumption) (Nat.le_of_ble_eq_true rfl) (Nat.le_of_ble_eq_true rfl) ?_
    exact ⟨⟨(by first | exact Or.inl rfl | exact Or.inr rfl | assumption), Or.inl rfl⟩, rfl, rfl⟩
  · skip
    refine aw_aload_n dX12_isDigit_9 rfl ?_
    refine aw_callVi (J' := jX12_here) (As := []) (st := []) dX12_isDigit_10 tb_1220 ok_X12_here ⟨_, e_1⟩ (by omega) rfl rfl (r_here l D b N V hN cl hJ0.1 g hg pl0_1 le0_1 (FG.of e_1 rfl rfl) (FG.of e_1 rfl rfl) ⟨by omega, by omega⟩) rfl (Nat.le_of_ble_eq_true rfl) ⟨Nat.le_of_ble_eq_true rfl, Nat.le_of_ble_eq_true rfl, Nat.le_of_ble_eq_true rfl, Nat.le_of_ble_eq_true rfl⟩ (fun r_11 N_12 V_13 q_14 => ?_)
    obtain ⟨h_10, rfl, rfl⟩ := q_14
    refine aw_bipush (v := 57) dX12_isDigit_13 (by decide) ?_
    refine aw_icmp_gt (tgt := 22) dX12_isDigit_15 (by decide) (fun c_15 => ?_) (fun c_15 => ?_)
    · skip
      refine aw_iconst (v := 0) dX12_isDigit_22 (by decide) ?_
      refine aw_zreti dX12_isDigit_23 rfl (by first | exact Or.inl rfl | exact Or.inr rfl | assumption) (Nat.le_of_ble_eq_true rfl) (Nat.le_of_ble_eq_true rfl) ?_
      exact ⟨⟨(by first | exact Or.inl rfl | exact Or.inr rfl | assumption), Or.inl rfl⟩, rfl, rfl⟩
    · skip
      refine aw_iconst (v := 1) dX12_isDigit_18 (by decide) ?_
      refine aw_goto (tgt := 23) dX12_isDigit_19 (by decide) ?_
      refine aw_zreti dX12_isDigit_23 rfl (by first | exact Or.inl rfl | exact Or.inr rfl | assumption) (Nat.le_of_ble_eq_true rfl) (Nat.le_of_ble_eq_true rfl) ?_
      exact ⟨⟨(by first | exact Or.inl rfl | exact Or.inr rfl | assumption), Or.inr (by rw [← hq_p, ← hq_l]; exact dig_of h_3 h_10 c_8 c_15)⟩, rfl, rfl⟩

set_option maxHeartbeats 4000000 in
set_option maxRecDepth 100000 in
theorem r_isLetter (l : Launch) (D : va_G) (b : Nat) (N : Nat) (V : Wd) (hN : 133 ≤ N) (cl : Nat) (hW : CR D b cl V)  (g : Nat → Int32) (hg : V 110 = cB D 260 g) (pl ln : Nat) (hpl : FG b 14 pl V) (hln : FG b 15 ln V) (hb : pl ≤ 240 ∧ ln ≤ 240) : MI l D b 1 jX12_isLetter [.ref (b + 100)] N V 0 0 (fun r N9 V9 => ((r = 0 ∨ r = 1) ∧ (r = 0 ∨ ∃ q : Nat, q < 16 ∧ hereF g pl ln = nI (97 + q))) ∧ N = N9 ∧ V = V9) := by
  have hJ0 : JR D b N cl [] V V := JR.rf hW
  refine mw_of (by decide) (by simp [Value.category]) (Nat.le_of_ble_eq_true rfl) ?_
  show AW l D b jX12_isLetter (fx_rm 1 0 0) none (fx_MQ D b 0 0 (fx_qi (fun r N9 V9 => ((r = 0 ∨ r = 1) ∧ (r = 0 ∨ ∃ q : Nat, q < 16 ∧ hereF g pl ln = nI (97 + q))) ∧ N = N9 ∧ V = V9))) 0 [some (.ref (b + 100))] [] N V 0 0
  obtain ⟨ftoldPeople_1, ftoldDoors_1, fwasDoors_1, ffault_1, fopen_1, flines_1, fmeantSet_1, fopenedNow_1, fvainNow_1, flowNow_1, fhighNow_1, fisKept_1, tad_1, pl0_1, le0_1, nu0_1, coy_1, wag_1, say_1, e_1, hntad_1, hnpl0_1, hnle0_1, hnnu0_1, hncoy_1, hnwag_1, hnsay_1⟩ := JR.get hJ0 cm_100
  have hq_p := FG.eq hpl e_1 rfl (by omega) (by omega)
  have hq_l := FG.eq hln e_1 rfl (by omega) (by omega)
  refine aw_aload_n dX12_isLetter_0 rfl ?_
  refine aw_callVi (J' := jX12_here) (As := []) (st := []) dX12_isLetter_1 tb_1220 ok_X12_here ⟨_, e_1⟩ (by omega) rfl rfl (r_here l D b N V hN cl hJ0.1 g hg pl0_1 le0_1 (FG.of e_1 rfl rfl) (FG.of e_1 rfl rfl) ⟨by omega, by omega⟩) rfl (Nat.le_of_ble_eq_true rfl) ⟨Nat.le_of_ble_eq_true rfl, Nat.le_of_ble_eq_true rfl, Nat.le_of_ble_eq_true rfl, Nat.le_of_ble_eq_true rfl⟩ (fun r_4 N_5 V_6 q_7 => ?_)
  obtain ⟨h_3, rfl, rfl⟩ := q_7
  refine aw_bipush (v := 97) dX12_isLetter_4 (by decide) ?_
  refine aw_isub dX12_isLetter_6 ?_
  refine aw_iconst (v := 0) dX12_isLetter_7 (by decide) ?_
  refine aw_bipush (v := 15) dX12_isLetter_8 (by decide) ?_
  refine aw_callSi (J' := jX12_in) (As := [.int (r_4 - 97), .int 0, .int 15]) (st := []) dX12_isLetter_10 tb_1209 ok_X12_in rfl (r_in l D b N V hN cl hJ0.1 (r_4 - 97) 0 15) rfl (Nat.le_of_ble_eq_true rfl) ⟨Nat.le_of_ble_eq_true rfl, Nat.le_of_ble_eq_true rfl, Nat.le_of_ble_eq_true rfl, Nat.le_of_ble_eq_true rfl⟩ (fun r_11 N_12 V_13 q_14 => ?_)
  obtain ⟨⟨z_10, h_9⟩, rfl, rfl⟩ := q_14
  refine aw_zreti dX12_isLetter_13 rfl (by first | exact Or.inl rfl | exact Or.inr rfl | assumption) (Nat.le_of_ble_eq_true rfl) (Nat.le_of_ble_eq_true rfl) ?_
  exact ⟨⟨(by first | exact Or.inl rfl | exact Or.inr rfl | assumption), (by rw [← hq_p, ← hq_l]; exact h_9.imp id (fun z => let_of h_3 z))⟩, rfl, rfl⟩

set_option maxHeartbeats 4000000 in
set_option maxRecDepth 100000 in
theorem r_wrongAt (l : Launch) (D : va_G) (b : Nat) (N : Nat) (V : Wd) (hN : 133 ≤ N) (cl : Nat) (hW : CR D b cl V) (n0 : Int32) (n1 : Int32) (pl ln : Nat) (hpl : FG b 14 pl V) (hln : FG b 15 ln V) (hb : pl ≤ 240 ∧ ln ≤ 240)  : MI l D b 0 jX12_wrongAt [.ref (b + 100), .int n0, .int n1] N V 0 0 (fun r N9 V9 => ((r = 0 ∨ r = 1) ∧ (∃ a9, pl ≤ a9 ∧ a9 ≤ 240 ∧ FG b 14 a9 V9 ∧ FG b 15 ln V9 ∧ V9 110 = V 110 ∧ (r = 0))) ∧ N = N9 ∧ JR D b N cl [(100, 100, 16, 16)] V V9) := by
  have hJ0 : JR D b N cl [(100, 100, 16, 16)] V V := JR.rf hW
  refine mw_of (by decide) (by simp [Value.category]) (Nat.le_of_ble_eq_true rfl) ?_
  show AW l D b jX12_wrongAt (fx_rm 0 0 0) none (fx_MQ D b 0 0 (fx_qi (fun r N9 V9 => ((r = 0 ∨ r = 1) ∧ (∃ a9, pl ≤ a9 ∧ a9 ≤ 240 ∧ FG b 14 a9 V9 ∧ FG b 15 ln V9 ∧ V9 110 = V 110 ∧ (r = 0))) ∧ N = N9 ∧ JR D b N cl [(100, 100, 16, 16)] V V9))) 0 [some (.ref (b + 100)), some (.int n0), some (.int n1)] [] N V 0 0
  obtain ⟨g_1, e_1⟩ := JR.get hJ0 cm_110
  obtain ⟨ftoldPeople_2, ftoldDoors_2, fwasDoors_2, ffault_2, fopen_2, flines_2, fmeantSet_2, fopenedNow_2, fvainNow_2, flowNow_2, fhighNow_2, fisKept_2, tad_2, pl0_2, le0_2, nu0_2, coy_2, wag_2, say_2, e_2, hntad_2, hnpl0_2, hnle0_2, hnnu0_2, hncoy_2, hnwag_2, hnsay_2⟩ := JR.get hJ0 cm_100
  have hq_p := FG.eq hpl e_2 rfl (by omega) (by omega)
  have hq_l := FG.eq hln e_2 rfl (by omega) (by omega)
  refine aw_aload_n dX12_wrongAt_0 rfl ?_
  refine aw_sipush (v := (-1000)) dX12_wrongAt_1 (by decide) ?_
  refine aw_iload_n dX12_wrongAt_4 rfl ?_
  refine aw_imul dX12_wrongAt_5 ?_
  refine aw_iload_n dX12_wrongAt_6 rfl ?_
  refine aw_isub dX12_wrongAt_7 ?_
  refine aw_put dX12_wrongAt_8 fp_X12_169 e_2 (by omega) rfl rfl (Nat.le_of_ble_eq_true rfl) rfl ?_
  refine aw_upR hJ0 cm_100 ⟨_, _, _, _, _, _, _, _, _, _, _, _, tad_2, pl0_2, le0_2, nu0_2, coy_2, wag_2, say_2, rfl, by omega, by omega, by omega, by omega, by omega, by omega, by omega⟩ (by decide) (WO (s := 16) (x := .int (((-1000) * n0) - n1)) e_2 rfl LM0 (by decide) (by decide) (by decide) (Or.inl (by decide))) (fun V_3 j_3 k_3 e_3 => ?_)
  refine aw_iconst (v := 0) dX12_wrongAt_11 (by decide) ?_
  refine aw_zreti dX12_wrongAt_12 rfl (by first | exact Or.inl rfl | exact Or.inr rfl | assumption) (Nat.le_of_ble_eq_true rfl) (Nat.le_of_ble_eq_true rfl) ?_
  exact ⟨⟨(by first | exact Or.inl rfl | exact Or.inr rfl | assumption), ⟨pl0_2, by omega, by omega, (FG.of e_3 rfl rfl), (FG.of e_3 rfl (by omega : le0_2 = ln)), (((k_3 _ (by decide)).trans e_1)).trans e_1.symm, rfl⟩⟩, rfl, j_3⟩

set_option maxHeartbeats 4000000 in
set_option maxRecDepth 100000 in
theorem r_takes (l : Launch) (D : va_G) (b : Nat) (N : Nat) (V : Wd) (hN : 133 ≤ N) (cl : Nat) (hW : CR D b cl V) (n0 : Int32) (pl ln : Nat) (hpl : FG b 14 pl V) (hln : FG b 15 ln V) (hb : pl ≤ 240 ∧ ln ≤ 240) (hn0 : 0 ≤ n0) : MI l D b 1 jX12_takes [.ref (b + 100), .int n0] N V 0 0 (fun r N9 V9 => ((r = 0 ∨ r = 1) ∧ (∃ a9, pl ≤ a9 ∧ a9 ≤ 240 ∧ FG b 14 a9 V9 ∧ FG b 15 ln V9 ∧ V9 110 = V 110 ∧ (r = 0 ∨ pl < a9))) ∧ N = N9 ∧ JR D b N cl [(100, 100, 14, 14), (100, 100, 16, 16)] V V9) := by
  have hJ0 : JR D b N cl [(100, 100, 14, 14), (100, 100, 16, 16)] V V := JR.rf hW
  refine mw_of (by decide) (by simp [Value.category]) (Nat.le_of_ble_eq_true rfl) ?_
  show AW l D b jX12_takes (fx_rm 1 0 0) none (fx_MQ D b 0 0 (fx_qi (fun r N9 V9 => ((r = 0 ∨ r = 1) ∧ (∃ a9, pl ≤ a9 ∧ a9 ≤ 240 ∧ FG b 14 a9 V9 ∧ FG b 15 ln V9 ∧ V9 110 = V 110 ∧ (r = 0 ∨ pl < a9))) ∧ N = N9 ∧ JR D b N cl [(100, 100, 14, 14), (100, 100, 16, 16)] V V9))) 0 [some (.ref (b + 100)), some (.int n0)] [] N V 0 0
  obtain ⟨g_1, e_1⟩ := JR.get hJ0 cm_110
  obtain ⟨ftoldPeople_2, ftoldDoors_2, fwasDoors_2, ffault_2, fopen_2, flines_2, fmeantSet_2, fopenedNow_2, fvainNow_2, flowNow_2, fhighNow_2, fisKept_2, tad_2, pl0_2, le0_2, nu0_2, coy_2, wag_2, say_2, e_2, hntad_2, hnpl0_2, hnle0_2, hnnu0_2, hncoy_2, hnwag_2, hnsay_2⟩ := JR.get hJ0 cm_100
  have hq_p := FG.eq hpl e_2 rfl (by omega) (by omega)
  have hq_l := FG.eq hln e_2 rfl (by omega) (by omega)
  refine aw_aload_n dX12_takes_0 rfl ?_
  refine aw_callVi (J' := jX12_here) (As := []) (st := []) dX12_takes_1 tb_1220 ok_X12_here ⟨_, e_2⟩ (by omega) rfl rfl (r_here l D b N V hN cl hJ0.1 g_1 e_1 pl0_2 le0_2 (FG.of e_2 rfl rfl) (FG.of e_2 rfl rfl) ⟨by omega, by omega⟩) rfl (Nat.le_of_ble_eq_true rfl) ⟨Nat.le_of_ble_eq_true rfl, Nat.le_of_ble_eq_true rfl, Nat.le_of_ble_eq_true rfl, Nat.le_of_ble_eq_true rfl⟩ (fun r_5 N_6 V_7 q_8 => ?_)
  obtain ⟨h_4, rfl, rfl⟩ := q_8
  refine aw_iload_n dX12_takes_4 rfl ?_
  refine aw_icmp_eq (tgt := 18) dX12_takes_5 (by decide) (fun c_9 => ?_) (fun c_9 => ?_)
  · skip
    have hlc_9 := here_ltn h_4 c_9 hn0
    refine aw_aload_n dX12_takes_18 rfl ?_
    refine aw_aload_n dX12_takes_19 rfl ?_
    refine aw_get dX12_takes_20 fl_X12_159 e_2 (by omega) rfl ?_
    refine aw_iconst (v := 1) dX12_takes_23 (by decide) ?_
    refine aw_iadd dX12_takes_24 ?_
    refine aw_eqi (y := nI (pl0_2 + 1)) (nI_add _ _) ?_
    refine aw_put dX12_takes_25 fp_X12_159 e_2 (by omega) rfl rfl (Nat.le_of_ble_eq_true rfl) rfl ?_
    refine aw_upR hJ0 cm_100 ⟨_, _, _, _, _, _, _, _, _, _, _, _, tad_2, (pl0_2 + 1), le0_2, nu0_2, coy_2, wag_2, say_2, rfl, by omega, by omega, by omega, by omega, by omega, by omega, by omega⟩ (by decide) (WO (s := 14) (x := .int (nI (pl0_2 + 1))) e_2 rfl LM0 (by decide) (by decide) (by decide) (Or.inl (by decide))) (fun V_10 j_10 k_10 e_10 => ?_)
    refine aw_iconst (v := 1) dX12_takes_28 (by decide) ?_
    refine aw_zreti dX12_takes_29 rfl (by first | exact Or.inl rfl | exact Or.inr rfl | assumption) (Nat.le_of_ble_eq_true rfl) (Nat.le_of_ble_eq_true rfl) ?_
    exact ⟨⟨(by first | exact Or.inl rfl | exact Or.inr rfl | assumption), ⟨(pl0_2 + 1), by omega, by omega, (FG.of e_10 rfl rfl), (FG.of e_10 rfl (by omega : le0_2 = ln)), (((k_10 _ (by decide)).trans e_1)).trans e_1.symm, Or.inr (by omega)⟩⟩, rfl, j_10⟩
  · skip
    refine aw_aload_n dX12_takes_8 rfl ?_
    refine aw_iconst (v := 1) dX12_takes_9 (by decide) ?_
    refine aw_aload_n dX12_takes_10 rfl ?_
    refine aw_get dX12_takes_11 fl_X12_159 e_2 (by omega) rfl ?_
    refine aw_callVi (J' := jX12_wrongAt) (As := [.int 1, .int (nI pl0_2)]) (st := []) dX12_takes_14 tb_1224 ok_X12_wrongAt ⟨_, e_2⟩ (by omega) rfl rfl (r_wrongAt l D b N V hN cl hJ0.1 1 (nI pl0_2) pl0_2 le0_2 (FG.of e_2 rfl rfl) (FG.of e_2 rfl rfl) ⟨by omega, by omega⟩) rfl (Nat.le_of_ble_eq_true rfl) ⟨Nat.le_of_ble_eq_true rfl, Nat.le_of_ble_eq_true rfl, Nat.le_of_ble_eq_true rfl, Nat.le_of_ble_eq_true rfl⟩ (fun r_24 N_25 V_15 q_26 => ?_)
    obtain ⟨⟨z_13, h_12⟩, rfl, q_11⟩ := q_26
    have j_14 := JR.trans hJ0 (JR.weak q_11 (Sub.cons (LMs LM0) (by decide) (by decide) (by decide) (Or.inr ⟨by decide, by decide⟩) Sub.nil))
    obtain ⟨a_16, ha_17, hA_18, hF_19, hL_20, hz_21, hX_22⟩ := h_12
    obtain ⟨ftoldPeople_k23, ftoldDoors_k23, fwasDoors_k23, ffault_k23, fopen_k23, flines_k23, fmeantSet_k23, fopenedNow_k23, fvainNow_k23, flowNow_k23, fhighNow_k23, fisKept_k23, tad_k23, pl0_k23, le0_k23, nu0_k23, coy_k23, wag_k23, say_k23, e_k23, hntad_k23, hnpl0_k23, hnle0_k23, hnnu0_k23, hncoy_k23, hnwag_k23, hnsay_k23⟩ := JR.get j_14 cm_100
    have hqp_k23 := FG.eq hF_19 e_k23 rfl (by omega) (by omega)
    have hql_k23 := FG.eq hL_20 e_k23 rfl (by omega) (by omega)
    obtain rfl := hX_22
    refine aw_zreti dX12_takes_17 rfl (by first | exact Or.inl rfl | exact Or.inr rfl | assumption) (Nat.le_of_ble_eq_true rfl) (Nat.le_of_ble_eq_true rfl) ?_
    exact ⟨⟨(by first | exact Or.inl rfl | exact Or.inr rfl | assumption), ⟨pl0_k23, by omega, by omega, (FG.of e_k23 rfl rfl), (FG.of e_k23 rfl (by omega : le0_k23 = ln)), ((hz_21.trans e_1)).trans e_1.symm, Or.inl rfl⟩⟩, rfl, j_14⟩

set_option maxHeartbeats 4000000 in
set_option maxRecDepth 100000 in
theorem r_readsAmount (l : Launch) (D : va_G) (b : Nat) (N : Nat) (V : Wd) (hN : 133 ≤ N) (cl : Nat) (hW : CR D b cl V)  (pl ln : Nat) (hpl : FG b 14 pl V) (hln : FG b 15 ln V) (hb : pl ≤ 240 ∧ ln ≤ 240)  : MI l D b 2 jX12_readsAmount [.ref (b + 100)] N V 0 0 (fun r N9 V9 => ((r = 0 ∨ r = 1) ∧ (∃ a9, pl ≤ a9 ∧ a9 ≤ 240 ∧ FG b 14 a9 V9 ∧ FG b 15 ln V9 ∧ V9 110 = V 110)) ∧ N = N9 ∧ JR D b N cl [(100, 100, 17, 17), (100, 100, 14, 14), (100, 100, 16, 16)] V V9) := by
  have hJ0 : JR D b N cl [(100, 100, 17, 17), (100, 100, 14, 14), (100, 100, 16, 16)] V V := JR.rf hW
  refine mw_of (by decide) (by simp [Value.category]) (Nat.le_of_ble_eq_true rfl) ?_
  show AW l D b jX12_readsAmount (fx_rm 2 0 0) none (fx_MQ D b 0 0 (fx_qi (fun r N9 V9 => ((r = 0 ∨ r = 1) ∧ (∃ a9, pl ≤ a9 ∧ a9 ≤ 240 ∧ FG b 14 a9 V9 ∧ FG b 15 ln V9 ∧ V9 110 = V 110)) ∧ N = N9 ∧ JR D b N cl [(100, 100, 17, 17), (100, 100, 14, 14), (100, 100, 16, 16)] V V9))) 0 [some (.ref (b + 100)), none] [] N V 0 0
  obtain ⟨g_1, e_1⟩ := JR.get hJ0 cm_110
  obtain ⟨ftoldPeople_2, ftoldDoors_2, fwasDoors_2, ffault_2, fopen_2, flines_2, fmeantSet_2, fopenedNow_2, fvainNow_2, flowNow_2, fhighNow_2, fisKept_2, tad_2, pl0_2, le0_2, nu0_2, coy_2, wag_2, say_2, e_2, hntad_2, hnpl0_2, hnle0_2, hnnu0_2, hncoy_2, hnwag_2, hnsay_2⟩ := JR.get hJ0 cm_100
  have hq_p := FG.eq hpl e_2 rfl (by omega) (by omega)
  have hq_l := FG.eq hln e_2 rfl (by omega) (by omega)
  refine aw_aload_n dX12_readsAmount_0 rfl ?_
  refine aw_get dX12_readsAmount_1 fl_X12_159 e_2 (by omega) rfl ?_
  refine aw_istore_n (ls' := [some (.ref (b + 100)), some (.int (nI pl0_2))]) dX12_readsAmount_4 (Nat.le_of_ble_eq_true rfl) rfl ?_
  refine aw_aload_n dX12_readsAmount_5 rfl ?_
  refine aw_callVi (J' := jX12_isDigit) (As := []) (st := []) dX12_readsAmount_6 tb_1241 ok_X12_isDigit ⟨_, e_2⟩ (by omega) rfl rfl (r_isDigit l D b N V hN cl hJ0.1 g_1 e_1 pl0_2 le0_2 (FG.of e_2 rfl rfl) (FG.of e_2 rfl rfl) ⟨by omega, by omega⟩) rfl (Nat.le_of_ble_eq_true rfl) ⟨Nat.le_of_ble_eq_true rfl, Nat.le_of_ble_eq_true rfl, Nat.le_of_ble_eq_true rfl, Nat.le_of_ble_eq_true rfl⟩ (fun r_6 N_7 V_8 q_9 => ?_)
  obtain ⟨⟨z_5, h_4⟩, rfl, rfl⟩ := q_9
  refine aw_if_ne (tgt := 22) dX12_readsAmount_9 (by decide) (fun c_10 => ?_) (fun c_10 => ?_)
  · skip
    obtain ⟨z_11, hz_11, ez_11⟩ := h_4.resolve_left c_10
    have hlc_10 := here_ltd ez_11 (by omega)
    refine aw_aload_n dX12_readsAmount_22 rfl ?_
    refine aw_iconst (v := 0) dX12_readsAmount_23 (by decide) ?_
    refine aw_put dX12_readsAmount_24 fp_X12_175 e_2 (by omega) rfl rfl (Nat.le_of_ble_eq_true rfl) rfl ?_
    refine aw_upR hJ0 cm_100 ⟨_, _, _, _, _, _, _, _, _, _, _, _, tad_2, pl0_2, le0_2, 0, coy_2, wag_2, say_2, rfl, by omega, by omega, by omega, by omega, by omega, by omega, by omega⟩ (by decide) (WO (s := 17) (x := .int 0) e_2 rfl LM0 (by decide) (by decide) (by decide) (Or.inl (by decide))) (fun V_12 j_12 k_12 e_12 => ?_)
    have ml_27_13 : ∀ (m : Nat) (a27 : Nat) (q27 : Nat) (V27 : Wd), m = 240 - a27 → (JR D b N cl [(100, 100, 17, 17), (100, 100, 14, 14), (100, 100, 16, 16)] V V27) → (FG b 14 a27 V27) → (FG b 15 ln V27) → (FG b 17 q27 V27) → (V27 110 = cB D 260 g_1) → (pl ≤ a27 ∧ a27 ≤ 240) → ((a27 = pl ∧ q27 = 0) ∨ (a27 = pl + 1 ∧ q27 < 10) ∨ (a27 = pl + 2 ∧ q27 < 100)) → AW l D b jX12_readsAmount (fx_rm 2 0 0) none (fx_MQ D b 0 0 (fx_qi (fun r N9 V9 => ((r = 0 ∨ r = 1) ∧ (∃ a9, pl ≤ a9 ∧ a9 ≤ 240 ∧ FG b 14 a9 V9 ∧ FG b 15 ln V9 ∧ V9 110 = V 110)) ∧ N = N9 ∧ JR D b N cl [(100, 100, 17, 17), (100, 100, 14, 14), (100, 100, 16, 16)] V V9))) 27 [some (.ref (b + 100)), some (.int (nI pl0_2))] [] N V27 0 0 := by
      intro m; refine Nat.strongRecOn m ?_
      intro m mih_27_13 a27 q27 V27 hm27 i27_0 i27_1 i27_2 i27_3 i27_4 i27_5 i27_6
      obtain ⟨ftoldPeople_14, ftoldDoors_14, fwasDoors_14, ffault_14, fopen_14, flines_14, fmeantSet_14, fopenedNow_14, fvainNow_14, flowNow_14, fhighNow_14, fisKept_14, tad_14, pl0_14, le0_14, nu0_14, coy_14, wag_14, say_14, e_14, hntad_14, hnpl0_14, hnle0_14, hnnu0_14, hncoy_14, hnwag_14, hnsay_14⟩ := JR.get i27_0 cm_100
      have hqp_27 := FG.eq i27_1 e_14 rfl (by omega) (by omega)
      have hql_27 := FG.eq i27_2 e_14 rfl (by omega) (by omega)
      have hqm_270 := FG.eq i27_3 e_14 rfl (by omega) (by omega)
      refine aw_aload_n dX12_readsAmount_27 rfl ?_
      refine aw_callVi (J' := jX12_isDigit) (As := []) (st := []) dX12_readsAmount_28 tb_1241 ok_X12_isDigit ⟨_, e_14⟩ (by omega) rfl rfl (r_isDigit l D b N V27 hN cl i27_0.1 g_1 i27_4 pl0_14 le0_14 (FG.of e_14 rfl rfl) (FG.of e_14 rfl rfl) ⟨by omega, by omega⟩) rfl (Nat.le_of_ble_eq_true rfl) ⟨Nat.le_of_ble_eq_true rfl, Nat.le_of_ble_eq_true rfl, Nat.le_of_ble_eq_true rfl, Nat.le_of_ble_eq_true rfl⟩ (fun r_18 N_19 V_20 q_21 => ?_)
      obtain ⟨⟨z_17, h_16⟩, rfl, rfl⟩ := q_21
      refine aw_if_eq (tgt := 86) dX12_readsAmount_31 (by decide) (fun c_22 => ?_) (fun c_22 => ?_)
      · skip
        refine aw_iconst (v := 1) dX12_readsAmount_86 (by decide) ?_
        refine aw_zreti dX12_readsAmount_87 rfl (by first | exact Or.inl rfl | exact Or.inr rfl | assumption) (Nat.le_of_ble_eq_true rfl) (Nat.le_of_ble_eq_true rfl) ?_
        exact ⟨⟨(by first | exact Or.inl rfl | exact Or.inr rfl | assumption), ⟨pl0_14, by omega, by omega, (FG.of e_14 rfl rfl), (FG.of e_14 rfl (by omega : le0_14 = ln)), (i27_4).trans e_1.symm⟩⟩, rfl, i27_0⟩
      · skip
        obtain ⟨z_23, hz_23, ez_23⟩ := h_16.resolve_left c_22
        have hlc_22 := here_ltd ez_23 (by omega)
        refine aw_aload_n dX12_readsAmount_34 rfl ?_
        refine aw_get dX12_readsAmount_35 fl_X12_159 e_14 (by omega) rfl ?_
        refine aw_iload_n dX12_readsAmount_38 rfl ?_
        refine aw_iconst (v := 2) dX12_readsAmount_39 (by decide) ?_
        refine aw_iadd dX12_readsAmount_40 ?_
        refine aw_eqi (y := nI (pl0_2 + 2)) (nI_add _ _) ?_
        refine aw_icmp_ne (tgt := 54) dX12_readsAmount_41 (by decide) (fun c_24 => ?_) (fun c_24 => ?_)
        · skip
          have nc_24 : ¬ (pl0_14 = (pl0_2 + 2)) := fun z => c_24 ((nI_eq (a := pl0_14) (b := (pl0_2 + 2)) (by omega) (by omega)).mpr z)
          refine aw_aload_n dX12_readsAmount_54 rfl ?_
          refine aw_bipush (v := 10) dX12_readsAmount_55 (by decide) ?_
          refine aw_aload_n dX12_readsAmount_57 rfl ?_
          refine aw_get dX12_readsAmount_58 fl_X12_175 e_14 (by omega) rfl ?_
          refine aw_imul dX12_readsAmount_61 ?_
          refine aw_eqi (y := nI (10 * nu0_14)) (pk_mul _ _) ?_
          refine aw_aload_n dX12_readsAmount_62 rfl ?_
          refine aw_callVi (J' := jX12_here) (As := []) (st := [.int (nI (10 * nu0_14)), .ref (b + 100)]) dX12_readsAmount_63 tb_1220 ok_X12_here ⟨_, e_14⟩ (by omega) rfl rfl (r_here l D b N V27 hN cl i27_0.1 g_1 i27_4 pl0_14 le0_14 (FG.of e_14 rfl rfl) (FG.of e_14 rfl rfl) ⟨by omega, by omega⟩) rfl (Nat.le_of_ble_eq_true rfl) ⟨Nat.le_of_ble_eq_true rfl, Nat.le_of_ble_eq_true rfl, Nat.le_of_ble_eq_true rfl, Nat.le_of_ble_eq_true rfl⟩ (fun r_27 N_28 V_29 q_30 => ?_)
          obtain ⟨h_26, rfl, rfl⟩ := q_30
          refine aw_eqi (h_26.trans ez_23) ?_
          refine aw_iadd dX12_readsAmount_66 ?_
          refine aw_eqi (y := nI ((10 * nu0_14) + (48 + z_23))) (nI_add _ _) ?_
          refine aw_bipush (v := 48) dX12_readsAmount_67 (by decide) ?_
          refine aw_isub dX12_readsAmount_69 ?_
          refine aw_eqi (y := (nI (((10 * nu0_14) + (48 + z_23)) - 48))) (pk_sub (a := ((10 * nu0_14) + (48 + z_23))) (b := 48) (by omega)) ?_
          refine aw_put dX12_readsAmount_70 fp_X12_175 e_14 (by omega) rfl rfl (Nat.le_of_ble_eq_true rfl) rfl ?_
          refine aw_upR i27_0 cm_100 ⟨_, _, _, _, _, _, _, _, _, _, _, _, tad_14, pl0_14, le0_14, (((10 * nu0_14) + (48 + z_23)) - 48), coy_14, wag_14, say_14, rfl, by omega, by omega, by omega, by omega, by omega, by omega, by omega⟩ (by decide) (WO (s := 17) (x := .int (nI (((10 * nu0_14) + (48 + z_23)) - 48))) e_14 rfl LM0 (by decide) (by decide) (by decide) (Or.inl (by decide))) (fun V_31 j_31 k_31 e_31 => ?_)
          refine aw_aload_n dX12_readsAmount_73 rfl ?_
          refine aw_aload_n dX12_readsAmount_74 rfl ?_
          refine aw_get dX12_readsAmount_75 fl_X12_159 e_31 (by omega) rfl ?_
          refine aw_iconst (v := 1) dX12_readsAmount_78 (by decide) ?_
          refine aw_iadd dX12_readsAmount_79 ?_
          refine aw_eqi (y := nI (pl0_14 + 1)) (nI_add _ _) ?_
          refine aw_put dX12_readsAmount_80 fp_X12_159 e_31 (by omega) rfl rfl (Nat.le_of_ble_eq_true rfl) rfl ?_
          refine aw_upR j_31 cm_100 ⟨_, _, _, _, _, _, _, _, _, _, _, _, tad_14, (pl0_14 + 1), le0_14, (((10 * nu0_14) + (48 + z_23)) - 48), coy_14, wag_14, say_14, rfl, by omega, by omega, by omega, by omega, by omega, by omega, by omega⟩ (by decide) (WO (s := 14) (x := .int (nI (pl0_14 + 1))) e_31 rfl (LMs LM0) (by decide) (by decide) (by decide) (Or.inl (by decide))) (fun V_32 j_32 k_32 e_32 => ?_)
          refine aw_goto (tgt := 27) dX12_readsAmount_83 (by decide) ?_
          refine aw_le ?_ (mih_27_13 _ (by omega) (pl0_14 + 1) (((10 * nu0_14) + (48 + z_23)) - 48) V_32 rfl (j_32) ((FG.of e_32 rfl rfl)) ((FG.of e_32 rfl (by omega : le0_14 = ln))) ((FG.of e_32 rfl rfl)) ((((k_32 _ (by decide)).trans ((k_31 _ (by decide)).trans i27_4)))) (by omega) (by omega))
          exact ⟨rfl, ⟨rfl, trivial⟩⟩
        · skip
          have nc_24 : pl0_14 = (pl0_2 + 2) := (nI_eq (a := pl0_14) (b := (pl0_2 + 2)) (by omega) (by omega)).mp c_24
          refine aw_aload_n dX12_readsAmount_44 rfl ?_
          refine aw_iconst (v := 2) dX12_readsAmount_45 (by decide) ?_
          refine aw_aload_n dX12_readsAmount_46 rfl ?_
          refine aw_get dX12_readsAmount_47 fl_X12_159 e_14 (by omega) rfl ?_
          refine aw_callVi (J' := jX12_wrongAt) (As := [.int 2, .int (nI pl0_14)]) (st := []) dX12_readsAmount_50 tb_1224 ok_X12_wrongAt ⟨_, e_14⟩ (by omega) rfl rfl (r_wrongAt l D b N V27 hN cl i27_0.1 2 (nI pl0_14) pl0_14 le0_14 (FG.of e_14 rfl rfl) (FG.of e_14 rfl rfl) ⟨by omega, by omega⟩) rfl (Nat.le_of_ble_eq_true rfl) ⟨Nat.le_of_ble_eq_true rfl, Nat.le_of_ble_eq_true rfl, Nat.le_of_ble_eq_true rfl, Nat.le_of_ble_eq_true rfl⟩ (fun r_46 N_47 V_37 q_48 => ?_)
          obtain ⟨⟨z_35, h_34⟩, rfl, q_33⟩ := q_48
          have j_36 := JR.trans i27_0 (JR.weak q_33 (Sub.cons (LMs (LMs LM0)) (by decide) (by decide) (by decide) (Or.inr ⟨by decide, by decide⟩) Sub.nil))
          obtain ⟨a_38, ha_39, hA_40, hF_41, hL_42, hz_43, hX_44⟩ := h_34
          obtain ⟨ftoldPeople_k45, ftoldDoors_k45, fwasDoors_k45, ffault_k45, fopen_k45, flines_k45, fmeantSet_k45, fopenedNow_k45, fvainNow_k45, flowNow_k45, fhighNow_k45, fisKept_k45, tad_k45, pl0_k45, le0_k45, nu0_k45, coy_k45, wag_k45, say_k45, e_k45, hntad_k45, hnpl0_k45, hnle0_k45, hnnu0_k45, hncoy_k45, hnwag_k45, hnsay_k45⟩ := JR.get j_36 cm_100
          have hqp_k45 := FG.eq hF_41 e_k45 rfl (by omega) (by omega)
          have hql_k45 := FG.eq hL_42 e_k45 rfl (by omega) (by omega)
          obtain rfl := hX_44
          refine aw_zreti dX12_readsAmount_53 rfl (by first | exact Or.inl rfl | exact Or.inr rfl | assumption) (Nat.le_of_ble_eq_true rfl) (Nat.le_of_ble_eq_true rfl) ?_
          exact ⟨⟨(by first | exact Or.inl rfl | exact Or.inr rfl | assumption), ⟨pl0_k45, by omega, by omega, (FG.of e_k45 rfl rfl), (FG.of e_k45 rfl (by omega : le0_k45 = ln)), ((hz_43.trans i27_4)).trans e_1.symm⟩⟩, rfl, j_36⟩
    refine aw_le ?_ (ml_27_13 _ pl0_2 0 V_12 rfl (j_12) ((FG.of e_12 rfl rfl)) ((FG.of e_12 rfl (by omega : le0_2 = ln))) ((FG.of e_12 rfl rfl)) ((((k_12 _ (by decide)).trans e_1))) (by omega) (by omega))
    exact ⟨rfl, ⟨rfl, trivial⟩⟩
  · skip
    refine aw_aload_n dX12_readsAmount_12 rfl ?_
    refine aw_iconst (v := 1) dX12_readsAmount_13 (by decide) ?_
    refine aw_aload_n dX12_readsAmount_14 rfl ?_
    refine aw_get dX12_readsAmount_15 fl_X12_159 e_2 (by omega) rfl ?_
    refine aw_callVi (J' := jX12_wrongAt) (As := [.int 1, .int (nI pl0_2)]) (st := []) dX12_readsAmount_18 tb_1224 ok_X12_wrongAt ⟨_, e_2⟩ (by omega) rfl rfl (r_wrongAt l D b N V hN cl hJ0.1 1 (nI pl0_2) pl0_2 le0_2 (FG.of e_2 rfl rfl) (FG.of e_2 rfl rfl) ⟨by omega, by omega⟩) rfl (Nat.le_of_ble_eq_true rfl) ⟨Nat.le_of_ble_eq_true rfl, Nat.le_of_ble_eq_true rfl, Nat.le_of_ble_eq_true rfl, Nat.le_of_ble_eq_true rfl⟩ (fun r_62 N_63 V_53 q_64 => ?_)
    obtain ⟨⟨z_51, h_50⟩, rfl, q_49⟩ := q_64
    have j_52 := JR.trans hJ0 (JR.weak q_49 (Sub.cons (LMs (LMs LM0)) (by decide) (by decide) (by decide) (Or.inr ⟨by decide, by decide⟩) Sub.nil))
    obtain ⟨a_54, ha_55, hA_56, hF_57, hL_58, hz_59, hX_60⟩ := h_50
    obtain ⟨ftoldPeople_k61, ftoldDoors_k61, fwasDoors_k61, ffault_k61, fopen_k61, flines_k61, fmeantSet_k61, fopenedNow_k61, fvainNow_k61, flowNow_k61, fhighNow_k61, fisKept_k61, tad_k61, pl0_k61, le0_k61, nu0_k61, coy_k61, wag_k61, say_k61, e_k61, hntad_k61, hnpl0_k61, hnle0_k61, hnnu0_k61, hncoy_k61, hnwag_k61, hnsay_k61⟩ := JR.get j_52 cm_100
    have hqp_k61 := FG.eq hF_57 e_k61 rfl (by omega) (by omega)
    have hql_k61 := FG.eq hL_58 e_k61 rfl (by omega) (by omega)
    obtain rfl := hX_60
    refine aw_zreti dX12_readsAmount_21 rfl (by first | exact Or.inl rfl | exact Or.inr rfl | assumption) (Nat.le_of_ble_eq_true rfl) (Nat.le_of_ble_eq_true rfl) ?_
    exact ⟨⟨(by first | exact Or.inl rfl | exact Or.inr rfl | assumption), ⟨pl0_k61, by omega, by omega, (FG.of e_k61 rfl rfl), (FG.of e_k61 rfl (by omega : le0_k61 = ln)), ((hz_59.trans e_1)).trans e_1.symm⟩⟩, rfl, j_52⟩

set_option maxHeartbeats 4000000 in
set_option maxRecDepth 100000 in
theorem r_readsMeant (l : Launch) (D : va_G) (b : Nat) (N : Nat) (V : Wd) (hN : 133 ≤ N) (cl : Nat) (hW : CR D b cl V)  (pl ln : Nat) (hpl : FG b 14 pl V) (hln : FG b 15 ln V) (hb : pl ≤ 240 ∧ ln ≤ 240)  : MI l D b 2 jX12_readsMeant [.ref (b + 100)] N V 0 0 (fun r N9 V9 => ((r = 0 ∨ r = 1) ∧ (∃ a9, pl ≤ a9 ∧ a9 ≤ 240 ∧ FG b 14 a9 V9 ∧ FG b 15 ln V9 ∧ V9 110 = V 110)) ∧ N = N9 ∧ JR D b N cl [(100, 100, 37, 37), (100, 100, 14, 14), (100, 100, 16, 16)] V V9) := by
  have hJ0 : JR D b N cl [(100, 100, 37, 37), (100, 100, 14, 14), (100, 100, 16, 16)] V V := JR.rf hW
  refine mw_of (by decide) (by simp [Value.category]) (Nat.le_of_ble_eq_true rfl) ?_
  show AW l D b jX12_readsMeant (fx_rm 2 0 0) none (fx_MQ D b 0 0 (fx_qi (fun r N9 V9 => ((r = 0 ∨ r = 1) ∧ (∃ a9, pl ≤ a9 ∧ a9 ≤ 240 ∧ FG b 14 a9 V9 ∧ FG b 15 ln V9 ∧ V9 110 = V 110)) ∧ N = N9 ∧ JR D b N cl [(100, 100, 37, 37), (100, 100, 14, 14), (100, 100, 16, 16)] V V9))) 0 [some (.ref (b + 100))] [] N V 0 0
  obtain ⟨g_1, e_1⟩ := JR.get hJ0 cm_110
  obtain ⟨ftoldPeople_2, ftoldDoors_2, fwasDoors_2, ffault_2, fopen_2, flines_2, fmeantSet_2, fopenedNow_2, fvainNow_2, flowNow_2, fhighNow_2, fisKept_2, tad_2, pl0_2, le0_2, nu0_2, coy_2, wag_2, say_2, e_2, hntad_2, hnpl0_2, hnle0_2, hnnu0_2, hncoy_2, hnwag_2, hnsay_2⟩ := JR.get hJ0 cm_100
  have hq_p := FG.eq hpl e_2 rfl (by omega) (by omega)
  have hq_l := FG.eq hln e_2 rfl (by omega) (by omega)
  refine aw_aload_n dX12_readsMeant_0 rfl ?_
  refine aw_ldcw (v := 65535) dX12_readsMeant_1 tb_1314 ?_
  refine aw_put dX12_readsMeant_4 fp_X12_262 e_2 (by omega) rfl rfl (Nat.le_of_ble_eq_true rfl) rfl ?_
  refine aw_upR hJ0 cm_100 ⟨_, _, _, _, _, _, _, _, _, _, _, _, tad_2, pl0_2, le0_2, nu0_2, coy_2, wag_2, say_2, rfl, by omega, by omega, by omega, by omega, by omega, by omega, by omega⟩ (by decide) (WO (s := 37) (x := .int 65535) e_2 rfl LM0 (by decide) (by decide) (by decide) (Or.inl (by decide))) (fun V_3 j_3 k_3 e_3 => ?_)
  refine aw_aload_n dX12_readsMeant_7 rfl ?_
  refine aw_callVi (J' := jX12_here) (As := []) (st := []) dX12_readsMeant_8 tb_1220 ok_X12_here ⟨_, e_3⟩ (by omega) rfl rfl (r_here l D b N V_3 hN cl j_3.1 g_1 ((k_3 _ (by decide)).trans e_1) pl0_2 le0_2 (FG.of e_3 rfl rfl) (FG.of e_3 rfl rfl) ⟨by omega, by omega⟩) rfl (Nat.le_of_ble_eq_true rfl) ⟨Nat.le_of_ble_eq_true rfl, Nat.le_of_ble_eq_true rfl, Nat.le_of_ble_eq_true rfl, Nat.le_of_ble_eq_true rfl⟩ (fun r_6 N_7 V_8 q_9 => ?_)
  obtain ⟨h_5, rfl, rfl⟩ := q_9
  refine aw_bipush (v := 42) dX12_readsMeant_11 (by decide) ?_
  refine aw_icmp_ne (tgt := 28) dX12_readsMeant_13 (by decide) (fun c_10 => ?_) (fun c_10 => ?_)
  · skip
    refine aw_aload_n dX12_readsMeant_28 rfl ?_
    refine aw_iconst (v := 0) dX12_readsMeant_29 (by decide) ?_
    refine aw_put dX12_readsMeant_30 fp_X12_262 e_3 (by omega) rfl rfl (Nat.le_of_ble_eq_true rfl) rfl ?_
    refine aw_upR j_3 cm_100 ⟨_, _, _, _, _, _, _, _, _, _, _, _, tad_2, pl0_2, le0_2, nu0_2, coy_2, wag_2, say_2, rfl, by omega, by omega, by omega, by omega, by omega, by omega, by omega⟩ (by decide) (WO (s := 37) (x := .int 0) e_3 rfl LM0 (by decide) (by decide) (by decide) (Or.inl (by decide))) (fun V_11 j_11 k_11 e_11 => ?_)
    have ml_33_12 : ∀ (m : Nat) (a33 : Nat) (V33 : Wd), m = 240 - a33 → (JR D b N cl [(100, 100, 37, 37), (100, 100, 14, 14), (100, 100, 16, 16)] V V33) → (FG b 14 a33 V33) → (FG b 15 ln V33) → (V33 110 = cB D 260 g_1) → (pl ≤ a33 ∧ a33 ≤ 240) → AW l D b jX12_readsMeant (fx_rm 2 0 0) none (fx_MQ D b 0 0 (fx_qi (fun r N9 V9 => ((r = 0 ∨ r = 1) ∧ (∃ a9, pl ≤ a9 ∧ a9 ≤ 240 ∧ FG b 14 a9 V9 ∧ FG b 15 ln V9 ∧ V9 110 = V 110)) ∧ N = N9 ∧ JR D b N cl [(100, 100, 37, 37), (100, 100, 14, 14), (100, 100, 16, 16)] V V9))) 33 [some (.ref (b + 100))] [] N V33 0 0 := by
      intro m; refine Nat.strongRecOn m ?_
      intro m mih_33_12 a33 V33 hm33 i33_0 i33_1 i33_2 i33_3 i33_4
      obtain ⟨ftoldPeople_13, ftoldDoors_13, fwasDoors_13, ffault_13, fopen_13, flines_13, fmeantSet_13, fopenedNow_13, fvainNow_13, flowNow_13, fhighNow_13, fisKept_13, tad_13, pl0_13, le0_13, nu0_13, coy_13, wag_13, say_13, e_13, hntad_13, hnpl0_13, hnle0_13, hnnu0_13, hncoy_13, hnwag_13, hnsay_13⟩ := JR.get i33_0 cm_100
      have hqp_33 := FG.eq i33_1 e_13 rfl (by omega) (by omega)
      have hql_33 := FG.eq i33_2 e_13 rfl (by omega) (by omega)
      refine aw_aload_n dX12_readsMeant_33 rfl ?_
      refine aw_callVi (J' := jX12_isLetter) (As := []) (st := []) dX12_readsMeant_34 tb_1306 ok_X12_isLetter ⟨_, e_13⟩ (by omega) rfl rfl (r_isLetter l D b N V33 hN cl i33_0.1 g_1 i33_3 pl0_13 le0_13 (FG.of e_13 rfl rfl) (FG.of e_13 rfl rfl) ⟨by omega, by omega⟩) rfl (Nat.le_of_ble_eq_true rfl) ⟨Nat.le_of_ble_eq_true rfl, Nat.le_of_ble_eq_true rfl, Nat.le_of_ble_eq_true rfl, Nat.le_of_ble_eq_true rfl⟩ (fun r_17 N_18 V_19 q_20 => ?_)
      obtain ⟨⟨z_16, h_15⟩, rfl, rfl⟩ := q_20
      refine aw_if_eq (tgt := 99) dX12_readsMeant_37 (by decide) (fun c_21 => ?_) (fun c_21 => ?_)
      · skip
        refine aw_iconst (v := 1) dX12_readsMeant_99 (by decide) ?_
        refine aw_zreti dX12_readsMeant_100 rfl (by first | exact Or.inl rfl | exact Or.inr rfl | assumption) (Nat.le_of_ble_eq_true rfl) (Nat.le_of_ble_eq_true rfl) ?_
        exact ⟨⟨(by first | exact Or.inl rfl | exact Or.inr rfl | assumption), ⟨pl0_13, by omega, by omega, (FG.of e_13 rfl rfl), (FG.of e_13 rfl (by omega : le0_13 = ln)), (i33_3).trans e_1.symm⟩⟩, rfl, i33_0⟩
      · skip
        obtain ⟨z_22, hz_22, ez_22⟩ := h_15.resolve_left c_21
        have hlc_21 := here_ltd ez_22 (by omega)
        refine aw_aload_n dX12_readsMeant_40 rfl ?_
        refine aw_get dX12_readsMeant_41 fl_X12_262 e_13 (by omega) rfl ?_
        refine aw_aload_n dX12_readsMeant_44 rfl ?_
        refine aw_callVi (J' := jX12_here) (As := []) (st := [.int fmeantSet_13]) dX12_readsMeant_45 tb_1220 ok_X12_here ⟨_, e_13⟩ (by omega) rfl rfl (r_here l D b N V33 hN cl i33_0.1 g_1 i33_3 pl0_13 le0_13 (FG.of e_13 rfl rfl) (FG.of e_13 rfl rfl) ⟨by omega, by omega⟩) rfl (Nat.le_of_ble_eq_true rfl) ⟨Nat.le_of_ble_eq_true rfl, Nat.le_of_ble_eq_true rfl, Nat.le_of_ble_eq_true rfl, Nat.le_of_ble_eq_true rfl⟩ (fun r_25 N_26 V_27 q_28 => ?_)
        obtain ⟨h_24, rfl, rfl⟩ := q_28
        refine aw_eqi (h_24.trans ez_22) ?_
        refine aw_bipush (v := 97) dX12_readsMeant_48 (by decide) ?_
        refine aw_isub dX12_readsMeant_50 ?_
        refine aw_callSi (J' := jX12_has) (As := [.int fmeantSet_13, .int ((nI (97 + z_22)) - 97)]) (st := []) dX12_readsMeant_51 tb_1315 ok_X12_has rfl (r_has l D b N V33 hN cl i33_0.1 fmeantSet_13 ((nI (97 + z_22)) - 97)) rfl (Nat.le_of_ble_eq_true rfl) ⟨Nat.le_of_ble_eq_true rfl, Nat.le_of_ble_eq_true rfl, Nat.le_of_ble_eq_true rfl, Nat.le_of_ble_eq_true rfl⟩ (fun r_31 N_32 V_33 q_34 => ?_)
        obtain ⟨h_30, rfl, rfl⟩ := q_34
        refine aw_if_eq (tgt := 68) dX12_readsMeant_54 (by decide) (fun c_35 => ?_) (fun c_35 => ?_)
        · skip
          refine aw_aload_n dX12_readsMeant_68 rfl ?_
          refine aw_aload_n dX12_readsMeant_69 rfl ?_
          refine aw_get dX12_readsMeant_70 fl_X12_262 e_13 (by omega) rfl ?_
          refine aw_iconst (v := 1) dX12_readsMeant_73 (by decide) ?_
          refine aw_aload_n dX12_readsMeant_74 rfl ?_
          refine aw_callVi (J' := jX12_here) (As := []) (st := [.int 1, .int fmeantSet_13, .ref (b + 100)]) dX12_readsMeant_75 tb_1220 ok_X12_here ⟨_, e_13⟩ (by omega) rfl rfl (r_here l D b N V33 hN cl i33_0.1 g_1 i33_3 pl0_13 le0_13 (FG.of e_13 rfl rfl) (FG.of e_13 rfl rfl) ⟨by omega, by omega⟩) rfl (Nat.le_of_ble_eq_true rfl) ⟨Nat.le_of_ble_eq_true rfl, Nat.le_of_ble_eq_true rfl, Nat.le_of_ble_eq_true rfl, Nat.le_of_ble_eq_true rfl⟩ (fun r_38 N_39 V_40 q_41 => ?_)
          obtain ⟨h_37, rfl, rfl⟩ := q_41
          refine aw_eqi (h_37.trans ez_22) ?_
          refine aw_bipush (v := 97) dX12_readsMeant_78 (by decide) ?_
          refine aw_isub dX12_readsMeant_80 ?_
          refine aw_ishl dX12_readsMeant_81 ?_
          refine aw_ior dX12_readsMeant_82 ?_
          refine aw_put dX12_readsMeant_83 fp_X12_262 e_13 (by omega) rfl rfl (Nat.le_of_ble_eq_true rfl) rfl ?_
          refine aw_upR i33_0 cm_100 ⟨_, _, _, _, _, _, _, _, _, _, _, _, tad_13, pl0_13, le0_13, nu0_13, coy_13, wag_13, say_13, rfl, by omega, by omega, by omega, by omega, by omega, by omega, by omega⟩ (by decide) (WO (s := 37) (x := .int (fmeantSet_13 ||| ((1 : Int32) <<< (((nI (97 + z_22)) - 97) &&& 31)))) e_13 rfl LM0 (by decide) (by decide) (by decide) (Or.inl (by decide))) (fun V_42 j_42 k_42 e_42 => ?_)
          refine aw_aload_n dX12_readsMeant_86 rfl ?_
          refine aw_aload_n dX12_readsMeant_87 rfl ?_
          refine aw_get dX12_readsMeant_88 fl_X12_159 e_42 (by omega) rfl ?_
          refine aw_iconst (v := 1) dX12_readsMeant_91 (by decide) ?_
          refine aw_iadd dX12_readsMeant_92 ?_
          refine aw_eqi (y := nI (pl0_13 + 1)) (nI_add _ _) ?_
          refine aw_put dX12_readsMeant_93 fp_X12_159 e_42 (by omega) rfl rfl (Nat.le_of_ble_eq_true rfl) rfl ?_
          refine aw_upR j_42 cm_100 ⟨_, _, _, _, _, _, _, _, _, _, _, _, tad_13, (pl0_13 + 1), le0_13, nu0_13, coy_13, wag_13, say_13, rfl, by omega, by omega, by omega, by omega, by omega, by omega, by omega⟩ (by decide) (WO (s := 14) (x := .int (nI (pl0_13 + 1))) e_42 rfl (LMs LM0) (by decide) (by decide) (by decide) (Or.inl (by decide))) (fun V_43 j_43 k_43 e_43 => ?_)
          refine aw_goto (tgt := 33) dX12_readsMeant_96 (by decide) ?_
          refine aw_le ?_ (mih_33_12 _ (by omega) (pl0_13 + 1) V_43 rfl (j_43) ((FG.of e_43 rfl rfl)) ((FG.of e_43 rfl (by omega : le0_13 = ln))) ((((k_43 _ (by decide)).trans ((k_42 _ (by decide)).trans i33_3)))) (by omega))
          exact ⟨rfl, trivial⟩
        · skip
          refine aw_aload_n dX12_readsMeant_57 rfl ?_
          refine aw_bipush (v := 6) dX12_readsMeant_58 (by decide) ?_
          refine aw_aload_n dX12_readsMeant_60 rfl ?_
          refine aw_get dX12_readsMeant_61 fl_X12_159 e_13 (by omega) rfl ?_
          refine aw_callVi (J' := jX12_wrongAt) (As := [.int 6, .int (nI pl0_13)]) (st := []) dX12_readsMeant_64 tb_1224 ok_X12_wrongAt ⟨_, e_13⟩ (by omega) rfl rfl (r_wrongAt l D b N V33 hN cl i33_0.1 6 (nI pl0_13) pl0_13 le0_13 (FG.of e_13 rfl rfl) (FG.of e_13 rfl rfl) ⟨by omega, by omega⟩) rfl (Nat.le_of_ble_eq_true rfl) ⟨Nat.le_of_ble_eq_true rfl, Nat.le_of_ble_eq_true rfl, Nat.le_of_ble_eq_true rfl, Nat.le_of_ble_eq_true rfl⟩ (fun r_57 N_58 V_48 q_59 => ?_)
          obtain ⟨⟨z_46, h_45⟩, rfl, q_44⟩ := q_59
          have j_47 := JR.trans i33_0 (JR.weak q_44 (Sub.cons (LMs (LMs LM0)) (by decide) (by decide) (by decide) (Or.inr ⟨by decide, by decide⟩) Sub.nil))
          obtain ⟨a_49, ha_50, hA_51, hF_52, hL_53, hz_54, hX_55⟩ := h_45
          obtain ⟨ftoldPeople_k56, ftoldDoors_k56, fwasDoors_k56, ffault_k56, fopen_k56, flines_k56, fmeantSet_k56, fopenedNow_k56, fvainNow_k56, flowNow_k56, fhighNow_k56, fisKept_k56, tad_k56, pl0_k56, le0_k56, nu0_k56, coy_k56, wag_k56, say_k56, e_k56, hntad_k56, hnpl0_k56, hnle0_k56, hnnu0_k56, hncoy_k56, hnwag_k56, hnsay_k56⟩ := JR.get j_47 cm_100
          have hqp_k56 := FG.eq hF_52 e_k56 rfl (by omega) (by omega)
          have hql_k56 := FG.eq hL_53 e_k56 rfl (by omega) (by omega)
          obtain rfl := hX_55
          refine aw_zreti dX12_readsMeant_67 rfl (by first | exact Or.inl rfl | exact Or.inr rfl | assumption) (Nat.le_of_ble_eq_true rfl) (Nat.le_of_ble_eq_true rfl) ?_
          exact ⟨⟨(by first | exact Or.inl rfl | exact Or.inr rfl | assumption), ⟨pl0_k56, by omega, by omega, (FG.of e_k56 rfl rfl), (FG.of e_k56 rfl (by omega : le0_k56 = ln)), ((hz_54.trans i33_3)).trans e_1.symm⟩⟩, rfl, j_47⟩
    refine aw_le ?_ (ml_33_12 _ pl0_2 V_11 rfl (j_11) ((FG.of e_11 rfl rfl)) ((FG.of e_11 rfl (by omega : le0_2 = ln))) ((((k_11 _ (by decide)).trans ((k_3 _ (by decide)).trans e_1)))) (by omega))
    exact ⟨rfl, trivial⟩
  · skip
    have hlc_10 := here_lt h_5 c_10 (by decide)
    refine aw_aload_n dX12_readsMeant_16 rfl ?_
    refine aw_aload_n dX12_readsMeant_17 rfl ?_
    refine aw_get dX12_readsMeant_18 fl_X12_159 e_3 (by omega) rfl ?_
    refine aw_iconst (v := 1) dX12_readsMeant_21 (by decide) ?_
    refine aw_iadd dX12_readsMeant_22 ?_
    refine aw_eqi (y := nI (pl0_2 + 1)) (nI_add _ _) ?_
    refine aw_put dX12_readsMeant_23 fp_X12_159 e_3 (by omega) rfl rfl (Nat.le_of_ble_eq_true rfl) rfl ?_
    refine aw_upR j_3 cm_100 ⟨_, _, _, _, _, _, _, _, _, _, _, _, tad_2, (pl0_2 + 1), le0_2, nu0_2, coy_2, wag_2, say_2, rfl, by omega, by omega, by omega, by omega, by omega, by omega, by omega⟩ (by decide) (WO (s := 14) (x := .int (nI (pl0_2 + 1))) e_3 rfl (LMs LM0) (by decide) (by decide) (by decide) (Or.inl (by decide))) (fun V_60 j_60 k_60 e_60 => ?_)
    refine aw_iconst (v := 1) dX12_readsMeant_26 (by decide) ?_
    refine aw_zreti dX12_readsMeant_27 rfl (by first | exact Or.inl rfl | exact Or.inr rfl | assumption) (Nat.le_of_ble_eq_true rfl) (Nat.le_of_ble_eq_true rfl) ?_
    exact ⟨⟨(by first | exact Or.inl rfl | exact Or.inr rfl | assumption), ⟨(pl0_2 + 1), by omega, by omega, (FG.of e_60 rfl rfl), (FG.of e_60 rfl (by omega : le0_2 = ln)), (((k_60 _ (by decide)).trans ((k_3 _ (by decide)).trans e_1))).trans e_1.symm⟩⟩, rfl, j_60⟩
