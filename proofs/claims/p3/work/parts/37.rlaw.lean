set_option maxHeartbeats 4000000 in
set_option maxRecDepth 100000 in
theorem r_takesF (l : Launch) (D : va_G) (b : Nat) (N : Nat) (V : Wd) (hN : 133 ≤ N) (cl : Nat) (hW : CR D b cl V) (n0 : Int32) (ftoldPeople_0 : Int32) (ftoldDoors_0 : Int32) (fwasDoors_0 : Int32) (ffault_0 : Int32) (fopen_0 : Int32) (flines_0 : Int32) (fmeantSet_0 : Int32) (fopenedNow_0 : Int32) (fvainNow_0 : Int32) (flowNow_0 : Int32) (fhighNow_0 : Int32) (fisKept_0 : Int32) (tad_0 : Nat) (pl0_0 : Nat) (le0_0 : Nat) (nu0_0 : Nat) (coy_0 : Nat) (wag_0 : Nat) (say_0 : Nat) (hn0 : tad_0 ≤ 260 ∧ pl0_0 ≤ 240 ∧ le0_0 ≤ 240 ∧ nu0_0 ≤ 99999 ∧ coy_0 ≤ 260 ∧ wag_0 ≤ 260 ∧ say_0 ≤ 16) (h100 : V 100 = cO 11 [.ref (b + 101), .ref (b + 102), .ref (b + 103), .ref (b + 104), .ref (b + 105), .ref (b + 106), .ref (b + 107), .ref (b + 108), .ref (b + 109), .int ftoldPeople_0, .int ftoldDoors_0, .int fwasDoors_0, .ref (b + 110), .int (nI tad_0), .int (nI pl0_0), .int (nI le0_0), .int ffault_0, .int (nI nu0_0), .int fopen_0, .int (nI coy_0), .int (nI wag_0), .int (nI say_0), .int (nI cl), .ref (b + 111), .ref (b + 112), .ref (b + 113), .ref (b + 114), .ref (b + 115), .ref (b + 116), .ref (b + 117), .ref (b + 118), .ref (b + 119), .ref (b + 120), .ref (b + 121), .ref (b + 122), .ref (b + 123), .int flines_0, .int fmeantSet_0, .int fopenedNow_0, .int fvainNow_0, .ref (b + 124), .ref (b + 125), .ref (b + 126), .ref (b + 127), .ref (b + 128), .int flowNow_0, .int fhighNow_0, .ref (b + 129), .ref (b + 130), .ref (b + 131), .ref (b + 132), .int fisKept_0]) (g : Nat → Int32) (hg : V 110 = cB D 260 g) (hz0 : 0 ≤ n0) : MI l D b 1 jX12_takes [.ref (b + 100), .int n0] N V 0 0 (fun r N9 V9 => ((r = 0 ∨ r = 1) ∧ (r = 0 ∨ (V9 100 = cO 11 [.ref (b + 101), .ref (b + 102), .ref (b + 103), .ref (b + 104), .ref (b + 105), .ref (b + 106), .ref (b + 107), .ref (b + 108), .ref (b + 109), .int ftoldPeople_0, .int ftoldDoors_0, .int fwasDoors_0, .ref (b + 110), .int (nI tad_0), .int (nI (pl0_0 + 1)), .int (nI le0_0), .int ffault_0, .int (nI nu0_0), .int fopen_0, .int (nI coy_0), .int (nI wag_0), .int (nI say_0), .int (nI cl), .ref (b + 111), .ref (b + 112), .ref (b + 113), .ref (b + 114), .ref (b + 115), .ref (b + 116), .ref (b + 117), .ref (b + 118), .ref (b + 119), .ref (b + 120), .ref (b + 121), .ref (b + 122), .ref (b + 123), .int flines_0, .int fmeantSet_0, .int fopenedNow_0, .int fvainNow_0, .ref (b + 124), .ref (b + 125), .ref (b + 126), .ref (b + 127), .ref (b + 128), .int flowNow_0, .int fhighNow_0, .ref (b + 129), .ref (b + 130), .ref (b + 131), .ref (b + 132), .int fisKept_0] ∧ (∀ i, i ≠ 100 → V9 i = V i) ∧ pl0_0 < le0_0))) ∧ N = N9 ∧ JR D b N cl [(100, 100, 14, 14), (100, 100, 16, 16)] V V9) := by
  have hJ0 : JR D b N cl [(100, 100, 14, 14), (100, 100, 16, 16)] V V := JR.rf hW
  obtain ⟨hb_tad, hb_pl0, hb_le0, hb_nu0, hb_coy, hb_wag, hb_say⟩ := id hn0
  refine mw_of (by decide) (by simp [Value.category]) (Nat.le_of_ble_eq_true rfl) ?_
  show AW l D b jX12_takes (fx_rm 1 0 0) none (fx_MQ D b 0 0 (fx_qi (fun r N9 V9 => ((r = 0 ∨ r = 1) ∧ (r = 0 ∨ (V9 100 = cO 11 [.ref (b + 101), .ref (b + 102), .ref (b + 103), .ref (b + 104), .ref (b + 105), .ref (b + 106), .ref (b + 107), .ref (b + 108), .ref (b + 109), .int ftoldPeople_0, .int ftoldDoors_0, .int fwasDoors_0, .ref (b + 110), .int (nI tad_0), .int (nI (pl0_0 + 1)), .int (nI le0_0), .int ffault_0, .int (nI nu0_0), .int fopen_0, .int (nI coy_0), .int (nI wag_0), .int (nI say_0), .int (nI cl), .ref (b + 111), .ref (b + 112), .ref (b + 113), .ref (b + 114), .ref (b + 115), .ref (b + 116), .ref (b + 117), .ref (b + 118), .ref (b + 119), .ref (b + 120), .ref (b + 121), .ref (b + 122), .ref (b + 123), .int flines_0, .int fmeantSet_0, .int fopenedNow_0, .int fvainNow_0, .ref (b + 124), .ref (b + 125), .ref (b + 126), .ref (b + 127), .ref (b + 128), .int flowNow_0, .int fhighNow_0, .ref (b + 129), .ref (b + 130), .ref (b + 131), .ref (b + 132), .int fisKept_0] ∧ (∀ i, i ≠ 100 → V9 i = V i) ∧ pl0_0 < le0_0))) ∧ N = N9 ∧ JR D b N cl [(100, 100, 14, 14), (100, 100, 16, 16)] V V9))) 0 [some (.ref (b + 100)), some (.int n0)] [] N V 0 0
  refine aw_aload_n dX12_takes_0 rfl ?_
  refine aw_callVi (J' := jX12_here) (As := []) (st := []) dX12_takes_1 tb_1220 ok_X12_here ⟨_, h100⟩ (by omega) rfl rfl (r_here l D b N V hN cl hJ0.1 g hg pl0_0 le0_0 (FG.of h100 rfl rfl) (FG.of h100 rfl rfl) ⟨by omega, by omega⟩) rfl (Nat.le_of_ble_eq_true rfl) ⟨Nat.le_of_ble_eq_true rfl, Nat.le_of_ble_eq_true rfl, Nat.le_of_ble_eq_true rfl, Nat.le_of_ble_eq_true rfl⟩ (fun r_3 N_4 V_5 q_6 => ?_)
  obtain ⟨h_2, rfl, rfl⟩ := q_6
  refine aw_iload_n dX12_takes_4 rfl ?_
  refine aw_icmp_eq (tgt := 18) dX12_takes_5 (by decide) (fun c_7 => ?_) (fun c_7 => ?_)
  · skip
    have hlc_7 := here_ltn h_2 c_7 hz0
    refine aw_aload_n dX12_takes_18 rfl ?_
    refine aw_aload_n dX12_takes_19 rfl ?_
    refine aw_get dX12_takes_20 fl_X12_159 h100 (by omega) rfl ?_
    refine aw_iconst (v := 1) dX12_takes_23 (by decide) ?_
    refine aw_iadd dX12_takes_24 ?_
    refine aw_eqi (y := nI (pl0_0 + 1)) (nI_add _ _) ?_
    refine aw_put dX12_takes_25 fp_X12_159 h100 (by omega) rfl rfl (Nat.le_of_ble_eq_true rfl) rfl ?_
    refine aw_upR hJ0 cm_100 ⟨_, _, _, _, _, _, _, _, _, _, _, _, tad_0, (pl0_0 + 1), le0_0, nu0_0, coy_0, wag_0, say_0, rfl, by omega, by omega, by omega, by omega, by omega, by omega, by omega⟩ (by decide) (WO (s := 14) (x := .int (nI (pl0_0 + 1))) h100 rfl LM0 (by decide) (by decide) (by decide) (Or.inl (by decide))) (fun V_8 j_8 k_8 e_8 => ?_)
    refine aw_iconst (v := 1) dX12_takes_28 (by decide) ?_
    refine aw_zreti dX12_takes_29 rfl (by first | exact Or.inl rfl | exact Or.inr rfl | assumption) (Nat.le_of_ble_eq_true rfl) (Nat.le_of_ble_eq_true rfl) ?_
    exact ⟨⟨(by first | exact Or.inl rfl | exact Or.inr rfl | assumption), Or.inr ⟨e_8, fun i h100 => k_8 i h100, by omega⟩⟩, rfl, j_8⟩
  · skip
    refine aw_aload_n dX12_takes_8 rfl ?_
    refine aw_iconst (v := 1) dX12_takes_9 (by decide) ?_
    refine aw_aload_n dX12_takes_10 rfl ?_
    refine aw_get dX12_takes_11 fl_X12_159 h100 (by omega) rfl ?_
    refine aw_callVi (J' := jX12_wrongAt) (As := [.int 1, .int (nI pl0_0)]) (st := []) dX12_takes_14 tb_1224 ok_X12_wrongAt ⟨_, h100⟩ (by omega) rfl rfl (r_wrongAt l D b N V hN cl hJ0.1 1 (nI pl0_0) pl0_0 le0_0 (FG.of h100 rfl rfl) (FG.of h100 rfl rfl) ⟨by omega, by omega⟩) rfl (Nat.le_of_ble_eq_true rfl) ⟨Nat.le_of_ble_eq_true rfl, Nat.le_of_ble_eq_true rfl, Nat.le_of_ble_eq_true rfl, Nat.le_of_ble_eq_true rfl⟩ (fun r_22 N_23 V_13 q_24 => ?_)
    obtain ⟨⟨z_11, h_10⟩, rfl, q_9⟩ := q_24
    have j_12 := JR.trans hJ0 (JR.weak q_9 (Sub.cons (LMs LM0) (by decide) (by decide) (by decide) (Or.inr ⟨by decide, by decide⟩) Sub.nil))
    obtain ⟨a_14, ha_15, hA_16, hF_17, hL_18, hz_19, hX_20⟩ := h_10
    obtain ⟨ftoldPeople_k21, ftoldDoors_k21, fwasDoors_k21, ffault_k21, fopen_k21, flines_k21, fmeantSet_k21, fopenedNow_k21, fvainNow_k21, flowNow_k21, fhighNow_k21, fisKept_k21, tad_k21, pl0_k21, le0_k21, nu0_k21, coy_k21, wag_k21, say_k21, e_k21, hntad_k21, hnpl0_k21, hnle0_k21, hnnu0_k21, hncoy_k21, hnwag_k21, hnsay_k21⟩ := JR.get j_12 cm_100
    have hqp_k21 := FG.eq hF_17 e_k21 rfl (by omega) (by omega)
    have hql_k21 := FG.eq hL_18 e_k21 rfl (by omega) (by omega)
    obtain rfl := hX_20
    refine aw_zreti dX12_takes_17 rfl (by first | exact Or.inl rfl | exact Or.inr rfl | assumption) (Nat.le_of_ble_eq_true rfl) (Nat.le_of_ble_eq_true rfl) ?_
    exact ⟨⟨(by first | exact Or.inl rfl | exact Or.inr rfl | assumption), Or.inl rfl⟩, rfl, j_12⟩

set_option maxHeartbeats 20000000 in
set_option maxRecDepth 100000 in
theorem r_lawtail (l : Launch) (D : va_G) (b : Nat) (N : Nat) (V0 V : Wd) (hN : 133 ≤ N) (cl : Nat) (hJ0 : JR D b N cl [(111, 121, 0, 1000000), (100, 100, 22, 22), (100, 100, 14, 14), (100, 100, 15, 15), (100, 100, 19, 19), (100, 100, 21, 21), (100, 100, 18, 18), (100, 100, 20, 20), (100, 100, 16, 16), (100, 100, 17, 17), (100, 100, 13, 13)] V0 V) (ftoldPeople_0 : Int32) (ftoldDoors_0 : Int32) (fwasDoors_0 : Int32) (ffault_0 : Int32) (fopen_0 : Int32) (flines_0 : Int32) (fmeantSet_0 : Int32) (fopenedNow_0 : Int32) (fvainNow_0 : Int32) (flowNow_0 : Int32) (fhighNow_0 : Int32) (fisKept_0 : Int32) (tad_0 : Nat) (pl0_0 : Nat) (le0_0 : Nat) (nu0_0 : Nat) (coy_0 : Nat) (wag_0 : Nat) (say_0 : Nat) (hn0 : tad_0 ≤ 260 ∧ pl0_0 ≤ 240 ∧ le0_0 ≤ 240 ∧ nu0_0 ≤ 99999 ∧ coy_0 ≤ 260 ∧ wag_0 ≤ 260 ∧ say_0 ≤ 16) (h100 : V 100 = cO 11 [.ref (b + 101), .ref (b + 102), .ref (b + 103), .ref (b + 104), .ref (b + 105), .ref (b + 106), .ref (b + 107), .ref (b + 108), .ref (b + 109), .int ftoldPeople_0, .int ftoldDoors_0, .int fwasDoors_0, .ref (b + 110), .int (nI tad_0), .int (nI pl0_0), .int (nI le0_0), .int ffault_0, .int (nI nu0_0), .int fopen_0, .int (nI coy_0), .int (nI wag_0), .int (nI say_0), .int (nI cl), .ref (b + 111), .ref (b + 112), .ref (b + 113), .ref (b + 114), .ref (b + 115), .ref (b + 116), .ref (b + 117), .ref (b + 118), .ref (b + 119), .ref (b + 120), .ref (b + 121), .ref (b + 122), .ref (b + 123), .int flines_0, .int fmeantSet_0, .int fopenedNow_0, .int fvainNow_0, .ref (b + 124), .ref (b + 125), .ref (b + 126), .ref (b + 127), .ref (b + 128), .int flowNow_0, .int fhighNow_0, .ref (b + 129), .ref (b + 130), .ref (b + 131), .ref (b + 132), .int fisKept_0]) (sd wa sl sf sh st : Nat → Int32) (hsd : V 111 = cI D 260 sd) (h113 : V 113 = cI D 16 sl) (h114 : V 114 = cI D 16 sf) (h115 : V 115 = cI D 16 sh) (h116 : V 116 = cI D 16 st) (hcm : coy_0 ≤ 240) (hR : RI sd sf sh st say_0 coy_0) (x1 x2 : Int32) : AW l D b jX12_law (fx_rm 8 0 0) none (fx_MQ D b 0 0 (fx_qi (fun r N9 V9 => N = N9 ∧ ∃ cl9, CR D b cl9 V9 ∧ (∀ i, (i < 100 ∨ 133 ≤ i) → i < N → V9 i = V0 i) ∧ WF D cl9 V9 ∧ (∀ i k, 100 ≤ i → i < 133 → fwB [(111, 121, 0, 1000000), (100, 100, 22, 22), (100, 100, 14, 14), (100, 100, 15, 15), (100, 100, 19, 19), (100, 100, 21, 21), (100, 100, 18, 18), (100, 100, 20, 20), (100, 100, 16, 16), (100, 100, 17, 17), (100, 100, 13, 13)] i k = false → pj (V9 i) k = pj (V0 i) k)))) 85 [some (.ref (b + 100)), some (.int x1), some (.int x2), none] [] N V 0 0 := by
  obtain ⟨hb_tad, hb_pl0, hb_le0, hb_nu0, hb_coy, hb_wag, hb_say⟩ := id hn0
  refine aw_aload_n dX12_law_85 rfl ?_
  refine aw_aload_n dX12_law_86 rfl ?_
  refine aw_get dX12_law_87 fl_X12_236 h100 (by omega) rfl ?_
  refine aw_put dX12_law_90 fp_X12_251 h100 (by omega) rfl rfl (Nat.le_of_ble_eq_true rfl) rfl ?_
  refine aw_cl (cl' := say_0) hJ0 ⟨_, _, _, _, _, _, _, _, _, _, _, _, tad_0, pl0_0, le0_0, nu0_0, coy_0, wag_0, say_0, rfl, by omega, by omega, by omega, by omega, by omega, by omega, by omega⟩ (WO (s := 22) (x := .int (nI say_0)) h100 rfl (LMs LM0) (by decide) (by decide) (by decide) (Or.inl (by decide))) (fun V_1 j_1 k_1 e_1 => ?_)
  refine aw_iconst (v := 0) dX12_law_93 (by decide) ?_
  refine aw_istore_n (ls' := [some (.ref (b + 100)), some (.int x1), some (.int x2), some (.int 0)]) dX12_law_94 (Nat.le_of_ble_eq_true rfl) rfl ?_
  have loop_95_1 : ∀ (g_95 : Nat), ∀ (j95 : Nat)  (V95 : Wd), j95 + g_95 = coy_0 → (∃ cd, V95 117 = cI D 260 cd ∧ ∀ i, i < j95 → cd i = sd i) → (JL D b N say_0 [(111, 121, 0, 1000000), (100, 100, 22, 22), (100, 100, 14, 14), (100, 100, 15, 15), (100, 100, 19, 19), (100, 100, 21, 21), (100, 100, 18, 18), (100, 100, 20, 20), (100, 100, 16, 16), (100, 100, 17, 17), (100, 100, 13, 13)] V0 V95) → (V95 100 = cO 11 [.ref (b + 101), .ref (b + 102), .ref (b + 103), .ref (b + 104), .ref (b + 105), .ref (b + 106), .ref (b + 107), .ref (b + 108), .ref (b + 109), .int ftoldPeople_0, .int ftoldDoors_0, .int fwasDoors_0, .ref (b + 110), .int (nI tad_0), .int (nI pl0_0), .int (nI le0_0), .int ffault_0, .int (nI nu0_0), .int fopen_0, .int (nI coy_0), .int (nI wag_0), .int (nI say_0), .int (nI say_0), .ref (b + 111), .ref (b + 112), .ref (b + 113), .ref (b + 114), .ref (b + 115), .ref (b + 116), .ref (b + 117), .ref (b + 118), .ref (b + 119), .ref (b + 120), .ref (b + 121), .ref (b + 122), .ref (b + 123), .int flines_0, .int fmeantSet_0, .int fopenedNow_0, .int fvainNow_0, .ref (b + 124), .ref (b + 125), .ref (b + 126), .ref (b + 127), .ref (b + 128), .int flowNow_0, .int fhighNow_0, .ref (b + 129), .ref (b + 130), .ref (b + 131), .ref (b + 132), .int fisKept_0]) → (V95 111 = cI D 260 sd) → (V95 113 = cI D 16 sl) → (V95 114 = cI D 16 sf) → (V95 115 = cI D 16 sh) → (V95 116 = cI D 16 st) → AW l D b jX12_law (fx_rm 8 0 0) none (fx_MQ D b 0 0 (fx_qi (fun r N9 V9 => N = N9 ∧ ∃ cl9, CR D b cl9 V9 ∧ (∀ i, (i < 100 ∨ 133 ≤ i) → i < N → V9 i = V0 i) ∧ WF D cl9 V9 ∧ (∀ i k, 100 ≤ i → i < 133 → fwB [(111, 121, 0, 1000000), (100, 100, 22, 22), (100, 100, 14, 14), (100, 100, 15, 15), (100, 100, 19, 19), (100, 100, 21, 21), (100, 100, 18, 18), (100, 100, 20, 20), (100, 100, 16, 16), (100, 100, 17, 17), (100, 100, 13, 13)] i k = false → pj (V9 i) k = pj (V0 i) k)))) 95 [some (.ref (b + 100)), some (.int x1), some (.int x2), some (.int (nI j95))] [] N V95 0 0 := by
    intro g_95
    induction g_95 with
    | zero =>
      intro j95  V95 hj95 i95_0 i95_1 i95_2 i95_3 i95_4 i95_5 i95_6 i95_7
      obtain rfl : coy_0 = j95 := by omega
      refine aw_iload_n dX12_law_95 rfl ?_
      refine aw_aload_n dX12_law_96 rfl ?_
      refine aw_get dX12_law_97 fl_X12_182 i95_2 (by omega) rfl ?_
      refine aw_icmp_ge (tgt := 121) dX12_law_100 (by decide) (fun c_4 => ?_) (fun c_4 => ?_)
      rotate_left
      · exact absurd (nI_le (a := coy_0) (b := coy_0) (Nat.le_refl _) (by omega)) c_4
      refine aw_iconst (v := 0) dX12_law_121 (by decide) ?_
      refine aw_istore_n (ls' := [some (.ref (b + 100)), some (.int x1), some (.int x2), some (.int 0)]) dX12_law_122 (Nat.le_of_ble_eq_true rfl) rfl ?_
      have loop_123_4 : ∀ (g_123 : Nat), ∀ (j123 : Nat)  (V123 : Wd), j123 + g_123 = say_0 → (∃ cd, V123 117 = cI D 260 cd ∧ ∀ i, i < coy_0 → cd i = sd i) → (∃ fr hf to, V123 119 = cI D 16 fr ∧ V123 120 = cI D 16 hf ∧ V123 121 = cI D 16 to ∧ ∀ q, q < j123 → fr q = sf q ∧ hf q = sh q ∧ to q = st q) → (JL D b N say_0 [(111, 121, 0, 1000000), (100, 100, 22, 22), (100, 100, 14, 14), (100, 100, 15, 15), (100, 100, 19, 19), (100, 100, 21, 21), (100, 100, 18, 18), (100, 100, 20, 20), (100, 100, 16, 16), (100, 100, 17, 17), (100, 100, 13, 13)] V0 V123) → (V123 100 = cO 11 [.ref (b + 101), .ref (b + 102), .ref (b + 103), .ref (b + 104), .ref (b + 105), .ref (b + 106), .ref (b + 107), .ref (b + 108), .ref (b + 109), .int ftoldPeople_0, .int ftoldDoors_0, .int fwasDoors_0, .ref (b + 110), .int (nI tad_0), .int (nI pl0_0), .int (nI le0_0), .int ffault_0, .int (nI nu0_0), .int fopen_0, .int (nI coy_0), .int (nI wag_0), .int (nI say_0), .int (nI say_0), .ref (b + 111), .ref (b + 112), .ref (b + 113), .ref (b + 114), .ref (b + 115), .ref (b + 116), .ref (b + 117), .ref (b + 118), .ref (b + 119), .ref (b + 120), .ref (b + 121), .ref (b + 122), .ref (b + 123), .int flines_0, .int fmeantSet_0, .int fopenedNow_0, .int fvainNow_0, .ref (b + 124), .ref (b + 125), .ref (b + 126), .ref (b + 127), .ref (b + 128), .int flowNow_0, .int fhighNow_0, .ref (b + 129), .ref (b + 130), .ref (b + 131), .ref (b + 132), .int fisKept_0]) → (V123 111 = cI D 260 sd) → (V123 113 = cI D 16 sl) → (V123 114 = cI D 16 sf) → (V123 115 = cI D 16 sh) → (V123 116 = cI D 16 st) → AW l D b jX12_law (fx_rm 8 0 0) none (fx_MQ D b 0 0 (fx_qi (fun r N9 V9 => N = N9 ∧ ∃ cl9, CR D b cl9 V9 ∧ (∀ i, (i < 100 ∨ 133 ≤ i) → i < N → V9 i = V0 i) ∧ WF D cl9 V9 ∧ (∀ i k, 100 ≤ i → i < 133 → fwB [(111, 121, 0, 1000000), (100, 100, 22, 22), (100, 100, 14, 14), (100, 100, 15, 15), (100, 100, 19, 19), (100, 100, 21, 21), (100, 100, 18, 18), (100, 100, 20, 20), (100, 100, 16, 16), (100, 100, 17, 17), (100, 100, 13, 13)] i k = false → pj (V9 i) k = pj (V0 i) k)))) 123 [some (.ref (b + 100)), some (.int x1), some (.int x2), some (.int (nI j123))] [] N V123 0 0 := by
        intro g_123
        induction g_123 with
        | zero =>
          intro j123  V123 hj123 i123_0 i123_1 i123_2 i123_3 i123_4 i123_5 i123_6 i123_7 i123_8
          obtain rfl : say_0 = j123 := by omega
          refine aw_iload_n dX12_law_123 rfl ?_
          refine aw_aload_n dX12_law_124 rfl ?_
          refine aw_get dX12_law_125 fl_X12_236 i123_3 (by omega) rfl ?_
          refine aw_icmp_ge (tgt := 185) dX12_law_128 (by decide) (fun c_7 => ?_) (fun c_7 => ?_)
          rotate_left
          · exact absurd (nI_le (a := say_0) (b := say_0) (Nat.le_refl _) (by omega)) c_7
          refine aw_aload_n dX12_law_185 rfl ?_
          refine aw_get dX12_law_186 fl_X12_236 i123_3 (by omega) rfl ?_
          obtain ⟨cd9, e7, hc9⟩ := i123_0
          obtain ⟨fr8, hf8, to8, e9, e10, e11, hq8⟩ := i123_1
          refine aw_ireti dX12_law_189 rfl (Nat.le_of_ble_eq_true rfl) (Nat.le_of_ble_eq_true rfl) ?_
          exact ⟨rfl, say_0, i123_2.1, i123_2.2.1, WF.mk' e7 e9 e10 e11 (by omega) (by omega) hc9 hq8 hR, i123_2.2.2⟩
        | succ g_123 ih_123_5 =>
          intro j123  V123 hj123 i123_0 i123_1 i123_2 i123_3 i123_4 i123_5 i123_6 i123_7 i123_8
          have hlj123 : j123 < say_0 := by omega
          refine aw_iload_n dX12_law_123 rfl ?_
          refine aw_aload_n dX12_law_124 rfl ?_
          refine aw_get dX12_law_125 fl_X12_236 i123_3 (by omega) rfl ?_
          refine aw_icmp_ge (tgt := 185) dX12_law_128 (by decide) (fun c_8 => ?_) (fun c_8 => ?_)
          · exact absurd c_8 (nI_ge (a := j123) (b := say_0) (by omega) (by omega))
          obtain ⟨cd123, e117, hcd123⟩ := i123_0
          obtain ⟨fr9, hf9, to9, e119, e120, e121, hq123⟩ := i123_1
          refine aw_aload_n dX12_law_131 rfl ?_
          refine aw_get dX12_law_132 fl_X12_62 i123_3 (by omega) rfl ?_
          refine aw_iload_n dX12_law_135 rfl ?_
          refine aw_aload_n dX12_law_136 rfl ?_
          refine aw_get dX12_law_137 fl_X12_47 i123_3 (by omega) rfl ?_
          refine aw_iload_n dX12_law_140 rfl ?_
          refine aw_iald (v := (sl j123)) dX12_law_141 i123_5 (by omega) (vp_in_nI (n := j123) (by omega) (by omega)) (congrArg sl (nI_clamp (n := j123) (by omega))) ?_
          obtain ⟨g_9, e_9⟩ := JL.get i123_2 cm_118
          refine aw_iast dX12_law_142 e_9 (by omega) (vp_in_nI (n := j123) (by omega) (by omega)) ?_
          refine aw_upL i123_2 cm_118 ⟨_, rfl⟩ (WA LM0 (by decide) (by decide)) (fun V_10 j_10 k_10 e_10 => ?_)
          have e_11 : V_10 118 = cI D 16 (upd g_9 j123 (sl j123)) := by rw [e_10, nI_clamp (n := j123) (by omega)]
          refine aw_aload_n dX12_law_143 rfl ?_
          refine aw_get dX12_law_144 fl_X12_65 ((k_10 _ (by decide)).trans i123_3) (by omega) rfl ?_
          refine aw_iload_n dX12_law_147 rfl ?_
          refine aw_aload_n dX12_law_148 rfl ?_
          refine aw_get dX12_law_149 fl_X12_50 ((k_10 _ (by decide)).trans i123_3) (by omega) rfl ?_
          refine aw_iload_n dX12_law_152 rfl ?_
          refine aw_iald (v := (sf j123)) dX12_law_153 ((k_10 _ (by decide)).trans i123_6) (by omega) (vp_in_nI (n := j123) (by omega) (by omega)) (congrArg sf (nI_clamp (n := j123) (by omega))) ?_
          refine aw_iast dX12_law_154 ((k_10 _ (by decide)).trans e119) (by omega) (vp_in_nI (n := j123) (by omega) (by omega)) ?_
          refine aw_upL j_10 cm_119 ⟨_, rfl⟩ (WA LM0 (by decide) (by decide)) (fun V_12 j_12 k_12 e_12 => ?_)
          have e_13 : V_12 119 = cI D 16 (upd fr9 j123 (sf j123)) := by rw [e_12, nI_clamp (n := j123) (by omega)]
          refine aw_aload_n dX12_law_155 rfl ?_
          refine aw_get dX12_law_156 fl_X12_68 ((k_12 _ (by decide)).trans ((k_10 _ (by decide)).trans i123_3)) (by omega) rfl ?_
          refine aw_iload_n dX12_law_159 rfl ?_
          refine aw_aload_n dX12_law_160 rfl ?_
          refine aw_get dX12_law_161 fl_X12_53 ((k_12 _ (by decide)).trans ((k_10 _ (by decide)).trans i123_3)) (by omega) rfl ?_
          refine aw_iload_n dX12_law_164 rfl ?_
          refine aw_iald (v := (sh j123)) dX12_law_165 ((k_12 _ (by decide)).trans ((k_10 _ (by decide)).trans i123_7)) (by omega) (vp_in_nI (n := j123) (by omega) (by omega)) (congrArg sh (nI_clamp (n := j123) (by omega))) ?_
          refine aw_iast dX12_law_166 ((k_12 _ (by decide)).trans ((k_10 _ (by decide)).trans e120)) (by omega) (vp_in_nI (n := j123) (by omega) (by omega)) ?_
          refine aw_upL j_12 cm_120 ⟨_, rfl⟩ (WA LM0 (by decide) (by decide)) (fun V_14 j_14 k_14 e_14 => ?_)
          have e_15 : V_14 120 = cI D 16 (upd hf9 j123 (sh j123)) := by rw [e_14, nI_clamp (n := j123) (by omega)]
          refine aw_aload_n dX12_law_167 rfl ?_
          refine aw_get dX12_law_168 fl_X12_71 ((k_14 _ (by decide)).trans ((k_12 _ (by decide)).trans ((k_10 _ (by decide)).trans i123_3))) (by omega) rfl ?_
          refine aw_iload_n dX12_law_171 rfl ?_
          refine aw_aload_n dX12_law_172 rfl ?_
          refine aw_get dX12_law_173 fl_X12_56 ((k_14 _ (by decide)).trans ((k_12 _ (by decide)).trans ((k_10 _ (by decide)).trans i123_3))) (by omega) rfl ?_
          refine aw_iload_n dX12_law_176 rfl ?_
          refine aw_iald (v := (st j123)) dX12_law_177 ((k_14 _ (by decide)).trans ((k_12 _ (by decide)).trans ((k_10 _ (by decide)).trans i123_8))) (by omega) (vp_in_nI (n := j123) (by omega) (by omega)) (congrArg st (nI_clamp (n := j123) (by omega))) ?_
          refine aw_iast dX12_law_178 ((k_14 _ (by decide)).trans ((k_12 _ (by decide)).trans ((k_10 _ (by decide)).trans e121))) (by omega) (vp_in_nI (n := j123) (by omega) (by omega)) ?_
          refine aw_upL j_14 cm_121 ⟨_, rfl⟩ (WA LM0 (by decide) (by decide)) (fun V_16 j_16 k_16 e_16 => ?_)
          have e_17 : V_16 121 = cI D 16 (upd to9 j123 (st j123)) := by rw [e_16, nI_clamp (n := j123) (by omega)]
          refine aw_iinc (v := (nI (j123 + 1))) (ls' := [some (.ref (b + 100)), some (.int x1), some (.int x2), some (.int (nI (j123 + 1)))]) dX12_law_179 rfl (fx_up_1 _) (Nat.le_of_ble_eq_true rfl) rfl ?_
          refine aw_goto (tgt := 123) dX12_law_182 (by decide) ?_
          refine aw_le ?_ (ih_123_5 (j123 + 1)  V_16 (by omega) (⟨_, ((k_16 _ (by decide)).trans ((k_14 _ (by decide)).trans ((k_12 _ (by decide)).trans ((k_10 _ (by decide)).trans e117)))), hcd123⟩) (⟨_, _, _, ((k_16 _ (by decide)).trans ((k_14 _ (by decide)).trans e_13)), ((k_16 _ (by decide)).trans e_15), e_17, fun q hq => if e : q = j123 then (by subst e; exact ⟨pk_us, pk_us, pk_us⟩) else ⟨(pk_un e).trans (hq123 q (by omega)).1, (pk_un e).trans (hq123 q (by omega)).2.1, (pk_un e).trans (hq123 q (by omega)).2.2⟩⟩) (j_16) (((k_16 _ (by decide)).trans ((k_14 _ (by decide)).trans ((k_12 _ (by decide)).trans ((k_10 _ (by decide)).trans i123_3))))) (((k_16 _ (by decide)).trans ((k_14 _ (by decide)).trans ((k_12 _ (by decide)).trans ((k_10 _ (by decide)).trans i123_4))))) (((k_16 _ (by decide)).trans ((k_14 _ (by decide)).trans ((k_12 _ (by decide)).trans ((k_10 _ (by decide)).trans i123_5))))) (((k_16 _ (by decide)).trans ((k_14 _ (by decide)).trans ((k_12 _ (by decide)).trans ((k_10 _ (by decide)).trans i123_6))))) (((k_16 _ (by decide)).trans ((k_14 _ (by decide)).trans ((k_12 _ (by decide)).trans ((k_10 _ (by decide)).trans i123_7))))) (((k_16 _ (by decide)).trans ((k_14 _ (by decide)).trans ((k_12 _ (by decide)).trans ((k_10 _ (by decide)).trans i123_8))))))
          exact ⟨rfl, ⟨rfl, ⟨rfl, ⟨rfl, trivial⟩⟩⟩⟩
      obtain ⟨g_18, e_18⟩ := JL.get i95_1 cm_119
      obtain ⟨g_19, e_19⟩ := JL.get i95_1 cm_120
      obtain ⟨g_20, e_20⟩ := JL.get i95_1 cm_121
      refine aw_le ?_ (loop_123_4 say_0 0  V95 (by omega) (i95_0) (⟨_, _, _, e_18, e_19, e_20, fun q h => absurd h (Nat.not_lt_zero q)⟩) (i95_1) (i95_2) (i95_3) (i95_4) (i95_5) (i95_6) (i95_7))
      exact ⟨rfl, ⟨rfl, ⟨rfl, ⟨rfl, trivial⟩⟩⟩⟩
    | succ g_95 ih_95_2 =>
      intro j95  V95 hj95 i95_0 i95_1 i95_2 i95_3 i95_4 i95_5 i95_6 i95_7
      have hlj95 : j95 < coy_0 := by omega
      refine aw_iload_n dX12_law_95 rfl ?_
      refine aw_aload_n dX12_law_96 rfl ?_
      refine aw_get dX12_law_97 fl_X12_182 i95_2 (by omega) rfl ?_
      refine aw_icmp_ge (tgt := 121) dX12_law_100 (by decide) (fun c_21 => ?_) (fun c_21 => ?_)
      · exact absurd c_21 (nI_ge (a := j95) (b := coy_0) (by omega) (by omega))
      obtain ⟨cd95, e117, hcd95⟩ := i95_0
      refine aw_aload_n dX12_law_103 rfl ?_
      refine aw_get dX12_law_104 fl_X12_59 i95_2 (by omega) rfl ?_
      refine aw_iload_n dX12_law_107 rfl ?_
      refine aw_aload_n dX12_law_108 rfl ?_
      refine aw_get dX12_law_109 fl_X12_41 i95_2 (by omega) rfl ?_
      refine aw_iload_n dX12_law_112 rfl ?_
      refine aw_iald (v := (sd j95)) dX12_law_113 i95_3 (by omega) (vp_in_nI (n := j95) (by omega) (by omega)) (congrArg sd (nI_clamp (n := j95) (by omega))) ?_
      refine aw_iast dX12_law_114 e117 (by omega) (vp_in_nI (n := j95) (by omega) (by omega)) ?_
      refine aw_upL i95_1 cm_117 ⟨_, rfl⟩ (WA LM0 (by decide) (by decide)) (fun V_22 j_22 k_22 e_22 => ?_)
      have e_23 : V_22 117 = cI D 260 (upd cd95 j95 (sd j95)) := by rw [e_22, nI_clamp (n := j95) (by omega)]
      refine aw_iinc (v := (nI (j95 + 1))) (ls' := [some (.ref (b + 100)), some (.int x1), some (.int x2), some (.int (nI (j95 + 1)))]) dX12_law_115 rfl (fx_up_1 _) (Nat.le_of_ble_eq_true rfl) rfl ?_
      refine aw_goto (tgt := 95) dX12_law_118 (by decide) ?_
      refine aw_le ?_ (ih_95_2 (j95 + 1)  V_22 (by omega) (⟨_, e_23, fun i hi => if e : i = j95 then (by rw [e, pk_us]) else (pk_un e).trans (hcd95 i (by omega))⟩) (j_22) (((k_22 _ (by decide)).trans i95_2)) (((k_22 _ (by decide)).trans i95_3)) (((k_22 _ (by decide)).trans i95_4)) (((k_22 _ (by decide)).trans i95_5)) (((k_22 _ (by decide)).trans i95_6)) (((k_22 _ (by decide)).trans i95_7)))
      exact ⟨rfl, ⟨rfl, ⟨rfl, ⟨rfl, trivial⟩⟩⟩⟩
  obtain ⟨g_24, e_24⟩ := JL.get j_1 cm_117
  refine aw_le ?_ (loop_95_1 coy_0 0  V_1 (by omega) (⟨_, e_24, fun i h => absurd h (Nat.not_lt_zero i)⟩) (j_1) (e_1) (((k_1 _ (by decide)).trans hsd)) (((k_1 _ (by decide)).trans h113)) (((k_1 _ (by decide)).trans h114)) (((k_1 _ (by decide)).trans h115)) (((k_1 _ (by decide)).trans h116)))
  exact ⟨rfl, ⟨rfl, ⟨rfl, ⟨rfl, trivial⟩⟩⟩⟩

set_option maxHeartbeats 20000000 in
set_option maxRecDepth 100000 in
theorem r_law (l : Launch) (D : va_G) (b : Nat) (N : Nat) (V : Wd) (hN : 133 ≤ N) (cl : Nat) (hW : CR D b cl V) (n0 : Int32) (hwf : WF D cl V) : MI l D b 8 jX12_law [.ref (b + 100), .int n0] N V 0 0 (fun r N9 V9 => N = N9 ∧ ∃ cl9, CR D b cl9 V9 ∧ (∀ i, (i < 100 ∨ 133 ≤ i) → i < N → V9 i = V i) ∧ WF D cl9 V9 ∧ (∀ i k, 100 ≤ i → i < 133 → fwB [(111, 121, 0, 1000000), (100, 100, 22, 22), (100, 100, 14, 14), (100, 100, 15, 15), (100, 100, 19, 19), (100, 100, 21, 21), (100, 100, 18, 18), (100, 100, 20, 20), (100, 100, 16, 16), (100, 100, 17, 17), (100, 100, 13, 13)] i k = false → pj (V9 i) k = pj (V i) k)) := by
  have hJ0 : JR D b N cl [(111, 121, 0, 1000000), (100, 100, 22, 22), (100, 100, 14, 14), (100, 100, 15, 15), (100, 100, 19, 19), (100, 100, 21, 21), (100, 100, 18, 18), (100, 100, 20, 20), (100, 100, 16, 16), (100, 100, 17, 17), (100, 100, 13, 13)] V V := JR.rf hW
  refine mw_of (by decide) (by simp [Value.category]) (Nat.le_of_ble_eq_true rfl) ?_
  show AW l D b jX12_law (fx_rm 8 0 0) none (fx_MQ D b 0 0 (fx_qi (fun r N9 V9 => N = N9 ∧ ∃ cl9, CR D b cl9 V9 ∧ (∀ i, (i < 100 ∨ 133 ≤ i) → i < N → V9 i = V i) ∧ WF D cl9 V9 ∧ (∀ i k, 100 ≤ i → i < 133 → fwB [(111, 121, 0, 1000000), (100, 100, 22, 22), (100, 100, 14, 14), (100, 100, 15, 15), (100, 100, 19, 19), (100, 100, 21, 21), (100, 100, 18, 18), (100, 100, 20, 20), (100, 100, 16, 16), (100, 100, 17, 17), (100, 100, 13, 13)] i k = false → pj (V9 i) k = pj (V i) k)))) 0 [some (.ref (b + 100)), some (.int n0), none, none] [] N V 0 0
  refine aw_iload_n dX12_law_0 rfl ?_
  refine aw_iconst (v := 1) dX12_law_1 (by decide) ?_
  refine aw_sipush (v := 240) dX12_law_2 (by decide) ?_
  refine aw_callSi (J' := jX12_in) (As := [.int n0, .int 1, .int 240]) (st := []) dX12_law_5 tb_1209 ok_X12_in rfl (r_in l D b N V hN cl hJ0.1 n0 1 240) rfl (Nat.le_of_ble_eq_true rfl) ⟨Nat.le_of_ble_eq_true rfl, Nat.le_of_ble_eq_true rfl, Nat.le_of_ble_eq_true rfl, Nat.le_of_ble_eq_true rfl⟩ (fun r_4 N_5 V_6 q_7 => ?_)
  obtain ⟨⟨z_3, h_2⟩, rfl, rfl⟩ := q_7
  refine aw_if_eq (tgt := 19) dX12_law_8 (by decide) (fun c_8 => ?_) (fun c_8 => ?_)
  · skip
    refine aw_iconst (v := (-1)) dX12_law_19 (by decide) ?_
    refine aw_ireti dX12_law_20 rfl (Nat.le_of_ble_eq_true rfl) (Nat.le_of_ble_eq_true rfl) ?_
    exact ⟨rfl, cl, hJ0.1, hJ0.2.1, WF.fr hwf hJ0.2.2.1, hJ0.2.2.2⟩
  · skip
    obtain ⟨zn0, h0zn0, hzn0, rfl⟩ := in_nat (a := 1) (b := 240) (by decide) (h_2.resolve_left c_8)
    refine aw_iload_n dX12_law_11 rfl ?_
    refine aw_aload_n dX12_law_12 rfl ?_
    obtain ⟨ftoldPeople_9, ftoldDoors_9, fwasDoors_9, ffault_9, fopen_9, flines_9, fmeantSet_9, fopenedNow_9, fvainNow_9, flowNow_9, fhighNow_9, fisKept_9, tad_9, pl0_9, le0_9, nu0_9, coy_9, wag_9, say_9, e_9, hntad_9, hnpl0_9, hnle0_9, hnnu0_9, hncoy_9, hnwag_9, hnsay_9⟩ := JR.get hJ0 cm_100
    refine aw_get dX12_law_13 fl_X12_152 e_9 (by omega) rfl ?_
    refine aw_icmp_le (tgt := 21) dX12_law_16 (by decide) (fun c_10 => ?_) (fun c_10 => ?_)
    · skip
      have nc_10 : zn0 ≤ tad_9 := (nI_leI (a := zn0) (b := tad_9) (by omega) (by omega)).mp c_10
      refine aw_aload_n dX12_law_21 rfl ?_
      refine aw_iload_n dX12_law_22 rfl ?_
      refine aw_callVv (J' := jX12_beginsText) (As := [.int (nI zn0)]) (st := []) dX12_law_23 tb_1212 ok_X12_beginsText ⟨_, e_9⟩ (by omega) rfl rfl (r_beginsText l D b N V hN cl hJ0.1 (nI zn0) ⟨zn0, by omega, rfl⟩) rfl (Nat.le_of_ble_eq_true rfl) ⟨Nat.le_of_ble_eq_true rfl, Nat.le_of_ble_eq_true rfl, Nat.le_of_ble_eq_true rfl, Nat.le_of_ble_eq_true rfl⟩ (fun  N_22 V_14 q_23 => ?_)
      obtain ⟨h_12, rfl, q_11⟩ := q_23
      have j_13 := JR.trans hJ0 (JR.weak q_11 (Sub.cons (LMs (LMs LM0)) (by decide) (by decide) (by decide) (Or.inr ⟨by decide, by decide⟩) (Sub.cons (LMs (LMs (LMs LM0))) (by decide) (by decide) (by decide) (Or.inr ⟨by decide, by decide⟩) (Sub.cons (LMs (LMs (LMs (LMs LM0)))) (by decide) (by decide) (by decide) (Or.inr ⟨by decide, by decide⟩) (Sub.cons (LMs (LMs (LMs (LMs (LMs LM0))))) (by decide) (by decide) (by decide) (Or.inr ⟨by decide, by decide⟩) Sub.nil)))))
      obtain ⟨hB_15, hB_17, hB_18, hB_19, hB_20, hB_16⟩ := h_12
      have hk_k21 : zn0 = hB_19 := (nI_eq (by omega) (by omega)).mp hB_20.1
      obtain ⟨ftoldPeople_k21, ftoldDoors_k21, fwasDoors_k21, ffault_k21, fopen_k21, flines_k21, fmeantSet_k21, fopenedNow_k21, fvainNow_k21, flowNow_k21, fhighNow_k21, fisKept_k21, tad_k21, pl0_k21, le0_k21, nu0_k21, coy_k21, wag_k21, say_k21, e_k21, hntad_k21, hnpl0_k21, hnle0_k21, hnnu0_k21, hncoy_k21, hnwag_k21, hnsay_k21⟩ := JR.get j_13 cm_100
      have hq0_k21 := FG.eq hB_15 e_k21 rfl (by omega) (by omega)
      have hq1_k21 := FG.eq hB_16 e_k21 rfl (by omega) (by omega)
      have hq2_k21 := FG.eq hB_17 e_k21 rfl (by omega) (by omega)
      have hq3_k21 := FG.eq hB_18 e_k21 rfl (by omega) (by omega)
      obtain ⟨g_24, e_24⟩ := JR.get j_13 cm_110
      obtain ⟨g_25, e_25⟩ := JR.get j_13 cm_111
      obtain ⟨g_26, e_26⟩ := JR.get j_13 cm_112
      obtain ⟨g_27, e_27⟩ := JR.get j_13 cm_113
      obtain ⟨g_28, e_28⟩ := JR.get j_13 cm_114
      obtain ⟨g_29, e_29⟩ := JR.get j_13 cm_115
      obtain ⟨g_30, e_30⟩ := JR.get j_13 cm_116
      refine aw_aload_n dX12_law_26 rfl ?_
      refine aw_callVi (J' := jX12_readsRule) (As := []) (st := []) dX12_law_27 tb_1216 ok_X12_readsRule ⟨_, e_k21⟩ (by omega) rfl rfl (r_readsRule l D b N V_14 hN cl j_13.1 g_24 g_25 g_26 g_27 g_28 g_29 g_30 pl0_k21 le0_k21 coy_k21 say_k21 ⟨e_24, e_25, e_26, e_27, e_28, e_29, e_30, (FG.of e_k21 rfl rfl), (FG.of e_k21 rfl (by omega : le0_k21 = le0_k21)), (FG.of e_k21 rfl rfl), (FG.of e_k21 rfl rfl), ⟨by omega, by omega, by omega, by omega⟩, (fun q hq => absurd hq (by omega))⟩) rfl (Nat.le_of_ble_eq_true rfl) ⟨Nat.le_of_ble_eq_true rfl, Nat.le_of_ble_eq_true rfl, Nat.le_of_ble_eq_true rfl, Nat.le_of_ble_eq_true rfl⟩ (fun r_36 N_37 V_35 q_38 => ?_)
      obtain ⟨⟨z_33, h_32⟩, rfl, q_31⟩ := q_38
      have j_34 := JR.trans j_13 (JR.weak q_31 (Sub.cons LM0 (by decide) (by decide) (by decide) (Or.inl rfl) (Sub.cons (LMs (LMs LM0)) (by decide) (by decide) (by decide) (Or.inr ⟨by decide, by decide⟩) (Sub.cons (LMs (LMs (LMs (LMs (LMs (LMs LM0)))))) (by decide) (by decide) (by decide) (Or.inr ⟨by decide, by decide⟩) (Sub.cons (LMs (LMs (LMs (LMs (LMs (LMs (LMs LM0))))))) (by decide) (by decide) (by decide) (Or.inr ⟨by decide, by decide⟩) (Sub.cons (LMs (LMs (LMs (LMs LM0)))) (by decide) (by decide) (by decide) (Or.inr ⟨by decide, by decide⟩) (Sub.cons (LMs (LMs (LMs (LMs (LMs (LMs (LMs (LMs LM0)))))))) (by decide) (by decide) (by decide) (Or.inr ⟨by decide, by decide⟩) (Sub.cons (LMs (LMs (LMs (LMs (LMs (LMs (LMs (LMs (LMs LM0))))))))) (by decide) (by decide) (by decide) (Or.inr ⟨by decide, by decide⟩) (Sub.cons (LMs (LMs (LMs (LMs (LMs LM0))))) (by decide) (by decide) (by decide) (Or.inr ⟨by decide, by decide⟩) Sub.nil)))))))))
      rcases h_32 with hz | hz
      · skip
        refine aw_eqi (y := 0) hz ?_
        refine aw_istore_n (ls' := [some (.ref (b + 100)), some (.int (nI zn0)), some (.int 0), none]) dX12_law_30 (Nat.le_of_ble_eq_true rfl) rfl ?_
        have ml_31_39 : ∀ (m : Nat) (a31 : Nat) (c31 : Nat) (m31 : Nat) (sd31 : Nat → Int32) (wa31 : Nat → Int32) (sl31 : Nat → Int32) (sf31 : Nat → Int32) (sh31 : Nat → Int32) (st31 : Nat → Int32) (v31_2 : Int32) (V31 : Wd), m = (if v31_2 = 0 then 0 else 1 + (240 - a31)) → (JR D b N cl [(111, 121, 0, 1000000), (100, 100, 22, 22), (100, 100, 14, 14), (100, 100, 15, 15), (100, 100, 19, 19), (100, 100, 21, 21), (100, 100, 18, 18), (100, 100, 20, 20), (100, 100, 16, 16), (100, 100, 17, 17), (100, 100, 13, 13)] V V31) → (v31_2 = 0 ∨ RX D b V31 g_24 a31 le0_k21 c31 sd31 wa31 sl31 sf31 sh31 st31 m31) → AW l D b jX12_law (fx_rm 8 0 0) none (fx_MQ D b 0 0 (fx_qi (fun r N9 V9 => N = N9 ∧ ∃ cl9, CR D b cl9 V9 ∧ (∀ i, (i < 100 ∨ 133 ≤ i) → i < N → V9 i = V i) ∧ WF D cl9 V9 ∧ (∀ i k, 100 ≤ i → i < 133 → fwB [(111, 121, 0, 1000000), (100, 100, 22, 22), (100, 100, 14, 14), (100, 100, 15, 15), (100, 100, 19, 19), (100, 100, 21, 21), (100, 100, 18, 18), (100, 100, 20, 20), (100, 100, 16, 16), (100, 100, 17, 17), (100, 100, 13, 13)] i k = false → pj (V9 i) k = pj (V i) k)))) 31 [some (.ref (b + 100)), some (.int (nI zn0)), some (.int v31_2), none] [] N V31 0 0 := by
          intro m; refine Nat.strongRecOn m ?_
          intro m mih_31_39 a31 c31 m31 sd31 wa31 sl31 sf31 sh31 st31 v31_2 V31 hm31 i31_0 i31_1
          refine aw_iload_n dX12_law_31 rfl ?_
          refine aw_if_eq (tgt := 71) dX12_law_32 (by decide) (fun c_40 => ?_) (fun c_40 => ?_)
          · skip
            refine aw_aload_n dX12_law_71 rfl ?_
            refine aw_iconst (v := 0) dX12_law_72 (by decide) ?_
            obtain ⟨ftoldPeople_41, ftoldDoors_41, fwasDoors_41, ffault_41, fopen_41, flines_41, fmeantSet_41, fopenedNow_41, fvainNow_41, flowNow_41, fhighNow_41, fisKept_41, tad_41, pl0_41, le0_41, nu0_41, coy_41, wag_41, say_41, e_41, hntad_41, hnpl0_41, hnle0_41, hnnu0_41, hncoy_41, hnwag_41, hnsay_41⟩ := JR.get i31_0 cm_100
            refine aw_put dX12_law_73 fp_X12_152 e_41 (by omega) rfl rfl (Nat.le_of_ble_eq_true rfl) rfl ?_
            refine aw_upR i31_0 cm_100 ⟨_, _, _, _, _, _, _, _, _, _, _, _, 0, pl0_41, le0_41, nu0_41, coy_41, wag_41, say_41, rfl, by omega, by omega, by omega, by omega, by omega, by omega, by omega⟩ (by decide) (WO (s := 13) (x := .int 0) e_41 rfl (LMs (LMs (LMs (LMs (LMs (LMs (LMs (LMs (LMs (LMs LM0)))))))))) (by decide) (by decide) (by decide) (Or.inl (by decide))) (fun V_42 j_42 k_42 e_42 => ?_)
            refine aw_iload_n dX12_law_76 rfl ?_
            refine aw_if_ne (tgt := 85) dX12_law_77 (by decide) (fun c_43 => ?_) (fun c_43 => ?_)
            · first | exact absurd c_43 c_40 | exact absurd c_40 c_43 | exact absurd c_43 (Int32.not_lt.mpr c_40) | exact absurd c_40 (Int32.not_lt.mpr c_43) | exact c_40 (Int32.not_lt.mp c_43) | exact c_40 (Int32.not_le.mp c_43)
            refine aw_aload_n dX12_law_80 rfl ?_
            refine aw_get dX12_law_81 fl_X12_169 e_42 (by omega) rfl ?_
            refine aw_ireti dX12_law_84 rfl (Nat.le_of_ble_eq_true rfl) (Nat.le_of_ble_eq_true rfl) ?_
            exact ⟨rfl, cl, j_42.1, j_42.2.1, WF.fr hwf j_42.2.2.1, j_42.2.2.2⟩
          · skip
            have hX31 := i31_1.resolve_left c_40
            obtain ⟨xg_r44, xs_r44, xw_r44, xa_r44, xb_r44, xd_r44, xe_r44, xp_r44, xl_r44, xc_r44, xm_r44, ⟨hB1_r44, hB2_r44, hB3_r44, hB4_r44⟩, hR_r44⟩ := hX31
            obtain ⟨ftoldPeople_45, ftoldDoors_45, fwasDoors_45, ffault_45, fopen_45, flines_45, fmeantSet_45, fopenedNow_45, fvainNow_45, flowNow_45, fhighNow_45, fisKept_45, tad_45, pl0_45, le0_45, nu0_45, coy_45, wag_45, say_45, e_45, hntad_45, hnpl0_45, hnle0_45, hnnu0_45, hncoy_45, hnwag_45, hnsay_45⟩ := JR.get i31_0 cm_100
            have sb_r44pl := FG.eq xp_r44 e_45 rfl (by omega) (by omega)
            subst sb_r44pl
            have sb_r44cm := FG.eq xc_r44 e_45 rfl (by omega) (by omega)
            subst sb_r44cm
            have sb_r44sm := FG.eq xm_r44 e_45 rfl (by omega) (by omega)
            subst sb_r44sm
            have sb_r44ln := FG.eq xl_r44 e_45 rfl (by omega) (by omega)
            refine aw_aload_n dX12_law_35 rfl ?_
            refine aw_get dX12_law_36 fl_X12_159 e_45 (by omega) rfl ?_
            refine aw_aload_n dX12_law_39 rfl ?_
            refine aw_get dX12_law_40 fl_X12_162 e_45 (by omega) rfl ?_
            refine aw_icmp_ge (tgt := 71) dX12_law_43 (by decide) (fun c_46 => ?_) (fun c_46 => ?_)
            · skip
              have nc_46 : le0_45 ≤ pl0_45 := (nI_leI (a := le0_45) (b := pl0_45) (by omega) (by omega)).mp c_46
              refine aw_aload_n dX12_law_71 rfl ?_
              refine aw_iconst (v := 0) dX12_law_72 (by decide) ?_
              refine aw_put dX12_law_73 fp_X12_152 e_45 (by omega) rfl rfl (Nat.le_of_ble_eq_true rfl) rfl ?_
              refine aw_upR i31_0 cm_100 ⟨_, _, _, _, _, _, _, _, _, _, _, _, 0, pl0_45, le0_45, nu0_45, coy_45, wag_45, say_45, rfl, by omega, by omega, by omega, by omega, by omega, by omega, by omega⟩ (by decide) (WO (s := 13) (x := .int 0) e_45 rfl (LMs (LMs (LMs (LMs (LMs (LMs (LMs (LMs (LMs (LMs LM0)))))))))) (by decide) (by decide) (by decide) (Or.inl (by decide))) (fun V_47 j_47 k_47 e_47 => ?_)
              refine aw_iload_n dX12_law_76 rfl ?_
              refine aw_if_ne (tgt := 85) dX12_law_77 (by decide) (fun c_48 => ?_) (fun c_48 => ?_)
              rotate_left
              · first | exact absurd c_40 c_48 | exact absurd c_48 c_40
              exact r_lawtail l D b N V V_47 hN cl j_47 ftoldPeople_45 ftoldDoors_45 fwasDoors_45 ffault_45 fopen_45 flines_45 fmeantSet_45 fopenedNow_45 fvainNow_45 flowNow_45 fhighNow_45 fisKept_45 0 pl0_45 le0_45 nu0_45 coy_45 wag_45 say_45 ⟨by omega, by omega, by omega, by omega, by omega, by omega, by omega⟩ e_47 sd31 wa31 sl31 sf31 sh31 st31 ((k_47 _ (by decide)).trans xs_r44) ((k_47 _ (by decide)).trans xa_r44) ((k_47 _ (by decide)).trans xb_r44) ((k_47 _ (by decide)).trans xd_r44) ((k_47 _ (by decide)).trans xe_r44) (by omega) hR_r44 _ _
            · skip
              have nc_46 : ¬ (le0_45 ≤ pl0_45) := fun z => c_46 ((nI_leI (a := le0_45) (b := pl0_45) (by omega) (by omega)).mpr z)
              refine aw_aload_n dX12_law_46 rfl ?_
              refine aw_bipush (v := 59) dX12_law_47 (by decide) ?_
              refine aw_callVi (J' := jX12_takes) (As := [.int 59]) (st := []) dX12_law_49 tb_1291 ok_X12_takes ⟨_, e_45⟩ (by omega) rfl rfl (r_takesF l D b N V31 hN cl i31_0.1 59 ftoldPeople_45 ftoldDoors_45 fwasDoors_45 ffault_45 fopen_45 flines_45 fmeantSet_45 fopenedNow_45 fvainNow_45 flowNow_45 fhighNow_45 fisKept_45 tad_45 pl0_45 le0_45 nu0_45 coy_45 wag_45 say_45 ⟨by omega, by omega, by omega, by omega, by omega, by omega, by omega⟩ e_45 g_24 xg_r44 (by decide)) rfl (Nat.le_of_ble_eq_true rfl) ⟨Nat.le_of_ble_eq_true rfl, Nat.le_of_ble_eq_true rfl, Nat.le_of_ble_eq_true rfl, Nat.le_of_ble_eq_true rfl⟩ (fun r_54 N_55 V_53 q_56 => ?_)
              obtain ⟨⟨z_51, h_50⟩, rfl, q_49⟩ := q_56
              have j_52 := JR.trans i31_0 (JR.weak q_49 (Sub.cons (LMs (LMs LM0)) (by decide) (by decide) (by decide) (Or.inr ⟨by decide, by decide⟩) (Sub.cons (LMs (LMs (LMs (LMs (LMs (LMs (LMs (LMs LM0)))))))) (by decide) (by decide) (by decide) (Or.inr ⟨by decide, by decide⟩) Sub.nil)))
              refine aw_if_eq (tgt := 66) dX12_law_52 (by decide) (fun c_57 => ?_) (fun c_57 => ?_)
              · skip
                refine aw_iconst (v := 0) dX12_law_66 (by decide) ?_
                refine aw_istore_n (ls' := [some (.ref (b + 100)), some (.int (nI zn0)), some (.int 0), none]) dX12_law_67 (Nat.le_of_ble_eq_true rfl) rfl ?_
                refine aw_goto (tgt := 31) dX12_law_68 (by decide) ?_
                refine aw_le ?_ (mih_31_39 _ (by rw [hm31]; exact tl2 c_40 (Or.inl rfl) (by decide)) 0 0 0 (fun _ => 0) (fun _ => 0) (fun _ => 0) (fun _ => 0) (fun _ => 0) (fun _ => 0) 0 V_53 rfl (j_52) (Or.inl rfl))
                exact ⟨rfl, ⟨rfl, ⟨rfl, trivial⟩⟩⟩
              · skip
                obtain ⟨hT_58, hT_59, hT_60⟩ := (h_50.resolve_left c_57)
                refine aw_aload_n dX12_law_55 rfl ?_
                refine aw_callVi (J' := jX12_readsRule) (As := []) (st := []) dX12_law_56 tb_1216 ok_X12_readsRule ⟨_, hT_58⟩ (by omega) rfl rfl (r_readsRule l D b N V_53 hN cl j_52.1 g_24 sd31 wa31 sl31 sf31 sh31 st31 (pl0_45 + 1) le0_k21 coy_45 say_45 ⟨((hT_59 _ (by decide)).trans xg_r44), ((hT_59 _ (by decide)).trans xs_r44), ((hT_59 _ (by decide)).trans xw_r44), ((hT_59 _ (by decide)).trans xa_r44), ((hT_59 _ (by decide)).trans xb_r44), ((hT_59 _ (by decide)).trans xd_r44), ((hT_59 _ (by decide)).trans xe_r44), (FG.of hT_58 rfl rfl), (FG.of hT_58 rfl (by omega : le0_45 = le0_k21)), (FG.of hT_58 rfl rfl), (FG.of hT_58 rfl rfl), ⟨by omega, by omega, by omega, by omega⟩, hR_r44⟩) rfl (Nat.le_of_ble_eq_true rfl) ⟨Nat.le_of_ble_eq_true rfl, Nat.le_of_ble_eq_true rfl, Nat.le_of_ble_eq_true rfl, Nat.le_of_ble_eq_true rfl⟩ (fun r_66 N_67 V_65 q_68 => ?_)
                obtain ⟨⟨z_63, h_62⟩, rfl, q_61⟩ := q_68
                have j_64 := JR.trans j_52 (JR.weak q_61 (Sub.cons LM0 (by decide) (by decide) (by decide) (Or.inl rfl) (Sub.cons (LMs (LMs LM0)) (by decide) (by decide) (by decide) (Or.inr ⟨by decide, by decide⟩) (Sub.cons (LMs (LMs (LMs (LMs (LMs (LMs LM0)))))) (by decide) (by decide) (by decide) (Or.inr ⟨by decide, by decide⟩) (Sub.cons (LMs (LMs (LMs (LMs (LMs (LMs (LMs LM0))))))) (by decide) (by decide) (by decide) (Or.inr ⟨by decide, by decide⟩) (Sub.cons (LMs (LMs (LMs (LMs LM0)))) (by decide) (by decide) (by decide) (Or.inr ⟨by decide, by decide⟩) (Sub.cons (LMs (LMs (LMs (LMs (LMs (LMs (LMs (LMs LM0)))))))) (by decide) (by decide) (by decide) (Or.inr ⟨by decide, by decide⟩) (Sub.cons (LMs (LMs (LMs (LMs (LMs (LMs (LMs (LMs (LMs LM0))))))))) (by decide) (by decide) (by decide) (Or.inr ⟨by decide, by decide⟩) (Sub.cons (LMs (LMs (LMs (LMs (LMs LM0))))) (by decide) (by decide) (by decide) (Or.inr ⟨by decide, by decide⟩) Sub.nil)))))))))
                refine aw_if_eq (tgt := 66) dX12_law_59 (by decide) (fun c_69 => ?_) (fun c_69 => ?_)
                · skip
                  refine aw_iconst (v := 0) dX12_law_66 (by decide) ?_
                  refine aw_istore_n (ls' := [some (.ref (b + 100)), some (.int (nI zn0)), some (.int 0), none]) dX12_law_67 (Nat.le_of_ble_eq_true rfl) rfl ?_
                  refine aw_goto (tgt := 31) dX12_law_68 (by decide) ?_
                  refine aw_le ?_ (mih_31_39 _ (by rw [hm31]; exact tl2 c_40 (Or.inl rfl) (by decide)) 0 0 0 (fun _ => 0) (fun _ => 0) (fun _ => 0) (fun _ => 0) (fun _ => 0) (fun _ => 0) 0 V_65 rfl (j_64) (Or.inl rfl))
                  exact ⟨rfl, ⟨rfl, ⟨rfl, trivial⟩⟩⟩
                · skip
                  obtain ⟨sd_z70, wa_z70, pl_z70, cm_z70, sl_z70, sf_z70, sh_z70, st_z70, hX_z70, hg_z70⟩ := (h_62.resolve_left c_69)
                  refine aw_iconst (v := 1) dX12_law_62 (by decide) ?_
                  refine aw_goto (tgt := 67) dX12_law_63 (by decide) ?_
                  refine aw_istore_n (ls' := [some (.ref (b + 100)), some (.int (nI zn0)), some (.int 1), none]) dX12_law_67 (Nat.le_of_ble_eq_true rfl) rfl ?_
                  refine aw_goto (tgt := 31) dX12_law_68 (by decide) ?_
                  have hbx := hX_z70.2.2.2.2.2.2.2.2.2.2.2.1
                  refine aw_le ?_ (mih_31_39 _ (by rw [hm31]; exact tl2 c_40 (Or.inr (by omega)) (by omega)) pl_z70 cm_z70 (say_45 + 1) sd_z70 wa_z70 sl_z70 sf_z70 sh_z70 st_z70 1 V_65 rfl (j_64) (Or.inr hX_z70))
                  exact ⟨rfl, ⟨rfl, ⟨rfl, trivial⟩⟩⟩
        refine aw_le ?_ (ml_31_39 _ 0 0 0 (fun _ => 0) (fun _ => 0) (fun _ => 0) (fun _ => 0) (fun _ => 0) (fun _ => 0) 0 V_35 rfl (j_34) (Or.inl rfl))
        exact ⟨rfl, ⟨rfl, ⟨rfl, trivial⟩⟩⟩
      · skip
        obtain ⟨sd_z71, wa_z71, pl_z71, cm_z71, sl_z71, sf_z71, sh_z71, st_z71, hX_z71, hg_z71⟩ := hz
        refine aw_istore_n (ls' := [some (.ref (b + 100)), some (.int (nI zn0)), some (.int r_36), none]) dX12_law_30 (Nat.le_of_ble_eq_true rfl) rfl ?_
        have ml_31_72 : ∀ (m : Nat) (a31 : Nat) (c31 : Nat) (m31 : Nat) (sd31 : Nat → Int32) (wa31 : Nat → Int32) (sl31 : Nat → Int32) (sf31 : Nat → Int32) (sh31 : Nat → Int32) (st31 : Nat → Int32) (v31_2 : Int32) (V31 : Wd), m = (if v31_2 = 0 then 0 else 1 + (240 - a31)) → (JR D b N cl [(111, 121, 0, 1000000), (100, 100, 22, 22), (100, 100, 14, 14), (100, 100, 15, 15), (100, 100, 19, 19), (100, 100, 21, 21), (100, 100, 18, 18), (100, 100, 20, 20), (100, 100, 16, 16), (100, 100, 17, 17), (100, 100, 13, 13)] V V31) → (v31_2 = 0 ∨ RX D b V31 g_24 a31 le0_k21 c31 sd31 wa31 sl31 sf31 sh31 st31 m31) → AW l D b jX12_law (fx_rm 8 0 0) none (fx_MQ D b 0 0 (fx_qi (fun r N9 V9 => N = N9 ∧ ∃ cl9, CR D b cl9 V9 ∧ (∀ i, (i < 100 ∨ 133 ≤ i) → i < N → V9 i = V i) ∧ WF D cl9 V9 ∧ (∀ i k, 100 ≤ i → i < 133 → fwB [(111, 121, 0, 1000000), (100, 100, 22, 22), (100, 100, 14, 14), (100, 100, 15, 15), (100, 100, 19, 19), (100, 100, 21, 21), (100, 100, 18, 18), (100, 100, 20, 20), (100, 100, 16, 16), (100, 100, 17, 17), (100, 100, 13, 13)] i k = false → pj (V9 i) k = pj (V i) k)))) 31 [some (.ref (b + 100)), some (.int (nI zn0)), some (.int v31_2), none] [] N V31 0 0 := by
          intro m; refine Nat.strongRecOn m ?_
          intro m mih_31_72 a31 c31 m31 sd31 wa31 sl31 sf31 sh31 st31 v31_2 V31 hm31 i31_0 i31_1
          refine aw_iload_n dX12_law_31 rfl ?_
          refine aw_if_eq (tgt := 71) dX12_law_32 (by decide) (fun c_73 => ?_) (fun c_73 => ?_)
          · skip
            refine aw_aload_n dX12_law_71 rfl ?_
            refine aw_iconst (v := 0) dX12_law_72 (by decide) ?_
            obtain ⟨ftoldPeople_74, ftoldDoors_74, fwasDoors_74, ffault_74, fopen_74, flines_74, fmeantSet_74, fopenedNow_74, fvainNow_74, flowNow_74, fhighNow_74, fisKept_74, tad_74, pl0_74, le0_74, nu0_74, coy_74, wag_74, say_74, e_74, hntad_74, hnpl0_74, hnle0_74, hnnu0_74, hncoy_74, hnwag_74, hnsay_74⟩ := JR.get i31_0 cm_100
            refine aw_put dX12_law_73 fp_X12_152 e_74 (by omega) rfl rfl (Nat.le_of_ble_eq_true rfl) rfl ?_
            refine aw_upR i31_0 cm_100 ⟨_, _, _, _, _, _, _, _, _, _, _, _, 0, pl0_74, le0_74, nu0_74, coy_74, wag_74, say_74, rfl, by omega, by omega, by omega, by omega, by omega, by omega, by omega⟩ (by decide) (WO (s := 13) (x := .int 0) e_74 rfl (LMs (LMs (LMs (LMs (LMs (LMs (LMs (LMs (LMs (LMs LM0)))))))))) (by decide) (by decide) (by decide) (Or.inl (by decide))) (fun V_75 j_75 k_75 e_75 => ?_)
            refine aw_iload_n dX12_law_76 rfl ?_
            refine aw_if_ne (tgt := 85) dX12_law_77 (by decide) (fun c_76 => ?_) (fun c_76 => ?_)
            · first | exact absurd c_76 c_73 | exact absurd c_73 c_76 | exact absurd c_76 (Int32.not_lt.mpr c_73) | exact absurd c_73 (Int32.not_lt.mpr c_76) | exact c_73 (Int32.not_lt.mp c_76) | exact c_73 (Int32.not_le.mp c_76)
            refine aw_aload_n dX12_law_80 rfl ?_
            refine aw_get dX12_law_81 fl_X12_169 e_75 (by omega) rfl ?_
            refine aw_ireti dX12_law_84 rfl (Nat.le_of_ble_eq_true rfl) (Nat.le_of_ble_eq_true rfl) ?_
            exact ⟨rfl, cl, j_75.1, j_75.2.1, WF.fr hwf j_75.2.2.1, j_75.2.2.2⟩
          · skip
            have hX31 := i31_1.resolve_left c_73
            obtain ⟨xg_r77, xs_r77, xw_r77, xa_r77, xb_r77, xd_r77, xe_r77, xp_r77, xl_r77, xc_r77, xm_r77, ⟨hB1_r77, hB2_r77, hB3_r77, hB4_r77⟩, hR_r77⟩ := hX31
            obtain ⟨ftoldPeople_78, ftoldDoors_78, fwasDoors_78, ffault_78, fopen_78, flines_78, fmeantSet_78, fopenedNow_78, fvainNow_78, flowNow_78, fhighNow_78, fisKept_78, tad_78, pl0_78, le0_78, nu0_78, coy_78, wag_78, say_78, e_78, hntad_78, hnpl0_78, hnle0_78, hnnu0_78, hncoy_78, hnwag_78, hnsay_78⟩ := JR.get i31_0 cm_100
            have sb_r77pl := FG.eq xp_r77 e_78 rfl (by omega) (by omega)
            subst sb_r77pl
            have sb_r77cm := FG.eq xc_r77 e_78 rfl (by omega) (by omega)
            subst sb_r77cm
            have sb_r77sm := FG.eq xm_r77 e_78 rfl (by omega) (by omega)
            subst sb_r77sm
            have sb_r77ln := FG.eq xl_r77 e_78 rfl (by omega) (by omega)
            refine aw_aload_n dX12_law_35 rfl ?_
            refine aw_get dX12_law_36 fl_X12_159 e_78 (by omega) rfl ?_
            refine aw_aload_n dX12_law_39 rfl ?_
            refine aw_get dX12_law_40 fl_X12_162 e_78 (by omega) rfl ?_
            refine aw_icmp_ge (tgt := 71) dX12_law_43 (by decide) (fun c_79 => ?_) (fun c_79 => ?_)
            · skip
              have nc_79 : le0_78 ≤ pl0_78 := (nI_leI (a := le0_78) (b := pl0_78) (by omega) (by omega)).mp c_79
              refine aw_aload_n dX12_law_71 rfl ?_
              refine aw_iconst (v := 0) dX12_law_72 (by decide) ?_
              refine aw_put dX12_law_73 fp_X12_152 e_78 (by omega) rfl rfl (Nat.le_of_ble_eq_true rfl) rfl ?_
              refine aw_upR i31_0 cm_100 ⟨_, _, _, _, _, _, _, _, _, _, _, _, 0, pl0_78, le0_78, nu0_78, coy_78, wag_78, say_78, rfl, by omega, by omega, by omega, by omega, by omega, by omega, by omega⟩ (by decide) (WO (s := 13) (x := .int 0) e_78 rfl (LMs (LMs (LMs (LMs (LMs (LMs (LMs (LMs (LMs (LMs LM0)))))))))) (by decide) (by decide) (by decide) (Or.inl (by decide))) (fun V_80 j_80 k_80 e_80 => ?_)
              refine aw_iload_n dX12_law_76 rfl ?_
              refine aw_if_ne (tgt := 85) dX12_law_77 (by decide) (fun c_81 => ?_) (fun c_81 => ?_)
              rotate_left
              · first | exact absurd c_73 c_81 | exact absurd c_81 c_73
              exact r_lawtail l D b N V V_80 hN cl j_80 ftoldPeople_78 ftoldDoors_78 fwasDoors_78 ffault_78 fopen_78 flines_78 fmeantSet_78 fopenedNow_78 fvainNow_78 flowNow_78 fhighNow_78 fisKept_78 0 pl0_78 le0_78 nu0_78 coy_78 wag_78 say_78 ⟨by omega, by omega, by omega, by omega, by omega, by omega, by omega⟩ e_80 sd31 wa31 sl31 sf31 sh31 st31 ((k_80 _ (by decide)).trans xs_r77) ((k_80 _ (by decide)).trans xa_r77) ((k_80 _ (by decide)).trans xb_r77) ((k_80 _ (by decide)).trans xd_r77) ((k_80 _ (by decide)).trans xe_r77) (by omega) hR_r77 _ _
            · skip
              have nc_79 : ¬ (le0_78 ≤ pl0_78) := fun z => c_79 ((nI_leI (a := le0_78) (b := pl0_78) (by omega) (by omega)).mpr z)
              refine aw_aload_n dX12_law_46 rfl ?_
              refine aw_bipush (v := 59) dX12_law_47 (by decide) ?_
              refine aw_callVi (J' := jX12_takes) (As := [.int 59]) (st := []) dX12_law_49 tb_1291 ok_X12_takes ⟨_, e_78⟩ (by omega) rfl rfl (r_takesF l D b N V31 hN cl i31_0.1 59 ftoldPeople_78 ftoldDoors_78 fwasDoors_78 ffault_78 fopen_78 flines_78 fmeantSet_78 fopenedNow_78 fvainNow_78 flowNow_78 fhighNow_78 fisKept_78 tad_78 pl0_78 le0_78 nu0_78 coy_78 wag_78 say_78 ⟨by omega, by omega, by omega, by omega, by omega, by omega, by omega⟩ e_78 g_24 xg_r77 (by decide)) rfl (Nat.le_of_ble_eq_true rfl) ⟨Nat.le_of_ble_eq_true rfl, Nat.le_of_ble_eq_true rfl, Nat.le_of_ble_eq_true rfl, Nat.le_of_ble_eq_true rfl⟩ (fun r_87 N_88 V_86 q_89 => ?_)
              obtain ⟨⟨z_84, h_83⟩, rfl, q_82⟩ := q_89
              have j_85 := JR.trans i31_0 (JR.weak q_82 (Sub.cons (LMs (LMs LM0)) (by decide) (by decide) (by decide) (Or.inr ⟨by decide, by decide⟩) (Sub.cons (LMs (LMs (LMs (LMs (LMs (LMs (LMs (LMs LM0)))))))) (by decide) (by decide) (by decide) (Or.inr ⟨by decide, by decide⟩) Sub.nil)))
              refine aw_if_eq (tgt := 66) dX12_law_52 (by decide) (fun c_90 => ?_) (fun c_90 => ?_)
              · skip
                refine aw_iconst (v := 0) dX12_law_66 (by decide) ?_
                refine aw_istore_n (ls' := [some (.ref (b + 100)), some (.int (nI zn0)), some (.int 0), none]) dX12_law_67 (Nat.le_of_ble_eq_true rfl) rfl ?_
                refine aw_goto (tgt := 31) dX12_law_68 (by decide) ?_
                refine aw_le ?_ (mih_31_72 _ (by rw [hm31]; exact tl2 c_73 (Or.inl rfl) (by decide)) 0 0 0 (fun _ => 0) (fun _ => 0) (fun _ => 0) (fun _ => 0) (fun _ => 0) (fun _ => 0) 0 V_86 rfl (j_85) (Or.inl rfl))
                exact ⟨rfl, ⟨rfl, ⟨rfl, trivial⟩⟩⟩
              · skip
                obtain ⟨hT_91, hT_92, hT_93⟩ := (h_83.resolve_left c_90)
                refine aw_aload_n dX12_law_55 rfl ?_
                refine aw_callVi (J' := jX12_readsRule) (As := []) (st := []) dX12_law_56 tb_1216 ok_X12_readsRule ⟨_, hT_91⟩ (by omega) rfl rfl (r_readsRule l D b N V_86 hN cl j_85.1 g_24 sd31 wa31 sl31 sf31 sh31 st31 (pl0_78 + 1) le0_k21 coy_78 say_78 ⟨((hT_92 _ (by decide)).trans xg_r77), ((hT_92 _ (by decide)).trans xs_r77), ((hT_92 _ (by decide)).trans xw_r77), ((hT_92 _ (by decide)).trans xa_r77), ((hT_92 _ (by decide)).trans xb_r77), ((hT_92 _ (by decide)).trans xd_r77), ((hT_92 _ (by decide)).trans xe_r77), (FG.of hT_91 rfl rfl), (FG.of hT_91 rfl (by omega : le0_78 = le0_k21)), (FG.of hT_91 rfl rfl), (FG.of hT_91 rfl rfl), ⟨by omega, by omega, by omega, by omega⟩, hR_r77⟩) rfl (Nat.le_of_ble_eq_true rfl) ⟨Nat.le_of_ble_eq_true rfl, Nat.le_of_ble_eq_true rfl, Nat.le_of_ble_eq_true rfl, Nat.le_of_ble_eq_true rfl⟩ (fun r_99 N_100 V_98 q_101 => ?_)
                obtain ⟨⟨z_96, h_95⟩, rfl, q_94⟩ := q_101
                have j_97 := JR.trans j_85 (JR.weak q_94 (Sub.cons LM0 (by decide) (by decide) (by decide) (Or.inl rfl) (Sub.cons (LMs (LMs LM0)) (by decide) (by decide) (by decide) (Or.inr ⟨by decide, by decide⟩) (Sub.cons (LMs (LMs (LMs (LMs (LMs (LMs LM0)))))) (by decide) (by decide) (by decide) (Or.inr ⟨by decide, by decide⟩) (Sub.cons (LMs (LMs (LMs (LMs (LMs (LMs (LMs LM0))))))) (by decide) (by decide) (by decide) (Or.inr ⟨by decide, by decide⟩) (Sub.cons (LMs (LMs (LMs (LMs LM0)))) (by decide) (by decide) (by decide) (Or.inr ⟨by decide, by decide⟩) (Sub.cons (LMs (LMs (LMs (LMs (LMs (LMs (LMs (LMs LM0)))))))) (by decide) (by decide) (by decide) (Or.inr ⟨by decide, by decide⟩) (Sub.cons (LMs (LMs (LMs (LMs (LMs (LMs (LMs (LMs (LMs LM0))))))))) (by decide) (by decide) (by decide) (Or.inr ⟨by decide, by decide⟩) (Sub.cons (LMs (LMs (LMs (LMs (LMs LM0))))) (by decide) (by decide) (by decide) (Or.inr ⟨by decide, by decide⟩) Sub.nil)))))))))
                refine aw_if_eq (tgt := 66) dX12_law_59 (by decide) (fun c_102 => ?_) (fun c_102 => ?_)
                · skip
                  refine aw_iconst (v := 0) dX12_law_66 (by decide) ?_
                  refine aw_istore_n (ls' := [some (.ref (b + 100)), some (.int (nI zn0)), some (.int 0), none]) dX12_law_67 (Nat.le_of_ble_eq_true rfl) rfl ?_
                  refine aw_goto (tgt := 31) dX12_law_68 (by decide) ?_
                  refine aw_le ?_ (mih_31_72 _ (by rw [hm31]; exact tl2 c_73 (Or.inl rfl) (by decide)) 0 0 0 (fun _ => 0) (fun _ => 0) (fun _ => 0) (fun _ => 0) (fun _ => 0) (fun _ => 0) 0 V_98 rfl (j_97) (Or.inl rfl))
                  exact ⟨rfl, ⟨rfl, ⟨rfl, trivial⟩⟩⟩
                · skip
                  obtain ⟨sd_z103, wa_z103, pl_z103, cm_z103, sl_z103, sf_z103, sh_z103, st_z103, hX_z103, hg_z103⟩ := (h_95.resolve_left c_102)
                  refine aw_iconst (v := 1) dX12_law_62 (by decide) ?_
                  refine aw_goto (tgt := 67) dX12_law_63 (by decide) ?_
                  refine aw_istore_n (ls' := [some (.ref (b + 100)), some (.int (nI zn0)), some (.int 1), none]) dX12_law_67 (Nat.le_of_ble_eq_true rfl) rfl ?_
                  refine aw_goto (tgt := 31) dX12_law_68 (by decide) ?_
                  have hbx := hX_z103.2.2.2.2.2.2.2.2.2.2.2.1
                  refine aw_le ?_ (mih_31_72 _ (by rw [hm31]; exact tl2 c_73 (Or.inr (by omega)) (by omega)) pl_z103 cm_z103 (say_78 + 1) sd_z103 wa_z103 sl_z103 sf_z103 sh_z103 st_z103 1 V_98 rfl (j_97) (Or.inr hX_z103))
                  exact ⟨rfl, ⟨rfl, ⟨rfl, trivial⟩⟩⟩
        refine aw_le ?_ (ml_31_72 _ pl_z71 cm_z71 (say_k21 + 1) sd_z71 wa_z71 sl_z71 sf_z71 sh_z71 st_z71 r_36 V_35 rfl (j_34) (Or.inr hX_z71))
        exact ⟨rfl, ⟨rfl, ⟨rfl, trivial⟩⟩⟩
    · skip
      have nc_10 : ¬ (zn0 ≤ tad_9) := fun z => c_10 ((nI_leI (a := zn0) (b := tad_9) (by omega) (by omega)).mpr z)
      refine aw_iconst (v := (-1)) dX12_law_19 (by decide) ?_
      refine aw_ireti dX12_law_20 rfl (Nat.le_of_ble_eq_true rfl) (Nat.le_of_ble_eq_true rfl) ?_
      exact ⟨rfl, cl, hJ0.1, hJ0.2.1, WF.fr hwf hJ0.2.2.1, hJ0.2.2.2⟩
