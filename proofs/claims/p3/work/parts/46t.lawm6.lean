set_option maxHeartbeats 4000000 in
set_option maxRecDepth 100000 in
theorem r_takes3 (l : Launch) (D : va_G) (b : Nat) (N : Nat) (V : Wd) (hN : 133 ≤ N) (cl : Nat) (hW : CR D b cl V) (n0 : Int32) (ftoldPeople_0 : Int32) (ftoldDoors_0 : Int32) (fwasDoors_0 : Int32) (ffault_0 : Int32) (fopen_0 : Int32) (flines_0 : Int32) (fmeantSet_0 : Int32) (fopenedNow_0 : Int32) (fvainNow_0 : Int32) (flowNow_0 : Int32) (fhighNow_0 : Int32) (fisKept_0 : Int32) (tad_0 : Nat) (pl0_0 : Nat) (le0_0 : Nat) (nu0_0 : Nat) (coy_0 : Nat) (wag_0 : Nat) (say_0 : Nat) (hn0 : tad_0 ≤ 260 ∧ pl0_0 ≤ 240 ∧ le0_0 ≤ 240 ∧ nu0_0 ≤ 99999 ∧ coy_0 ≤ 260 ∧ wag_0 ≤ 260 ∧ say_0 ≤ 16) (h100 : V 100 = cO 11 [.ref (b + 101), .ref (b + 102), .ref (b + 103), .ref (b + 104), .ref (b + 105), .ref (b + 106), .ref (b + 107), .ref (b + 108), .ref (b + 109), .int ftoldPeople_0, .int ftoldDoors_0, .int fwasDoors_0, .ref (b + 110), .int (nI tad_0), .int (nI pl0_0), .int (nI le0_0), .int ffault_0, .int (nI nu0_0), .int fopen_0, .int (nI coy_0), .int (nI wag_0), .int (nI say_0), .int (nI cl), .ref (b + 111), .ref (b + 112), .ref (b + 113), .ref (b + 114), .ref (b + 115), .ref (b + 116), .ref (b + 117), .ref (b + 118), .ref (b + 119), .ref (b + 120), .ref (b + 121), .ref (b + 122), .ref (b + 123), .int flines_0, .int fmeantSet_0, .int fopenedNow_0, .int fvainNow_0, .ref (b + 124), .ref (b + 125), .ref (b + 126), .ref (b + 127), .ref (b + 128), .int flowNow_0, .int fhighNow_0, .ref (b + 129), .ref (b + 130), .ref (b + 131), .ref (b + 132), .int fisKept_0]) (g : Nat → Int32) (hg : V 110 = cB D 260 g) (hz0 : 0 ≤ n0) : MI l D b 1 jX12_takes [.ref (b + 100), .int n0] N V 0 0 (fun r N9 V9 => ((r = 0 ∨ r = 1) ∧ ((r = 0 ∧ ¬ hereF g pl0_0 le0_0 = n0 ∧ fI (V9 100) 16 = flt 1 pl0_0) ∨ (r = 1 ∧ (hereF g pl0_0 le0_0 = n0 ∧ V9 100 = cO 11 [.ref (b + 101), .ref (b + 102), .ref (b + 103), .ref (b + 104), .ref (b + 105), .ref (b + 106), .ref (b + 107), .ref (b + 108), .ref (b + 109), .int ftoldPeople_0, .int ftoldDoors_0, .int fwasDoors_0, .ref (b + 110), .int (nI tad_0), .int (nI (pl0_0 + 1)), .int (nI le0_0), .int ffault_0, .int (nI nu0_0), .int fopen_0, .int (nI coy_0), .int (nI wag_0), .int (nI say_0), .int (nI cl), .ref (b + 111), .ref (b + 112), .ref (b + 113), .ref (b + 114), .ref (b + 115), .ref (b + 116), .ref (b + 117), .ref (b + 118), .ref (b + 119), .ref (b + 120), .ref (b + 121), .ref (b + 122), .ref (b + 123), .int flines_0, .int fmeantSet_0, .int fopenedNow_0, .int fvainNow_0, .ref (b + 124), .ref (b + 125), .ref (b + 126), .ref (b + 127), .ref (b + 128), .int flowNow_0, .int fhighNow_0, .ref (b + 129), .ref (b + 130), .ref (b + 131), .ref (b + 132), .int fisKept_0] ∧ (∀ i, i ≠ 100 → V9 i = V i) ∧ pl0_0 < le0_0)))) ∧ N = N9 ∧ JR D b N cl [(100, 100, 14, 14), (100, 100, 16, 16)] V V9) := by
  have hJ0 : JR D b N cl [(100, 100, 14, 14), (100, 100, 16, 16)] V V := JR.rf hW
  obtain ⟨hb_tad, hb_pl0, hb_le0, hb_nu0, hb_coy, hb_wag, hb_say⟩ := id hn0
  refine mw_of (by decide) (by simp [Value.category]) (Nat.le_of_ble_eq_true rfl) ?_
  show AW l D b jX12_takes (fx_rm 1 0 0) none (fx_MQ D b 0 0 (fx_qi (fun r N9 V9 => ((r = 0 ∨ r = 1) ∧ ((r = 0 ∧ ¬ hereF g pl0_0 le0_0 = n0 ∧ fI (V9 100) 16 = flt 1 pl0_0) ∨ (r = 1 ∧ (hereF g pl0_0 le0_0 = n0 ∧ V9 100 = cO 11 [.ref (b + 101), .ref (b + 102), .ref (b + 103), .ref (b + 104), .ref (b + 105), .ref (b + 106), .ref (b + 107), .ref (b + 108), .ref (b + 109), .int ftoldPeople_0, .int ftoldDoors_0, .int fwasDoors_0, .ref (b + 110), .int (nI tad_0), .int (nI (pl0_0 + 1)), .int (nI le0_0), .int ffault_0, .int (nI nu0_0), .int fopen_0, .int (nI coy_0), .int (nI wag_0), .int (nI say_0), .int (nI cl), .ref (b + 111), .ref (b + 112), .ref (b + 113), .ref (b + 114), .ref (b + 115), .ref (b + 116), .ref (b + 117), .ref (b + 118), .ref (b + 119), .ref (b + 120), .ref (b + 121), .ref (b + 122), .ref (b + 123), .int flines_0, .int fmeantSet_0, .int fopenedNow_0, .int fvainNow_0, .ref (b + 124), .ref (b + 125), .ref (b + 126), .ref (b + 127), .ref (b + 128), .int flowNow_0, .int fhighNow_0, .ref (b + 129), .ref (b + 130), .ref (b + 131), .ref (b + 132), .int fisKept_0] ∧ (∀ i, i ≠ 100 → V9 i = V i) ∧ pl0_0 < le0_0)))) ∧ N = N9 ∧ JR D b N cl [(100, 100, 14, 14), (100, 100, 16, 16)] V V9))) 0 [some (.ref (b + 100)), some (.int n0)] [] N V 0 0
  refine aw_aload_n dX12_takes_0 rfl ?_
  refine aw_callVi (J' := jX12_here) (As := []) (st := []) dX12_takes_1 tb_1220 ok_X12_here ⟨_, h100⟩ (by omega) rfl rfl (r_here l D b N V hN cl hJ0.1 g hg pl0_0 le0_0 (FG.of h100 rfl rfl) (FG.of h100 rfl rfl) ⟨by omega, by omega⟩) rfl (Nat.le_of_ble_eq_true rfl) ⟨Nat.le_of_ble_eq_true rfl, Nat.le_of_ble_eq_true rfl, Nat.le_of_ble_eq_true rfl, Nat.le_of_ble_eq_true rfl⟩ (fun r_3 N_4 V_5 q_6 => ?_)
  obtain ⟨h_2, rfl, rfl⟩ := q_6
  refine aw_iload_n dX12_takes_4 rfl ?_
  refine aw_icmp_eq (tgt := 18) dX12_takes_5 (by decide) (fun c_7 => ?_) (fun c_7 => ?_)
  · skip
    have hlc_7 := here_ltn h_2 c_7 hz0
    refine aw_aload_n dX12_takes_18 rfl ?_
    refine aw_aload_n dX12_takes_19 rfl ?_
    refine aw_get dX12_takes_20 fl_X12_159 h100 (by omega) rfl ?_
    refine aw_iconst (v := 1) dX12_takes_23 (by decide) ?_
    refine aw_iadd dX12_takes_24 ?_
    refine aw_eqi (y := nI (pl0_0 + 1)) (nI_add _ _) ?_
    refine aw_put dX12_takes_25 fp_X12_159 h100 (by omega) rfl rfl (Nat.le_of_ble_eq_true rfl) rfl ?_
    refine aw_upR hJ0 cm_100 ⟨_, _, _, _, _, _, _, _, _, _, _, _, tad_0, (pl0_0 + 1), le0_0, nu0_0, coy_0, wag_0, say_0, rfl, by omega, by omega, by omega, by omega, by omega, by omega, by omega⟩ (by decide) (WO (s := 14) (x := .int (nI (pl0_0 + 1))) h100 rfl LM0 (by decide) (by decide) (by decide) (Or.inl (by decide))) (fun V_8 j_8 k_8 e_8 => ?_)
    refine aw_iconst (v := 1) dX12_takes_28 (by decide) ?_
    refine aw_zreti dX12_takes_29 rfl (by first | exact Or.inl rfl | exact Or.inr rfl | assumption) (Nat.le_of_ble_eq_true rfl) (Nat.le_of_ble_eq_true rfl) ?_
    exact ⟨⟨(by first | exact Or.inl rfl | exact Or.inr rfl | assumption), Or.inr ⟨rfl, (h_2.symm.trans c_7), e_8, fun i h100 => k_8 i h100, by omega⟩⟩, rfl, j_8⟩
  · skip
    refine aw_aload_n dX12_takes_8 rfl ?_
    refine aw_iconst (v := 1) dX12_takes_9 (by decide) ?_
    refine aw_aload_n dX12_takes_10 rfl ?_
    refine aw_get dX12_takes_11 fl_X12_159 h100 (by omega) rfl ?_
    refine aw_callVi (J' := jX12_wrongAt) (As := [.int 1, .int (nI pl0_0)]) (st := []) dX12_takes_14 tb_1224 ok_X12_wrongAt ⟨_, h100⟩ (by omega) rfl rfl (r_wrongAt3 l D b N V hN cl hJ0.1 1 (nI pl0_0) pl0_0 le0_0 (FG.of h100 rfl rfl) (FG.of h100 rfl rfl) ⟨by omega, by omega⟩) rfl (Nat.le_of_ble_eq_true rfl) ⟨Nat.le_of_ble_eq_true rfl, Nat.le_of_ble_eq_true rfl, Nat.le_of_ble_eq_true rfl, Nat.le_of_ble_eq_true rfl⟩ (fun r_23 N_24 V_13 q_25 => ?_)
    obtain ⟨⟨z_11, h_10⟩, rfl, q_9⟩ := q_25
    have j_12 := JR.trans hJ0 (JR.weak q_9 (Sub.cons (LMs LM0) (by decide) (by decide) (by decide) (Or.inr ⟨by decide, by decide⟩) Sub.nil))
    obtain ⟨a_14, ha_15, hA_16, hF_17, hL_18, hz_19, hX_20⟩ := h_10
    obtain ⟨ftoldPeople_k21, ftoldDoors_k21, fwasDoors_k21, ffault_k21, fopen_k21, flines_k21, fmeantSet_k21, fopenedNow_k21, fvainNow_k21, flowNow_k21, fhighNow_k21, fisKept_k21, tad_k21, pl0_k21, le0_k21, nu0_k21, coy_k21, wag_k21, say_k21, e_k21, hntad_k21, hnpl0_k21, hnle0_k21, hnnu0_k21, hncoy_k21, hnwag_k21, hnsay_k21⟩ := JR.get j_12 cm_100
    have hqp_k21 := FG.eq hF_17 e_k21 rfl (by omega) (by omega)
    have hql_k21 := FG.eq hL_18 e_k21 rfl (by omega) (by omega)
    obtain ⟨rfl, hw_22⟩ := hX_20
    refine aw_zreti dX12_takes_17 rfl (by first | exact Or.inl rfl | exact Or.inr rfl | assumption) (Nat.le_of_ble_eq_true rfl) (Nat.le_of_ble_eq_true rfl) ?_
    exact ⟨⟨(by first | exact Or.inl rfl | exact Or.inr rfl | assumption), Or.inl ⟨rfl, (fun e => c_7 (h_2.trans e)), hw_22⟩⟩, rfl, j_12⟩

theorem lawA_ofm {D : va_G} {V : Wd} {g : Nat → Int32} {m : Nat} {n : Int32} (e : V 110 = cB D 260 g) (em : n = nI m) (hm : m ≤ 240) : lawA (gb (fI (V 110))) n = cod (txL (gb g) m 16 0) := by
  have hf : fI (V 110) = g := funext fun k => by rw [e]; rfl
  rw [lawA, hf, em, nI_clamp (by omega)]

set_option maxHeartbeats 20000000 in
set_option maxRecDepth 100000 in
theorem r_lawtail3 (l : Launch) (D : va_G) (b : Nat) (N : Nat) (V0 V : Wd) (hN : 133 ≤ N) (cl : Nat) (hJ0 : JR D b N cl [(111, 121, 0, 1000000), (100, 100, 22, 22), (100, 100, 14, 14), (100, 100, 15, 15), (100, 100, 19, 19), (100, 100, 21, 21), (100, 100, 18, 18), (100, 100, 20, 20), (100, 100, 16, 16), (100, 100, 17, 17), (100, 100, 13, 13)] V0 V) (ftoldPeople_0 : Int32) (ftoldDoors_0 : Int32) (fwasDoors_0 : Int32) (ffault_0 : Int32) (fopen_0 : Int32) (flines_0 : Int32) (fmeantSet_0 : Int32) (fopenedNow_0 : Int32) (fvainNow_0 : Int32) (flowNow_0 : Int32) (fhighNow_0 : Int32) (fisKept_0 : Int32) (tad_0 : Nat) (pl0_0 : Nat) (le0_0 : Nat) (nu0_0 : Nat) (coy_0 : Nat) (wag_0 : Nat) (say_0 : Nat) (hn0 : tad_0 ≤ 260 ∧ pl0_0 ≤ 240 ∧ le0_0 ≤ 240 ∧ nu0_0 ≤ 99999 ∧ coy_0 ≤ 260 ∧ wag_0 ≤ 260 ∧ say_0 ≤ 16) (h100 : V 100 = cO 11 [.ref (b + 101), .ref (b + 102), .ref (b + 103), .ref (b + 104), .ref (b + 105), .ref (b + 106), .ref (b + 107), .ref (b + 108), .ref (b + 109), .int ftoldPeople_0, .int ftoldDoors_0, .int fwasDoors_0, .ref (b + 110), .int (nI tad_0), .int (nI pl0_0), .int (nI le0_0), .int ffault_0, .int (nI nu0_0), .int fopen_0, .int (nI coy_0), .int (nI wag_0), .int (nI say_0), .int (nI cl), .ref (b + 111), .ref (b + 112), .ref (b + 113), .ref (b + 114), .ref (b + 115), .ref (b + 116), .ref (b + 117), .ref (b + 118), .ref (b + 119), .ref (b + 120), .ref (b + 121), .ref (b + 122), .ref (b + 123), .int flines_0, .int fmeantSet_0, .int fopenedNow_0, .int fvainNow_0, .ref (b + 124), .ref (b + 125), .ref (b + 126), .ref (b + 127), .ref (b + 128), .int flowNow_0, .int fhighNow_0, .ref (b + 129), .ref (b + 130), .ref (b + 131), .ref (b + 132), .int fisKept_0]) (sd wa sl sf sh st : Nat → Int32) (hsd : V 111 = cI D 260 sd) (h113 : V 113 = cI D 16 sl) (h114 : V 114 = cI D 16 sf) (h115 : V 115 = cI D 16 sh) (h116 : V 116 = cI D 16 st) (hcm : coy_0 ≤ 240) (hR : RI sd sf sh st say_0 coy_0) (x1 x2 : Int32) (C : Prop) (A9 : Int32) (hC : C) (hA9 : nI say_0 = A9) (h13 : fI (V 100) 13 = 0) : AW l D b jX12_law (fx_rm 8 0 0) none (fx_MQ D b 0 0 (fx_qi (fun r N9 V9 => N = N9 ∧ ∃ cl9, CR D b cl9 V9 ∧ (∀ i, (i < 100 ∨ 133 ≤ i) → i < N → V9 i = V0 i) ∧ WF D cl9 V9 ∧ (∀ i k, 100 ≤ i → i < 133 → fwB [(111, 121, 0, 1000000), (100, 100, 22, 22), (100, 100, 14, 14), (100, 100, 15, 15), (100, 100, 19, 19), (100, 100, 21, 21), (100, 100, 18, 18), (100, 100, 20, 20), (100, 100, 16, 16), (100, 100, 17, 17), (100, 100, 13, 13)] i k = false → pj (V9 i) k = pj (V0 i) k) ∧ ANS C r A9 ∧ TKS C (fI (V0 100) 13) (fI (V9 100) 13)))) 85 [some (.ref (b + 100)), some (.int x1), some (.int x2), none] [] N V 0 0 := by
  obtain ⟨hb_tad, hb_pl0, hb_le0, hb_nu0, hb_coy, hb_wag, hb_say⟩ := id hn0
  refine aw_aload_n dX12_law_85 rfl ?_
  refine aw_aload_n dX12_law_86 rfl ?_
  refine aw_get dX12_law_87 fl_X12_236 h100 (by omega) rfl ?_
  refine aw_put dX12_law_90 fp_X12_251 h100 (by omega) rfl rfl (Nat.le_of_ble_eq_true rfl) rfl ?_
  refine aw_cl (cl' := say_0) hJ0 ⟨_, _, _, _, _, _, _, _, _, _, _, _, tad_0, pl0_0, le0_0, nu0_0, coy_0, wag_0, say_0, rfl, by omega, by omega, by omega, by omega, by omega, by omega, by omega⟩ (WO (s := 22) (x := .int (nI say_0)) h100 rfl (LMs LM0) (by decide) (by decide) (by decide) (Or.inl (by decide))) (fun V_1 j_1 k_1 e_1 => ?_)
  refine aw_iconst (v := 0) dX12_law_93 (by decide) ?_
  refine aw_istore_n (ls' := [some (.ref (b + 100)), some (.int x1), some (.int x2), some (.int 0)]) dX12_law_94 (Nat.le_of_ble_eq_true rfl) rfl ?_
  have loop_95_1 : ∀ (g_95 : Nat), ∀ (j95 : Nat)  (V95 : Wd), j95 + g_95 = coy_0 → (∃ cd, V95 117 = cI D 260 cd ∧ ∀ i, i < j95 → cd i = sd i) → (JL D b N say_0 [(111, 121, 0, 1000000), (100, 100, 22, 22), (100, 100, 14, 14), (100, 100, 15, 15), (100, 100, 19, 19), (100, 100, 21, 21), (100, 100, 18, 18), (100, 100, 20, 20), (100, 100, 16, 16), (100, 100, 17, 17), (100, 100, 13, 13)] V0 V95) → (V95 100 = cO 11 [.ref (b + 101), .ref (b + 102), .ref (b + 103), .ref (b + 104), .ref (b + 105), .ref (b + 106), .ref (b + 107), .ref (b + 108), .ref (b + 109), .int ftoldPeople_0, .int ftoldDoors_0, .int fwasDoors_0, .ref (b + 110), .int (nI tad_0), .int (nI pl0_0), .int (nI le0_0), .int ffault_0, .int (nI nu0_0), .int fopen_0, .int (nI coy_0), .int (nI wag_0), .int (nI say_0), .int (nI say_0), .ref (b + 111), .ref (b + 112), .ref (b + 113), .ref (b + 114), .ref (b + 115), .ref (b + 116), .ref (b + 117), .ref (b + 118), .ref (b + 119), .ref (b + 120), .ref (b + 121), .ref (b + 122), .ref (b + 123), .int flines_0, .int fmeantSet_0, .int fopenedNow_0, .int fvainNow_0, .ref (b + 124), .ref (b + 125), .ref (b + 126), .ref (b + 127), .ref (b + 128), .int flowNow_0, .int fhighNow_0, .ref (b + 129), .ref (b + 130), .ref (b + 131), .ref (b + 132), .int fisKept_0]) → (V95 111 = cI D 260 sd) → (V95 113 = cI D 16 sl) → (V95 114 = cI D 16 sf) → (V95 115 = cI D 16 sh) → (V95 116 = cI D 16 st) → (fI (V95 100) 13 = 0) → AW l D b jX12_law (fx_rm 8 0 0) none (fx_MQ D b 0 0 (fx_qi (fun r N9 V9 => N = N9 ∧ ∃ cl9, CR D b cl9 V9 ∧ (∀ i, (i < 100 ∨ 133 ≤ i) → i < N → V9 i = V0 i) ∧ WF D cl9 V9 ∧ (∀ i k, 100 ≤ i → i < 133 → fwB [(111, 121, 0, 1000000), (100, 100, 22, 22), (100, 100, 14, 14), (100, 100, 15, 15), (100, 100, 19, 19), (100, 100, 21, 21), (100, 100, 18, 18), (100, 100, 20, 20), (100, 100, 16, 16), (100, 100, 17, 17), (100, 100, 13, 13)] i k = false → pj (V9 i) k = pj (V0 i) k) ∧ ANS C r A9 ∧ TKS C (fI (V0 100) 13) (fI (V9 100) 13)))) 95 [some (.ref (b + 100)), some (.int x1), some (.int x2), some (.int (nI j95))] [] N V95 0 0 := by
    intro g_95
    induction g_95 with
    | zero =>
      intro j95  V95 hj95 i95_0 i95_1 i95_2 i95_3 i95_4 i95_5 i95_6 i95_7 i95_8
      obtain rfl : coy_0 = j95 := by omega
      refine aw_iload_n dX12_law_95 rfl ?_
      refine aw_aload_n dX12_law_96 rfl ?_
      refine aw_get dX12_law_97 fl_X12_182 i95_2 (by omega) rfl ?_
      refine aw_icmp_ge (tgt := 121) dX12_law_100 (by decide) (fun c_4 => ?_) (fun c_4 => ?_)
      rotate_left
      · exact absurd (nI_le (a := coy_0) (b := coy_0) (Nat.le_refl _) (by omega)) c_4
      refine aw_iconst (v := 0) dX12_law_121 (by decide) ?_
      refine aw_istore_n (ls' := [some (.ref (b + 100)), some (.int x1), some (.int x2), some (.int 0)]) dX12_law_122 (Nat.le_of_ble_eq_true rfl) rfl ?_
      have loop_123_4 : ∀ (g_123 : Nat), ∀ (j123 : Nat)  (V123 : Wd), j123 + g_123 = say_0 → (∃ cd, V123 117 = cI D 260 cd ∧ ∀ i, i < coy_0 → cd i = sd i) → (∃ fr hf to, V123 119 = cI D 16 fr ∧ V123 120 = cI D 16 hf ∧ V123 121 = cI D 16 to ∧ ∀ q, q < j123 → fr q = sf q ∧ hf q = sh q ∧ to q = st q) → (JL D b N say_0 [(111, 121, 0, 1000000), (100, 100, 22, 22), (100, 100, 14, 14), (100, 100, 15, 15), (100, 100, 19, 19), (100, 100, 21, 21), (100, 100, 18, 18), (100, 100, 20, 20), (100, 100, 16, 16), (100, 100, 17, 17), (100, 100, 13, 13)] V0 V123) → (V123 100 = cO 11 [.ref (b + 101), .ref (b + 102), .ref (b + 103), .ref (b + 104), .ref (b + 105), .ref (b + 106), .ref (b + 107), .ref (b + 108), .ref (b + 109), .int ftoldPeople_0, .int ftoldDoors_0, .int fwasDoors_0, .ref (b + 110), .int (nI tad_0), .int (nI pl0_0), .int (nI le0_0), .int ffault_0, .int (nI nu0_0), .int fopen_0, .int (nI coy_0), .int (nI wag_0), .int (nI say_0), .int (nI say_0), .ref (b + 111), .ref (b + 112), .ref (b + 113), .ref (b + 114), .ref (b + 115), .ref (b + 116), .ref (b + 117), .ref (b + 118), .ref (b + 119), .ref (b + 120), .ref (b + 121), .ref (b + 122), .ref (b + 123), .int flines_0, .int fmeantSet_0, .int fopenedNow_0, .int fvainNow_0, .ref (b + 124), .ref (b + 125), .ref (b + 126), .ref (b + 127), .ref (b + 128), .int flowNow_0, .int fhighNow_0, .ref (b + 129), .ref (b + 130), .ref (b + 131), .ref (b + 132), .int fisKept_0]) → (V123 111 = cI D 260 sd) → (V123 113 = cI D 16 sl) → (V123 114 = cI D 16 sf) → (V123 115 = cI D 16 sh) → (V123 116 = cI D 16 st) → (fI (V123 100) 13 = 0) → AW l D b jX12_law (fx_rm 8 0 0) none (fx_MQ D b 0 0 (fx_qi (fun r N9 V9 => N = N9 ∧ ∃ cl9, CR D b cl9 V9 ∧ (∀ i, (i < 100 ∨ 133 ≤ i) → i < N → V9 i = V0 i) ∧ WF D cl9 V9 ∧ (∀ i k, 100 ≤ i → i < 133 → fwB [(111, 121, 0, 1000000), (100, 100, 22, 22), (100, 100, 14, 14), (100, 100, 15, 15), (100, 100, 19, 19), (100, 100, 21, 21), (100, 100, 18, 18), (100, 100, 20, 20), (100, 100, 16, 16), (100, 100, 17, 17), (100, 100, 13, 13)] i k = false → pj (V9 i) k = pj (V0 i) k) ∧ ANS C r A9 ∧ TKS C (fI (V0 100) 13) (fI (V9 100) 13)))) 123 [some (.ref (b + 100)), some (.int x1), some (.int x2), some (.int (nI j123))] [] N V123 0 0 := by
        intro g_123
        induction g_123 with
        | zero =>
          intro j123  V123 hj123 i123_0 i123_1 i123_2 i123_3 i123_4 i123_5 i123_6 i123_7 i123_8 i123_9
          obtain rfl : say_0 = j123 := by omega
          refine aw_iload_n dX12_law_123 rfl ?_
          refine aw_aload_n dX12_law_124 rfl ?_
          refine aw_get dX12_law_125 fl_X12_236 i123_3 (by omega) rfl ?_
          refine aw_icmp_ge (tgt := 185) dX12_law_128 (by decide) (fun c_7 => ?_) (fun c_7 => ?_)
          rotate_left
          · exact absurd (nI_le (a := say_0) (b := say_0) (Nat.le_refl _) (by omega)) c_7
          refine aw_aload_n dX12_law_185 rfl ?_
          refine aw_get dX12_law_186 fl_X12_236 i123_3 (by omega) rfl ?_
          obtain ⟨cd9, e7, hc9⟩ := i123_0
          obtain ⟨fr8, hf8, to8, e9, e10, e11, hq8⟩ := i123_1
          refine aw_ireti dX12_law_189 rfl (Nat.le_of_ble_eq_true rfl) (Nat.le_of_ble_eq_true rfl) ?_
          exact ⟨rfl, say_0, i123_2.1, i123_2.2.1, WF.mk' e7 e9 e10 e11 (by omega) (by omega) hc9 hq8 hR, i123_2.2.2, Or.inl ⟨hC, hA9⟩, Or.inl ⟨hC, i123_9⟩⟩
        | succ g_123 ih_123_5 =>
          intro j123  V123 hj123 i123_0 i123_1 i123_2 i123_3 i123_4 i123_5 i123_6 i123_7 i123_8 i123_9
          have hlj123 : j123 < say_0 := by omega
          refine aw_iload_n dX12_law_123 rfl ?_
          refine aw_aload_n dX12_law_124 rfl ?_
          refine aw_get dX12_law_125 fl_X12_236 i123_3 (by omega) rfl ?_
          refine aw_icmp_ge (tgt := 185) dX12_law_128 (by decide) (fun c_8 => ?_) (fun c_8 => ?_)
          · exact absurd c_8 (nI_ge (a := j123) (b := say_0) (by omega) (by omega))
          obtain ⟨cd123, e117, hcd123⟩ := i123_0
          obtain ⟨fr9, hf9, to9, e119, e120, e121, hq123⟩ := i123_1
          refine aw_aload_n dX12_law_131 rfl ?_
          refine aw_get dX12_law_132 fl_X12_62 i123_3 (by omega) rfl ?_
          refine aw_iload_n dX12_law_135 rfl ?_
          refine aw_aload_n dX12_law_136 rfl ?_
          refine aw_get dX12_law_137 fl_X12_47 i123_3 (by omega) rfl ?_
          refine aw_iload_n dX12_law_140 rfl ?_
          refine aw_iald (v := (sl j123)) dX12_law_141 i123_5 (by omega) (vp_in_nI (n := j123) (by omega) (by omega)) (congrArg sl (nI_clamp (n := j123) (by omega))) ?_
          obtain ⟨g_9, e_9⟩ := JL.get i123_2 cm_118
          refine aw_iast dX12_law_142 e_9 (by omega) (vp_in_nI (n := j123) (by omega) (by omega)) ?_
          refine aw_upL i123_2 cm_118 ⟨_, rfl⟩ (WA LM0 (by decide) (by decide)) (fun V_10 j_10 k_10 e_10 => ?_)
          have e_11 : V_10 118 = cI D 16 (upd g_9 j123 (sl j123)) := by rw [e_10, nI_clamp (n := j123) (by omega)]
          refine aw_aload_n dX12_law_143 rfl ?_
          refine aw_get dX12_law_144 fl_X12_65 ((k_10 _ (by decide)).trans i123_3) (by omega) rfl ?_
          refine aw_iload_n dX12_law_147 rfl ?_
          refine aw_aload_n dX12_law_148 rfl ?_
          refine aw_get dX12_law_149 fl_X12_50 ((k_10 _ (by decide)).trans i123_3) (by omega) rfl ?_
          refine aw_iload_n dX12_law_152 rfl ?_
          refine aw_iald (v := (sf j123)) dX12_law_153 ((k_10 _ (by decide)).trans i123_6) (by omega) (vp_in_nI (n := j123) (by omega) (by omega)) (congrArg sf (nI_clamp (n := j123) (by omega))) ?_
          refine aw_iast dX12_law_154 ((k_10 _ (by decide)).trans e119) (by omega) (vp_in_nI (n := j123) (by omega) (by omega)) ?_
          refine aw_upL j_10 cm_119 ⟨_, rfl⟩ (WA LM0 (by decide) (by decide)) (fun V_12 j_12 k_12 e_12 => ?_)
          have e_13 : V_12 119 = cI D 16 (upd fr9 j123 (sf j123)) := by rw [e_12, nI_clamp (n := j123) (by omega)]
          refine aw_aload_n dX12_law_155 rfl ?_
          refine aw_get dX12_law_156 fl_X12_68 ((k_12 _ (by decide)).trans ((k_10 _ (by decide)).trans i123_3)) (by omega) rfl ?_
          refine aw_iload_n dX12_law_159 rfl ?_
          refine aw_aload_n dX12_law_160 rfl ?_
          refine aw_get dX12_law_161 fl_X12_53 ((k_12 _ (by decide)).trans ((k_10 _ (by decide)).trans i123_3)) (by omega) rfl ?_
          refine aw_iload_n dX12_law_164 rfl ?_
          refine aw_iald (v := (sh j123)) dX12_law_165 ((k_12 _ (by decide)).trans ((k_10 _ (by decide)).trans i123_7)) (by omega) (vp_in_nI (n := j123) (by omega) (by omega)) (congrArg sh (nI_clamp (n := j123) (by omega))) ?_
          refine aw_iast dX12_law_166 ((k_12 _ (by decide)).trans ((k_10 _ (by decide)).trans e120)) (by omega) (vp_in_nI (n := j123) (by omega) (by omega)) ?_
          refine aw_upL j_12 cm_120 ⟨_, rfl⟩ (WA LM0 (by decide) (by decide)) (fun V_14 j_14 k_14 e_14 => ?_)
          have e_15 : V_14 120 = cI D 16 (upd hf9 j123 (sh j123)) := by rw [e_14, nI_clamp (n := j123) (by omega)]
          refine aw_aload_n dX12_law_167 rfl ?_
          refine aw_get dX12_law_168 fl_X12_71 ((k_14 _ (by decide)).trans ((k_12 _ (by decide)).trans ((k_10 _ (by decide)).trans i123_3))) (by omega) rfl ?_
          refine aw_iload_n dX12_law_171 rfl ?_
          refine aw_aload_n dX12_law_172 rfl ?_
          refine aw_get dX12_law_173 fl_X12_56 ((k_14 _ (by decide)).trans ((k_12 _ (by decide)).trans ((k_10 _ (by decide)).trans i123_3))) (by omega) rfl ?_
          refine aw_iload_n dX12_law_176 rfl ?_
          refine aw_iald (v := (st j123)) dX12_law_177 ((k_14 _ (by decide)).trans ((k_12 _ (by decide)).trans ((k_10 _ (by decide)).trans i123_8))) (by omega) (vp_in_nI (n := j123) (by omega) (by omega)) (congrArg st (nI_clamp (n := j123) (by omega))) ?_
          refine aw_iast dX12_law_178 ((k_14 _ (by decide)).trans ((k_12 _ (by decide)).trans ((k_10 _ (by decide)).trans e121))) (by omega) (vp_in_nI (n := j123) (by omega) (by omega)) ?_
          refine aw_upL j_14 cm_121 ⟨_, rfl⟩ (WA LM0 (by decide) (by decide)) (fun V_16 j_16 k_16 e_16 => ?_)
          have e_17 : V_16 121 = cI D 16 (upd to9 j123 (st j123)) := by rw [e_16, nI_clamp (n := j123) (by omega)]
          refine aw_iinc (v := (nI (j123 + 1))) (ls' := [some (.ref (b + 100)), some (.int x1), some (.int x2), some (.int (nI (j123 + 1)))]) dX12_law_179 rfl (fx_up_1 _) (Nat.le_of_ble_eq_true rfl) rfl ?_
          refine aw_goto (tgt := 123) dX12_law_182 (by decide) ?_
          refine aw_le ?_ (ih_123_5 (j123 + 1)  V_16 (by omega) (⟨_, ((k_16 _ (by decide)).trans ((k_14 _ (by decide)).trans ((k_12 _ (by decide)).trans ((k_10 _ (by decide)).trans e117)))), hcd123⟩) (⟨_, _, _, ((k_16 _ (by decide)).trans ((k_14 _ (by decide)).trans e_13)), ((k_16 _ (by decide)).trans e_15), e_17, fun q hq => if e : q = j123 then (by subst e; exact ⟨pk_us, pk_us, pk_us⟩) else ⟨(pk_un e).trans (hq123 q (by omega)).1, (pk_un e).trans (hq123 q (by omega)).2.1, (pk_un e).trans (hq123 q (by omega)).2.2⟩⟩) (j_16) (((k_16 _ (by decide)).trans ((k_14 _ (by decide)).trans ((k_12 _ (by decide)).trans ((k_10 _ (by decide)).trans i123_3))))) (((k_16 _ (by decide)).trans ((k_14 _ (by decide)).trans ((k_12 _ (by decide)).trans ((k_10 _ (by decide)).trans i123_4))))) (((k_16 _ (by decide)).trans ((k_14 _ (by decide)).trans ((k_12 _ (by decide)).trans ((k_10 _ (by decide)).trans i123_5))))) (((k_16 _ (by decide)).trans ((k_14 _ (by decide)).trans ((k_12 _ (by decide)).trans ((k_10 _ (by decide)).trans i123_6))))) (((k_16 _ (by decide)).trans ((k_14 _ (by decide)).trans ((k_12 _ (by decide)).trans ((k_10 _ (by decide)).trans i123_7))))) (((k_16 _ (by decide)).trans ((k_14 _ (by decide)).trans ((k_12 _ (by decide)).trans ((k_10 _ (by decide)).trans i123_8))))) (((congrArg (fun z => fI z 13) (k_16 _ (by omega))).trans ((congrArg (fun z => fI z 13) (k_14 _ (by omega))).trans ((congrArg (fun z => fI z 13) (k_12 _ (by omega))).trans ((congrArg (fun z => fI z 13) (k_10 _ (by omega))).trans i123_9))))))
          exact ⟨rfl, ⟨rfl, ⟨rfl, ⟨rfl, trivial⟩⟩⟩⟩
      obtain ⟨g_18, e_18⟩ := JL.get i95_1 cm_119
      obtain ⟨g_19, e_19⟩ := JL.get i95_1 cm_120
      obtain ⟨g_20, e_20⟩ := JL.get i95_1 cm_121
      refine aw_le ?_ (loop_123_4 say_0 0  V95 (by omega) (i95_0) (⟨_, _, _, e_18, e_19, e_20, fun q h => absurd h (Nat.not_lt_zero q)⟩) (i95_1) (i95_2) (i95_3) (i95_4) (i95_5) (i95_6) (i95_7) (i95_8))
      exact ⟨rfl, ⟨rfl, ⟨rfl, ⟨rfl, trivial⟩⟩⟩⟩
    | succ g_95 ih_95_2 =>
      intro j95  V95 hj95 i95_0 i95_1 i95_2 i95_3 i95_4 i95_5 i95_6 i95_7 i95_8
      have hlj95 : j95 < coy_0 := by omega
      refine aw_iload_n dX12_law_95 rfl ?_
      refine aw_aload_n dX12_law_96 rfl ?_
      refine aw_get dX12_law_97 fl_X12_182 i95_2 (by omega) rfl ?_
      refine aw_icmp_ge (tgt := 121) dX12_law_100 (by decide) (fun c_21 => ?_) (fun c_21 => ?_)
      · exact absurd c_21 (nI_ge (a := j95) (b := coy_0) (by omega) (by omega))
      obtain ⟨cd95, e117, hcd95⟩ := i95_0
      refine aw_aload_n dX12_law_103 rfl ?_
      refine aw_get dX12_law_104 fl_X12_59 i95_2 (by omega) rfl ?_
      refine aw_iload_n dX12_law_107 rfl ?_
      refine aw_aload_n dX12_law_108 rfl ?_
      refine aw_get dX12_law_109 fl_X12_41 i95_2 (by omega) rfl ?_
      refine aw_iload_n dX12_law_112 rfl ?_
      refine aw_iald (v := (sd j95)) dX12_law_113 i95_3 (by omega) (vp_in_nI (n := j95) (by omega) (by omega)) (congrArg sd (nI_clamp (n := j95) (by omega))) ?_
      refine aw_iast dX12_law_114 e117 (by omega) (vp_in_nI (n := j95) (by omega) (by omega)) ?_
      refine aw_upL i95_1 cm_117 ⟨_, rfl⟩ (WA LM0 (by decide) (by decide)) (fun V_22 j_22 k_22 e_22 => ?_)
      have e_23 : V_22 117 = cI D 260 (upd cd95 j95 (sd j95)) := by rw [e_22, nI_clamp (n := j95) (by omega)]
      refine aw_iinc (v := (nI (j95 + 1))) (ls' := [some (.ref (b + 100)), some (.int x1), some (.int x2), some (.int (nI (j95 + 1)))]) dX12_law_115 rfl (fx_up_1 _) (Nat.le_of_ble_eq_true rfl) rfl ?_
      refine aw_goto (tgt := 95) dX12_law_118 (by decide) ?_
      refine aw_le ?_ (ih_95_2 (j95 + 1)  V_22 (by omega) (⟨_, e_23, fun i hi => if e : i = j95 then (by rw [e, pk_us]) else (pk_un e).trans (hcd95 i (by omega))⟩) (j_22) (((k_22 _ (by decide)).trans i95_2)) (((k_22 _ (by decide)).trans i95_3)) (((k_22 _ (by decide)).trans i95_4)) (((k_22 _ (by decide)).trans i95_5)) (((k_22 _ (by decide)).trans i95_6)) (((k_22 _ (by decide)).trans i95_7)) (((congrArg (fun z => fI z 13) (k_22 _ (by omega))).trans i95_8)))
      exact ⟨rfl, ⟨rfl, ⟨rfl, ⟨rfl, trivial⟩⟩⟩⟩
  obtain ⟨g_24, e_24⟩ := JL.get j_1 cm_117
  refine aw_le ?_ (loop_95_1 coy_0 0  V_1 (by omega) (⟨_, e_24, fun i h => absurd h (Nat.not_lt_zero i)⟩) (j_1) (e_1) (((k_1 _ (by decide)).trans hsd)) (((k_1 _ (by decide)).trans h113)) (((k_1 _ (by decide)).trans h114)) (((k_1 _ (by decide)).trans h115)) (((k_1 _ (by decide)).trans h116)) ((KA (s := 22) (x := .int (nI say_0)) h100 rfl (by decide) e_1 k_1 h13)))
  exact ⟨rfl, ⟨rfl, ⟨rfl, ⟨rfl, trivial⟩⟩⟩⟩

set_option maxHeartbeats 100000000 in
set_option maxRecDepth 100000 in
theorem r_law3 (l : Launch) (D : va_G) (b : Nat) (N : Nat) (V : Wd) (hN : 133 ≤ N) (cl : Nat) (hW : CR D b cl V) (n0 : Int32) (hwf : WF D cl V) (m0 : Int32) (hm : m0 = n0) : MI l D b 8 jX12_law [.ref (b + 100), .int n0] N V 0 0 (fun r N9 V9 => N = N9 ∧ ∃ cl9, CR D b cl9 V9 ∧ (∀ i, (i < 100 ∨ 133 ≤ i) → i < N → V9 i = V i) ∧ WF D cl9 V9 ∧ (∀ i k, 100 ≤ i → i < 133 → fwB [(111, 121, 0, 1000000), (100, 100, 22, 22), (100, 100, 14, 14), (100, 100, 15, 15), (100, 100, 19, 19), (100, 100, 21, 21), (100, 100, 18, 18), (100, 100, 20, 20), (100, 100, 16, 16), (100, 100, 17, 17), (100, 100, 13, 13)] i k = false → pj (V9 i) k = pj (V i) k) ∧ ANS (cIn m0 1 240 (fI (V 100) 13)) r (lawA (gb (fI (V 110))) m0) ∧ TKS (cIn m0 1 240 (fI (V 100) 13)) (fI (V 100) 13) (fI (V9 100) 13)) := by
  have hJ0 : JR D b N cl [(111, 121, 0, 1000000), (100, 100, 22, 22), (100, 100, 14, 14), (100, 100, 15, 15), (100, 100, 19, 19), (100, 100, 21, 21), (100, 100, 18, 18), (100, 100, 20, 20), (100, 100, 16, 16), (100, 100, 17, 17), (100, 100, 13, 13)] V V := JR.rf hW
  refine mw_of (by decide) (by simp [Value.category]) (Nat.le_of_ble_eq_true rfl) ?_
  show AW l D b jX12_law (fx_rm 8 0 0) none (fx_MQ D b 0 0 (fx_qi (fun r N9 V9 => N = N9 ∧ ∃ cl9, CR D b cl9 V9 ∧ (∀ i, (i < 100 ∨ 133 ≤ i) → i < N → V9 i = V i) ∧ WF D cl9 V9 ∧ (∀ i k, 100 ≤ i → i < 133 → fwB [(111, 121, 0, 1000000), (100, 100, 22, 22), (100, 100, 14, 14), (100, 100, 15, 15), (100, 100, 19, 19), (100, 100, 21, 21), (100, 100, 18, 18), (100, 100, 20, 20), (100, 100, 16, 16), (100, 100, 17, 17), (100, 100, 13, 13)] i k = false → pj (V9 i) k = pj (V i) k) ∧ ANS (cIn m0 1 240 (fI (V 100) 13)) r (lawA (gb (fI (V 110))) m0) ∧ TKS (cIn m0 1 240 (fI (V 100) 13)) (fI (V 100) 13) (fI (V9 100) 13)))) 0 [some (.ref (b + 100)), some (.int n0), none, none] [] N V 0 0
  obtain ⟨ftoldPeople_1, ftoldDoors_1, fwasDoors_1, ffault_1, fopen_1, flines_1, fmeantSet_1, fopenedNow_1, fvainNow_1, flowNow_1, fhighNow_1, fisKept_1, tad_1, pl0_1, le0_1, nu0_1, coy_1, wag_1, say_1, e_1, hntad_1, hnpl0_1, hnle0_1, hnnu0_1, hncoy_1, hnwag_1, hnsay_1⟩ := JR.get hJ0 cm_100
  have hta0 : fI (V 100) 13 = nI tad_1 := ((congrArg (fun z => fI z 13) e_1).trans rfl)
  obtain ⟨g_2, e_2⟩ := JR.get hJ0 cm_110
  refine aw_iload_n dX12_law_0 rfl ?_
  refine aw_iconst (v := 1) dX12_law_1 (by decide) ?_
  refine aw_sipush (v := 240) dX12_law_2 (by decide) ?_
  refine aw_callSi (J' := jX12_in) (As := [.int n0, .int 1, .int 240]) (st := []) dX12_law_5 tb_1209 ok_X12_in rfl (r_inK l D b N V hN cl hJ0.1 n0 1 240) rfl (Nat.le_of_ble_eq_true rfl) ⟨Nat.le_of_ble_eq_true rfl, Nat.le_of_ble_eq_true rfl, Nat.le_of_ble_eq_true rfl, Nat.le_of_ble_eq_true rfl⟩ (fun r_8 N_9 V_10 q_11 => ?_)
  obtain ⟨⟨z_5, h_4⟩, rfl, rfl⟩ := q_11
  obtain ⟨hi_6, hi_7⟩ := h_4
  refine aw_if_eq (tgt := 19) dX12_law_8 (by decide) (fun c_12 => ?_) (fun c_12 => ?_)
  · skip
    refine aw_iconst (v := (-1)) dX12_law_19 (by decide) ?_
    refine aw_ireti dX12_law_20 rfl (Nat.le_of_ble_eq_true rfl) (Nat.le_of_ble_eq_true rfl) ?_
    exact ⟨rfl, cl, hJ0.1, hJ0.2.1, WF.fr hwf hJ0.2.2.1, hJ0.2.2.2, Or.inr ⟨(by have zhi_7 := hi_7 c_12; have zt := fx_nIt (n := tad_1) (by omega); have e0 : (0 : Int32).toInt = 0 := (by decide); have e1 : (1 : Int32).toInt = 1 := (by decide); have e240 : (240 : Int32).toInt = 240 := (by decide); have q0 := zhi_7; have q1 := hm; have q2 := hta0; simp only [cIn, ← Int32.toInt_inj, Int32.le_iff_toInt_le, Int32.lt_iff_toInt_lt] at q0 q1 q2 ⊢; omega), rfl⟩, Or.inr ⟨(by have zhi_7 := hi_7 c_12; have zt := fx_nIt (n := tad_1) (by omega); have e0 : (0 : Int32).toInt = 0 := (by decide); have e1 : (1 : Int32).toInt = 1 := (by decide); have e240 : (240 : Int32).toInt = 240 := (by decide); have q0 := zhi_7; have q1 := hm; have q2 := hta0; simp only [cIn, ← Int32.toInt_inj, Int32.le_iff_toInt_le, Int32.lt_iff_toInt_lt] at q0 q1 q2 ⊢; omega), (Eq.refl (fI (V 100) 13))⟩⟩
  · skip
    obtain ⟨zn0, h0zn0, hzn0, rfl⟩ := in_nat (a := 1) (b := 240) (by decide) (hi_6.resolve_left c_12)
    refine aw_iload_n dX12_law_11 rfl ?_
    refine aw_aload_n dX12_law_12 rfl ?_
    refine aw_get dX12_law_13 fl_X12_152 e_1 (by omega) rfl ?_
    refine aw_icmp_le (tgt := 21) dX12_law_16 (by decide) (fun c_13 => ?_) (fun c_13 => ?_)
    · skip
      have nc_13 : zn0 ≤ tad_1 := (nI_leI (a := zn0) (b := tad_1) (by omega) (by omega)).mp c_13
      refine aw_aload_n dX12_law_21 rfl ?_
      refine aw_iload_n dX12_law_22 rfl ?_
      refine aw_callVv (J' := jX12_beginsText) (As := [.int (nI zn0)]) (st := []) dX12_law_23 tb_1212 ok_X12_beginsText ⟨_, e_1⟩ (by omega) rfl rfl (r_beginsText l D b N V hN cl hJ0.1 (nI zn0) ⟨zn0, by omega, rfl⟩) rfl (Nat.le_of_ble_eq_true rfl) ⟨Nat.le_of_ble_eq_true rfl, Nat.le_of_ble_eq_true rfl, Nat.le_of_ble_eq_true rfl, Nat.le_of_ble_eq_true rfl⟩ (fun  N_25 V_17 q_26 => ?_)
      obtain ⟨h_15, rfl, q_14⟩ := q_26
      have j_16 := JR.trans hJ0 (JR.weak q_14 (Sub.cons (LMs (LMs LM0)) (by decide) (by decide) (by decide) (Or.inr ⟨by decide, by decide⟩) (Sub.cons (LMs (LMs (LMs LM0))) (by decide) (by decide) (by decide) (Or.inr ⟨by decide, by decide⟩) (Sub.cons (LMs (LMs (LMs (LMs LM0)))) (by decide) (by decide) (by decide) (Or.inr ⟨by decide, by decide⟩) (Sub.cons (LMs (LMs (LMs (LMs (LMs LM0))))) (by decide) (by decide) (by decide) (Or.inr ⟨by decide, by decide⟩) Sub.nil)))))
      obtain ⟨hB_18, hB_20, hB_21, hB_22, hB_23, hB_19⟩ := h_15
      have hk_k24 : zn0 = hB_22 := (nI_eq (by omega) (by omega)).mp hB_23.1
      obtain ⟨ftoldPeople_k24, ftoldDoors_k24, fwasDoors_k24, ffault_k24, fopen_k24, flines_k24, fmeantSet_k24, fopenedNow_k24, fvainNow_k24, flowNow_k24, fhighNow_k24, fisKept_k24, tad_k24, pl0_k24, le0_k24, nu0_k24, coy_k24, wag_k24, say_k24, e_k24, hntad_k24, hnpl0_k24, hnle0_k24, hnnu0_k24, hncoy_k24, hnwag_k24, hnsay_k24⟩ := JR.get j_16 cm_100
      have hq0_k24 := FG.eq hB_18 e_k24 rfl (by omega) (by omega)
      have hq1_k24 := FG.eq hB_19 e_k24 rfl (by omega) (by omega)
      have hq2_k24 := FG.eq hB_20 e_k24 rfl (by omega) (by omega)
      have hq3_k24 := FG.eq hB_21 e_k24 rfl (by omega) (by omega)
      obtain ⟨g_27, e_27⟩ := JR.get j_16 cm_111
      obtain ⟨g_28, e_28⟩ := JR.get j_16 cm_112
      obtain ⟨g_29, e_29⟩ := JR.get j_16 cm_113
      obtain ⟨g_30, e_30⟩ := JR.get j_16 cm_114
      obtain ⟨g_31, e_31⟩ := JR.get j_16 cm_115
      obtain ⟨g_32, e_32⟩ := JR.get j_16 cm_116
      refine aw_aload_n dX12_law_26 rfl ?_
      refine aw_callVi (J' := jX12_readsRule) (As := []) (st := []) dX12_law_27 tb_1216 ok_X12_readsRule ⟨_, e_k24⟩ (by omega) rfl rfl (r_readsRule3 l D b N V_17 hN cl j_16.1 g_2 g_27 g_28 g_29 g_30 g_31 g_32 pl0_k24 le0_k24 coy_k24 say_k24 ⟨((JR.same q_14 (by decide) (by decide) (fun k => (nfc (by omega) (nfc (by omega) (nfc (by omega) (nfc (by omega) nf0)))))).trans e_2), e_27, e_28, e_29, e_30, e_31, e_32, (FG.of e_k24 rfl rfl), (FG.of e_k24 rfl (by omega : le0_k24 = le0_k24)), (FG.of e_k24 rfl rfl), (FG.of e_k24 rfl rfl), ⟨by omega, by omega, by omega, by omega⟩, (fun q hq => absurd hq (by omega))⟩) rfl (Nat.le_of_ble_eq_true rfl) ⟨Nat.le_of_ble_eq_true rfl, Nat.le_of_ble_eq_true rfl, Nat.le_of_ble_eq_true rfl, Nat.le_of_ble_eq_true rfl⟩ (fun r_38 N_39 V_37 q_40 => ?_)
      obtain ⟨⟨z_35, h_34⟩, rfl, q_33⟩ := q_40
      have j_36 := JR.trans j_16 (JR.weak q_33 (Sub.cons LM0 (by decide) (by decide) (by decide) (Or.inl rfl) (Sub.cons (LMs (LMs LM0)) (by decide) (by decide) (by decide) (Or.inr ⟨by decide, by decide⟩) (Sub.cons (LMs (LMs (LMs (LMs (LMs (LMs LM0)))))) (by decide) (by decide) (by decide) (Or.inr ⟨by decide, by decide⟩) (Sub.cons (LMs (LMs (LMs (LMs (LMs (LMs (LMs LM0))))))) (by decide) (by decide) (by decide) (Or.inr ⟨by decide, by decide⟩) (Sub.cons (LMs (LMs (LMs (LMs LM0)))) (by decide) (by decide) (by decide) (Or.inr ⟨by decide, by decide⟩) (Sub.cons (LMs (LMs (LMs (LMs (LMs (LMs (LMs (LMs LM0)))))))) (by decide) (by decide) (by decide) (Or.inr ⟨by decide, by decide⟩) (Sub.cons (LMs (LMs (LMs (LMs (LMs (LMs (LMs (LMs (LMs LM0))))))))) (by decide) (by decide) (by decide) (Or.inr ⟨by decide, by decide⟩) (Sub.cons (LMs (LMs (LMs (LMs (LMs LM0))))) (by decide) (by decide) (by decide) (Or.inr ⟨by decide, by decide⟩) Sub.nil)))))))))
      rcases h_34 with ⟨hz, hf⟩ | ⟨hz, hR⟩
      · skip
        refine aw_eqi (y := 0) hz ?_
        refine aw_istore_n (ls' := [some (.ref (b + 100)), some (.int (nI zn0)), some (.int 0), none]) dX12_law_30 (Nat.le_of_ble_eq_true rfl) rfl ?_
        have ml_31_41 : ∀ (m : Nat) (a31 : Nat) (c31 : Nat) (m31 : Nat) (sd31 : Nat → Int32) (wa31 : Nat → Int32) (sl31 : Nat → Int32) (sf31 : Nat → Int32) (sh31 : Nat → Int32) (st31 : Nat → Int32) (v31_2 : Int32) (V31 : Wd), m = (if v31_2 = 0 then 0 else 1 + (240 - a31)) → (JR D b N cl [(111, 121, 0, 1000000), (100, 100, 22, 22), (100, 100, 14, 14), (100, 100, 15, 15), (100, 100, 19, 19), (100, 100, 21, 21), (100, 100, 18, 18), (100, 100, 20, 20), (100, 100, 16, 16), (100, 100, 17, 17), (100, 100, 13, 13)] V V31) → ((v31_2 = 0 ∧ txL (gb g_2) le0_k24 16 0 = .inl (fI (V31 100) 16)) ∨ (v31_2 = 1 ∧ RX D b V31 g_2 a31 le0_k24 c31 sd31 wa31 sl31 sf31 sh31 st31 m31 ∧ 1 ≤ m31 ∧ m31 ≤ 16 ∧ afL (gb g_2) le0_k24 (16 - m31) a31 = txL (gb g_2) le0_k24 16 0)) → AW l D b jX12_law (fx_rm 8 0 0) none (fx_MQ D b 0 0 (fx_qi (fun r N9 V9 => N = N9 ∧ ∃ cl9, CR D b cl9 V9 ∧ (∀ i, (i < 100 ∨ 133 ≤ i) → i < N → V9 i = V i) ∧ WF D cl9 V9 ∧ (∀ i k, 100 ≤ i → i < 133 → fwB [(111, 121, 0, 1000000), (100, 100, 22, 22), (100, 100, 14, 14), (100, 100, 15, 15), (100, 100, 19, 19), (100, 100, 21, 21), (100, 100, 18, 18), (100, 100, 20, 20), (100, 100, 16, 16), (100, 100, 17, 17), (100, 100, 13, 13)] i k = false → pj (V9 i) k = pj (V i) k) ∧ ANS (cIn m0 1 240 (fI (V 100) 13)) r (lawA (gb (fI (V 110))) m0) ∧ TKS (cIn m0 1 240 (fI (V 100) 13)) (fI (V 100) 13) (fI (V9 100) 13)))) 31 [some (.ref (b + 100)), some (.int (nI zn0)), some (.int v31_2), none] [] N V31 0 0 := by
          intro m; refine Nat.strongRecOn m ?_
          intro m mih_31_41 a31 c31 m31 sd31 wa31 sl31 sf31 sh31 st31 v31_2 V31 hm31 i31_0 i31_1
          refine aw_iload_n dX12_law_31 rfl ?_
          refine aw_if_eq (tgt := 71) dX12_law_32 (by decide) (fun c_42 => ?_) (fun c_42 => ?_)
          · skip
            refine aw_aload_n dX12_law_71 rfl ?_
            refine aw_iconst (v := 0) dX12_law_72 (by decide) ?_
            obtain ⟨ftoldPeople_43, ftoldDoors_43, fwasDoors_43, ffault_43, fopen_43, flines_43, fmeantSet_43, fopenedNow_43, fvainNow_43, flowNow_43, fhighNow_43, fisKept_43, tad_43, pl0_43, le0_43, nu0_43, coy_43, wag_43, say_43, e_43, hntad_43, hnpl0_43, hnle0_43, hnnu0_43, hncoy_43, hnwag_43, hnsay_43⟩ := JR.get i31_0 cm_100
            refine aw_put dX12_law_73 fp_X12_152 e_43 (by omega) rfl rfl (Nat.le_of_ble_eq_true rfl) rfl ?_
            refine aw_upR i31_0 cm_100 ⟨_, _, _, _, _, _, _, _, _, _, _, _, 0, pl0_43, le0_43, nu0_43, coy_43, wag_43, say_43, rfl, by omega, by omega, by omega, by omega, by omega, by omega, by omega⟩ (by decide) (WO (s := 13) (x := .int 0) e_43 rfl (LMs (LMs (LMs (LMs (LMs (LMs (LMs (LMs (LMs (LMs LM0)))))))))) (by decide) (by decide) (by decide) (Or.inl (by decide))) (fun V_44 j_44 k_44 e_44 => ?_)
            refine aw_iload_n dX12_law_76 rfl ?_
            refine aw_if_ne (tgt := 85) dX12_law_77 (by decide) (fun c_45 => ?_) (fun c_45 => ?_)
            · first | exact absurd c_45 c_42 | exact absurd c_42 c_45 | exact absurd c_45 (Int32.not_lt.mpr c_42) | exact absurd c_42 (Int32.not_lt.mpr c_45) | exact c_42 (Int32.not_lt.mp c_45) | exact c_42 (Int32.not_le.mp c_45)
            refine aw_aload_n dX12_law_80 rfl ?_
            refine aw_get dX12_law_81 fl_X12_169 e_44 (by omega) rfl ?_
            refine aw_ireti dX12_law_84 rfl (Nat.le_of_ble_eq_true rfl) (Nat.le_of_ble_eq_true rfl) ?_
            exact ⟨rfl, cl, j_44.1, j_44.2.1, WF.fr hwf j_44.2.2.1, j_44.2.2.2, Or.inl ⟨(by have zhi_6 := hi_6.resolve_left c_12; have zzzn0 := fx_nIt (n := zn0) (by omega); have zt := fx_nIt (n := tad_1) (by omega); have e0 : (0 : Int32).toInt = 0 := (by decide); have e1 : (1 : Int32).toInt = 1 := (by decide); have e240 : (240 : Int32).toInt = 240 := (by decide); have q0 := zhi_6; have q1 := hm; have q2 := hta0; simp only [cIn, ← Int32.toInt_inj, Int32.le_iff_toInt_le, Int32.lt_iff_toInt_lt] at q0 q1 q2 ⊢; omega), ((congrArg (fun z => fI z 16) e_44).symm.trans ((KA (s := 13) (x := .int 0) e_43 rfl (by decide) e_44 k_44 (Eq.refl (fI (V31 100) 16))).trans ((lawA_ofm (m := le0_k24) e_2 (hm.trans (congrArg nI (by omega))) (by omega)).trans (congrArg cod (i31_1.resolve_right (fun z => absurd ((c_42).symm.trans z.1) (by decide))).2)).symm))⟩, Or.inl ⟨(by have zhi_6 := hi_6.resolve_left c_12; have zzzn0 := fx_nIt (n := zn0) (by omega); have zt := fx_nIt (n := tad_1) (by omega); have e0 : (0 : Int32).toInt = 0 := (by decide); have e1 : (1 : Int32).toInt = 1 := (by decide); have e240 : (240 : Int32).toInt = 240 := (by decide); have q0 := zhi_6; have q1 := hm; have q2 := hta0; simp only [cIn, ← Int32.toInt_inj, Int32.le_iff_toInt_le, Int32.lt_iff_toInt_lt] at q0 q1 q2 ⊢; omega), ((congrArg (fun z => fI z 13) e_44).trans rfl)⟩⟩
          · skip
            obtain ⟨hv31, hX31, hm31a, hm31b, hAF⟩ := i31_1.resolve_left (fun z => c_42 z.1)
            obtain ⟨xg_r46, xs_r46, xw_r46, xa_r46, xb_r46, xd_r46, xe_r46, xp_r46, xl_r46, xc_r46, xm_r46, ⟨hB1_r46, hB2_r46, hB3_r46, hB4_r46⟩, hR_r46⟩ := hX31
            obtain ⟨ftoldPeople_47, ftoldDoors_47, fwasDoors_47, ffault_47, fopen_47, flines_47, fmeantSet_47, fopenedNow_47, fvainNow_47, flowNow_47, fhighNow_47, fisKept_47, tad_47, pl0_47, le0_47, nu0_47, coy_47, wag_47, say_47, e_47, hntad_47, hnpl0_47, hnle0_47, hnnu0_47, hncoy_47, hnwag_47, hnsay_47⟩ := JR.get i31_0 cm_100
            have sb_r46pl := FG.eq xp_r46 e_47 rfl (by omega) (by omega)
            subst sb_r46pl
            have sb_r46cm := FG.eq xc_r46 e_47 rfl (by omega) (by omega)
            subst sb_r46cm
            have sb_r46sm := FG.eq xm_r46 e_47 rfl (by omega) (by omega)
            subst sb_r46sm
            have sb_r46ln := FG.eq xl_r46 e_47 rfl (by omega) (by omega)
            refine aw_aload_n dX12_law_35 rfl ?_
            refine aw_get dX12_law_36 fl_X12_159 e_47 (by omega) rfl ?_
            refine aw_aload_n dX12_law_39 rfl ?_
            refine aw_get dX12_law_40 fl_X12_162 e_47 (by omega) rfl ?_
            refine aw_icmp_ge (tgt := 71) dX12_law_43 (by decide) (fun c_48 => ?_) (fun c_48 => ?_)
            · skip
              have nc_48 : le0_47 ≤ pl0_47 := (nI_leI (a := le0_47) (b := pl0_47) (by omega) (by omega)).mp c_48
              refine aw_aload_n dX12_law_71 rfl ?_
              refine aw_iconst (v := 0) dX12_law_72 (by decide) ?_
              refine aw_put dX12_law_73 fp_X12_152 e_47 (by omega) rfl rfl (Nat.le_of_ble_eq_true rfl) rfl ?_
              refine aw_upR i31_0 cm_100 ⟨_, _, _, _, _, _, _, _, _, _, _, _, 0, pl0_47, le0_47, nu0_47, coy_47, wag_47, say_47, rfl, by omega, by omega, by omega, by omega, by omega, by omega, by omega⟩ (by decide) (WO (s := 13) (x := .int 0) e_47 rfl (LMs (LMs (LMs (LMs (LMs (LMs (LMs (LMs (LMs (LMs LM0)))))))))) (by decide) (by decide) (by decide) (Or.inl (by decide))) (fun V_49 j_49 k_49 e_49 => ?_)
              refine aw_iload_n dX12_law_76 rfl ?_
              refine aw_if_ne (tgt := 85) dX12_law_77 (by decide) (fun c_50 => ?_) (fun c_50 => ?_)
              rotate_left
              · first | exact absurd c_42 c_50 | exact absurd c_50 c_42
              exact r_lawtail3 l D b N V V_49 hN cl j_49 ftoldPeople_47 ftoldDoors_47 fwasDoors_47 ffault_47 fopen_47 flines_47 fmeantSet_47 fopenedNow_47 fvainNow_47 flowNow_47 fhighNow_47 fisKept_47 0 pl0_47 le0_47 nu0_47 coy_47 wag_47 say_47 ⟨by omega, by omega, by omega, by omega, by omega, by omega, by omega⟩ e_49 sd31 wa31 sl31 sf31 sh31 st31 ((k_49 _ (by decide)).trans xs_r46) ((k_49 _ (by decide)).trans xa_r46) ((k_49 _ (by decide)).trans xb_r46) ((k_49 _ (by decide)).trans xd_r46) ((k_49 _ (by decide)).trans xe_r46) (by omega) hR_r46 _ _ (cIn m0 1 240 (fI (V 100) 13)) (lawA (gb (fI (V 110))) m0) (by have zhi_6 := hi_6.resolve_left c_12; have zzzn0 := fx_nIt (n := zn0) (by omega); have zt := fx_nIt (n := tad_1) (by omega); have e0 : (0 : Int32).toInt = 0 := (by decide); have e1 : (1 : Int32).toInt = 1 := (by decide); have e240 : (240 : Int32).toInt = 240 := (by decide); have q0 := zhi_6; have q1 := hm; have q2 := hta0; simp only [cIn, ← Int32.toInt_inj, Int32.le_iff_toInt_le, Int32.lt_iff_toInt_lt] at q0 q1 q2 ⊢; omega) ((congrArg nI (by omega)).trans ((lawA_ofm (m := le0_k24) e_2 (hm.trans (congrArg nI (by omega))) (by omega)).trans (congrArg cod (hAF.symm.trans (af_end (by omega))))).symm) ((congrArg (fun z => fI z 13) e_49).trans rfl)
            · skip
              have nc_48 : ¬ (le0_47 ≤ pl0_47) := fun z => c_48 ((nI_leI (a := le0_47) (b := pl0_47) (by omega) (by omega)).mpr z)
              refine aw_aload_n dX12_law_46 rfl ?_
              refine aw_bipush (v := 59) dX12_law_47 (by decide) ?_
              refine aw_callVi (J' := jX12_takes) (As := [.int 59]) (st := []) dX12_law_49 tb_1291 ok_X12_takes ⟨_, e_47⟩ (by omega) rfl rfl (r_takes3 l D b N V31 hN cl i31_0.1 59 ftoldPeople_47 ftoldDoors_47 fwasDoors_47 ffault_47 fopen_47 flines_47 fmeantSet_47 fopenedNow_47 fvainNow_47 flowNow_47 fhighNow_47 fisKept_47 tad_47 pl0_47 le0_47 nu0_47 coy_47 wag_47 say_47 ⟨by omega, by omega, by omega, by omega, by omega, by omega, by omega⟩ e_47 g_2 xg_r46 (by decide)) rfl (Nat.le_of_ble_eq_true rfl) ⟨Nat.le_of_ble_eq_true rfl, Nat.le_of_ble_eq_true rfl, Nat.le_of_ble_eq_true rfl, Nat.le_of_ble_eq_true rfl⟩ (fun r_56 N_57 V_55 q_58 => ?_)
              obtain ⟨⟨z_53, h_52⟩, rfl, q_51⟩ := q_58
              have j_54 := JR.trans i31_0 (JR.weak q_51 (Sub.cons (LMs (LMs LM0)) (by decide) (by decide) (by decide) (Or.inr ⟨by decide, by decide⟩) (Sub.cons (LMs (LMs (LMs (LMs (LMs (LMs (LMs (LMs LM0)))))))) (by decide) (by decide) (by decide) (Or.inr ⟨by decide, by decide⟩) Sub.nil)))
              refine aw_if_eq (tgt := 66) dX12_law_52 (by decide) (fun c_59 => ?_) (fun c_59 => ?_)
              · skip
                refine aw_iconst (v := 0) dX12_law_66 (by decide) ?_
                refine aw_istore_n (ls' := [some (.ref (b + 100)), some (.int (nI zn0)), some (.int 0), none]) dX12_law_67 (Nat.le_of_ble_eq_true rfl) rfl ?_
                refine aw_goto (tgt := 31) dX12_law_68 (by decide) ?_
                refine aw_le ?_ (mih_31_41 _ (by rw [hm31]; exact tl2 c_42 (Or.inl rfl) (by decide)) 0 0 0 (fun _ => 0) (fun _ => 0) (fun _ => 0) (fun _ => 0) (fun _ => 0) (fun _ => 0) 0 V_55 rfl (j_54) (Or.inl ⟨rfl, hAF.symm.trans ((af_no (by omega) (by rw [← sb_r46ln]; exact ((h_52.resolve_right (fun z => absurd (z.1.symm.trans c_59) (by decide))).2).1)).trans (congrArg Sum.inl ((h_52.resolve_right (fun z => absurd (z.1.symm.trans c_59) (by decide))).2).2.symm))⟩))
                exact ⟨rfl, ⟨rfl, ⟨rfl, trivial⟩⟩⟩
              · skip
                obtain ⟨hT_63, hT_60, hT_61, hT_62⟩ := ((h_52.imp And.left And.right).resolve_left c_59)
                refine aw_aload_n dX12_law_55 rfl ?_
                refine aw_callVi (J' := jX12_readsRule) (As := []) (st := []) dX12_law_56 tb_1216 ok_X12_readsRule ⟨_, hT_60⟩ (by omega) rfl rfl (r_readsRule3 l D b N V_55 hN cl j_54.1 g_2 sd31 wa31 sl31 sf31 sh31 st31 (pl0_47 + 1) le0_k24 coy_47 say_47 ⟨((hT_61 _ (by decide)).trans xg_r46), ((hT_61 _ (by decide)).trans xs_r46), ((hT_61 _ (by decide)).trans xw_r46), ((hT_61 _ (by decide)).trans xa_r46), ((hT_61 _ (by decide)).trans xb_r46), ((hT_61 _ (by decide)).trans xd_r46), ((hT_61 _ (by decide)).trans xe_r46), (FG.of hT_60 rfl rfl), (FG.of hT_60 rfl (by omega : le0_47 = le0_k24)), (FG.of hT_60 rfl rfl), (FG.of hT_60 rfl rfl), ⟨by omega, by omega, by omega, by omega⟩, hR_r46⟩) rfl (Nat.le_of_ble_eq_true rfl) ⟨Nat.le_of_ble_eq_true rfl, Nat.le_of_ble_eq_true rfl, Nat.le_of_ble_eq_true rfl, Nat.le_of_ble_eq_true rfl⟩ (fun r_69 N_70 V_68 q_71 => ?_)
                obtain ⟨⟨z_66, h_65⟩, rfl, q_64⟩ := q_71
                have j_67 := JR.trans j_54 (JR.weak q_64 (Sub.cons LM0 (by decide) (by decide) (by decide) (Or.inl rfl) (Sub.cons (LMs (LMs LM0)) (by decide) (by decide) (by decide) (Or.inr ⟨by decide, by decide⟩) (Sub.cons (LMs (LMs (LMs (LMs (LMs (LMs LM0)))))) (by decide) (by decide) (by decide) (Or.inr ⟨by decide, by decide⟩) (Sub.cons (LMs (LMs (LMs (LMs (LMs (LMs (LMs LM0))))))) (by decide) (by decide) (by decide) (Or.inr ⟨by decide, by decide⟩) (Sub.cons (LMs (LMs (LMs (LMs LM0)))) (by decide) (by decide) (by decide) (Or.inr ⟨by decide, by decide⟩) (Sub.cons (LMs (LMs (LMs (LMs (LMs (LMs (LMs (LMs LM0)))))))) (by decide) (by decide) (by decide) (Or.inr ⟨by decide, by decide⟩) (Sub.cons (LMs (LMs (LMs (LMs (LMs (LMs (LMs (LMs (LMs LM0))))))))) (by decide) (by decide) (by decide) (Or.inr ⟨by decide, by decide⟩) (Sub.cons (LMs (LMs (LMs (LMs (LMs LM0))))) (by decide) (by decide) (by decide) (Or.inr ⟨by decide, by decide⟩) Sub.nil)))))))))
                refine aw_if_eq (tgt := 66) dX12_law_59 (by decide) (fun c_72 => ?_) (fun c_72 => ?_)
                · skip
                  refine aw_iconst (v := 0) dX12_law_66 (by decide) ?_
                  refine aw_istore_n (ls' := [some (.ref (b + 100)), some (.int (nI zn0)), some (.int 0), none]) dX12_law_67 (Nat.le_of_ble_eq_true rfl) rfl ?_
                  refine aw_goto (tgt := 31) dX12_law_68 (by decide) ?_
                  refine aw_le ?_ (mih_31_41 _ (by rw [hm31]; exact tl2 c_42 (Or.inl rfl) (by decide)) 0 0 0 (fun _ => 0) (fun _ => 0) (fun _ => 0) (fun _ => 0) (fun _ => 0) (fun _ => 0) 0 V_68 rfl (j_67) (Or.inl ⟨rfl, (by obtain ⟨f9, e9, t9⟩ := ((h_65.resolve_right (fun z => absurd (z.1.symm.trans c_72) (by decide))).2); rw [e9]; exact hAF.symm.trans ((af_go (by rw [← sb_r46ln]; exact hT_63)).trans t9))⟩))
                  exact ⟨rfl, ⟨rfl, ⟨rfl, trivial⟩⟩⟩
                · skip
                  obtain ⟨hst_z73, hsm_z73, sd_z73, wa_z73, pl_z73, cm_z73, sl_z73, sf_z73, sh_z73, st_z73, hX_z73, hg_z73, hl_z73⟩ := ((h_65.imp And.left And.right).resolve_left c_72)
                  refine aw_iconst (v := 1) dX12_law_62 (by decide) ?_
                  refine aw_goto (tgt := 67) dX12_law_63 (by decide) ?_
                  refine aw_istore_n (ls' := [some (.ref (b + 100)), some (.int (nI zn0)), some (.int 1), none]) dX12_law_67 (Nat.le_of_ble_eq_true rfl) rfl ?_
                  refine aw_goto (tgt := 31) dX12_law_68 (by decide) ?_
                  have hbx := hX_z73.2.2.2.2.2.2.2.2.2.2.2.1
                  refine aw_le ?_ (mih_31_41 _ (by rw [hm31]; exact tl2 c_42 (Or.inr (by omega)) (by omega)) pl_z73 cm_z73 (say_47 + 1) sd_z73 wa_z73 sl_z73 sf_z73 sh_z73 st_z73 1 V_68 rfl (j_67) (Or.inr ⟨rfl, hX_z73, by omega, by omega, (by have q := (tx_go (M := 16) (ln := (fun a _ => lnL (gb g_2) le0_k24 a)) hst_z73 hl_z73 (by omega)).symm.trans ((af_go (by rw [← sb_r46ln]; exact hT_63)).symm.trans hAF); rw [show 16 - say_47 - 1 = 16 - (say_47 + 1) by omega] at q; exact q)⟩))
                  exact ⟨rfl, ⟨rfl, ⟨rfl, trivial⟩⟩⟩
        refine aw_le ?_ (ml_31_41 _ 0 0 0 (fun _ => 0) (fun _ => 0) (fun _ => 0) (fun _ => 0) (fun _ => 0) (fun _ => 0) 0 V_37 rfl (j_36) (Or.inl ⟨rfl, (by obtain ⟨f9, e9, t9⟩ := hf; rw [e9]; exact (congrArg (fun q => txL (gb g_2) le0_k24 16 q) (by omega : 0 = pl0_k24)).trans ((congrArg (fun q => txL (gb g_2) le0_k24 q pl0_k24) (by omega : 16 = 16 - say_k24)).trans t9))⟩))
        exact ⟨rfl, ⟨rfl, ⟨rfl, trivial⟩⟩⟩
      · skip
        obtain ⟨hst_z74, hsm_z74, sd_z74, wa_z74, pl_z74, cm_z74, sl_z74, sf_z74, sh_z74, st_z74, hX_z74, hg_z74, hl_z74⟩ := hR
        refine aw_eqi (y := 1) hz ?_
        refine aw_istore_n (ls' := [some (.ref (b + 100)), some (.int (nI zn0)), some (.int 1), none]) dX12_law_30 (Nat.le_of_ble_eq_true rfl) rfl ?_
        have ml_31_75 : ∀ (m : Nat) (a31 : Nat) (c31 : Nat) (m31 : Nat) (sd31 : Nat → Int32) (wa31 : Nat → Int32) (sl31 : Nat → Int32) (sf31 : Nat → Int32) (sh31 : Nat → Int32) (st31 : Nat → Int32) (v31_2 : Int32) (V31 : Wd), m = (if v31_2 = 0 then 0 else 1 + (240 - a31)) → (JR D b N cl [(111, 121, 0, 1000000), (100, 100, 22, 22), (100, 100, 14, 14), (100, 100, 15, 15), (100, 100, 19, 19), (100, 100, 21, 21), (100, 100, 18, 18), (100, 100, 20, 20), (100, 100, 16, 16), (100, 100, 17, 17), (100, 100, 13, 13)] V V31) → ((v31_2 = 0 ∧ txL (gb g_2) le0_k24 16 0 = .inl (fI (V31 100) 16)) ∨ (v31_2 = 1 ∧ RX D b V31 g_2 a31 le0_k24 c31 sd31 wa31 sl31 sf31 sh31 st31 m31 ∧ 1 ≤ m31 ∧ m31 ≤ 16 ∧ afL (gb g_2) le0_k24 (16 - m31) a31 = txL (gb g_2) le0_k24 16 0)) → AW l D b jX12_law (fx_rm 8 0 0) none (fx_MQ D b 0 0 (fx_qi (fun r N9 V9 => N = N9 ∧ ∃ cl9, CR D b cl9 V9 ∧ (∀ i, (i < 100 ∨ 133 ≤ i) → i < N → V9 i = V i) ∧ WF D cl9 V9 ∧ (∀ i k, 100 ≤ i → i < 133 → fwB [(111, 121, 0, 1000000), (100, 100, 22, 22), (100, 100, 14, 14), (100, 100, 15, 15), (100, 100, 19, 19), (100, 100, 21, 21), (100, 100, 18, 18), (100, 100, 20, 20), (100, 100, 16, 16), (100, 100, 17, 17), (100, 100, 13, 13)] i k = false → pj (V9 i) k = pj (V i) k) ∧ ANS (cIn m0 1 240 (fI (V 100) 13)) r (lawA (gb (fI (V 110))) m0) ∧ TKS (cIn m0 1 240 (fI (V 100) 13)) (fI (V 100) 13) (fI (V9 100) 13)))) 31 [some (.ref (b + 100)), some (.int (nI zn0)), some (.int v31_2), none] [] N V31 0 0 := by
          intro m; refine Nat.strongRecOn m ?_
          intro m mih_31_75 a31 c31 m31 sd31 wa31 sl31 sf31 sh31 st31 v31_2 V31 hm31 i31_0 i31_1
          refine aw_iload_n dX12_law_31 rfl ?_
          refine aw_if_eq (tgt := 71) dX12_law_32 (by decide) (fun c_76 => ?_) (fun c_76 => ?_)
          · skip
            refine aw_aload_n dX12_law_71 rfl ?_
            refine aw_iconst (v := 0) dX12_law_72 (by decide) ?_
            obtain ⟨ftoldPeople_77, ftoldDoors_77, fwasDoors_77, ffault_77, fopen_77, flines_77, fmeantSet_77, fopenedNow_77, fvainNow_77, flowNow_77, fhighNow_77, fisKept_77, tad_77, pl0_77, le0_77, nu0_77, coy_77, wag_77, say_77, e_77, hntad_77, hnpl0_77, hnle0_77, hnnu0_77, hncoy_77, hnwag_77, hnsay_77⟩ := JR.get i31_0 cm_100
            refine aw_put dX12_law_73 fp_X12_152 e_77 (by omega) rfl rfl (Nat.le_of_ble_eq_true rfl) rfl ?_
            refine aw_upR i31_0 cm_100 ⟨_, _, _, _, _, _, _, _, _, _, _, _, 0, pl0_77, le0_77, nu0_77, coy_77, wag_77, say_77, rfl, by omega, by omega, by omega, by omega, by omega, by omega, by omega⟩ (by decide) (WO (s := 13) (x := .int 0) e_77 rfl (LMs (LMs (LMs (LMs (LMs (LMs (LMs (LMs (LMs (LMs LM0)))))))))) (by decide) (by decide) (by decide) (Or.inl (by decide))) (fun V_78 j_78 k_78 e_78 => ?_)
            refine aw_iload_n dX12_law_76 rfl ?_
            refine aw_if_ne (tgt := 85) dX12_law_77 (by decide) (fun c_79 => ?_) (fun c_79 => ?_)
            · first | exact absurd c_79 c_76 | exact absurd c_76 c_79 | exact absurd c_79 (Int32.not_lt.mpr c_76) | exact absurd c_76 (Int32.not_lt.mpr c_79) | exact c_76 (Int32.not_lt.mp c_79) | exact c_76 (Int32.not_le.mp c_79)
            refine aw_aload_n dX12_law_80 rfl ?_
            refine aw_get dX12_law_81 fl_X12_169 e_78 (by omega) rfl ?_
            refine aw_ireti dX12_law_84 rfl (Nat.le_of_ble_eq_true rfl) (Nat.le_of_ble_eq_true rfl) ?_
            exact ⟨rfl, cl, j_78.1, j_78.2.1, WF.fr hwf j_78.2.2.1, j_78.2.2.2, Or.inl ⟨(by have zhi_6 := hi_6.resolve_left c_12; have zzzn0 := fx_nIt (n := zn0) (by omega); have zt := fx_nIt (n := tad_1) (by omega); have e0 : (0 : Int32).toInt = 0 := (by decide); have e1 : (1 : Int32).toInt = 1 := (by decide); have e240 : (240 : Int32).toInt = 240 := (by decide); have q0 := zhi_6; have q1 := hm; have q2 := hta0; simp only [cIn, ← Int32.toInt_inj, Int32.le_iff_toInt_le, Int32.lt_iff_toInt_lt] at q0 q1 q2 ⊢; omega), ((congrArg (fun z => fI z 16) e_78).symm.trans ((KA (s := 13) (x := .int 0) e_77 rfl (by decide) e_78 k_78 (Eq.refl (fI (V31 100) 16))).trans ((lawA_ofm (m := le0_k24) e_2 (hm.trans (congrArg nI (by omega))) (by omega)).trans (congrArg cod (i31_1.resolve_right (fun z => absurd ((c_76).symm.trans z.1) (by decide))).2)).symm))⟩, Or.inl ⟨(by have zhi_6 := hi_6.resolve_left c_12; have zzzn0 := fx_nIt (n := zn0) (by omega); have zt := fx_nIt (n := tad_1) (by omega); have e0 : (0 : Int32).toInt = 0 := (by decide); have e1 : (1 : Int32).toInt = 1 := (by decide); have e240 : (240 : Int32).toInt = 240 := (by decide); have q0 := zhi_6; have q1 := hm; have q2 := hta0; simp only [cIn, ← Int32.toInt_inj, Int32.le_iff_toInt_le, Int32.lt_iff_toInt_lt] at q0 q1 q2 ⊢; omega), ((congrArg (fun z => fI z 13) e_78).trans rfl)⟩⟩
          · skip
            obtain ⟨hv31, hX31, hm31a, hm31b, hAF⟩ := i31_1.resolve_left (fun z => c_76 z.1)
            obtain ⟨xg_r80, xs_r80, xw_r80, xa_r80, xb_r80, xd_r80, xe_r80, xp_r80, xl_r80, xc_r80, xm_r80, ⟨hB1_r80, hB2_r80, hB3_r80, hB4_r80⟩, hR_r80⟩ := hX31
            obtain ⟨ftoldPeople_81, ftoldDoors_81, fwasDoors_81, ffault_81, fopen_81, flines_81, fmeantSet_81, fopenedNow_81, fvainNow_81, flowNow_81, fhighNow_81, fisKept_81, tad_81, pl0_81, le0_81, nu0_81, coy_81, wag_81, say_81, e_81, hntad_81, hnpl0_81, hnle0_81, hnnu0_81, hncoy_81, hnwag_81, hnsay_81⟩ := JR.get i31_0 cm_100
            have sb_r80pl := FG.eq xp_r80 e_81 rfl (by omega) (by omega)
            subst sb_r80pl
            have sb_r80cm := FG.eq xc_r80 e_81 rfl (by omega) (by omega)
            subst sb_r80cm
            have sb_r80sm := FG.eq xm_r80 e_81 rfl (by omega) (by omega)
            subst sb_r80sm
            have sb_r80ln := FG.eq xl_r80 e_81 rfl (by omega) (by omega)
            refine aw_aload_n dX12_law_35 rfl ?_
            refine aw_get dX12_law_36 fl_X12_159 e_81 (by omega) rfl ?_
            refine aw_aload_n dX12_law_39 rfl ?_
            refine aw_get dX12_law_40 fl_X12_162 e_81 (by omega) rfl ?_
            refine aw_icmp_ge (tgt := 71) dX12_law_43 (by decide) (fun c_82 => ?_) (fun c_82 => ?_)
            · skip
              have nc_82 : le0_81 ≤ pl0_81 := (nI_leI (a := le0_81) (b := pl0_81) (by omega) (by omega)).mp c_82
              refine aw_aload_n dX12_law_71 rfl ?_
              refine aw_iconst (v := 0) dX12_law_72 (by decide) ?_
              refine aw_put dX12_law_73 fp_X12_152 e_81 (by omega) rfl rfl (Nat.le_of_ble_eq_true rfl) rfl ?_
              refine aw_upR i31_0 cm_100 ⟨_, _, _, _, _, _, _, _, _, _, _, _, 0, pl0_81, le0_81, nu0_81, coy_81, wag_81, say_81, rfl, by omega, by omega, by omega, by omega, by omega, by omega, by omega⟩ (by decide) (WO (s := 13) (x := .int 0) e_81 rfl (LMs (LMs (LMs (LMs (LMs (LMs (LMs (LMs (LMs (LMs LM0)))))))))) (by decide) (by decide) (by decide) (Or.inl (by decide))) (fun V_83 j_83 k_83 e_83 => ?_)
              refine aw_iload_n dX12_law_76 rfl ?_
              refine aw_if_ne (tgt := 85) dX12_law_77 (by decide) (fun c_84 => ?_) (fun c_84 => ?_)
              rotate_left
              · first | exact absurd c_76 c_84 | exact absurd c_84 c_76
              exact r_lawtail3 l D b N V V_83 hN cl j_83 ftoldPeople_81 ftoldDoors_81 fwasDoors_81 ffault_81 fopen_81 flines_81 fmeantSet_81 fopenedNow_81 fvainNow_81 flowNow_81 fhighNow_81 fisKept_81 0 pl0_81 le0_81 nu0_81 coy_81 wag_81 say_81 ⟨by omega, by omega, by omega, by omega, by omega, by omega, by omega⟩ e_83 sd31 wa31 sl31 sf31 sh31 st31 ((k_83 _ (by decide)).trans xs_r80) ((k_83 _ (by decide)).trans xa_r80) ((k_83 _ (by decide)).trans xb_r80) ((k_83 _ (by decide)).trans xd_r80) ((k_83 _ (by decide)).trans xe_r80) (by omega) hR_r80 _ _ (cIn m0 1 240 (fI (V 100) 13)) (lawA (gb (fI (V 110))) m0) (by have zhi_6 := hi_6.resolve_left c_12; have zzzn0 := fx_nIt (n := zn0) (by omega); have zt := fx_nIt (n := tad_1) (by omega); have e0 : (0 : Int32).toInt = 0 := (by decide); have e1 : (1 : Int32).toInt = 1 := (by decide); have e240 : (240 : Int32).toInt = 240 := (by decide); have q0 := zhi_6; have q1 := hm; have q2 := hta0; simp only [cIn, ← Int32.toInt_inj, Int32.le_iff_toInt_le, Int32.lt_iff_toInt_lt] at q0 q1 q2 ⊢; omega) ((congrArg nI (by omega)).trans ((lawA_ofm (m := le0_k24) e_2 (hm.trans (congrArg nI (by omega))) (by omega)).trans (congrArg cod (hAF.symm.trans (af_end (by omega))))).symm) ((congrArg (fun z => fI z 13) e_83).trans rfl)
            · skip
              have nc_82 : ¬ (le0_81 ≤ pl0_81) := fun z => c_82 ((nI_leI (a := le0_81) (b := pl0_81) (by omega) (by omega)).mpr z)
              refine aw_aload_n dX12_law_46 rfl ?_
              refine aw_bipush (v := 59) dX12_law_47 (by decide) ?_
              refine aw_callVi (J' := jX12_takes) (As := [.int 59]) (st := []) dX12_law_49 tb_1291 ok_X12_takes ⟨_, e_81⟩ (by omega) rfl rfl (r_takes3 l D b N V31 hN cl i31_0.1 59 ftoldPeople_81 ftoldDoors_81 fwasDoors_81 ffault_81 fopen_81 flines_81 fmeantSet_81 fopenedNow_81 fvainNow_81 flowNow_81 fhighNow_81 fisKept_81 tad_81 pl0_81 le0_81 nu0_81 coy_81 wag_81 say_81 ⟨by omega, by omega, by omega, by omega, by omega, by omega, by omega⟩ e_81 g_2 xg_r80 (by decide)) rfl (Nat.le_of_ble_eq_true rfl) ⟨Nat.le_of_ble_eq_true rfl, Nat.le_of_ble_eq_true rfl, Nat.le_of_ble_eq_true rfl, Nat.le_of_ble_eq_true rfl⟩ (fun r_90 N_91 V_89 q_92 => ?_)
              obtain ⟨⟨z_87, h_86⟩, rfl, q_85⟩ := q_92
              have j_88 := JR.trans i31_0 (JR.weak q_85 (Sub.cons (LMs (LMs LM0)) (by decide) (by decide) (by decide) (Or.inr ⟨by decide, by decide⟩) (Sub.cons (LMs (LMs (LMs (LMs (LMs (LMs (LMs (LMs LM0)))))))) (by decide) (by decide) (by decide) (Or.inr ⟨by decide, by decide⟩) Sub.nil)))
              refine aw_if_eq (tgt := 66) dX12_law_52 (by decide) (fun c_93 => ?_) (fun c_93 => ?_)
              · skip
                refine aw_iconst (v := 0) dX12_law_66 (by decide) ?_
                refine aw_istore_n (ls' := [some (.ref (b + 100)), some (.int (nI zn0)), some (.int 0), none]) dX12_law_67 (Nat.le_of_ble_eq_true rfl) rfl ?_
                refine aw_goto (tgt := 31) dX12_law_68 (by decide) ?_
                refine aw_le ?_ (mih_31_75 _ (by rw [hm31]; exact tl2 c_76 (Or.inl rfl) (by decide)) 0 0 0 (fun _ => 0) (fun _ => 0) (fun _ => 0) (fun _ => 0) (fun _ => 0) (fun _ => 0) 0 V_89 rfl (j_88) (Or.inl ⟨rfl, hAF.symm.trans ((af_no (by omega) (by rw [← sb_r80ln]; exact ((h_86.resolve_right (fun z => absurd (z.1.symm.trans c_93) (by decide))).2).1)).trans (congrArg Sum.inl ((h_86.resolve_right (fun z => absurd (z.1.symm.trans c_93) (by decide))).2).2.symm))⟩))
                exact ⟨rfl, ⟨rfl, ⟨rfl, trivial⟩⟩⟩
              · skip
                obtain ⟨hT_97, hT_94, hT_95, hT_96⟩ := ((h_86.imp And.left And.right).resolve_left c_93)
                refine aw_aload_n dX12_law_55 rfl ?_
                refine aw_callVi (J' := jX12_readsRule) (As := []) (st := []) dX12_law_56 tb_1216 ok_X12_readsRule ⟨_, hT_94⟩ (by omega) rfl rfl (r_readsRule3 l D b N V_89 hN cl j_88.1 g_2 sd31 wa31 sl31 sf31 sh31 st31 (pl0_81 + 1) le0_k24 coy_81 say_81 ⟨((hT_95 _ (by decide)).trans xg_r80), ((hT_95 _ (by decide)).trans xs_r80), ((hT_95 _ (by decide)).trans xw_r80), ((hT_95 _ (by decide)).trans xa_r80), ((hT_95 _ (by decide)).trans xb_r80), ((hT_95 _ (by decide)).trans xd_r80), ((hT_95 _ (by decide)).trans xe_r80), (FG.of hT_94 rfl rfl), (FG.of hT_94 rfl (by omega : le0_81 = le0_k24)), (FG.of hT_94 rfl rfl), (FG.of hT_94 rfl rfl), ⟨by omega, by omega, by omega, by omega⟩, hR_r80⟩) rfl (Nat.le_of_ble_eq_true rfl) ⟨Nat.le_of_ble_eq_true rfl, Nat.le_of_ble_eq_true rfl, Nat.le_of_ble_eq_true rfl, Nat.le_of_ble_eq_true rfl⟩ (fun r_103 N_104 V_102 q_105 => ?_)
                obtain ⟨⟨z_100, h_99⟩, rfl, q_98⟩ := q_105
                have j_101 := JR.trans j_88 (JR.weak q_98 (Sub.cons LM0 (by decide) (by decide) (by decide) (Or.inl rfl) (Sub.cons (LMs (LMs LM0)) (by decide) (by decide) (by decide) (Or.inr ⟨by decide, by decide⟩) (Sub.cons (LMs (LMs (LMs (LMs (LMs (LMs LM0)))))) (by decide) (by decide) (by decide) (Or.inr ⟨by decide, by decide⟩) (Sub.cons (LMs (LMs (LMs (LMs (LMs (LMs (LMs LM0))))))) (by decide) (by decide) (by decide) (Or.inr ⟨by decide, by decide⟩) (Sub.cons (LMs (LMs (LMs (LMs LM0)))) (by decide) (by decide) (by decide) (Or.inr ⟨by decide, by decide⟩) (Sub.cons (LMs (LMs (LMs (LMs (LMs (LMs (LMs (LMs LM0)))))))) (by decide) (by decide) (by decide) (Or.inr ⟨by decide, by decide⟩) (Sub.cons (LMs (LMs (LMs (LMs (LMs (LMs (LMs (LMs (LMs LM0))))))))) (by decide) (by decide) (by decide) (Or.inr ⟨by decide, by decide⟩) (Sub.cons (LMs (LMs (LMs (LMs (LMs LM0))))) (by decide) (by decide) (by decide) (Or.inr ⟨by decide, by decide⟩) Sub.nil)))))))))
                refine aw_if_eq (tgt := 66) dX12_law_59 (by decide) (fun c_106 => ?_) (fun c_106 => ?_)
                · skip
                  refine aw_iconst (v := 0) dX12_law_66 (by decide) ?_
                  refine aw_istore_n (ls' := [some (.ref (b + 100)), some (.int (nI zn0)), some (.int 0), none]) dX12_law_67 (Nat.le_of_ble_eq_true rfl) rfl ?_
                  refine aw_goto (tgt := 31) dX12_law_68 (by decide) ?_
                  refine aw_le ?_ (mih_31_75 _ (by rw [hm31]; exact tl2 c_76 (Or.inl rfl) (by decide)) 0 0 0 (fun _ => 0) (fun _ => 0) (fun _ => 0) (fun _ => 0) (fun _ => 0) (fun _ => 0) 0 V_102 rfl (j_101) (Or.inl ⟨rfl, (by obtain ⟨f9, e9, t9⟩ := ((h_99.resolve_right (fun z => absurd (z.1.symm.trans c_106) (by decide))).2); rw [e9]; exact hAF.symm.trans ((af_go (by rw [← sb_r80ln]; exact hT_97)).trans t9))⟩))
                  exact ⟨rfl, ⟨rfl, ⟨rfl, trivial⟩⟩⟩
                · skip
                  obtain ⟨hst_z107, hsm_z107, sd_z107, wa_z107, pl_z107, cm_z107, sl_z107, sf_z107, sh_z107, st_z107, hX_z107, hg_z107, hl_z107⟩ := ((h_99.imp And.left And.right).resolve_left c_106)
                  refine aw_iconst (v := 1) dX12_law_62 (by decide) ?_
                  refine aw_goto (tgt := 67) dX12_law_63 (by decide) ?_
                  refine aw_istore_n (ls' := [some (.ref (b + 100)), some (.int (nI zn0)), some (.int 1), none]) dX12_law_67 (Nat.le_of_ble_eq_true rfl) rfl ?_
                  refine aw_goto (tgt := 31) dX12_law_68 (by decide) ?_
                  have hbx := hX_z107.2.2.2.2.2.2.2.2.2.2.2.1
                  refine aw_le ?_ (mih_31_75 _ (by rw [hm31]; exact tl2 c_76 (Or.inr (by omega)) (by omega)) pl_z107 cm_z107 (say_81 + 1) sd_z107 wa_z107 sl_z107 sf_z107 sh_z107 st_z107 1 V_102 rfl (j_101) (Or.inr ⟨rfl, hX_z107, by omega, by omega, (by have q := (tx_go (M := 16) (ln := (fun a _ => lnL (gb g_2) le0_k24 a)) hst_z107 hl_z107 (by omega)).symm.trans ((af_go (by rw [← sb_r80ln]; exact hT_97)).symm.trans hAF); rw [show 16 - say_81 - 1 = 16 - (say_81 + 1) by omega] at q; exact q)⟩))
                  exact ⟨rfl, ⟨rfl, ⟨rfl, trivial⟩⟩⟩
        refine aw_le ?_ (ml_31_75 _ pl_z74 cm_z74 (say_k24 + 1) sd_z74 wa_z74 sl_z74 sf_z74 sh_z74 st_z74 1 V_37 rfl (j_36) (Or.inr ⟨rfl, hX_z74, by omega, by omega, (by have q := (tx_go (M := 16) (s := ()) (k := 16 - say_k24) (ln := (fun a _ => lnL (gb g_2) le0_k24 a)) hst_z74 hl_z74 (by omega)).symm; rw [show 16 - say_k24 - 1 = 16 - (say_k24 + 1) by omega] at q; exact q.trans ((congrArg (fun q => txL (gb g_2) le0_k24 q pl0_k24) (by omega : 16 - say_k24 = 16)).trans (congrArg (fun q => txL (gb g_2) le0_k24 16 q) (by omega : pl0_k24 = 0))))⟩))
        exact ⟨rfl, ⟨rfl, ⟨rfl, trivial⟩⟩⟩
    · skip
      have nc_13 : ¬ (zn0 ≤ tad_1) := fun z => c_13 ((nI_leI (a := zn0) (b := tad_1) (by omega) (by omega)).mpr z)
      refine aw_iconst (v := (-1)) dX12_law_19 (by decide) ?_
      refine aw_ireti dX12_law_20 rfl (Nat.le_of_ble_eq_true rfl) (Nat.le_of_ble_eq_true rfl) ?_
      exact ⟨rfl, cl, hJ0.1, hJ0.2.1, WF.fr hwf hJ0.2.2.1, hJ0.2.2.2, Or.inr ⟨(by have zhi_6 := hi_6.resolve_left c_12; have zzzn0 := fx_nIt (n := zn0) (by omega); have zt := fx_nIt (n := tad_1) (by omega); have e0 : (0 : Int32).toInt = 0 := (by decide); have e1 : (1 : Int32).toInt = 1 := (by decide); have e240 : (240 : Int32).toInt = 240 := (by decide); have q0 := zhi_6; have q1 := hm; have q2 := hta0; simp only [cIn, ← Int32.toInt_inj, Int32.le_iff_toInt_le, Int32.lt_iff_toInt_lt] at q0 q1 q2 ⊢; omega), rfl⟩, Or.inr ⟨(by have zhi_6 := hi_6.resolve_left c_12; have zzzn0 := fx_nIt (n := zn0) (by omega); have zt := fx_nIt (n := tad_1) (by omega); have e0 : (0 : Int32).toInt = 0 := (by decide); have e1 : (1 : Int32).toInt = 1 := (by decide); have e240 : (240 : Int32).toInt = 240 := (by decide); have q0 := zhi_6; have q1 := hm; have q2 := hta0; simp only [cIn, ← Int32.toInt_inj, Int32.le_iff_toInt_le, Int32.lt_iff_toInt_lt] at q0 q1 q2 ⊢; omega), (Eq.refl (fI (V 100) 13))⟩⟩

