set_option maxHeartbeats 4000000 in
set_option maxRecDepth 100000 in
theorem r_notes (l : Launch) (D : va_G) (b : Nat) (N : Nat) (V : Wd) (hN : 133 ≤ N) (cl : Nat) (hW : CR D b cl V) (n0 : Int32) (n1 : Int32) (o v : Nat) (ho : o ≤ 15) (hv : v < 1048576) (ftoldPeople_0 : Int32) (ftoldDoors_0 : Int32) (fwasDoors_0 : Int32) (ffault_0 : Int32) (fopen_0 : Int32) (flines_0 : Int32) (fmeantSet_0 : Int32) (fopenedNow_0 : Int32) (fvainNow_0 : Int32) (flowNow_0 : Int32) (fhighNow_0 : Int32) (fisKept_0 : Int32) (tad_0 : Nat) (pl0_0 : Nat) (le0_0 : Nat) (nu0_0 : Nat) (coy_0 : Nat) (wag_0 : Nat) (say_0 : Nat) (hn0 : tad_0 ≤ 260 ∧ pl0_0 ≤ 240 ∧ le0_0 ≤ 240 ∧ nu0_0 ≤ 99999 ∧ coy_0 ≤ 260 ∧ wag_0 ≤ 260 ∧ say_0 ≤ 16) (h100 : V 100 = cO 11 [.ref (b + 101), .ref (b + 102), .ref (b + 103), .ref (b + 104), .ref (b + 105), .ref (b + 106), .ref (b + 107), .ref (b + 108), .ref (b + 109), .int ftoldPeople_0, .int ftoldDoors_0, .int fwasDoors_0, .ref (b + 110), .int (nI tad_0), .int (nI pl0_0), .int (nI le0_0), .int ffault_0, .int (nI nu0_0), .int fopen_0, .int (nI coy_0), .int (nI wag_0), .int (nI say_0), .int (nI cl), .ref (b + 111), .ref (b + 112), .ref (b + 113), .ref (b + 114), .ref (b + 115), .ref (b + 116), .ref (b + 117), .ref (b + 118), .ref (b + 119), .ref (b + 120), .ref (b + 121), .ref (b + 122), .ref (b + 123), .int flines_0, .int fmeantSet_0, .int fopenedNow_0, .int fvainNow_0, .ref (b + 124), .ref (b + 125), .ref (b + 126), .ref (b + 127), .ref (b + 128), .int flowNow_0, .int fhighNow_0, .ref (b + 129), .ref (b + 130), .ref (b + 131), .ref (b + 132), .int fisKept_0]) (g sd wa : Nat → Int32) (hg : V 110 = cB D 260 g) (hsd : V 111 = cI D 260 sd) (hwa : V 112 = cI D 260 wa) (hc : coy_0 < 260) : MV l D b 0 jX12_notes [.ref (b + 100), .int (nI o), .int (nI v)] N V 0 0 (fun N9 V9 => (V9 100 = cO 11 [.ref (b + 101), .ref (b + 102), .ref (b + 103), .ref (b + 104), .ref (b + 105), .ref (b + 106), .ref (b + 107), .ref (b + 108), .ref (b + 109), .int ftoldPeople_0, .int ftoldDoors_0, .int fwasDoors_0, .ref (b + 110), .int (nI tad_0), .int (nI pl0_0), .int (nI le0_0), .int ffault_0, .int (nI nu0_0), .int fopen_0, .int (nI (coy_0 + 1)), .int (nI wag_0), .int (nI say_0), .int (nI cl), .ref (b + 111), .ref (b + 112), .ref (b + 113), .ref (b + 114), .ref (b + 115), .ref (b + 116), .ref (b + 117), .ref (b + 118), .ref (b + 119), .ref (b + 120), .ref (b + 121), .ref (b + 122), .ref (b + 123), .int flines_0, .int fmeantSet_0, .int fopenedNow_0, .int fvainNow_0, .ref (b + 124), .ref (b + 125), .ref (b + 126), .ref (b + 127), .ref (b + 128), .int flowNow_0, .int fhighNow_0, .ref (b + 129), .ref (b + 130), .ref (b + 131), .ref (b + 132), .int fisKept_0] ∧ V9 111 = cI D 260 (upd sd coy_0 (nI (1048576 * o + v))) ∧ ∀ i, i ≠ 100 → i ≠ 111 → V9 i = V i) ∧ N = N9 ∧ JR D b N cl [(111, 111, 0, 1000000), (100, 100, 19, 19)] V V9) := by
  have hJ0 : JR D b N cl [(111, 111, 0, 1000000), (100, 100, 19, 19)] V V := JR.rf hW
  obtain ⟨hb_tad, hb_pl0, hb_le0, hb_nu0, hb_coy, hb_wag, hb_say⟩ := id hn0
  refine mw_of (by decide) (by simp [Value.category]) (Nat.le_of_ble_eq_true rfl) ?_
  show AW l D b jX12_notes (fx_rm 0 0 0) none (fx_MQ D b 0 0 (fx_qv (fun N9 V9 => (V9 100 = cO 11 [.ref (b + 101), .ref (b + 102), .ref (b + 103), .ref (b + 104), .ref (b + 105), .ref (b + 106), .ref (b + 107), .ref (b + 108), .ref (b + 109), .int ftoldPeople_0, .int ftoldDoors_0, .int fwasDoors_0, .ref (b + 110), .int (nI tad_0), .int (nI pl0_0), .int (nI le0_0), .int ffault_0, .int (nI nu0_0), .int fopen_0, .int (nI (coy_0 + 1)), .int (nI wag_0), .int (nI say_0), .int (nI cl), .ref (b + 111), .ref (b + 112), .ref (b + 113), .ref (b + 114), .ref (b + 115), .ref (b + 116), .ref (b + 117), .ref (b + 118), .ref (b + 119), .ref (b + 120), .ref (b + 121), .ref (b + 122), .ref (b + 123), .int flines_0, .int fmeantSet_0, .int fopenedNow_0, .int fvainNow_0, .ref (b + 124), .ref (b + 125), .ref (b + 126), .ref (b + 127), .ref (b + 128), .int flowNow_0, .int fhighNow_0, .ref (b + 129), .ref (b + 130), .ref (b + 131), .ref (b + 132), .int fisKept_0] ∧ V9 111 = cI D 260 (upd sd coy_0 (nI (1048576 * o + v))) ∧ ∀ i, i ≠ 100 → i ≠ 111 → V9 i = V i) ∧ N = N9 ∧ JR D b N cl [(111, 111, 0, 1000000), (100, 100, 19, 19)] V V9))) 0 [some (.ref (b + 100)), some (.int (nI o)), some (.int (nI v))] [] N V 0 0
  refine aw_aload_n dX12_notes_0 rfl ?_
  refine aw_get dX12_notes_1 fl_X12_41 h100 (by omega) rfl ?_
  refine aw_aload_n dX12_notes_4 rfl ?_
  refine aw_get dX12_notes_5 fl_X12_182 h100 (by omega) rfl ?_
  refine aw_ldc (v := 1048576) dX12_notes_8 tb_1240 ?_
  refine aw_iload_n dX12_notes_10 rfl ?_
  refine aw_imul dX12_notes_11 ?_
  refine aw_eqi (y := nI (1048576 * o)) (pk_mul _ _) ?_
  refine aw_iload_n dX12_notes_12 rfl ?_
  refine aw_iadd dX12_notes_13 ?_
  refine aw_eqi (y := nI ((1048576 * o) + v)) (nI_add _ _) ?_
  refine aw_iast dX12_notes_14 hsd (by omega) (vp_in_nI (n := coy_0) (by omega) (by omega)) ?_
  refine aw_upR hJ0 cm_111 ⟨_, rfl⟩ (by decide) (WA LM0 (by decide) (by decide)) (fun V_1 j_1 k_1 e_1 => ?_)
  have e_2 : V_1 111 = cI D 260 (upd sd coy_0 (nI ((1048576 * o) + v))) := by rw [e_1, nI_clamp (n := coy_0) (by omega)]
  refine aw_aload_n dX12_notes_15 rfl ?_
  refine aw_aload_n dX12_notes_16 rfl ?_
  refine aw_get dX12_notes_17 fl_X12_182 ((k_1 _ (by decide)).trans h100) (by omega) rfl ?_
  refine aw_iconst (v := 1) dX12_notes_20 (by decide) ?_
  refine aw_iadd dX12_notes_21 ?_
  refine aw_eqi (y := nI (coy_0 + 1)) (nI_add _ _) ?_
  refine aw_put dX12_notes_22 fp_X12_182 ((k_1 _ (by decide)).trans h100) (by omega) rfl rfl (Nat.le_of_ble_eq_true rfl) rfl ?_
  refine aw_upR j_1 cm_100 ⟨_, _, _, _, _, _, _, _, _, _, _, _, tad_0, pl0_0, le0_0, nu0_0, (coy_0 + 1), wag_0, say_0, rfl, by omega, by omega, by omega, by omega, by omega, by omega, by omega⟩ (by decide) (WO (s := 19) (x := .int (nI (coy_0 + 1))) ((k_1 _ (by decide)).trans h100) rfl (LMs LM0) (by decide) (by decide) (by decide) (Or.inl (by decide))) (fun V_3 j_3 k_3 e_3 => ?_)
  refine aw_vreti dX12_notes_25 rfl (Nat.le_of_ble_eq_true rfl) (Nat.le_of_ble_eq_true rfl) ?_
  exact ⟨⟨e_3, ((k_3 _ (by decide)).trans e_2), fun i h100 h111 => (k_3 i h100).trans (k_1 i h111)⟩, rfl, j_3⟩

set_option maxHeartbeats 4000000 in
set_option maxRecDepth 100000 in
theorem r_waitTop (l : Launch) (D : va_G) (b : Nat) (N : Nat) (V : Wd) (hN : 133 ≤ N) (cl : Nat) (hW : CR D b cl V)  (ftoldPeople_0 : Int32) (ftoldDoors_0 : Int32) (fwasDoors_0 : Int32) (ffault_0 : Int32) (fopen_0 : Int32) (flines_0 : Int32) (fmeantSet_0 : Int32) (fopenedNow_0 : Int32) (fvainNow_0 : Int32) (flowNow_0 : Int32) (fhighNow_0 : Int32) (fisKept_0 : Int32) (tad_0 : Nat) (pl0_0 : Nat) (le0_0 : Nat) (nu0_0 : Nat) (coy_0 : Nat) (wag_0 : Nat) (say_0 : Nat) (hn0 : tad_0 ≤ 260 ∧ pl0_0 ≤ 240 ∧ le0_0 ≤ 240 ∧ nu0_0 ≤ 99999 ∧ coy_0 ≤ 260 ∧ wag_0 ≤ 260 ∧ say_0 ≤ 16) (h100 : V 100 = cO 11 [.ref (b + 101), .ref (b + 102), .ref (b + 103), .ref (b + 104), .ref (b + 105), .ref (b + 106), .ref (b + 107), .ref (b + 108), .ref (b + 109), .int ftoldPeople_0, .int ftoldDoors_0, .int fwasDoors_0, .ref (b + 110), .int (nI tad_0), .int (nI pl0_0), .int (nI le0_0), .int ffault_0, .int (nI nu0_0), .int fopen_0, .int (nI coy_0), .int (nI wag_0), .int (nI say_0), .int (nI cl), .ref (b + 111), .ref (b + 112), .ref (b + 113), .ref (b + 114), .ref (b + 115), .ref (b + 116), .ref (b + 117), .ref (b + 118), .ref (b + 119), .ref (b + 120), .ref (b + 121), .ref (b + 122), .ref (b + 123), .int flines_0, .int fmeantSet_0, .int fopenedNow_0, .int fvainNow_0, .ref (b + 124), .ref (b + 125), .ref (b + 126), .ref (b + 127), .ref (b + 128), .int flowNow_0, .int fhighNow_0, .ref (b + 129), .ref (b + 130), .ref (b + 131), .ref (b + 132), .int fisKept_0]) (wa : Nat → Int32) (hwa : V 112 = cI D 260 wa) (hE : 0 < wag_0 → ∃ o a, wa (wag_0 - 1) = nI (1048576 * o + a) ∧ a < 260 ∧ 2 ≤ o ∧ o ≤ 14) : MI l D b 0 jX12_waitTop [.ref (b + 100)] N V 0 0 (fun r N9 V9 => ((wag_0 = 0 ∧ r = -1) ∨ (0 < wag_0 ∧ r = nI (opOf (wa (wag_0 - 1))))) ∧ N = N9 ∧ V = V9) := by
  have hJ0 : JR D b N cl [] V V := JR.rf hW
  obtain ⟨hb_tad, hb_pl0, hb_le0, hb_nu0, hb_coy, hb_wag, hb_say⟩ := id hn0
  refine mw_of (by decide) (by simp [Value.category]) (Nat.le_of_ble_eq_true rfl) ?_
  show AW l D b jX12_waitTop (fx_rm 0 0 0) none (fx_MQ D b 0 0 (fx_qi (fun r N9 V9 => ((wag_0 = 0 ∧ r = -1) ∨ (0 < wag_0 ∧ r = nI (opOf (wa (wag_0 - 1))))) ∧ N = N9 ∧ V = V9))) 0 [some (.ref (b + 100))] [] N V 0 0
  refine aw_aload_n dX12_waitTop_0 rfl ?_
  refine aw_get dX12_waitTop_1 fl_X12_189 h100 (by omega) rfl ?_
  refine aw_if_ne (tgt := 11) dX12_waitTop_4 (by decide) (fun c_1 => ?_) (fun c_1 => ?_)
  · skip
    have nc_1 : ¬ (wag_0 = 0) := fun z => c_1 ((nI_eq (a := wag_0) (b := 0) (by omega) (by omega)).mpr z)
    refine aw_aload_n dX12_waitTop_11 rfl ?_
    refine aw_get dX12_waitTop_12 fl_X12_44 h100 (by omega) rfl ?_
    refine aw_aload_n dX12_waitTop_15 rfl ?_
    refine aw_get dX12_waitTop_16 fl_X12_189 h100 (by omega) rfl ?_
    refine aw_iconst (v := 1) dX12_waitTop_19 (by decide) ?_
    refine aw_isub dX12_waitTop_20 ?_
    refine aw_eqi (y := (nI (wag_0 - 1))) (pk_sub (a := wag_0) (b := 1) (by omega)) ?_
    refine aw_iald (v := (wa (wag_0 - 1))) dX12_waitTop_21 hwa (by omega) (vp_in_nI (n := (wag_0 - 1)) (by omega) (by omega)) (congrArg wa (nI_clamp (n := (wag_0 - 1)) (by omega))) ?_
    refine aw_ldc (v := 1048576) dX12_waitTop_22 tb_1240 ?_
    refine aw_idiv dX12_waitTop_24 (by decide) ?_
    refine aw_ireti dX12_waitTop_25 rfl (Nat.le_of_ble_eq_true rfl) (Nat.le_of_ble_eq_true rfl) ?_
    exact ⟨Or.inr ⟨by omega, by obtain ⟨o, a, e, ha, h2, h14⟩ := hE (by omega); rw [e, un_div (by omega) (by omega), opOf_nI (by omega) (by omega)]⟩, rfl, rfl⟩
  · skip
    have nc_1 : wag_0 = 0 := (nI_eq (a := wag_0) (b := 0) (by omega) (by omega)).mp c_1
    refine aw_iconst (v := (-1)) dX12_waitTop_7 (by decide) ?_
    refine aw_goto (tgt := 25) dX12_waitTop_8 (by decide) ?_
    refine aw_ireti dX12_waitTop_25 rfl (Nat.le_of_ble_eq_true rfl) (Nat.le_of_ble_eq_true rfl) ?_
    exact ⟨Or.inl ⟨by omega, rfl⟩, rfl, rfl⟩

set_option maxHeartbeats 4000000 in
set_option maxRecDepth 100000 in
theorem r_opens (l : Launch) (D : va_G) (b : Nat) (N : Nat) (V : Wd) (hN : 133 ≤ N) (cl : Nat) (hW : CR D b cl V) (n0 : Int32) (o : Nat) (ho : o ≤ 15) (ftoldPeople_0 : Int32) (ftoldDoors_0 : Int32) (fwasDoors_0 : Int32) (ffault_0 : Int32) (fopen_0 : Int32) (flines_0 : Int32) (fmeantSet_0 : Int32) (fopenedNow_0 : Int32) (fvainNow_0 : Int32) (flowNow_0 : Int32) (fhighNow_0 : Int32) (fisKept_0 : Int32) (tad_0 : Nat) (pl0_0 : Nat) (le0_0 : Nat) (nu0_0 : Nat) (coy_0 : Nat) (wag_0 : Nat) (say_0 : Nat) (hn0 : tad_0 ≤ 260 ∧ pl0_0 ≤ 240 ∧ le0_0 ≤ 240 ∧ nu0_0 ≤ 99999 ∧ coy_0 ≤ 260 ∧ wag_0 ≤ 260 ∧ say_0 ≤ 16) (h100 : V 100 = cO 11 [.ref (b + 101), .ref (b + 102), .ref (b + 103), .ref (b + 104), .ref (b + 105), .ref (b + 106), .ref (b + 107), .ref (b + 108), .ref (b + 109), .int ftoldPeople_0, .int ftoldDoors_0, .int fwasDoors_0, .ref (b + 110), .int (nI tad_0), .int (nI pl0_0), .int (nI le0_0), .int ffault_0, .int (nI nu0_0), .int fopen_0, .int (nI coy_0), .int (nI wag_0), .int (nI say_0), .int (nI cl), .ref (b + 111), .ref (b + 112), .ref (b + 113), .ref (b + 114), .ref (b + 115), .ref (b + 116), .ref (b + 117), .ref (b + 118), .ref (b + 119), .ref (b + 120), .ref (b + 121), .ref (b + 122), .ref (b + 123), .int flines_0, .int fmeantSet_0, .int fopenedNow_0, .int fvainNow_0, .ref (b + 124), .ref (b + 125), .ref (b + 126), .ref (b + 127), .ref (b + 128), .int flowNow_0, .int fhighNow_0, .ref (b + 129), .ref (b + 130), .ref (b + 131), .ref (b + 132), .int fisKept_0]) (g sd wa : Nat → Int32) (hg : V 110 = cB D 260 g) (hsd : V 111 = cI D 260 sd) (hwa : V 112 = cI D 260 wa) (hw : wag_0 < 260) (hp : pl0_0 < 240) : MI l D b 1 jX12_opens [.ref (b + 100), .int (nI o)] N V 0 0 (fun r N9 V9 => ((r = 0 ∨ r = 1) ∧ (r = 0 ∨ (V9 100 = cO 11 [.ref (b + 101), .ref (b + 102), .ref (b + 103), .ref (b + 104), .ref (b + 105), .ref (b + 106), .ref (b + 107), .ref (b + 108), .ref (b + 109), .int ftoldPeople_0, .int ftoldDoors_0, .int fwasDoors_0, .ref (b + 110), .int (nI tad_0), .int (nI (pl0_0 + 1)), .int (nI le0_0), .int ffault_0, .int (nI nu0_0), .int (fopen_0 + 1), .int (nI coy_0), .int (nI (wag_0 + 1)), .int (nI say_0), .int (nI cl), .ref (b + 111), .ref (b + 112), .ref (b + 113), .ref (b + 114), .ref (b + 115), .ref (b + 116), .ref (b + 117), .ref (b + 118), .ref (b + 119), .ref (b + 120), .ref (b + 121), .ref (b + 122), .ref (b + 123), .int flines_0, .int fmeantSet_0, .int fopenedNow_0, .int fvainNow_0, .ref (b + 124), .ref (b + 125), .ref (b + 126), .ref (b + 127), .ref (b + 128), .int flowNow_0, .int fhighNow_0, .ref (b + 129), .ref (b + 130), .ref (b + 131), .ref (b + 132), .int fisKept_0] ∧ V9 112 = cI D 260 (upd wa wag_0 (nI (1048576 * o))) ∧ ∀ i, i ≠ 100 → i ≠ 112 → V9 i = V i))) ∧ N = N9 ∧ JR D b N cl [(112, 112, 0, 1000000), (100, 100, 18, 18), (100, 100, 20, 20), (100, 100, 14, 14), (100, 100, 16, 16)] V V9) := by
  have hJ0 : JR D b N cl [(112, 112, 0, 1000000), (100, 100, 18, 18), (100, 100, 20, 20), (100, 100, 14, 14), (100, 100, 16, 16)] V V := JR.rf hW
  obtain ⟨hb_tad, hb_pl0, hb_le0, hb_nu0, hb_coy, hb_wag, hb_say⟩ := id hn0
  refine mw_of (by decide) (by simp [Value.category]) (Nat.le_of_ble_eq_true rfl) ?_
  show AW l D b jX12_opens (fx_rm 1 0 0) none (fx_MQ D b 0 0 (fx_qi (fun r N9 V9 => ((r = 0 ∨ r = 1) ∧ (r = 0 ∨ (V9 100 = cO 11 [.ref (b + 101), .ref (b + 102), .ref (b + 103), .ref (b + 104), .ref (b + 105), .ref (b + 106), .ref (b + 107), .ref (b + 108), .ref (b + 109), .int ftoldPeople_0, .int ftoldDoors_0, .int fwasDoors_0, .ref (b + 110), .int (nI tad_0), .int (nI (pl0_0 + 1)), .int (nI le0_0), .int ffault_0, .int (nI nu0_0), .int (fopen_0 + 1), .int (nI coy_0), .int (nI (wag_0 + 1)), .int (nI say_0), .int (nI cl), .ref (b + 111), .ref (b + 112), .ref (b + 113), .ref (b + 114), .ref (b + 115), .ref (b + 116), .ref (b + 117), .ref (b + 118), .ref (b + 119), .ref (b + 120), .ref (b + 121), .ref (b + 122), .ref (b + 123), .int flines_0, .int fmeantSet_0, .int fopenedNow_0, .int fvainNow_0, .ref (b + 124), .ref (b + 125), .ref (b + 126), .ref (b + 127), .ref (b + 128), .int flowNow_0, .int fhighNow_0, .ref (b + 129), .ref (b + 130), .ref (b + 131), .ref (b + 132), .int fisKept_0] ∧ V9 112 = cI D 260 (upd wa wag_0 (nI (1048576 * o))) ∧ ∀ i, i ≠ 100 → i ≠ 112 → V9 i = V i))) ∧ N = N9 ∧ JR D b N cl [(112, 112, 0, 1000000), (100, 100, 18, 18), (100, 100, 20, 20), (100, 100, 14, 14), (100, 100, 16, 16)] V V9))) 0 [some (.ref (b + 100)), some (.int (nI o))] [] N V 0 0
  refine aw_aload_n dX12_opens_0 rfl ?_
  refine aw_get dX12_opens_1 fl_X12_186 h100 (by omega) rfl ?_
  refine aw_bipush (v := 6) dX12_opens_4 (by decide) ?_
  refine aw_icmp_ne (tgt := 19) dX12_opens_6 (by decide) (fun c_1 => ?_) (fun c_1 => ?_)
  · skip
    refine aw_aload_n dX12_opens_19 rfl ?_
    refine aw_aload_n dX12_opens_20 rfl ?_
    refine aw_get dX12_opens_21 fl_X12_186 h100 (by omega) rfl ?_
    refine aw_iconst (v := 1) dX12_opens_24 (by decide) ?_
    refine aw_iadd dX12_opens_25 ?_
    refine aw_put dX12_opens_26 fp_X12_186 h100 (by omega) rfl rfl (Nat.le_of_ble_eq_true rfl) rfl ?_
    refine aw_upR hJ0 cm_100 ⟨_, _, _, _, _, _, _, _, _, _, _, _, tad_0, pl0_0, le0_0, nu0_0, coy_0, wag_0, say_0, rfl, by omega, by omega, by omega, by omega, by omega, by omega, by omega⟩ (by decide) (WO (s := 18) (x := .int (fopen_0 + 1)) h100 rfl (LMs LM0) (by decide) (by decide) (by decide) (Or.inl (by decide))) (fun V_2 j_2 k_2 e_2 => ?_)
    refine aw_aload_n dX12_opens_29 rfl ?_
    refine aw_get dX12_opens_30 fl_X12_44 e_2 (by omega) rfl ?_
    refine aw_aload_n dX12_opens_33 rfl ?_
    refine aw_get dX12_opens_34 fl_X12_189 e_2 (by omega) rfl ?_
    refine aw_ldc (v := 1048576) dX12_opens_37 tb_1240 ?_
    refine aw_iload_n dX12_opens_39 rfl ?_
    refine aw_imul dX12_opens_40 ?_
    refine aw_eqi (y := nI (1048576 * o)) (pk_mul _ _) ?_
    refine aw_iast dX12_opens_41 ((k_2 _ (by decide)).trans hwa) (by omega) (vp_in_nI (n := wag_0) (by omega) (by omega)) ?_
    refine aw_upR j_2 cm_112 ⟨_, rfl⟩ (by decide) (WA LM0 (by decide) (by decide)) (fun V_3 j_3 k_3 e_3 => ?_)
    have e_4 : V_3 112 = cI D 260 (upd wa wag_0 (nI (1048576 * o))) := by rw [e_3, nI_clamp (n := wag_0) (by omega)]
    refine aw_aload_n dX12_opens_42 rfl ?_
    refine aw_aload_n dX12_opens_43 rfl ?_
    refine aw_get dX12_opens_44 fl_X12_189 ((k_3 _ (by decide)).trans e_2) (by omega) rfl ?_
    refine aw_iconst (v := 1) dX12_opens_47 (by decide) ?_
    refine aw_iadd dX12_opens_48 ?_
    refine aw_eqi (y := nI (wag_0 + 1)) (nI_add _ _) ?_
    refine aw_put dX12_opens_49 fp_X12_189 ((k_3 _ (by decide)).trans e_2) (by omega) rfl rfl (Nat.le_of_ble_eq_true rfl) rfl ?_
    refine aw_upR j_3 cm_100 ⟨_, _, _, _, _, _, _, _, _, _, _, _, tad_0, pl0_0, le0_0, nu0_0, coy_0, (wag_0 + 1), say_0, rfl, by omega, by omega, by omega, by omega, by omega, by omega, by omega⟩ (by decide) (WO (s := 20) (x := .int (nI (wag_0 + 1))) ((k_3 _ (by decide)).trans e_2) rfl (LMs (LMs LM0)) (by decide) (by decide) (by decide) (Or.inl (by decide))) (fun V_5 j_5 k_5 e_5 => ?_)
    refine aw_aload_n dX12_opens_52 rfl ?_
    refine aw_aload_n dX12_opens_53 rfl ?_
    refine aw_get dX12_opens_54 fl_X12_159 e_5 (by omega) rfl ?_
    refine aw_iconst (v := 1) dX12_opens_57 (by decide) ?_
    refine aw_iadd dX12_opens_58 ?_
    refine aw_eqi (y := nI (pl0_0 + 1)) (nI_add _ _) ?_
    refine aw_put dX12_opens_59 fp_X12_159 e_5 (by omega) rfl rfl (Nat.le_of_ble_eq_true rfl) rfl ?_
    refine aw_upR j_5 cm_100 ⟨_, _, _, _, _, _, _, _, _, _, _, _, tad_0, (pl0_0 + 1), le0_0, nu0_0, coy_0, (wag_0 + 1), say_0, rfl, by omega, by omega, by omega, by omega, by omega, by omega, by omega⟩ (by decide) (WO (s := 14) (x := .int (nI (pl0_0 + 1))) e_5 rfl (LMs (LMs (LMs LM0))) (by decide) (by decide) (by decide) (Or.inl (by decide))) (fun V_6 j_6 k_6 e_6 => ?_)
    refine aw_iconst (v := 1) dX12_opens_62 (by decide) ?_
    refine aw_zreti dX12_opens_63 rfl (by first | exact Or.inl rfl | exact Or.inr rfl | assumption) (Nat.le_of_ble_eq_true rfl) (Nat.le_of_ble_eq_true rfl) ?_
    exact ⟨⟨(by first | exact Or.inl rfl | exact Or.inr rfl | assumption), Or.inr ⟨e_6, ((k_6 _ (by decide)).trans ((k_5 _ (by decide)).trans e_4)), fun i h100 h112 => (k_6 i h100).trans ((k_5 i h100).trans ((k_3 i h112).trans (k_2 i h100)))⟩⟩, rfl, j_6⟩
  · skip
    refine aw_aload_n dX12_opens_9 rfl ?_
    refine aw_iconst (v := 5) dX12_opens_10 (by decide) ?_
    refine aw_aload_n dX12_opens_11 rfl ?_
    refine aw_get dX12_opens_12 fl_X12_159 h100 (by omega) rfl ?_
    refine aw_callVi (J' := jX12_wrongAt) (As := [.int 5, .int (nI pl0_0)]) (st := []) dX12_opens_15 tb_1224 ok_X12_wrongAt ⟨_, h100⟩ (by omega) rfl rfl (r_wrongAt l D b N V hN cl hJ0.1 5 (nI pl0_0) pl0_0 le0_0 (FG.of h100 rfl rfl) (FG.of h100 rfl rfl) ⟨by omega, by omega⟩) rfl (Nat.le_of_ble_eq_true rfl) ⟨Nat.le_of_ble_eq_true rfl, Nat.le_of_ble_eq_true rfl, Nat.le_of_ble_eq_true rfl, Nat.le_of_ble_eq_true rfl⟩ (fun r_20 N_21 V_11 q_22 => ?_)
    obtain ⟨⟨z_9, h_8⟩, rfl, q_7⟩ := q_22
    have j_10 := JR.trans hJ0 (JR.weak q_7 (Sub.cons (LMs (LMs (LMs (LMs LM0)))) (by decide) (by decide) (by decide) (Or.inr ⟨by decide, by decide⟩) Sub.nil))
    obtain ⟨a_12, ha_13, hA_14, hF_15, hL_16, hz_17, hX_18⟩ := h_8
    obtain ⟨ftoldPeople_k19, ftoldDoors_k19, fwasDoors_k19, ffault_k19, fopen_k19, flines_k19, fmeantSet_k19, fopenedNow_k19, fvainNow_k19, flowNow_k19, fhighNow_k19, fisKept_k19, tad_k19, pl0_k19, le0_k19, nu0_k19, coy_k19, wag_k19, say_k19, e_k19, hntad_k19, hnpl0_k19, hnle0_k19, hnnu0_k19, hncoy_k19, hnwag_k19, hnsay_k19⟩ := JR.get j_10 cm_100
    have hqp_k19 := FG.eq hF_15 e_k19 rfl (by omega) (by omega)
    have hql_k19 := FG.eq hL_16 e_k19 rfl (by omega) (by omega)
    obtain rfl := hX_18
    refine aw_zreti dX12_opens_18 rfl (by first | exact Or.inl rfl | exact Or.inr rfl | assumption) (Nat.le_of_ble_eq_true rfl) (Nat.le_of_ble_eq_true rfl) ?_
    exact ⟨⟨(by first | exact Or.inl rfl | exact Or.inr rfl | assumption), Or.inl rfl⟩, rfl, j_10⟩

set_option maxHeartbeats 4000000 in
set_option maxRecDepth 100000 in
theorem r_jumps (l : Launch) (D : va_G) (b : Nat) (N : Nat) (V : Wd) (hN : 133 ≤ N) (cl : Nat) (hW : CR D b cl V) (n0 : Int32) (o : Nat) (ho : o ≤ 15) (ftoldPeople_0 : Int32) (ftoldDoors_0 : Int32) (fwasDoors_0 : Int32) (ffault_0 : Int32) (fopen_0 : Int32) (flines_0 : Int32) (fmeantSet_0 : Int32) (fopenedNow_0 : Int32) (fvainNow_0 : Int32) (flowNow_0 : Int32) (fhighNow_0 : Int32) (fisKept_0 : Int32) (tad_0 : Nat) (pl0_0 : Nat) (le0_0 : Nat) (nu0_0 : Nat) (coy_0 : Nat) (wag_0 : Nat) (say_0 : Nat) (hn0 : tad_0 ≤ 260 ∧ pl0_0 ≤ 240 ∧ le0_0 ≤ 240 ∧ nu0_0 ≤ 99999 ∧ coy_0 ≤ 260 ∧ wag_0 ≤ 260 ∧ say_0 ≤ 16) (h100 : V 100 = cO 11 [.ref (b + 101), .ref (b + 102), .ref (b + 103), .ref (b + 104), .ref (b + 105), .ref (b + 106), .ref (b + 107), .ref (b + 108), .ref (b + 109), .int ftoldPeople_0, .int ftoldDoors_0, .int fwasDoors_0, .ref (b + 110), .int (nI tad_0), .int (nI pl0_0), .int (nI le0_0), .int ffault_0, .int (nI nu0_0), .int fopen_0, .int (nI coy_0), .int (nI wag_0), .int (nI say_0), .int (nI cl), .ref (b + 111), .ref (b + 112), .ref (b + 113), .ref (b + 114), .ref (b + 115), .ref (b + 116), .ref (b + 117), .ref (b + 118), .ref (b + 119), .ref (b + 120), .ref (b + 121), .ref (b + 122), .ref (b + 123), .int flines_0, .int fmeantSet_0, .int fopenedNow_0, .int fvainNow_0, .ref (b + 124), .ref (b + 125), .ref (b + 126), .ref (b + 127), .ref (b + 128), .int flowNow_0, .int fhighNow_0, .ref (b + 129), .ref (b + 130), .ref (b + 131), .ref (b + 132), .int fisKept_0]) (g sd wa : Nat → Int32) (hg : V 110 = cB D 260 g) (hsd : V 111 = cI D 260 sd) (hwa : V 112 = cI D 260 wa) (hw : wag_0 < 260) (hp : pl0_0 < 240) (hc : coy_0 < 260) : MV l D b 1 jX12_jumps [.ref (b + 100), .int (nI o)] N V 0 0 (fun N9 V9 => (V9 100 = cO 11 [.ref (b + 101), .ref (b + 102), .ref (b + 103), .ref (b + 104), .ref (b + 105), .ref (b + 106), .ref (b + 107), .ref (b + 108), .ref (b + 109), .int ftoldPeople_0, .int ftoldDoors_0, .int fwasDoors_0, .ref (b + 110), .int (nI tad_0), .int (nI (pl0_0 + 1)), .int (nI le0_0), .int ffault_0, .int (nI nu0_0), .int fopen_0, .int (nI (coy_0 + 1)), .int (nI (wag_0 + 1)), .int (nI say_0), .int (nI cl), .ref (b + 111), .ref (b + 112), .ref (b + 113), .ref (b + 114), .ref (b + 115), .ref (b + 116), .ref (b + 117), .ref (b + 118), .ref (b + 119), .ref (b + 120), .ref (b + 121), .ref (b + 122), .ref (b + 123), .int flines_0, .int fmeantSet_0, .int fopenedNow_0, .int fvainNow_0, .ref (b + 124), .ref (b + 125), .ref (b + 126), .ref (b + 127), .ref (b + 128), .int flowNow_0, .int fhighNow_0, .ref (b + 129), .ref (b + 130), .ref (b + 131), .ref (b + 132), .int fisKept_0] ∧ V9 112 = cI D 260 (upd wa wag_0 (nI (1048576 * o + coy_0))) ∧ V9 111 = cI D 260 (upd sd coy_0 (nI (1048576 * o + 0))) ∧ ∀ i, i ≠ 100 → i ≠ 111 → i ≠ 112 → V9 i = V i) ∧ N = N9 ∧ JR D b N cl [(111, 112, 0, 1000000), (100, 100, 20, 20), (100, 100, 19, 19), (100, 100, 14, 14)] V V9) := by
  have hJ0 : JR D b N cl [(111, 112, 0, 1000000), (100, 100, 20, 20), (100, 100, 19, 19), (100, 100, 14, 14)] V V := JR.rf hW
  obtain ⟨hb_tad, hb_pl0, hb_le0, hb_nu0, hb_coy, hb_wag, hb_say⟩ := id hn0
  refine mw_of (by decide) (by simp [Value.category]) (Nat.le_of_ble_eq_true rfl) ?_
  show AW l D b jX12_jumps (fx_rm 1 0 0) none (fx_MQ D b 0 0 (fx_qv (fun N9 V9 => (V9 100 = cO 11 [.ref (b + 101), .ref (b + 102), .ref (b + 103), .ref (b + 104), .ref (b + 105), .ref (b + 106), .ref (b + 107), .ref (b + 108), .ref (b + 109), .int ftoldPeople_0, .int ftoldDoors_0, .int fwasDoors_0, .ref (b + 110), .int (nI tad_0), .int (nI (pl0_0 + 1)), .int (nI le0_0), .int ffault_0, .int (nI nu0_0), .int fopen_0, .int (nI (coy_0 + 1)), .int (nI (wag_0 + 1)), .int (nI say_0), .int (nI cl), .ref (b + 111), .ref (b + 112), .ref (b + 113), .ref (b + 114), .ref (b + 115), .ref (b + 116), .ref (b + 117), .ref (b + 118), .ref (b + 119), .ref (b + 120), .ref (b + 121), .ref (b + 122), .ref (b + 123), .int flines_0, .int fmeantSet_0, .int fopenedNow_0, .int fvainNow_0, .ref (b + 124), .ref (b + 125), .ref (b + 126), .ref (b + 127), .ref (b + 128), .int flowNow_0, .int fhighNow_0, .ref (b + 129), .ref (b + 130), .ref (b + 131), .ref (b + 132), .int fisKept_0] ∧ V9 112 = cI D 260 (upd wa wag_0 (nI (1048576 * o + coy_0))) ∧ V9 111 = cI D 260 (upd sd coy_0 (nI (1048576 * o + 0))) ∧ ∀ i, i ≠ 100 → i ≠ 111 → i ≠ 112 → V9 i = V i) ∧ N = N9 ∧ JR D b N cl [(111, 112, 0, 1000000), (100, 100, 20, 20), (100, 100, 19, 19), (100, 100, 14, 14)] V V9))) 0 [some (.ref (b + 100)), some (.int (nI o))] [] N V 0 0
  refine aw_aload_n dX12_jumps_0 rfl ?_
  refine aw_get dX12_jumps_1 fl_X12_44 h100 (by omega) rfl ?_
  refine aw_aload_n dX12_jumps_4 rfl ?_
  refine aw_get dX12_jumps_5 fl_X12_189 h100 (by omega) rfl ?_
  refine aw_ldc (v := 1048576) dX12_jumps_8 tb_1240 ?_
  refine aw_iload_n dX12_jumps_10 rfl ?_
  refine aw_imul dX12_jumps_11 ?_
  refine aw_eqi (y := nI (1048576 * o)) (pk_mul _ _) ?_
  refine aw_aload_n dX12_jumps_12 rfl ?_
  refine aw_get dX12_jumps_13 fl_X12_182 h100 (by omega) rfl ?_
  refine aw_iadd dX12_jumps_16 ?_
  refine aw_eqi (y := nI ((1048576 * o) + coy_0)) (nI_add _ _) ?_
  refine aw_iast dX12_jumps_17 hwa (by omega) (vp_in_nI (n := wag_0) (by omega) (by omega)) ?_
  refine aw_upR hJ0 cm_112 ⟨_, rfl⟩ (by decide) (WA LM0 (by decide) (by decide)) (fun V_1 j_1 k_1 e_1 => ?_)
  have e_2 : V_1 112 = cI D 260 (upd wa wag_0 (nI ((1048576 * o) + coy_0))) := by rw [e_1, nI_clamp (n := wag_0) (by omega)]
  refine aw_aload_n dX12_jumps_18 rfl ?_
  refine aw_aload_n dX12_jumps_19 rfl ?_
  refine aw_get dX12_jumps_20 fl_X12_189 ((k_1 _ (by decide)).trans h100) (by omega) rfl ?_
  refine aw_iconst (v := 1) dX12_jumps_23 (by decide) ?_
  refine aw_iadd dX12_jumps_24 ?_
  refine aw_eqi (y := nI (wag_0 + 1)) (nI_add _ _) ?_
  refine aw_put dX12_jumps_25 fp_X12_189 ((k_1 _ (by decide)).trans h100) (by omega) rfl rfl (Nat.le_of_ble_eq_true rfl) rfl ?_
  refine aw_upR j_1 cm_100 ⟨_, _, _, _, _, _, _, _, _, _, _, _, tad_0, pl0_0, le0_0, nu0_0, coy_0, (wag_0 + 1), say_0, rfl, by omega, by omega, by omega, by omega, by omega, by omega, by omega⟩ (by decide) (WO (s := 20) (x := .int (nI (wag_0 + 1))) ((k_1 _ (by decide)).trans h100) rfl (LMs LM0) (by decide) (by decide) (by decide) (Or.inl (by decide))) (fun V_3 j_3 k_3 e_3 => ?_)
  refine aw_aload_n dX12_jumps_28 rfl ?_
  refine aw_iload_n dX12_jumps_29 rfl ?_
  refine aw_iconst (v := 0) dX12_jumps_30 (by decide) ?_
  refine aw_callVv (J' := jX12_notes) (As := [.int (nI o), .int 0]) (st := []) dX12_jumps_31 tb_1249 ok_X12_notes ⟨_, e_3⟩ (by omega) rfl rfl (r_notes l D b N V_3 hN cl j_3.1 (nI o) 0 o 0 (by omega) (by omega) ftoldPeople_0 ftoldDoors_0 fwasDoors_0 ffault_0 fopen_0 flines_0 fmeantSet_0 fopenedNow_0 fvainNow_0 flowNow_0 fhighNow_0 fisKept_0 tad_0 pl0_0 le0_0 nu0_0 coy_0 (wag_0 + 1) say_0 ⟨by omega, by omega, by omega, by omega, by omega, by omega, by omega⟩ e_3 g sd (upd wa wag_0 (nI ((1048576 * o) + coy_0))) ((k_3 _ (by decide)).trans ((k_1 _ (by decide)).trans hg)) ((k_3 _ (by decide)).trans ((k_1 _ (by decide)).trans hsd)) ((k_3 _ (by decide)).trans e_2) (by omega)) rfl (Nat.le_of_ble_eq_true rfl) ⟨Nat.le_of_ble_eq_true rfl, Nat.le_of_ble_eq_true rfl, Nat.le_of_ble_eq_true rfl, Nat.le_of_ble_eq_true rfl⟩ (fun  N_11 V_7 q_12 => ?_)
  obtain ⟨h_5, rfl, q_4⟩ := q_12
  have j_6 := JR.trans j_3 (JR.weak q_4 (Sub.cons LM0 (by decide) (by decide) (by decide) (Or.inl rfl) (Sub.cons (LMs (LMs LM0)) (by decide) (by decide) (by decide) (Or.inr ⟨by decide, by decide⟩) Sub.nil)))
  obtain ⟨hN_8, hN_9, hN_10⟩ := h_5
  refine aw_aload_n dX12_jumps_34 rfl ?_
  refine aw_aload_n dX12_jumps_35 rfl ?_
  refine aw_get dX12_jumps_36 fl_X12_159 hN_8 (by omega) rfl ?_
  refine aw_iconst (v := 1) dX12_jumps_39 (by decide) ?_
  refine aw_iadd dX12_jumps_40 ?_
  refine aw_eqi (y := nI (pl0_0 + 1)) (nI_add _ _) ?_
  refine aw_put dX12_jumps_41 fp_X12_159 hN_8 (by omega) rfl rfl (Nat.le_of_ble_eq_true rfl) rfl ?_
  refine aw_upR j_6 cm_100 ⟨_, _, _, _, _, _, _, _, _, _, _, _, tad_0, (pl0_0 + 1), le0_0, nu0_0, (coy_0 + 1), (wag_0 + 1), say_0, rfl, by omega, by omega, by omega, by omega, by omega, by omega, by omega⟩ (by decide) (WO (s := 14) (x := .int (nI (pl0_0 + 1))) hN_8 rfl (LMs (LMs (LMs LM0))) (by decide) (by decide) (by decide) (Or.inl (by decide))) (fun V_13 j_13 k_13 e_13 => ?_)
  refine aw_vreti dX12_jumps_44 rfl (Nat.le_of_ble_eq_true rfl) (Nat.le_of_ble_eq_true rfl) ?_
  exact ⟨⟨e_13, ((k_13 _ (by decide)).trans ((hN_10 _ (by decide) (by decide)).trans ((k_3 _ (by decide)).trans e_2))), ((k_13 _ (by decide)).trans hN_9), fun i h100 h111 h112 => (k_13 i h100).trans ((hN_10 i h100 h111).trans ((k_3 i h100).trans (k_1 i h112)))⟩, rfl, j_13⟩

set_option maxHeartbeats 4000000 in
set_option maxRecDepth 100000 in
theorem r_hasOpenSum (l : Launch) (D : va_G) (b : Nat) (N : Nat) (V : Wd) (hN : 133 ≤ N) (cl : Nat) (hW : CR D b cl V) (n0 : Int32) (bs : Nat) (ftoldPeople_0 : Int32) (ftoldDoors_0 : Int32) (fwasDoors_0 : Int32) (ffault_0 : Int32) (fopen_0 : Int32) (flines_0 : Int32) (fmeantSet_0 : Int32) (fopenedNow_0 : Int32) (fvainNow_0 : Int32) (flowNow_0 : Int32) (fhighNow_0 : Int32) (fisKept_0 : Int32) (tad_0 : Nat) (pl0_0 : Nat) (le0_0 : Nat) (nu0_0 : Nat) (coy_0 : Nat) (wag_0 : Nat) (say_0 : Nat) (hn0 : tad_0 ≤ 260 ∧ pl0_0 ≤ 240 ∧ le0_0 ≤ 240 ∧ nu0_0 ≤ 99999 ∧ coy_0 ≤ 260 ∧ wag_0 ≤ 260 ∧ say_0 ≤ 16) (h100 : V 100 = cO 11 [.ref (b + 101), .ref (b + 102), .ref (b + 103), .ref (b + 104), .ref (b + 105), .ref (b + 106), .ref (b + 107), .ref (b + 108), .ref (b + 109), .int ftoldPeople_0, .int ftoldDoors_0, .int fwasDoors_0, .ref (b + 110), .int (nI tad_0), .int (nI pl0_0), .int (nI le0_0), .int ffault_0, .int (nI nu0_0), .int fopen_0, .int (nI coy_0), .int (nI wag_0), .int (nI say_0), .int (nI cl), .ref (b + 111), .ref (b + 112), .ref (b + 113), .ref (b + 114), .ref (b + 115), .ref (b + 116), .ref (b + 117), .ref (b + 118), .ref (b + 119), .ref (b + 120), .ref (b + 121), .ref (b + 122), .ref (b + 123), .int flines_0, .int fmeantSet_0, .int fopenedNow_0, .int fvainNow_0, .ref (b + 124), .ref (b + 125), .ref (b + 126), .ref (b + 127), .ref (b + 128), .int flowNow_0, .int fhighNow_0, .ref (b + 129), .ref (b + 130), .ref (b + 131), .ref (b + 132), .int fisKept_0]) (wa : Nat → Int32) (hwa : V 112 = cI D 260 wa) (hbs : bs ≤ wag_0) (hE : ∀ i, i < wag_0 → ∃ o a, wa i = nI (1048576 * o + a) ∧ a < 260 ∧ 2 ≤ o ∧ o ≤ 14) : MI l D b 0 jX12_hasOpenSum [.ref (b + 100), .int (nI bs)] N V 0 0 (fun r N9 V9 => ((r = 0 ∨ r = 1) ∧ ((r = 0 ∧ ∀ i, bs ≤ i → i < wag_0 → opOf (wa i) ≠ 14) ∨ (r = 1 ∧ ∃ i, bs ≤ i ∧ i < wag_0 ∧ opOf (wa i) = 14))) ∧ N = N9 ∧ V = V9) := by
  have hJ0 : JR D b N cl [] V V := JR.rf hW
  obtain ⟨hb_tad, hb_pl0, hb_le0, hb_nu0, hb_coy, hb_wag, hb_say⟩ := id hn0
  refine mw_of (by decide) (by simp [Value.category]) (Nat.le_of_ble_eq_true rfl) ?_
  show AW l D b jX12_hasOpenSum (fx_rm 0 0 0) none (fx_MQ D b 0 0 (fx_qi (fun r N9 V9 => ((r = 0 ∨ r = 1) ∧ ((r = 0 ∧ ∀ i, bs ≤ i → i < wag_0 → opOf (wa i) ≠ 14) ∨ (r = 1 ∧ ∃ i, bs ≤ i ∧ i < wag_0 ∧ opOf (wa i) = 14))) ∧ N = N9 ∧ V = V9))) 0 [some (.ref (b + 100)), some (.int (nI bs)), none] [] N V 0 0
  refine aw_iload_n dX12_hasOpenSum_0 rfl ?_
  refine aw_istore_n (ls' := [some (.ref (b + 100)), some (.int (nI bs)), some (.int (nI bs))]) dX12_hasOpenSum_1 (Nat.le_of_ble_eq_true rfl) rfl ?_
  have loop_2_0 : ∀ (g_2 : Nat), ∀ (j2 : Nat), j2 + g_2 = wag_0 → (bs ≤ j2) → (∀ i, bs ≤ i → i < j2 → opOf (wa i) ≠ 14) → AW l D b jX12_hasOpenSum (fx_rm 0 0 0) none (fx_MQ D b 0 0 (fx_qi (fun r N9 V9 => ((r = 0 ∨ r = 1) ∧ ((r = 0 ∧ ∀ i, bs ≤ i → i < wag_0 → opOf (wa i) ≠ 14) ∨ (r = 1 ∧ ∃ i, bs ≤ i ∧ i < wag_0 ∧ opOf (wa i) = 14))) ∧ N = N9 ∧ V = V9))) 2 [some (.ref (b + 100)), some (.int (nI bs)), some (.int (nI j2))] [] N V 0 0 := by
    intro g_2
    induction g_2 with
    | zero =>
      intro j2  hj2 i2_0 i2_1
      obtain rfl : wag_0 = j2 := by omega
      refine aw_iload_n dX12_hasOpenSum_2 rfl ?_
      refine aw_aload_n dX12_hasOpenSum_3 rfl ?_
      refine aw_get dX12_hasOpenSum_4 fl_X12_189 h100 (by omega) rfl ?_
      refine aw_icmp_ge (tgt := 32) dX12_hasOpenSum_7 (by decide) (fun c_3 => ?_) (fun c_3 => ?_)
      rotate_left
      · exact absurd (nI_le (a := wag_0) (b := wag_0) (Nat.le_refl _) (by omega)) c_3
      refine aw_iconst (v := 0) dX12_hasOpenSum_32 (by decide) ?_
      refine aw_zreti dX12_hasOpenSum_33 rfl (by first | exact Or.inl rfl | exact Or.inr rfl | assumption) (Nat.le_of_ble_eq_true rfl) (Nat.le_of_ble_eq_true rfl) ?_
      exact ⟨⟨(by first | exact Or.inl rfl | exact Or.inr rfl | assumption), Or.inl ⟨rfl, i2_1⟩⟩, rfl, rfl⟩
    | succ g_2 ih_2_1 =>
      intro j2  hj2 i2_0 i2_1
      have hlj2 : j2 < wag_0 := by omega
      refine aw_iload_n dX12_hasOpenSum_2 rfl ?_
      refine aw_aload_n dX12_hasOpenSum_3 rfl ?_
      refine aw_get dX12_hasOpenSum_4 fl_X12_189 h100 (by omega) rfl ?_
      refine aw_icmp_ge (tgt := 32) dX12_hasOpenSum_7 (by decide) (fun c_4 => ?_) (fun c_4 => ?_)
      · exact absurd c_4 (nI_ge (a := j2) (b := wag_0) (by omega) (by omega))
      refine aw_aload_n dX12_hasOpenSum_10 rfl ?_
      refine aw_get dX12_hasOpenSum_11 fl_X12_44 h100 (by omega) rfl ?_
      refine aw_iload_n dX12_hasOpenSum_14 rfl ?_
      refine aw_iald (v := (wa j2)) dX12_hasOpenSum_15 hwa (by omega) (vp_in_nI (n := j2) (by omega) (by omega)) (congrArg wa (nI_clamp (n := j2) (by omega))) ?_
      obtain ⟨o_u_5, a_u_5, he_u_5, ha_u_5, h2_u_5, h14_u_5⟩ := hE j2 (by omega)
      have ho_u_5 : opOf (wa j2) = o_u_5 := by rw [he_u_5]; exact opOf_nI (by omega) (by omega)
      refine aw_eqi he_u_5 ?_
      refine aw_ldc (v := 1048576) dX12_hasOpenSum_16 tb_1240 ?_
      refine aw_idiv dX12_hasOpenSum_18 (by decide) ?_
      refine aw_eqi (y := (nI o_u_5)) (un_div (by omega) (by omega)) ?_
      refine aw_bipush (v := 14) dX12_hasOpenSum_19 (by decide) ?_
      refine aw_icmp_ne (tgt := 26) dX12_hasOpenSum_21 (by decide) (fun c_6 => ?_) (fun c_6 => ?_)
      · skip
        have nc_6 : ¬ (o_u_5 = 14) := fun z => c_6 ((nI_eq (a := o_u_5) (b := 14) (by omega) (by omega)).mpr z)
        refine aw_iinc (v := (nI (j2 + 1))) (ls' := [some (.ref (b + 100)), some (.int (nI bs)), some (.int (nI (j2 + 1)))]) dX12_hasOpenSum_26 rfl (fx_up_1 _) (Nat.le_of_ble_eq_true rfl) rfl ?_
        refine aw_goto (tgt := 2) dX12_hasOpenSum_29 (by decide) ?_
        refine aw_le ?_ (ih_2_1 (j2 + 1)   (by omega) (by omega) (fun i h1 h2 => if e : i = j2 then (by rw [e]; omega) else i2_1 i h1 (by omega)))
        exact ⟨rfl, ⟨rfl, ⟨rfl, trivial⟩⟩⟩
      · skip
        have nc_6 : o_u_5 = 14 := (nI_eq (a := o_u_5) (b := 14) (by omega) (by omega)).mp c_6
        refine aw_iconst (v := 1) dX12_hasOpenSum_24 (by decide) ?_
        refine aw_zreti dX12_hasOpenSum_25 rfl (by first | exact Or.inl rfl | exact Or.inr rfl | assumption) (Nat.le_of_ble_eq_true rfl) (Nat.le_of_ble_eq_true rfl) ?_
        exact ⟨⟨(by first | exact Or.inl rfl | exact Or.inr rfl | assumption), Or.inr ⟨rfl, j2, by omega, by omega, by omega⟩⟩, rfl, rfl⟩
  refine aw_le ?_ (loop_2_0 (wag_0 - bs) bs   (by omega) (by omega) (fun i h1 h2 => absurd h2 (by omega)))
  exact ⟨rfl, ⟨rfl, ⟨rfl, trivial⟩⟩⟩

set_option maxHeartbeats 4000000 in
set_option maxRecDepth 100000 in
theorem r_factOf (l : Launch) (D : va_G) (b : Nat) (N : Nat) (V : Wd) (hN : 133 ≤ N) (cl : Nat) (hW : CR D b cl V) (n0 : Int32)  : MI l D b 0 jX12_factOf [.int n0] N V 0 0 (fun r N9 V9 => (r = -1 ∨ ((∃ k : Nat, k < 10 ∧ r = nI k) ∧ 0 ≤ n0)) ∧ N = N9 ∧ V = V9) := by
  have hJ0 : JR D b N cl [] V V := JR.rf hW
  refine mw_of (by decide) (by simp [Value.category]) (Nat.le_of_ble_eq_true rfl) ?_
  show AW l D b jX12_factOf (fx_rm 0 0 0) none (fx_MQ D b 0 0 (fx_qi (fun r N9 V9 => (r = -1 ∨ ((∃ k : Nat, k < 10 ∧ r = nI k) ∧ 0 ≤ n0)) ∧ N = N9 ∧ V = V9))) 0 [some (.int n0)] [] N V 0 0
  refine aw_iload_n dX12_factOf_0 rfl ?_
  by_cases sw_1 : n0 = 100
  · skip
    refine aw_eqi sw_1 ?_
    refine aw_tableIn (off := 97) (tgt := 98) dX12_factOf_1 (by decide) (by decide) (by decide) (by decide) ?_
    refine aw_iconst (v := 1) dX12_factOf_98 (by decide) ?_
    refine aw_ireti dX12_factOf_99 rfl (Nat.le_of_ble_eq_true rfl) (Nat.le_of_ble_eq_true rfl) ?_
    exact ⟨Or.inr ⟨⟨1, by decide, rfl⟩, by rw [sw_1]; decide⟩, rfl, rfl⟩
  by_cases sw_2 : n0 = 101
  · skip
    refine aw_eqi sw_2 ?_
    refine aw_tableIn (off := 119) (tgt := 120) dX12_factOf_1 (by decide) (by decide) (by decide) (by decide) ?_
    refine aw_iconst (v := (-1)) dX12_factOf_120 (by decide) ?_
    refine aw_ireti dX12_factOf_121 rfl (Nat.le_of_ble_eq_true rfl) (Nat.le_of_ble_eq_true rfl) ?_
    exact ⟨Or.inl rfl, rfl, rfl⟩
  by_cases sw_3 : n0 = 102
  · skip
    refine aw_eqi sw_3 ?_
    refine aw_tableIn (off := 99) (tgt := 100) dX12_factOf_1 (by decide) (by decide) (by decide) (by decide) ?_
    refine aw_iconst (v := 2) dX12_factOf_100 (by decide) ?_
    refine aw_ireti dX12_factOf_101 rfl (Nat.le_of_ble_eq_true rfl) (Nat.le_of_ble_eq_true rfl) ?_
    exact ⟨Or.inr ⟨⟨2, by decide, rfl⟩, by rw [sw_3]; decide⟩, rfl, rfl⟩
  by_cases sw_4 : n0 = 103
  · skip
    refine aw_eqi sw_4 ?_
    refine aw_tableIn (off := 103) (tgt := 104) dX12_factOf_1 (by decide) (by decide) (by decide) (by decide) ?_
    refine aw_iconst (v := 4) dX12_factOf_104 (by decide) ?_
    refine aw_ireti dX12_factOf_105 rfl (Nat.le_of_ble_eq_true rfl) (Nat.le_of_ble_eq_true rfl) ?_
    exact ⟨Or.inr ⟨⟨4, by decide, rfl⟩, by rw [sw_4]; decide⟩, rfl, rfl⟩
  by_cases sw_5 : n0 = 104
  · skip
    refine aw_eqi sw_5 ?_
    refine aw_tableIn (off := 119) (tgt := 120) dX12_factOf_1 (by decide) (by decide) (by decide) (by decide) ?_
    refine aw_iconst (v := (-1)) dX12_factOf_120 (by decide) ?_
    refine aw_ireti dX12_factOf_121 rfl (Nat.le_of_ble_eq_true rfl) (Nat.le_of_ble_eq_true rfl) ?_
    exact ⟨Or.inl rfl, rfl, rfl⟩
  by_cases sw_6 : n0 = 105
  · skip
    refine aw_eqi sw_6 ?_
    refine aw_tableIn (off := 119) (tgt := 120) dX12_factOf_1 (by decide) (by decide) (by decide) (by decide) ?_
    refine aw_iconst (v := (-1)) dX12_factOf_120 (by decide) ?_
    refine aw_ireti dX12_factOf_121 rfl (Nat.le_of_ble_eq_true rfl) (Nat.le_of_ble_eq_true rfl) ?_
    exact ⟨Or.inl rfl, rfl, rfl⟩
  by_cases sw_7 : n0 = 106
  · skip
    refine aw_eqi sw_7 ?_
    refine aw_tableIn (off := 119) (tgt := 120) dX12_factOf_1 (by decide) (by decide) (by decide) (by decide) ?_
    refine aw_iconst (v := (-1)) dX12_factOf_120 (by decide) ?_
    refine aw_ireti dX12_factOf_121 rfl (Nat.le_of_ble_eq_true rfl) (Nat.le_of_ble_eq_true rfl) ?_
    exact ⟨Or.inl rfl, rfl, rfl⟩
  by_cases sw_8 : n0 = 107
  · skip
    refine aw_eqi sw_8 ?_
    refine aw_tableIn (off := 95) (tgt := 96) dX12_factOf_1 (by decide) (by decide) (by decide) (by decide) ?_
    refine aw_iconst (v := 0) dX12_factOf_96 (by decide) ?_
    refine aw_ireti dX12_factOf_97 rfl (Nat.le_of_ble_eq_true rfl) (Nat.le_of_ble_eq_true rfl) ?_
    exact ⟨Or.inr ⟨⟨0, by decide, rfl⟩, by rw [sw_8]; decide⟩, rfl, rfl⟩
  by_cases sw_9 : n0 = 108
  · skip
    refine aw_eqi sw_9 ?_
    refine aw_tableIn (off := 119) (tgt := 120) dX12_factOf_1 (by decide) (by decide) (by decide) (by decide) ?_
    refine aw_iconst (v := (-1)) dX12_factOf_120 (by decide) ?_
    refine aw_ireti dX12_factOf_121 rfl (Nat.le_of_ble_eq_true rfl) (Nat.le_of_ble_eq_true rfl) ?_
    exact ⟨Or.inl rfl, rfl, rfl⟩
  by_cases sw_10 : n0 = 109
  · skip
    refine aw_eqi sw_10 ?_
    refine aw_tableIn (off := 105) (tgt := 106) dX12_factOf_1 (by decide) (by decide) (by decide) (by decide) ?_
    refine aw_iconst (v := 5) dX12_factOf_106 (by decide) ?_
    refine aw_ireti dX12_factOf_107 rfl (Nat.le_of_ble_eq_true rfl) (Nat.le_of_ble_eq_true rfl) ?_
    exact ⟨Or.inr ⟨⟨5, by decide, rfl⟩, by rw [sw_10]; decide⟩, rfl, rfl⟩
  by_cases sw_11 : n0 = 110
  · skip
    refine aw_eqi sw_11 ?_
    refine aw_tableIn (off := 107) (tgt := 108) dX12_factOf_1 (by decide) (by decide) (by decide) (by decide) ?_
    refine aw_bipush (v := 6) dX12_factOf_108 (by decide) ?_
    refine aw_ireti dX12_factOf_110 rfl (Nat.le_of_ble_eq_true rfl) (Nat.le_of_ble_eq_true rfl) ?_
    exact ⟨Or.inr ⟨⟨6, by decide, rfl⟩, by rw [sw_11]; decide⟩, rfl, rfl⟩
  by_cases sw_12 : n0 = 111
  · skip
    refine aw_eqi sw_12 ?_
    refine aw_tableIn (off := 110) (tgt := 111) dX12_factOf_1 (by decide) (by decide) (by decide) (by decide) ?_
    refine aw_bipush (v := 7) dX12_factOf_111 (by decide) ?_
    refine aw_ireti dX12_factOf_113 rfl (Nat.le_of_ble_eq_true rfl) (Nat.le_of_ble_eq_true rfl) ?_
    exact ⟨Or.inr ⟨⟨7, by decide, rfl⟩, by rw [sw_12]; decide⟩, rfl, rfl⟩
  by_cases sw_13 : n0 = 112
  · skip
    refine aw_eqi sw_13 ?_
    refine aw_tableIn (off := 119) (tgt := 120) dX12_factOf_1 (by decide) (by decide) (by decide) (by decide) ?_
    refine aw_iconst (v := (-1)) dX12_factOf_120 (by decide) ?_
    refine aw_ireti dX12_factOf_121 rfl (Nat.le_of_ble_eq_true rfl) (Nat.le_of_ble_eq_true rfl) ?_
    exact ⟨Or.inl rfl, rfl, rfl⟩
  by_cases sw_14 : n0 = 113
  · skip
    refine aw_eqi sw_14 ?_
    refine aw_tableIn (off := 119) (tgt := 120) dX12_factOf_1 (by decide) (by decide) (by decide) (by decide) ?_
    refine aw_iconst (v := (-1)) dX12_factOf_120 (by decide) ?_
    refine aw_ireti dX12_factOf_121 rfl (Nat.le_of_ble_eq_true rfl) (Nat.le_of_ble_eq_true rfl) ?_
    exact ⟨Or.inl rfl, rfl, rfl⟩
  by_cases sw_15 : n0 = 114
  · skip
    refine aw_eqi sw_15 ?_
    refine aw_tableIn (off := 119) (tgt := 120) dX12_factOf_1 (by decide) (by decide) (by decide) (by decide) ?_
    refine aw_iconst (v := (-1)) dX12_factOf_120 (by decide) ?_
    refine aw_ireti dX12_factOf_121 rfl (Nat.le_of_ble_eq_true rfl) (Nat.le_of_ble_eq_true rfl) ?_
    exact ⟨Or.inl rfl, rfl, rfl⟩
  by_cases sw_16 : n0 = 115
  · skip
    refine aw_eqi sw_16 ?_
    refine aw_tableIn (off := 119) (tgt := 120) dX12_factOf_1 (by decide) (by decide) (by decide) (by decide) ?_
    refine aw_iconst (v := (-1)) dX12_factOf_120 (by decide) ?_
    refine aw_ireti dX12_factOf_121 rfl (Nat.le_of_ble_eq_true rfl) (Nat.le_of_ble_eq_true rfl) ?_
    exact ⟨Or.inl rfl, rfl, rfl⟩
  by_cases sw_17 : n0 = 116
  · skip
    refine aw_eqi sw_17 ?_
    refine aw_tableIn (off := 113) (tgt := 114) dX12_factOf_1 (by decide) (by decide) (by decide) (by decide) ?_
    refine aw_bipush (v := 8) dX12_factOf_114 (by decide) ?_
    refine aw_ireti dX12_factOf_116 rfl (Nat.le_of_ble_eq_true rfl) (Nat.le_of_ble_eq_true rfl) ?_
    exact ⟨Or.inr ⟨⟨8, by decide, rfl⟩, by rw [sw_17]; decide⟩, rfl, rfl⟩
  by_cases sw_18 : n0 = 117
  · skip
    refine aw_eqi sw_18 ?_
    refine aw_tableIn (off := 119) (tgt := 120) dX12_factOf_1 (by decide) (by decide) (by decide) (by decide) ?_
    refine aw_iconst (v := (-1)) dX12_factOf_120 (by decide) ?_
    refine aw_ireti dX12_factOf_121 rfl (Nat.le_of_ble_eq_true rfl) (Nat.le_of_ble_eq_true rfl) ?_
    exact ⟨Or.inl rfl, rfl, rfl⟩
  by_cases sw_19 : n0 = 118
  · skip
    refine aw_eqi sw_19 ?_
    refine aw_tableIn (off := 101) (tgt := 102) dX12_factOf_1 (by decide) (by decide) (by decide) (by decide) ?_
    refine aw_iconst (v := 3) dX12_factOf_102 (by decide) ?_
    refine aw_ireti dX12_factOf_103 rfl (Nat.le_of_ble_eq_true rfl) (Nat.le_of_ble_eq_true rfl) ?_
    exact ⟨Or.inr ⟨⟨3, by decide, rfl⟩, by rw [sw_19]; decide⟩, rfl, rfl⟩
  by_cases sw_20 : n0 = 119
  · skip
    refine aw_eqi sw_20 ?_
    refine aw_tableIn (off := 116) (tgt := 117) dX12_factOf_1 (by decide) (by decide) (by decide) (by decide) ?_
    refine aw_bipush (v := 9) dX12_factOf_117 (by decide) ?_
    refine aw_ireti dX12_factOf_119 rfl (Nat.le_of_ble_eq_true rfl) (Nat.le_of_ble_eq_true rfl) ?_
    exact ⟨Or.inr ⟨⟨9, by decide, rfl⟩, by rw [sw_20]; decide⟩, rfl, rfl⟩
  have tsw_1 : n0.toInt ≠ 100 := fx_tne sw_1
  have tsw_2 : n0.toInt ≠ 101 := fx_tne sw_2
  have tsw_3 : n0.toInt ≠ 102 := fx_tne sw_3
  have tsw_4 : n0.toInt ≠ 103 := fx_tne sw_4
  have tsw_5 : n0.toInt ≠ 104 := fx_tne sw_5
  have tsw_6 : n0.toInt ≠ 105 := fx_tne sw_6
  have tsw_7 : n0.toInt ≠ 106 := fx_tne sw_7
  have tsw_8 : n0.toInt ≠ 107 := fx_tne sw_8
  have tsw_9 : n0.toInt ≠ 108 := fx_tne sw_9
  have tsw_10 : n0.toInt ≠ 109 := fx_tne sw_10
  have tsw_11 : n0.toInt ≠ 110 := fx_tne sw_11
  have tsw_12 : n0.toInt ≠ 111 := fx_tne sw_12
  have tsw_13 : n0.toInt ≠ 112 := fx_tne sw_13
  have tsw_14 : n0.toInt ≠ 113 := fx_tne sw_14
  have tsw_15 : n0.toInt ≠ 114 := fx_tne sw_15
  have tsw_16 : n0.toInt ≠ 115 := fx_tne sw_16
  have tsw_17 : n0.toInt ≠ 116 := fx_tne sw_17
  have tsw_18 : n0.toInt ≠ 117 := fx_tne sw_18
  have tsw_19 : n0.toInt ≠ 118 := fx_tne sw_19
  have tsw_20 : n0.toInt ≠ 119 := fx_tne sw_20
  refine aw_tableOut (tgt := 120) dX12_factOf_1 (by omega) (by decide) ?_
  refine aw_iconst (v := (-1)) dX12_factOf_120 (by decide) ?_
  refine aw_ireti dX12_factOf_121 rfl (Nat.le_of_ble_eq_true rfl) (Nat.le_of_ble_eq_true rfl) ?_
  exact ⟨Or.inl rfl, rfl, rfl⟩

set_option maxHeartbeats 4000000 in
set_option maxRecDepth 100000 in
theorem r_sumSign (l : Launch) (D : va_G) (b : Nat) (N : Nat) (V : Wd) (hN : 133 ≤ N) (cl : Nat) (hW : CR D b cl V) (n0 : Int32)  : MI l D b 0 jX12_sumSign [.int n0] N V 0 0 (fun r N9 V9 => (r = -1 ∨ ((∃ k : Nat, (2 ≤ k ∧ k ≤ 6) ∧ r = nI k) ∧ 0 ≤ n0)) ∧ N = N9 ∧ V = V9) := by
  have hJ0 : JR D b N cl [] V V := JR.rf hW
  refine mw_of (by decide) (by simp [Value.category]) (Nat.le_of_ble_eq_true rfl) ?_
  show AW l D b jX12_sumSign (fx_rm 0 0 0) none (fx_MQ D b 0 0 (fx_qi (fun r N9 V9 => (r = -1 ∨ ((∃ k : Nat, (2 ≤ k ∧ k ≤ 6) ∧ r = nI k) ∧ 0 ≤ n0)) ∧ N = N9 ∧ V = V9))) 0 [some (.int n0)] [] N V 0 0
  refine aw_iload_n dX12_sumSign_0 rfl ?_
  refine aw_bipush (v := 43) dX12_sumSign_1 (by decide) ?_
  refine aw_icmp_ne (tgt := 10) dX12_sumSign_3 (by decide) (fun c_1 => ?_) (fun c_1 => ?_)
  · skip
    refine aw_iload_n dX12_sumSign_10 rfl ?_
    refine aw_bipush (v := 45) dX12_sumSign_11 (by decide) ?_
    refine aw_icmp_ne (tgt := 20) dX12_sumSign_13 (by decide) (fun c_2 => ?_) (fun c_2 => ?_)
    · skip
      refine aw_iload_n dX12_sumSign_20 rfl ?_
      refine aw_bipush (v := 42) dX12_sumSign_21 (by decide) ?_
      refine aw_icmp_ne (tgt := 30) dX12_sumSign_23 (by decide) (fun c_3 => ?_) (fun c_3 => ?_)
      · skip
        refine aw_iload_n dX12_sumSign_30 rfl ?_
        refine aw_bipush (v := 47) dX12_sumSign_31 (by decide) ?_
        refine aw_icmp_ne (tgt := 40) dX12_sumSign_33 (by decide) (fun c_4 => ?_) (fun c_4 => ?_)
        · skip
          refine aw_iload_n dX12_sumSign_40 rfl ?_
          refine aw_bipush (v := 37) dX12_sumSign_41 (by decide) ?_
          refine aw_icmp_ne (tgt := 51) dX12_sumSign_43 (by decide) (fun c_5 => ?_) (fun c_5 => ?_)
          · skip
            refine aw_iconst (v := (-1)) dX12_sumSign_51 (by decide) ?_
            refine aw_ireti dX12_sumSign_52 rfl (Nat.le_of_ble_eq_true rfl) (Nat.le_of_ble_eq_true rfl) ?_
            exact ⟨Or.inl rfl, rfl, rfl⟩
          · skip
            refine aw_bipush (v := 6) dX12_sumSign_46 (by decide) ?_
            refine aw_goto (tgt := 52) dX12_sumSign_48 (by decide) ?_
            refine aw_ireti dX12_sumSign_52 rfl (Nat.le_of_ble_eq_true rfl) (Nat.le_of_ble_eq_true rfl) ?_
            exact ⟨Or.inr ⟨⟨6, by decide, rfl⟩, by rw [c_5]; decide⟩, rfl, rfl⟩
        · skip
          refine aw_iconst (v := 5) dX12_sumSign_36 (by decide) ?_
          refine aw_goto (tgt := 52) dX12_sumSign_37 (by decide) ?_
          refine aw_ireti dX12_sumSign_52 rfl (Nat.le_of_ble_eq_true rfl) (Nat.le_of_ble_eq_true rfl) ?_
          exact ⟨Or.inr ⟨⟨5, by decide, rfl⟩, by rw [c_4]; decide⟩, rfl, rfl⟩
      · skip
        refine aw_iconst (v := 4) dX12_sumSign_26 (by decide) ?_
        refine aw_goto (tgt := 52) dX12_sumSign_27 (by decide) ?_
        refine aw_ireti dX12_sumSign_52 rfl (Nat.le_of_ble_eq_true rfl) (Nat.le_of_ble_eq_true rfl) ?_
        exact ⟨Or.inr ⟨⟨4, by decide, rfl⟩, by rw [c_3]; decide⟩, rfl, rfl⟩
    · skip
      refine aw_iconst (v := 3) dX12_sumSign_16 (by decide) ?_
      refine aw_goto (tgt := 52) dX12_sumSign_17 (by decide) ?_
      refine aw_ireti dX12_sumSign_52 rfl (Nat.le_of_ble_eq_true rfl) (Nat.le_of_ble_eq_true rfl) ?_
      exact ⟨Or.inr ⟨⟨3, by decide, rfl⟩, by rw [c_2]; decide⟩, rfl, rfl⟩
  · skip
    refine aw_iconst (v := 2) dX12_sumSign_6 (by decide) ?_
    refine aw_goto (tgt := 52) dX12_sumSign_7 (by decide) ?_
    refine aw_ireti dX12_sumSign_52 rfl (Nat.le_of_ble_eq_true rfl) (Nat.le_of_ble_eq_true rfl) ?_
    exact ⟨Or.inr ⟨⟨2, by decide, rfl⟩, by rw [c_1]; decide⟩, rfl, rfl⟩
