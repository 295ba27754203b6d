
abbrev gb (g : Nat → Int32) : Nat → Int32 := fun k => g k &&& 255
theorem hd_b (g : Nat → Int32) (n a : Nat) : hd (gb g) n a = -1 ∨ ∃ j : Nat, j ≤ 255 ∧ hd (gb g) n a = nI j := by
  by_cases h : a < n
  · right
    obtain ⟨j, hj, e⟩ := fx_andle (s := 255) (g a)
    exact ⟨j, hj, (hd_in h).trans ((Int32.and_comm (g a) 255).trans e)⟩
  · exact Or.inl (if_neg h)
theorem isLt_in (g : Nat → Int32) (n a : Nat) : (0 ≤ hd (gb g) n a - 97 ∧ hd (gb g) n a - 97 ≤ 15) ↔ isLt (hd (gb g) n a) = true := by
  rcases hd_b g n a with e | ⟨j, hj, e⟩
  · rw [e]; decide
  · rw [e]
    have h1 : (nI j - 97).toInt = (j : Int) - 97 := pk_sub_toInt (b := 97) (by omega) (by omega)
    have e0 : (0 : Int32).toInt = 0 := by decide
    have e1 : (15 : Int32).toInt = 15 := by decide
    have e2 : (97 : Int32).toInt = 97 := by decide
    have e3 : (113 : Int32).toInt = 113 := by decide
    have e4 := fx_nIt (n := j) (by omega)
    simp only [isLt, Bool.and_eq_true, decide_eq_true_eq, Int32.le_iff_toInt_le, Int32.lt_iff_toInt_lt, h1]
    omega
theorem isLt_of {g : Nat → Int32} {n a : Nat} {r : Int32} (z : r = 0 ∨ r = 1) (h : (r = 0 ∨ (0 ≤ hd (gb g) n a - 97 ∧ hd (gb g) n a - 97 ≤ 15)) ∧ (r = 0 → ¬ (0 ≤ hd (gb g) n a - 97 ∧ hd (gb g) n a - 97 ≤ 15))) : (isLt (hd (gb g) n a) = true ∧ r = 1) ∨ (isLt (hd (gb g) n a) = false ∧ r = 0) := by
  rcases z with e | e
  · right
    refine ⟨?_, e⟩
    cases q : isLt (hd (gb g) n a) with
    | false => rfl
    | true => exact absurd ((isLt_in g n a).mpr q) (h.2 e)
  · left
    refine ⟨(isLt_in g n a).mp (h.1.resolve_left (by rw [e]; decide)), e⟩
theorem and1 (x : Int32) : x &&& 1 = 0 ∨ x &&& 1 = 1 := by
  obtain ⟨j, hj, e⟩ := fx_andle (s := 1) x
  rw [show x &&& 1 = nI j from (Int32.and_comm x 1).trans e]
  rcases (show j = 0 ∨ j = 1 by omega) with rfl | rfl
  · exact Or.inl rfl
  · exact Or.inr rfl
theorem bt_t1 {s k : Int32} (h : (s >>> (k &&& 31)) &&& 1 = 1) : bt s k = true := bt_t (by rw [h]; decide)
theorem bt_f1 {s k : Int32} (h : ¬ (s >>> (k &&& 31)) &&& 1 = 1) : bt s k = false := bt_f ((and1 _).resolve_right h)
theorem sub48b (x z : Nat) : nI (x + (48 + z)) - 48 = nI (x + z) := by
  rw [show x + (48 + z) = 48 + (x + z) by omega]; exact sub48 _
theorem dreadsA_ofm {D : va_G} {V : Wd} {g : Nat → Int32} {m : Nat} {n : Int32} (e : V 110 = cB D 260 g) (em : n = nI m) (hm : m ≤ 240) : dreadsA (gb (fI (V 110))) n = cod (txD (gb g) m 20 0) := by
  have hf : fI (V 110) = g := funext fun k => by rw [e]; rfl
  rw [dreadsA, hf, em, nI_clamp (by omega)]

set_option maxHeartbeats 4000000 in
set_option maxRecDepth 100000 in
theorem r_hereS (l : Launch) (D : va_G) (b : Nat) (N : Nat) (V : Wd) (hN : 133 ≤ N) (cl : Nat) (hW : CR D b cl V)  (g : Nat → Int32) (hg : V 110 = cB D 260 g) (n a : Nat) (hna : a ≤ n ∧ n ≤ 240) (hE : fI (V 100) 15 = nI n) (hA : fI (V 100) 14 = nI a) : MI l D b 0 jX12_here [.ref (b + 100)] N V 0 0 (fun r N9 V9 => (r = hd (gb g) n a) ∧ N = N9 ∧ V = V9) := by
  have hJ0 : JR D b N cl [] V V := JR.rf hW
  refine mw_of (by decide) (by simp [Value.category]) (Nat.le_of_ble_eq_true rfl) ?_
  show AW l D b jX12_here (fx_rm 0 0 0) none (fx_MQ D b 0 0 (fx_qi (fun r N9 V9 => (r = hd (gb g) n a) ∧ N = N9 ∧ V = V9))) 0 [some (.ref (b + 100))] [] N V 0 0
  refine aw_aload_n dX12_here_0 rfl ?_
  obtain ⟨ftoldPeople_1, ftoldDoors_1, fwasDoors_1, ffault_1, fopen_1, flines_1, fmeantSet_1, fopenedNow_1, fvainNow_1, flowNow_1, fhighNow_1, fisKept_1, tad_1, pl0_1, le0_1, nu0_1, coy_1, wag_1, say_1, e_1, hntad_1, hnpl0_1, hnle0_1, hnnu0_1, hncoy_1, hnwag_1, hnsay_1⟩ := JR.get hJ0 cm_100
  refine aw_get dX12_here_1 fl_X12_159 e_1 (by omega) rfl ?_
  refine aw_eqi (y := (nI a)) ((Eq.symm (congrArg (fun z => fI z 14) e_1)).trans hA) ?_
  refine aw_aload_n dX12_here_4 rfl ?_
  refine aw_get dX12_here_5 fl_X12_162 e_1 (by omega) rfl ?_
  refine aw_eqi (y := (nI n)) ((Eq.symm (congrArg (fun z => fI z 15) e_1)).trans hE) ?_
  refine aw_icmp_ge (tgt := 27) dX12_here_8 (by decide) (fun c_2 => ?_) (fun c_2 => ?_)
  · skip
    have nc_2 : n ≤ a := (nI_leI (a := n) (b := a) (by omega) (by omega)).mp c_2
    refine aw_iconst (v := (-1)) dX12_here_27 (by decide) ?_
    refine aw_ireti dX12_here_28 rfl (Nat.le_of_ble_eq_true rfl) (Nat.le_of_ble_eq_true rfl) ?_
    exact ⟨(hd_ge (by omega)).symm, rfl, rfl⟩
  · skip
    have nc_2 : ¬ (n ≤ a) := fun z => c_2 ((nI_leI (a := n) (b := a) (by omega) (by omega)).mpr z)
    refine aw_aload_n dX12_here_11 rfl ?_
    refine aw_get dX12_here_12 fl_X12_37 e_1 (by omega) rfl ?_
    refine aw_aload_n dX12_here_15 rfl ?_
    refine aw_get dX12_here_16 fl_X12_159 e_1 (by omega) rfl ?_
    refine aw_eqi (y := (nI a)) ((Eq.symm (congrArg (fun z => fI z 14) e_1)).trans hA) ?_
    refine aw_bald (v := (g a)) dX12_here_19 hg (by omega) (vp_in_nI (n := a) (by omega) (by omega)) (congrArg g (nI_clamp (n := a) (by omega))) ?_
    refine aw_sipush (v := 255) dX12_here_20 (by decide) ?_
    refine aw_iand dX12_here_23 ?_
    refine aw_goto (tgt := 28) dX12_here_24 (by decide) ?_
    refine aw_ireti dX12_here_28 rfl (Nat.le_of_ble_eq_true rfl) (Nat.le_of_ble_eq_true rfl) ?_
    exact ⟨(hd_in (g := gb g) (n := n) (a := a) (by omega)).symm, rfl, rfl⟩

set_option maxHeartbeats 4000000 in
set_option maxRecDepth 100000 in
theorem r_isDigitS (l : Launch) (D : va_G) (b : Nat) (N : Nat) (V : Wd) (hN : 133 ≤ N) (cl : Nat) (hW : CR D b cl V)  (g : Nat → Int32) (hg : V 110 = cB D 260 g) (n a : Nat) (hna : a ≤ n ∧ n ≤ 240) (hE : fI (V 100) 15 = nI n) (hA : fI (V 100) 14 = nI a) : MI l D b 1 jX12_isDigit [.ref (b + 100)] N V 0 0 (fun r N9 V9 => ((r = 0 ∨ r = 1) ∧ ((isDg (hd (gb g) n a) = true ∧ r = 1) ∨ (isDg (hd (gb g) n a) = false ∧ r = 0))) ∧ N = N9 ∧ V = V9) := by
  have hJ0 : JR D b N cl [] V V := JR.rf hW
  refine mw_of (by decide) (by simp [Value.category]) (Nat.le_of_ble_eq_true rfl) ?_
  show AW l D b jX12_isDigit (fx_rm 1 0 0) none (fx_MQ D b 0 0 (fx_qi (fun r N9 V9 => ((r = 0 ∨ r = 1) ∧ ((isDg (hd (gb g) n a) = true ∧ r = 1) ∨ (isDg (hd (gb g) n a) = false ∧ r = 0))) ∧ N = N9 ∧ V = V9))) 0 [some (.ref (b + 100))] [] N V 0 0
  refine aw_aload_n dX12_isDigit_0 rfl ?_
  obtain ⟨ftoldPeople_3, ftoldDoors_3, fwasDoors_3, ffault_3, fopen_3, flines_3, fmeantSet_3, fopenedNow_3, fvainNow_3, flowNow_3, fhighNow_3, fisKept_3, tad_3, pl0_3, le0_3, nu0_3, coy_3, wag_3, say_3, e_3, hntad_3, hnpl0_3, hnle0_3, hnnu0_3, hncoy_3, hnwag_3, hnsay_3⟩ := JR.get hJ0 cm_100
  refine aw_callVi (J' := jX12_here) (As := []) (st := []) dX12_isDigit_1 tb_1220 ok_X12_here ⟨_, e_3⟩ (by omega) rfl rfl (r_hereS l D b N V hN cl hJ0.1 g hg n a ⟨by omega, by omega⟩ hE hA) rfl (Nat.le_of_ble_eq_true rfl) ⟨Nat.le_of_ble_eq_true rfl, Nat.le_of_ble_eq_true rfl, Nat.le_of_ble_eq_true rfl, Nat.le_of_ble_eq_true rfl⟩ (fun r_4 N_5 V_6 q_7 => ?_)
  obtain ⟨h_2, rfl, rfl⟩ := q_7
  refine aw_eqi (y := (hd (gb g) n a)) h_2 ?_
  refine aw_bipush (v := 48) dX12_isDigit_4 (by decide) ?_
  refine aw_icmp_lt (tgt := 22) dX12_isDigit_6 (by decide) (fun c_8 => ?_) (fun c_8 => ?_)
  · skip
    refine aw_iconst (v := 0) dX12_isDigit_22 (by decide) ?_
    refine aw_zreti dX12_isDigit_23 rfl (by first | exact Or.inl rfl | exact Or.inr rfl | assumption) (Nat.le_of_ble_eq_true rfl) (Nat.le_of_ble_eq_true rfl) ?_
    exact ⟨⟨(by first | exact Or.inl rfl | exact Or.inr rfl | assumption), Or.inr ⟨isDg_f1 c_8, rfl⟩⟩, rfl, rfl⟩
  · skip
    refine aw_aload_n dX12_isDigit_9 rfl ?_
    refine aw_callVi (J' := jX12_here) (As := []) (st := []) dX12_isDigit_10 tb_1220 ok_X12_here ⟨_, e_3⟩ (by omega) rfl rfl (r_hereS l D b N V hN cl hJ0.1 g hg n a ⟨by omega, by omega⟩ hE hA) rfl (Nat.le_of_ble_eq_true rfl) ⟨Nat.le_of_ble_eq_true rfl, Nat.le_of_ble_eq_true rfl, Nat.le_of_ble_eq_true rfl, Nat.le_of_ble_eq_true rfl⟩ (fun r_11 N_12 V_13 q_14 => ?_)
    obtain ⟨h_10, rfl, rfl⟩ := q_14
    refine aw_eqi (y := (hd (gb g) n a)) h_10 ?_
    refine aw_bipush (v := 57) dX12_isDigit_13 (by decide) ?_
    refine aw_icmp_gt (tgt := 22) dX12_isDigit_15 (by decide) (fun c_15 => ?_) (fun c_15 => ?_)
    · skip
      refine aw_iconst (v := 0) dX12_isDigit_22 (by decide) ?_
      refine aw_zreti dX12_isDigit_23 rfl (by first | exact Or.inl rfl | exact Or.inr rfl | assumption) (Nat.le_of_ble_eq_true rfl) (Nat.le_of_ble_eq_true rfl) ?_
      exact ⟨⟨(by first | exact Or.inl rfl | exact Or.inr rfl | assumption), Or.inr ⟨isDg_f2 c_15, rfl⟩⟩, rfl, rfl⟩
    · skip
      refine aw_iconst (v := 1) dX12_isDigit_18 (by decide) ?_
      refine aw_goto (tgt := 23) dX12_isDigit_19 (by decide) ?_
      refine aw_zreti dX12_isDigit_23 rfl (by first | exact Or.inl rfl | exact Or.inr rfl | assumption) (Nat.le_of_ble_eq_true rfl) (Nat.le_of_ble_eq_true rfl) ?_
      exact ⟨⟨(by first | exact Or.inl rfl | exact Or.inr rfl | assumption), Or.inl ⟨isDg_t c_8 c_15, rfl⟩⟩, rfl, rfl⟩

set_option maxHeartbeats 4000000 in
set_option maxRecDepth 100000 in
theorem r_isLetterS (l : Launch) (D : va_G) (b : Nat) (N : Nat) (V : Wd) (hN : 133 ≤ N) (cl : Nat) (hW : CR D b cl V)  (g : Nat → Int32) (hg : V 110 = cB D 260 g) (n a : Nat) (hna : a ≤ n ∧ n ≤ 240) (hE : fI (V 100) 15 = nI n) (hA : fI (V 100) 14 = nI a) : MI l D b 1 jX12_isLetter [.ref (b + 100)] N V 0 0 (fun r N9 V9 => ((r = 0 ∨ r = 1) ∧ ((isLt (hd (gb g) n a) = true ∧ r = 1) ∨ (isLt (hd (gb g) n a) = false ∧ r = 0))) ∧ N = N9 ∧ V = V9) := by
  have hJ0 : JR D b N cl [] V V := JR.rf hW
  refine mw_of (by decide) (by simp [Value.category]) (Nat.le_of_ble_eq_true rfl) ?_
  show AW l D b jX12_isLetter (fx_rm 1 0 0) none (fx_MQ D b 0 0 (fx_qi (fun r N9 V9 => ((r = 0 ∨ r = 1) ∧ ((isLt (hd (gb g) n a) = true ∧ r = 1) ∨ (isLt (hd (gb g) n a) = false ∧ r = 0))) ∧ N = N9 ∧ V = V9))) 0 [some (.ref (b + 100))] [] N V 0 0
  refine aw_aload_n dX12_isLetter_0 rfl ?_
  obtain ⟨ftoldPeople_3, ftoldDoors_3, fwasDoors_3, ffault_3, fopen_3, flines_3, fmeantSet_3, fopenedNow_3, fvainNow_3, flowNow_3, fhighNow_3, fisKept_3, tad_3, pl0_3, le0_3, nu0_3, coy_3, wag_3, say_3, e_3, hntad_3, hnpl0_3, hnle0_3, hnnu0_3, hncoy_3, hnwag_3, hnsay_3⟩ := JR.get hJ0 cm_100
  refine aw_callVi (J' := jX12_here) (As := []) (st := []) dX12_isLetter_1 tb_1220 ok_X12_here ⟨_, e_3⟩ (by omega) rfl rfl (r_hereS l D b N V hN cl hJ0.1 g hg n a ⟨by omega, by omega⟩ hE hA) rfl (Nat.le_of_ble_eq_true rfl) ⟨Nat.le_of_ble_eq_true rfl, Nat.le_of_ble_eq_true rfl, Nat.le_of_ble_eq_true rfl, Nat.le_of_ble_eq_true rfl⟩ (fun r_4 N_5 V_6 q_7 => ?_)
  obtain ⟨h_2, rfl, rfl⟩ := q_7
  refine aw_eqi (y := (hd (gb g) n a)) h_2 ?_
  refine aw_bipush (v := 97) dX12_isLetter_4 (by decide) ?_
  refine aw_isub dX12_isLetter_6 ?_
  refine aw_iconst (v := 0) dX12_isLetter_7 (by decide) ?_
  refine aw_bipush (v := 15) dX12_isLetter_8 (by decide) ?_
  refine aw_callSi (J' := jX12_in) (As := [.int ((hd (gb g) n a) - 97), .int 0, .int 15]) (st := []) dX12_isLetter_10 tb_1209 ok_X12_in rfl (r_inK l D b N V hN cl hJ0.1 ((hd (gb g) n a) - 97) 0 15) rfl (Nat.le_of_ble_eq_true rfl) ⟨Nat.le_of_ble_eq_true rfl, Nat.le_of_ble_eq_true rfl, Nat.le_of_ble_eq_true rfl, Nat.le_of_ble_eq_true rfl⟩ (fun r_13 N_14 V_15 q_16 => ?_)
  obtain ⟨⟨z_10, h_9⟩, rfl, rfl⟩ := q_16
  obtain ⟨hi_11, hi_12⟩ := h_9
  refine aw_zreti dX12_isLetter_13 rfl (by first | exact Or.inl rfl | exact Or.inr rfl | assumption) (Nat.le_of_ble_eq_true rfl) (Nat.le_of_ble_eq_true rfl) ?_
  exact ⟨⟨(by first | exact Or.inl rfl | exact Or.inr rfl | assumption), (isLt_of z_10 ⟨hi_11, hi_12⟩)⟩, rfl, rfl⟩

set_option maxHeartbeats 4000000 in
set_option maxRecDepth 100000 in
theorem r_hasS (l : Launch) (D : va_G) (b : Nat) (N : Nat) (V : Wd) (hN : 133 ≤ N) (cl : Nat) (hW : CR D b cl V) (n0 : Int32) (n1 : Int32)  : MI l D b 0 jX12_has [.int n0, .int n1] N V 0 0 (fun r N9 V9 => ((r = 0 ∨ r = 1) ∧ ((bt n0 n1 = true ∧ r = 1) ∨ (bt n0 n1 = false ∧ r = 0))) ∧ N = N9 ∧ V = V9) := by
  have hJ0 : JR D b N cl [] V V := JR.rf hW
  refine mw_of (by decide) (by simp [Value.category]) (Nat.le_of_ble_eq_true rfl) ?_
  show AW l D b jX12_has (fx_rm 0 0 0) none (fx_MQ D b 0 0 (fx_qi (fun r N9 V9 => ((r = 0 ∨ r = 1) ∧ ((bt n0 n1 = true ∧ r = 1) ∨ (bt n0 n1 = false ∧ r = 0))) ∧ N = N9 ∧ V = V9))) 0 [some (.int n0), some (.int n1)] [] N V 0 0
  refine aw_iload_n dX12_has_0 rfl ?_
  refine aw_iload_n dX12_has_1 rfl ?_
  refine aw_ishr dX12_has_2 ?_
  refine aw_iconst (v := 1) dX12_has_3 (by decide) ?_
  refine aw_iand dX12_has_4 ?_
  refine aw_iconst (v := 1) dX12_has_5 (by decide) ?_
  refine aw_icmp_ne (tgt := 13) dX12_has_6 (by decide) (fun c_1 => ?_) (fun c_1 => ?_)
  · skip
    refine aw_iconst (v := 0) dX12_has_13 (by decide) ?_
    refine aw_zreti dX12_has_14 rfl (by first | exact Or.inl rfl | exact Or.inr rfl | assumption) (Nat.le_of_ble_eq_true rfl) (Nat.le_of_ble_eq_true rfl) ?_
    exact ⟨⟨(by first | exact Or.inl rfl | exact Or.inr rfl | assumption), Or.inr ⟨bt_f1 c_1, rfl⟩⟩, rfl, rfl⟩
  · skip
    refine aw_iconst (v := 1) dX12_has_9 (by decide) ?_
    refine aw_goto (tgt := 14) dX12_has_10 (by decide) ?_
    refine aw_zreti dX12_has_14 rfl (by first | exact Or.inl rfl | exact Or.inr rfl | assumption) (Nat.le_of_ble_eq_true rfl) (Nat.le_of_ble_eq_true rfl) ?_
    exact ⟨⟨(by first | exact Or.inl rfl | exact Or.inr rfl | assumption), Or.inl ⟨bt_t1 c_1, rfl⟩⟩, rfl, rfl⟩

set_option maxHeartbeats 4000000 in
set_option maxRecDepth 100000 in
theorem r_wrongAtS (l : Launch) (D : va_G) (b : Nat) (N : Nat) (V : Wd) (hN : 133 ≤ N) (cl : Nat) (hW : CR D b cl V) (n0 : Int32) (n1 : Int32)  : MI l D b 0 jX12_wrongAt [.ref (b + 100), .int n0, .int n1] N V 0 0 (fun r N9 V9 => ((r = 0 ∨ r = 1) ∧ (r = 0 ∧ fI (V9 100) 16 = -1000 * n0 - n1)) ∧ N = N9 ∧ JR D b N cl [(100, 100, 16, 16)] V V9) := by
  have hJ0 : JR D b N cl [(100, 100, 16, 16)] V V := JR.rf hW
  refine mw_of (by decide) (by simp [Value.category]) (Nat.le_of_ble_eq_true rfl) ?_
  show AW l D b jX12_wrongAt (fx_rm 0 0 0) none (fx_MQ D b 0 0 (fx_qi (fun r N9 V9 => ((r = 0 ∨ r = 1) ∧ (r = 0 ∧ fI (V9 100) 16 = -1000 * n0 - n1)) ∧ N = N9 ∧ JR D b N cl [(100, 100, 16, 16)] V V9))) 0 [some (.ref (b + 100)), some (.int n0), some (.int n1)] [] N V 0 0
  refine aw_aload_n dX12_wrongAt_0 rfl ?_
  refine aw_sipush (v := (-1000)) dX12_wrongAt_1 (by decide) ?_
  refine aw_iload_n dX12_wrongAt_4 rfl ?_
  refine aw_imul dX12_wrongAt_5 ?_
  refine aw_iload_n dX12_wrongAt_6 rfl ?_
  refine aw_isub dX12_wrongAt_7 ?_
  obtain ⟨ftoldPeople_1, ftoldDoors_1, fwasDoors_1, ffault_1, fopen_1, flines_1, fmeantSet_1, fopenedNow_1, fvainNow_1, flowNow_1, fhighNow_1, fisKept_1, tad_1, pl0_1, le0_1, nu0_1, coy_1, wag_1, say_1, e_1, hntad_1, hnpl0_1, hnle0_1, hnnu0_1, hncoy_1, hnwag_1, hnsay_1⟩ := JR.get hJ0 cm_100
  refine aw_put dX12_wrongAt_8 fp_X12_169 e_1 (by omega) rfl rfl (Nat.le_of_ble_eq_true rfl) rfl ?_
  refine aw_upR hJ0 cm_100 ⟨_, _, _, _, _, _, _, _, _, _, _, _, tad_1, pl0_1, le0_1, nu0_1, coy_1, wag_1, say_1, rfl, by omega, by omega, by omega, by omega, by omega, by omega, by omega⟩ (by decide) (WO (s := 16) (x := .int (((-1000) * n0) - n1)) e_1 rfl LM0 (by decide) (by decide) (by decide) (Or.inl (by decide))) (fun V_2 j_2 k_2 e_2 => ?_)
  refine aw_iconst (v := 0) dX12_wrongAt_11 (by decide) ?_
  refine aw_zreti dX12_wrongAt_12 rfl (by first | exact Or.inl rfl | exact Or.inr rfl | assumption) (Nat.le_of_ble_eq_true rfl) (Nat.le_of_ble_eq_true rfl) ?_
  exact ⟨⟨(by first | exact Or.inl rfl | exact Or.inr rfl | assumption), ⟨rfl, ((congrArg (fun z => fI z 16) e_2).trans rfl)⟩⟩, rfl, j_2⟩

set_option maxHeartbeats 4000000 in
set_option maxRecDepth 100000 in
theorem r_takesS (l : Launch) (D : va_G) (b : Nat) (N : Nat) (V : Wd) (hN : 133 ≤ N) (cl : Nat) (hW : CR D b cl V) (n0 : Int32) (g : Nat → Int32) (hg : V 110 = cB D 260 g) (n a : Nat) (hna : a ≤ n ∧ n ≤ 240) (hE : fI (V 100) 15 = nI n) (hA : fI (V 100) 14 = nI a) (hn0 : 0 ≤ n0) : MI l D b 1 jX12_takes [.ref (b + 100), .int n0] N V 0 0 (fun r N9 V9 => ((r = 0 ∨ r = 1) ∧ ((hd (gb g) n a = n0 ∧ fI (V9 100) 14 = nI (a + 1) ∧ r = 1) ∨ (¬ hd (gb g) n a = n0 ∧ fI (V9 100) 16 = flt 1 a ∧ r = 0))) ∧ N = N9 ∧ JR D b N cl [(100, 100, 14, 14), (100, 100, 16, 16)] V V9) := by
  have hJ0 : JR D b N cl [(100, 100, 14, 14), (100, 100, 16, 16)] V V := JR.rf hW
  refine mw_of (by decide) (by simp [Value.category]) (Nat.le_of_ble_eq_true rfl) ?_
  show AW l D b jX12_takes (fx_rm 1 0 0) none (fx_MQ D b 0 0 (fx_qi (fun r N9 V9 => ((r = 0 ∨ r = 1) ∧ ((hd (gb g) n a = n0 ∧ fI (V9 100) 14 = nI (a + 1) ∧ r = 1) ∨ (¬ hd (gb g) n a = n0 ∧ fI (V9 100) 16 = flt 1 a ∧ r = 0))) ∧ N = N9 ∧ JR D b N cl [(100, 100, 14, 14), (100, 100, 16, 16)] V V9))) 0 [some (.ref (b + 100)), some (.int n0)] [] N V 0 0
  refine aw_aload_n dX12_takes_0 rfl ?_
  obtain ⟨ftoldPeople_3, ftoldDoors_3, fwasDoors_3, ffault_3, fopen_3, flines_3, fmeantSet_3, fopenedNow_3, fvainNow_3, flowNow_3, fhighNow_3, fisKept_3, tad_3, pl0_3, le0_3, nu0_3, coy_3, wag_3, say_3, e_3, hntad_3, hnpl0_3, hnle0_3, hnnu0_3, hncoy_3, hnwag_3, hnsay_3⟩ := JR.get hJ0 cm_100
  refine aw_callVi (J' := jX12_here) (As := []) (st := []) dX12_takes_1 tb_1220 ok_X12_here ⟨_, e_3⟩ (by omega) rfl rfl (r_hereS l D b N V hN cl hJ0.1 g hg n a ⟨by omega, by omega⟩ hE hA) rfl (Nat.le_of_ble_eq_true rfl) ⟨Nat.le_of_ble_eq_true rfl, Nat.le_of_ble_eq_true rfl, Nat.le_of_ble_eq_true rfl, Nat.le_of_ble_eq_true rfl⟩ (fun r_4 N_5 V_6 q_7 => ?_)
  obtain ⟨h_2, rfl, rfl⟩ := q_7
  refine aw_eqi (y := (hd (gb g) n a)) h_2 ?_
  refine aw_iload_n dX12_takes_4 rfl ?_
  refine aw_icmp_eq (tgt := 18) dX12_takes_5 (by decide) (fun c_8 => ?_) (fun c_8 => ?_)
  · skip
    have hl9 := hd_lit c_8 (fun z => absurd hn0 (by rw [z]; decide))
    refine aw_aload_n dX12_takes_18 rfl ?_
    refine aw_aload_n dX12_takes_19 rfl ?_
    refine aw_get dX12_takes_20 fl_X12_159 e_3 (by omega) rfl ?_
    refine aw_eqi (y := (nI a)) ((Eq.symm (congrArg (fun z => fI z 14) e_3)).trans hA) ?_
    refine aw_iconst (v := 1) dX12_takes_23 (by decide) ?_
    refine aw_iadd dX12_takes_24 ?_
    refine aw_eqi (y := nI (a + 1)) (nI_add _ _) ?_
    refine aw_put dX12_takes_25 fp_X12_159 e_3 (by omega) rfl rfl (Nat.le_of_ble_eq_true rfl) rfl ?_
    refine aw_upR hJ0 cm_100 ⟨_, _, _, _, _, _, _, _, _, _, _, _, tad_3, (a + 1), le0_3, nu0_3, coy_3, wag_3, say_3, rfl, by omega, by omega, by omega, by omega, by omega, by omega, by omega⟩ (by decide) (WO (s := 14) (x := .int (nI (a + 1))) e_3 rfl LM0 (by decide) (by decide) (by decide) (Or.inl (by decide))) (fun V_9 j_9 k_9 e_9 => ?_)
    refine aw_iconst (v := 1) dX12_takes_28 (by decide) ?_
    refine aw_zreti dX12_takes_29 rfl (by first | exact Or.inl rfl | exact Or.inr rfl | assumption) (Nat.le_of_ble_eq_true rfl) (Nat.le_of_ble_eq_true rfl) ?_
    exact ⟨⟨(by first | exact Or.inl rfl | exact Or.inr rfl | assumption), Or.inl ⟨c_8, ((congrArg (fun z => fI z 14) e_9).trans rfl), rfl⟩⟩, rfl, j_9⟩
  · skip
    refine aw_aload_n dX12_takes_8 rfl ?_
    refine aw_iconst (v := 1) dX12_takes_9 (by decide) ?_
    refine aw_aload_n dX12_takes_10 rfl ?_
    refine aw_get dX12_takes_11 fl_X12_159 e_3 (by omega) rfl ?_
    refine aw_eqi (y := (nI a)) ((Eq.symm (congrArg (fun z => fI z 14) e_3)).trans hA) ?_
    refine aw_callVi (J' := jX12_wrongAt) (As := [.int 1, .int (nI a)]) (st := []) dX12_takes_14 tb_1224 ok_X12_wrongAt ⟨_, e_3⟩ (by omega) rfl rfl (r_wrongAtS l D b N V hN cl hJ0.1 1 (nI a)) rfl (Nat.le_of_ble_eq_true rfl) ⟨Nat.le_of_ble_eq_true rfl, Nat.le_of_ble_eq_true rfl, Nat.le_of_ble_eq_true rfl, Nat.le_of_ble_eq_true rfl⟩ (fun r_15 N_16 V_14 q_17 => ?_)
    obtain ⟨⟨z_12, h_11⟩, rfl, q_10⟩ := q_17
    have j_13 := JR.trans hJ0 (JR.weak q_10 (Sub.cons (LMs LM0) (by decide) (by decide) (by decide) (Or.inr ⟨by decide, by decide⟩) Sub.nil))
    obtain ⟨rfl, h_11f⟩ := h_11
    refine aw_zreti dX12_takes_17 rfl (by first | exact Or.inl rfl | exact Or.inr rfl | assumption) (Nat.le_of_ble_eq_true rfl) (Nat.le_of_ble_eq_true rfl) ?_
    exact ⟨⟨(by first | exact Or.inl rfl | exact Or.inr rfl | assumption), Or.inr ⟨c_8, h_11f, rfl⟩⟩, rfl, j_13⟩

set_option maxHeartbeats 4000000 in
set_option maxRecDepth 100000 in
theorem r_readsAmountS (l : Launch) (D : va_G) (b : Nat) (N : Nat) (V : Wd) (hN : 133 ≤ N) (cl : Nat) (hW : CR D b cl V)  (g : Nat → Int32) (hg : V 110 = cB D 260 g) (n a : Nat) (hna : a ≤ n ∧ n ≤ 240) (hE : fI (V 100) 15 = nI n) (hA : fI (V 100) 14 = nI a) : MI l D b 2 jX12_readsAmount [.ref (b + 100)] N V 0 0 (fun r N9 V9 => ((r = 0 ∨ r = 1) ∧ ((∃ f, num (gb g) n 2 a = .inl f ∧ fI (V9 100) 16 = f ∧ r = 0) ∨ (∃ a9 v, num (gb g) n 2 a = .inr (a9, v) ∧ fI (V9 100) 14 = nI a9 ∧ fI (V9 100) 17 = nI v ∧ (a < a9 ∧ a9 ≤ n ∧ v < 100) ∧ r = 1))) ∧ N = N9 ∧ JR D b N cl [(100, 100, 17, 17), (100, 100, 14, 14), (100, 100, 16, 16)] V V9) := by
  have hJ0 : JR D b N cl [(100, 100, 17, 17), (100, 100, 14, 14), (100, 100, 16, 16)] V V := JR.rf hW
  refine mw_of (by decide) (by simp [Value.category]) (Nat.le_of_ble_eq_true rfl) ?_
  show AW l D b jX12_readsAmount (fx_rm 2 0 0) none (fx_MQ D b 0 0 (fx_qi (fun r N9 V9 => ((r = 0 ∨ r = 1) ∧ ((∃ f, num (gb g) n 2 a = .inl f ∧ fI (V9 100) 16 = f ∧ r = 0) ∨ (∃ a9 v, num (gb g) n 2 a = .inr (a9, v) ∧ fI (V9 100) 14 = nI a9 ∧ fI (V9 100) 17 = nI v ∧ (a < a9 ∧ a9 ≤ n ∧ v < 100) ∧ r = 1))) ∧ N = N9 ∧ JR D b N cl [(100, 100, 17, 17), (100, 100, 14, 14), (100, 100, 16, 16)] V V9))) 0 [some (.ref (b + 100)), none] [] N V 0 0
  refine aw_aload_n dX12_readsAmount_0 rfl ?_
  obtain ⟨ftoldPeople_1, ftoldDoors_1, fwasDoors_1, ffault_1, fopen_1, flines_1, fmeantSet_1, fopenedNow_1, fvainNow_1, flowNow_1, fhighNow_1, fisKept_1, tad_1, pl0_1, le0_1, nu0_1, coy_1, wag_1, say_1, e_1, hntad_1, hnpl0_1, hnle0_1, hnnu0_1, hncoy_1, hnwag_1, hnsay_1⟩ := JR.get hJ0 cm_100
  refine aw_get dX12_readsAmount_1 fl_X12_159 e_1 (by omega) rfl ?_
  refine aw_eqi (y := (nI a)) ((Eq.symm (congrArg (fun z => fI z 14) e_1)).trans hA) ?_
  refine aw_istore_n (ls' := [some (.ref (b + 100)), some (.int (nI a))]) dX12_readsAmount_4 (Nat.le_of_ble_eq_true rfl) rfl ?_
  refine aw_aload_n dX12_readsAmount_5 rfl ?_
  refine aw_callVi (J' := jX12_isDigit) (As := []) (st := []) dX12_readsAmount_6 tb_1241 ok_X12_isDigit ⟨_, e_1⟩ (by omega) rfl rfl (r_isDigitS l D b N V hN cl hJ0.1 g hg n a ⟨by omega, by omega⟩ hE hA) rfl (Nat.le_of_ble_eq_true rfl) ⟨Nat.le_of_ble_eq_true rfl, Nat.le_of_ble_eq_true rfl, Nat.le_of_ble_eq_true rfl, Nat.le_of_ble_eq_true rfl⟩ (fun r_5 N_6 V_7 q_8 => ?_)
  obtain ⟨⟨z_4, h_3⟩, rfl, rfl⟩ := q_8
  rcases h_3 with ⟨hy_9, e_10⟩ | ⟨hn_11, e_12⟩
  · skip
    refine aw_eqi (y := 1) e_10 ?_
    obtain ⟨z_13, hz_13, ez_13⟩ := isDg_nat hy_9
    have hlz_13 := isDg_hd hy_9
    refine aw_if_ne (tgt := 22) dX12_readsAmount_9 (by decide) (fun c_14 => ?_) (fun c_14 => ?_)
    rotate_left
    · exact absurd c_14 (by decide)
    refine aw_aload_n dX12_readsAmount_22 rfl ?_
    refine aw_iconst (v := 0) dX12_readsAmount_23 (by decide) ?_
    refine aw_put dX12_readsAmount_24 fp_X12_175 e_1 (by omega) rfl rfl (Nat.le_of_ble_eq_true rfl) rfl ?_
    refine aw_upR hJ0 cm_100 ⟨_, _, _, _, _, _, _, _, _, _, _, _, tad_1, pl0_1, le0_1, 0, coy_1, wag_1, say_1, rfl, by omega, by omega, by omega, by omega, by omega, by omega, by omega⟩ (by decide) (WO (s := 17) (x := .int 0) e_1 rfl LM0 (by decide) (by decide) (by decide) (Or.inl (by decide))) (fun V_15 j_15 k_15 e_15 => ?_)
    have ml_27_16 : ∀ (m : Nat) (a27 : Nat) (v27 : Nat) (V27 : Wd), m = n - a27 → (JR D b N cl [(100, 100, 17, 17), (100, 100, 14, 14), (100, 100, 16, 16)] V V27) → (fI (V27 100) 15 = nI n) → (fI (V27 100) 14 = nI a27) → (fI (V27 100) 17 = nI v27) → (V27 110 = cB D 260 g) → (numL (gb g) n 2 a (n - a27) a27 v27 = numL (gb g) n 2 a (n - a) a 0) → (a ≤ a27 ∧ a27 ≤ n ∧ a27 ≤ a + 2) → ((a27 = a ∧ v27 = 0) ∨ (a27 = a + 1 ∧ v27 < 10) ∨ (a27 = a + 2 ∧ v27 < 100)) → AW l D b jX12_readsAmount (fx_rm 2 0 0) none (fx_MQ D b 0 0 (fx_qi (fun r N9 V9 => ((r = 0 ∨ r = 1) ∧ ((∃ f, num (gb g) n 2 a = .inl f ∧ fI (V9 100) 16 = f ∧ r = 0) ∨ (∃ a9 v, num (gb g) n 2 a = .inr (a9, v) ∧ fI (V9 100) 14 = nI a9 ∧ fI (V9 100) 17 = nI v ∧ (a < a9 ∧ a9 ≤ n ∧ v < 100) ∧ r = 1))) ∧ N = N9 ∧ JR D b N cl [(100, 100, 17, 17), (100, 100, 14, 14), (100, 100, 16, 16)] V V9))) 27 [some (.ref (b + 100)), some (.int (nI a))] [] N V27 0 0 := by
      intro m; refine Nat.strongRecOn m ?_
      intro m mih_27_16 a27 v27 V27 hm27 i27_0 i27_1 i27_2 i27_3 i27_4 i27_5 i27_6 i27_7
      refine aw_aload_n dX12_readsAmount_27 rfl ?_
      obtain ⟨ftoldPeople_20, ftoldDoors_20, fwasDoors_20, ffault_20, fopen_20, flines_20, fmeantSet_20, fopenedNow_20, fvainNow_20, flowNow_20, fhighNow_20, fisKept_20, tad_20, pl0_20, le0_20, nu0_20, coy_20, wag_20, say_20, e_20, hntad_20, hnpl0_20, hnle0_20, hnnu0_20, hncoy_20, hnwag_20, hnsay_20⟩ := JR.get i27_0 cm_100
      refine aw_callVi (J' := jX12_isDigit) (As := []) (st := []) dX12_readsAmount_28 tb_1241 ok_X12_isDigit ⟨_, e_20⟩ (by omega) rfl rfl (r_isDigitS l D b N V27 hN cl i27_0.1 g i27_4 n a27 ⟨by omega, by omega⟩ i27_1 i27_2) rfl (Nat.le_of_ble_eq_true rfl) ⟨Nat.le_of_ble_eq_true rfl, Nat.le_of_ble_eq_true rfl, Nat.le_of_ble_eq_true rfl, Nat.le_of_ble_eq_true rfl⟩ (fun r_21 N_22 V_23 q_24 => ?_)
      obtain ⟨⟨z_19, h_18⟩, rfl, rfl⟩ := q_24
      rcases h_18 with ⟨hy_25, e_26⟩ | ⟨hn_27, e_28⟩
      · skip
        refine aw_eqi (y := 1) e_26 ?_
        obtain ⟨z_29, hz_29, ez_29⟩ := isDg_nat hy_25
        have hlz_29 := isDg_hd hy_25
        refine aw_if_eq (tgt := 86) dX12_readsAmount_31 (by decide) (fun c_30 => ?_) (fun c_30 => ?_)
        · exact absurd c_30 (by decide)
        refine aw_aload_n dX12_readsAmount_34 rfl ?_
        refine aw_get dX12_readsAmount_35 fl_X12_159 e_20 (by omega) rfl ?_
        refine aw_eqi (y := (nI a27)) ((Eq.symm (congrArg (fun z => fI z 14) e_20)).trans i27_2) ?_
        refine aw_iload_n dX12_readsAmount_38 rfl ?_
        refine aw_iconst (v := 2) dX12_readsAmount_39 (by decide) ?_
        refine aw_iadd dX12_readsAmount_40 ?_
        refine aw_eqi (y := nI (a + 2)) (nI_add _ _) ?_
        refine aw_icmp_ne (tgt := 54) dX12_readsAmount_41 (by decide) (fun c_31 => ?_) (fun c_31 => ?_)
        · skip
          have nc_31 : ¬ (a27 = (a + 2)) := fun z => c_31 ((nI_eq (a := a27) (b := (a + 2)) (by omega) (by omega)).mpr z)
          refine aw_aload_n dX12_readsAmount_54 rfl ?_
          refine aw_bipush (v := 10) dX12_readsAmount_55 (by decide) ?_
          refine aw_aload_n dX12_readsAmount_57 rfl ?_
          refine aw_get dX12_readsAmount_58 fl_X12_175 e_20 (by omega) rfl ?_
          refine aw_eqi (y := (nI v27)) ((Eq.symm (congrArg (fun z => fI z 17) e_20)).trans i27_3) ?_
          refine aw_imul dX12_readsAmount_61 ?_
          refine aw_eqi (y := nI (10 * v27)) (pk_mul _ _) ?_
          refine aw_aload_n dX12_readsAmount_62 rfl ?_
          refine aw_callVi (J' := jX12_here) (As := []) (st := [.int (nI (10 * v27)), .ref (b + 100)]) dX12_readsAmount_63 tb_1220 ok_X12_here ⟨_, e_20⟩ (by omega) rfl rfl (r_hereS l D b N V27 hN cl i27_0.1 g i27_4 n a27 ⟨by omega, by omega⟩ i27_1 i27_2) rfl (Nat.le_of_ble_eq_true rfl) ⟨Nat.le_of_ble_eq_true rfl, Nat.le_of_ble_eq_true rfl, Nat.le_of_ble_eq_true rfl, Nat.le_of_ble_eq_true rfl⟩ (fun r_34 N_35 V_36 q_37 => ?_)
          obtain ⟨h_33, rfl, rfl⟩ := q_37
          refine aw_eqi (y := nI (48 + z_29)) (h_33.trans ez_29) ?_
          refine aw_iadd dX12_readsAmount_66 ?_
          refine aw_eqi (y := nI ((10 * v27) + (48 + z_29))) (nI_add _ _) ?_
          refine aw_bipush (v := 48) dX12_readsAmount_67 (by decide) ?_
          refine aw_isub dX12_readsAmount_69 ?_
          refine aw_eqi (y := (nI ((10 * v27) + z_29))) (sub48b (10 * v27) z_29) ?_
          refine aw_put dX12_readsAmount_70 fp_X12_175 e_20 (by omega) rfl rfl (Nat.le_of_ble_eq_true rfl) rfl ?_
          refine aw_upR i27_0 cm_100 ⟨_, _, _, _, _, _, _, _, _, _, _, _, tad_20, pl0_20, le0_20, ((10 * v27) + z_29), coy_20, wag_20, say_20, rfl, by omega, by omega, by omega, by omega, by omega, by omega, by omega⟩ (by decide) (WO (s := 17) (x := .int (nI ((10 * v27) + z_29))) e_20 rfl LM0 (by decide) (by decide) (by decide) (Or.inl (by decide))) (fun V_38 j_38 k_38 e_38 => ?_)
          refine aw_aload_n dX12_readsAmount_73 rfl ?_
          refine aw_aload_n dX12_readsAmount_74 rfl ?_
          refine aw_get dX12_readsAmount_75 fl_X12_159 e_38 (by omega) rfl ?_
          refine aw_eqi (y := (nI a27)) ((Eq.symm (congrArg (fun z => fI z 14) e_38)).trans (KA (s := 17) (x := .int (nI ((10 * v27) + z_29))) e_20 rfl (by decide) e_38 k_38 i27_2)) ?_
          refine aw_iconst (v := 1) dX12_readsAmount_78 (by decide) ?_
          refine aw_iadd dX12_readsAmount_79 ?_
          refine aw_eqi (y := nI (a27 + 1)) (nI_add _ _) ?_
          refine aw_put dX12_readsAmount_80 fp_X12_159 e_38 (by omega) rfl rfl (Nat.le_of_ble_eq_true rfl) rfl ?_
          refine aw_upR j_38 cm_100 ⟨_, _, _, _, _, _, _, _, _, _, _, _, tad_20, (a27 + 1), le0_20, ((10 * v27) + z_29), coy_20, wag_20, say_20, rfl, by omega, by omega, by omega, by omega, by omega, by omega, by omega⟩ (by decide) (WO (s := 14) (x := .int (nI (a27 + 1))) e_38 rfl (LMs LM0) (by decide) (by decide) (by decide) (Or.inl (by decide))) (fun V_39 j_39 k_39 e_39 => ?_)
          refine aw_goto (tgt := 27) dX12_readsAmount_83 (by decide) ?_
          refine aw_le ?_ (mih_27_16 _ (by omega) (a27 + 1) ((10 * v27) + z_29) V_39 rfl (j_39) ((KA (s := 14) (x := .int (nI (a27 + 1))) e_38 rfl (by decide) e_39 k_39 (KA (s := 17) (x := .int (nI ((10 * v27) + z_29))) e_20 rfl (by decide) e_38 k_38 i27_1))) (((congrArg (fun z => fI z 14) e_39).trans rfl)) ((KA (s := 14) (x := .int (nI (a27 + 1))) e_38 rfl (by decide) e_39 k_39 ((congrArg (fun z => fI z 17) e_38).trans rfl))) (((k_39 _ (by decide)).trans ((k_38 _ (by decide)).trans i27_4))) ((numL_step hy_25 (by omega) hz_29 ez_29).symm.trans i27_5) (⟨by omega, by omega, by omega⟩) (by omega))
          exact ⟨rfl, ⟨rfl, trivial⟩⟩
        · skip
          have nc_31 : a27 = (a + 2) := (nI_eq (a := a27) (b := (a + 2)) (by omega) (by omega)).mp c_31
          refine aw_aload_n dX12_readsAmount_44 rfl ?_
          refine aw_iconst (v := 2) dX12_readsAmount_45 (by decide) ?_
          refine aw_aload_n dX12_readsAmount_46 rfl ?_
          refine aw_get dX12_readsAmount_47 fl_X12_159 e_20 (by omega) rfl ?_
          refine aw_eqi (y := (nI a27)) ((Eq.symm (congrArg (fun z => fI z 14) e_20)).trans i27_2) ?_
          refine aw_callVi (J' := jX12_wrongAt) (As := [.int 2, .int (nI a27)]) (st := []) dX12_readsAmount_50 tb_1224 ok_X12_wrongAt ⟨_, e_20⟩ (by omega) rfl rfl (r_wrongAtS l D b N V27 hN cl i27_0.1 2 (nI a27)) rfl (Nat.le_of_ble_eq_true rfl) ⟨Nat.le_of_ble_eq_true rfl, Nat.le_of_ble_eq_true rfl, Nat.le_of_ble_eq_true rfl, Nat.le_of_ble_eq_true rfl⟩ (fun r_45 N_46 V_44 q_47 => ?_)
          obtain ⟨⟨z_42, h_41⟩, rfl, q_40⟩ := q_47
          have j_43 := JR.trans i27_0 (JR.weak q_40 (Sub.cons (LMs (LMs LM0)) (by decide) (by decide) (by decide) (Or.inr ⟨by decide, by decide⟩) Sub.nil))
          obtain ⟨rfl, h_41f⟩ := h_41
          refine aw_zreti dX12_readsAmount_53 rfl (by first | exact Or.inl rfl | exact Or.inr rfl | assumption) (Nat.le_of_ble_eq_true rfl) (Nat.le_of_ble_eq_true rfl) ?_
          exact ⟨⟨(by first | exact Or.inl rfl | exact Or.inr rfl | assumption), Or.inl ⟨_, (num_in hy_9).trans (i27_5.symm.trans (numL_over hy_25 (by omega))), h_41f, rfl⟩⟩, rfl, j_43⟩
      · skip
        refine aw_eqi (y := 0) e_28 ?_
        refine aw_if_eq (tgt := 86) dX12_readsAmount_31 (by decide) (fun c_48 => ?_) (fun c_48 => ?_)
        rotate_left
        · exact absurd (by decide) c_48
        refine aw_iconst (v := 1) dX12_readsAmount_86 (by decide) ?_
        have hne9 : a27 ≠ a := fun e => bool_tf hy_9 (e ▸ hn_27)
        refine aw_zreti dX12_readsAmount_87 rfl (by first | exact Or.inl rfl | exact Or.inr rfl | assumption) (Nat.le_of_ble_eq_true rfl) (Nat.le_of_ble_eq_true rfl) ?_
        exact ⟨⟨(by first | exact Or.inl rfl | exact Or.inr rfl | assumption), Or.inr ⟨a27, v27, (num_in hy_9).trans (i27_5.symm.trans (numL_stop hn_27)), i27_2, i27_3, ⟨by omega, by omega, by omega⟩, rfl⟩⟩, rfl, i27_0⟩
    refine aw_le ?_ (ml_27_16 _ a 0 V_15 rfl (j_15) ((KA (s := 17) (x := .int 0) e_1 rfl (by decide) e_15 k_15 hE)) ((KA (s := 17) (x := .int 0) e_1 rfl (by decide) e_15 k_15 hA)) (((congrArg (fun z => fI z 17) e_15).trans rfl)) (((k_15 _ (by decide)).trans hg)) (rfl) (⟨Nat.le_refl _, by omega, by omega⟩) (Or.inl ⟨rfl, rfl⟩))
    exact ⟨rfl, ⟨rfl, trivial⟩⟩
  · skip
    refine aw_eqi (y := 0) e_12 ?_
    refine aw_if_ne (tgt := 22) dX12_readsAmount_9 (by decide) (fun c_49 => ?_) (fun c_49 => ?_)
    · exact absurd rfl c_49
    refine aw_aload_n dX12_readsAmount_12 rfl ?_
    refine aw_iconst (v := 1) dX12_readsAmount_13 (by decide) ?_
    refine aw_aload_n dX12_readsAmount_14 rfl ?_
    refine aw_get dX12_readsAmount_15 fl_X12_159 e_1 (by omega) rfl ?_
    refine aw_eqi (y := (nI a)) ((Eq.symm (congrArg (fun z => fI z 14) e_1)).trans hA) ?_
    refine aw_callVi (J' := jX12_wrongAt) (As := [.int 1, .int (nI a)]) (st := []) dX12_readsAmount_18 tb_1224 ok_X12_wrongAt ⟨_, e_1⟩ (by omega) rfl rfl (r_wrongAtS l D b N V hN cl hJ0.1 1 (nI a)) rfl (Nat.le_of_ble_eq_true rfl) ⟨Nat.le_of_ble_eq_true rfl, Nat.le_of_ble_eq_true rfl, Nat.le_of_ble_eq_true rfl, Nat.le_of_ble_eq_true rfl⟩ (fun r_55 N_56 V_54 q_57 => ?_)
    obtain ⟨⟨z_52, h_51⟩, rfl, q_50⟩ := q_57
    have j_53 := JR.trans hJ0 (JR.weak q_50 (Sub.cons (LMs (LMs LM0)) (by decide) (by decide) (by decide) (Or.inr ⟨by decide, by decide⟩) Sub.nil))
    obtain ⟨rfl, h_51f⟩ := h_51
    refine aw_zreti dX12_readsAmount_21 rfl (by first | exact Or.inl rfl | exact Or.inr rfl | assumption) (Nat.le_of_ble_eq_true rfl) (Nat.le_of_ble_eq_true rfl) ?_
    exact ⟨⟨(by first | exact Or.inl rfl | exact Or.inr rfl | assumption), Or.inl ⟨_, num_no hn_11, h_51f, rfl⟩⟩, rfl, j_53⟩

set_option maxHeartbeats 4000000 in
set_option maxRecDepth 100000 in
theorem r_readsMeantS (l : Launch) (D : va_G) (b : Nat) (N : Nat) (V : Wd) (hN : 133 ≤ N) (cl : Nat) (hW : CR D b cl V)  (g : Nat → Int32) (hg : V 110 = cB D 260 g) (n a : Nat) (hna : a ≤ n ∧ n ≤ 240) (hE : fI (V 100) 15 = nI n) (hA : fI (V 100) 14 = nI a) : MI l D b 2 jX12_readsMeant [.ref (b + 100)] N V 0 0 (fun r N9 V9 => ((r = 0 ∨ r = 1) ∧ ((∃ f, meantS (gb g) n a = .inl f ∧ fI (V9 100) 16 = f ∧ r = 0) ∨ (∃ a9 s9, meantS (gb g) n a = .inr (a9, s9) ∧ fI (V9 100) 14 = nI a9 ∧ (a ≤ a9 ∧ a9 ≤ n) ∧ r = 1))) ∧ N = N9 ∧ JR D b N cl [(100, 100, 37, 37), (100, 100, 16, 16), (100, 100, 14, 14)] V V9) := by
  have hJ0 : JR D b N cl [(100, 100, 37, 37), (100, 100, 16, 16), (100, 100, 14, 14)] V V := JR.rf hW
  refine mw_of (by decide) (by simp [Value.category]) (Nat.le_of_ble_eq_true rfl) ?_
  show AW l D b jX12_readsMeant (fx_rm 2 0 0) none (fx_MQ D b 0 0 (fx_qi (fun r N9 V9 => ((r = 0 ∨ r = 1) ∧ ((∃ f, meantS (gb g) n a = .inl f ∧ fI (V9 100) 16 = f ∧ r = 0) ∨ (∃ a9 s9, meantS (gb g) n a = .inr (a9, s9) ∧ fI (V9 100) 14 = nI a9 ∧ (a ≤ a9 ∧ a9 ≤ n) ∧ r = 1))) ∧ N = N9 ∧ JR D b N cl [(100, 100, 37, 37), (100, 100, 16, 16), (100, 100, 14, 14)] V V9))) 0 [some (.ref (b + 100))] [] N V 0 0
  refine aw_aload_n dX12_readsMeant_0 rfl ?_
  refine aw_ldcw (v := 65535) dX12_readsMeant_1 tb_1314 ?_
  obtain ⟨ftoldPeople_1, ftoldDoors_1, fwasDoors_1, ffault_1, fopen_1, flines_1, fmeantSet_1, fopenedNow_1, fvainNow_1, flowNow_1, fhighNow_1, fisKept_1, tad_1, pl0_1, le0_1, nu0_1, coy_1, wag_1, say_1, e_1, hntad_1, hnpl0_1, hnle0_1, hnnu0_1, hncoy_1, hnwag_1, hnsay_1⟩ := JR.get hJ0 cm_100
  refine aw_put dX12_readsMeant_4 fp_X12_262 e_1 (by omega) rfl rfl (Nat.le_of_ble_eq_true rfl) rfl ?_
  refine aw_upR hJ0 cm_100 ⟨_, _, _, _, _, _, _, _, _, _, _, _, tad_1, pl0_1, le0_1, nu0_1, coy_1, wag_1, say_1, rfl, by omega, by omega, by omega, by omega, by omega, by omega, by omega⟩ (by decide) (WO (s := 37) (x := .int 65535) e_1 rfl LM0 (by decide) (by decide) (by decide) (Or.inl (by decide))) (fun V_2 j_2 k_2 e_2 => ?_)
  refine aw_aload_n dX12_readsMeant_7 rfl ?_
  refine aw_callVi (J' := jX12_here) (As := []) (st := []) dX12_readsMeant_8 tb_1220 ok_X12_here ⟨_, e_2⟩ (by omega) rfl rfl (r_hereS l D b N V_2 hN cl j_2.1 g ((k_2 _ (by decide)).trans hg) n a ⟨by omega, by omega⟩ (KA (s := 37) (x := .int 65535) e_1 rfl (by decide) e_2 k_2 hE) (KA (s := 37) (x := .int 65535) e_1 rfl (by decide) e_2 k_2 hA)) rfl (Nat.le_of_ble_eq_true rfl) ⟨Nat.le_of_ble_eq_true rfl, Nat.le_of_ble_eq_true rfl, Nat.le_of_ble_eq_true rfl, Nat.le_of_ble_eq_true rfl⟩ (fun r_5 N_6 V_7 q_8 => ?_)
  obtain ⟨h_4, rfl, rfl⟩ := q_8
  refine aw_eqi (y := (hd (gb g) n a)) h_4 ?_
  refine aw_bipush (v := 42) dX12_readsMeant_11 (by decide) ?_
  refine aw_icmp_ne (tgt := 28) dX12_readsMeant_13 (by decide) (fun c_9 => ?_) (fun c_9 => ?_)
  · skip
    refine aw_aload_n dX12_readsMeant_28 rfl ?_
    refine aw_iconst (v := 0) dX12_readsMeant_29 (by decide) ?_
    refine aw_put dX12_readsMeant_30 fp_X12_262 e_2 (by omega) rfl rfl (Nat.le_of_ble_eq_true rfl) rfl ?_
    refine aw_upR j_2 cm_100 ⟨_, _, _, _, _, _, _, _, _, _, _, _, tad_1, pl0_1, le0_1, nu0_1, coy_1, wag_1, say_1, rfl, by omega, by omega, by omega, by omega, by omega, by omega, by omega⟩ (by decide) (WO (s := 37) (x := .int 0) e_2 rfl LM0 (by decide) (by decide) (by decide) (Or.inl (by decide))) (fun V_10 j_10 k_10 e_10 => ?_)
    have ml_33_11 : ∀ (m : Nat) (a33 : Nat) (s33 : Int32) (V33 : Wd), m = n - a33 → (JR D b N cl [(100, 100, 37, 37), (100, 100, 16, 16), (100, 100, 14, 14)] V V33) → (fI (V33 100) 15 = nI n) → (fI (V33 100) 14 = nI a33) → (fI (V33 100) 37 = s33) → (V33 110 = cB D 260 g) → (mtF (gb g) n (n - a33) s33 a33 = mtF (gb g) n (n - a) 0 a) → (a ≤ a33 ∧ a33 ≤ n) → AW l D b jX12_readsMeant (fx_rm 2 0 0) none (fx_MQ D b 0 0 (fx_qi (fun r N9 V9 => ((r = 0 ∨ r = 1) ∧ ((∃ f, meantS (gb g) n a = .inl f ∧ fI (V9 100) 16 = f ∧ r = 0) ∨ (∃ a9 s9, meantS (gb g) n a = .inr (a9, s9) ∧ fI (V9 100) 14 = nI a9 ∧ (a ≤ a9 ∧ a9 ≤ n) ∧ r = 1))) ∧ N = N9 ∧ JR D b N cl [(100, 100, 37, 37), (100, 100, 16, 16), (100, 100, 14, 14)] V V9))) 33 [some (.ref (b + 100))] [] N V33 0 0 := by
      intro m; refine Nat.strongRecOn m ?_
      intro m mih_33_11 a33 s33 V33 hm33 i33_0 i33_1 i33_2 i33_3 i33_4 i33_5 i33_6
      refine aw_aload_n dX12_readsMeant_33 rfl ?_
      obtain ⟨ftoldPeople_15, ftoldDoors_15, fwasDoors_15, ffault_15, fopen_15, flines_15, fmeantSet_15, fopenedNow_15, fvainNow_15, flowNow_15, fhighNow_15, fisKept_15, tad_15, pl0_15, le0_15, nu0_15, coy_15, wag_15, say_15, e_15, hntad_15, hnpl0_15, hnle0_15, hnnu0_15, hncoy_15, hnwag_15, hnsay_15⟩ := JR.get i33_0 cm_100
      refine aw_callVi (J' := jX12_isLetter) (As := []) (st := []) dX12_readsMeant_34 tb_1306 ok_X12_isLetter ⟨_, e_15⟩ (by omega) rfl rfl (r_isLetterS l D b N V33 hN cl i33_0.1 g i33_4 n a33 ⟨by omega, by omega⟩ i33_1 i33_2) rfl (Nat.le_of_ble_eq_true rfl) ⟨Nat.le_of_ble_eq_true rfl, Nat.le_of_ble_eq_true rfl, Nat.le_of_ble_eq_true rfl, Nat.le_of_ble_eq_true rfl⟩ (fun r_16 N_17 V_18 q_19 => ?_)
      obtain ⟨⟨z_14, h_13⟩, rfl, rfl⟩ := q_19
      rcases h_13 with ⟨hy_20, e_21⟩ | ⟨hn_22, e_23⟩
      · skip
        refine aw_eqi (y := 1) e_21 ?_
        have hlhy_20 := isLt_hd hy_20
        refine aw_if_eq (tgt := 99) dX12_readsMeant_37 (by decide) (fun c_24 => ?_) (fun c_24 => ?_)
        · exact absurd c_24 (by decide)
        refine aw_aload_n dX12_readsMeant_40 rfl ?_
        refine aw_get dX12_readsMeant_41 fl_X12_262 e_15 (by omega) rfl ?_
        refine aw_eqi (y := s33) ((Eq.symm (congrArg (fun z => fI z 37) e_15)).trans i33_3) ?_
        refine aw_aload_n dX12_readsMeant_44 rfl ?_
        refine aw_callVi (J' := jX12_here) (As := []) (st := [.int s33]) dX12_readsMeant_45 tb_1220 ok_X12_here ⟨_, e_15⟩ (by omega) rfl rfl (r_hereS l D b N V33 hN cl i33_0.1 g i33_4 n a33 ⟨by omega, by omega⟩ i33_1 i33_2) rfl (Nat.le_of_ble_eq_true rfl) ⟨Nat.le_of_ble_eq_true rfl, Nat.le_of_ble_eq_true rfl, Nat.le_of_ble_eq_true rfl, Nat.le_of_ble_eq_true rfl⟩ (fun r_27 N_28 V_29 q_30 => ?_)
        obtain ⟨h_26, rfl, rfl⟩ := q_30
        refine aw_eqi (y := (hd (gb g) n a33)) h_26 ?_
        refine aw_bipush (v := 97) dX12_readsMeant_48 (by decide) ?_
        refine aw_isub dX12_readsMeant_50 ?_
        refine aw_callSi (J' := jX12_has) (As := [.int s33, .int ((hd (gb g) n a33) - 97)]) (st := []) dX12_readsMeant_51 tb_1315 ok_X12_has rfl (r_hasS l D b N V33 hN cl i33_0.1 s33 ((hd (gb g) n a33) - 97)) rfl (Nat.le_of_ble_eq_true rfl) ⟨Nat.le_of_ble_eq_true rfl, Nat.le_of_ble_eq_true rfl, Nat.le_of_ble_eq_true rfl, Nat.le_of_ble_eq_true rfl⟩ (fun r_34 N_35 V_36 q_37 => ?_)
        obtain ⟨⟨z_33, h_32⟩, rfl, rfl⟩ := q_37
        rcases h_32 with ⟨hy_38, e_39⟩ | ⟨hn_40, e_41⟩
        · skip
          refine aw_eqi (y := 1) e_39 ?_
          refine aw_if_eq (tgt := 68) dX12_readsMeant_54 (by decide) (fun c_42 => ?_) (fun c_42 => ?_)
          · exact absurd c_42 (by decide)
          refine aw_aload_n dX12_readsMeant_57 rfl ?_
          refine aw_bipush (v := 6) dX12_readsMeant_58 (by decide) ?_
          refine aw_aload_n dX12_readsMeant_60 rfl ?_
          refine aw_get dX12_readsMeant_61 fl_X12_159 e_15 (by omega) rfl ?_
          refine aw_eqi (y := (nI a33)) ((Eq.symm (congrArg (fun z => fI z 14) e_15)).trans i33_2) ?_
          refine aw_callVi (J' := jX12_wrongAt) (As := [.int 6, .int (nI a33)]) (st := []) dX12_readsMeant_64 tb_1224 ok_X12_wrongAt ⟨_, e_15⟩ (by omega) rfl rfl (r_wrongAtS l D b N V33 hN cl i33_0.1 6 (nI a33)) rfl (Nat.le_of_ble_eq_true rfl) ⟨Nat.le_of_ble_eq_true rfl, Nat.le_of_ble_eq_true rfl, Nat.le_of_ble_eq_true rfl, Nat.le_of_ble_eq_true rfl⟩ (fun r_48 N_49 V_47 q_50 => ?_)
          obtain ⟨⟨z_45, h_44⟩, rfl, q_43⟩ := q_50
          have j_46 := JR.trans i33_0 (JR.weak q_43 (Sub.cons (LMs LM0) (by decide) (by decide) (by decide) (Or.inr ⟨by decide, by decide⟩) Sub.nil))
          obtain ⟨rfl, h_44f⟩ := h_44
          refine aw_zreti dX12_readsMeant_67 rfl (by first | exact Or.inl rfl | exact Or.inr rfl | assumption) (Nat.le_of_ble_eq_true rfl) (Nat.le_of_ble_eq_true rfl) ?_
          exact ⟨⟨(by first | exact Or.inl rfl | exact Or.inr rfl | assumption), Or.inl ⟨_, (meant_lt c_9).trans (i33_5.symm.trans (mtF_twice hy_20 hy_38)), h_44f, rfl⟩⟩, rfl, j_46⟩
        · skip
          refine aw_eqi (y := 0) e_41 ?_
          refine aw_if_eq (tgt := 68) dX12_readsMeant_54 (by decide) (fun c_51 => ?_) (fun c_51 => ?_)
          rotate_left
          · exact absurd (by decide) c_51
          refine aw_aload_n dX12_readsMeant_68 rfl ?_
          refine aw_aload_n dX12_readsMeant_69 rfl ?_
          refine aw_get dX12_readsMeant_70 fl_X12_262 e_15 (by omega) rfl ?_
          refine aw_eqi (y := s33) ((Eq.symm (congrArg (fun z => fI z 37) e_15)).trans i33_3) ?_
          refine aw_iconst (v := 1) dX12_readsMeant_73 (by decide) ?_
          refine aw_aload_n dX12_readsMeant_74 rfl ?_
          refine aw_callVi (J' := jX12_here) (As := []) (st := [.int 1, .int s33, .ref (b + 100)]) dX12_readsMeant_75 tb_1220 ok_X12_here ⟨_, e_15⟩ (by omega) rfl rfl (r_hereS l D b N V33 hN cl i33_0.1 g i33_4 n a33 ⟨by omega, by omega⟩ i33_1 i33_2) rfl (Nat.le_of_ble_eq_true rfl) ⟨Nat.le_of_ble_eq_true rfl, Nat.le_of_ble_eq_true rfl, Nat.le_of_ble_eq_true rfl, Nat.le_of_ble_eq_true rfl⟩ (fun r_54 N_55 V_56 q_57 => ?_)
          obtain ⟨h_53, rfl, rfl⟩ := q_57
          refine aw_eqi (y := (hd (gb g) n a33)) h_53 ?_
          refine aw_bipush (v := 97) dX12_readsMeant_78 (by decide) ?_
          refine aw_isub dX12_readsMeant_80 ?_
          refine aw_ishl dX12_readsMeant_81 ?_
          refine aw_ior dX12_readsMeant_82 ?_
          refine aw_put dX12_readsMeant_83 fp_X12_262 e_15 (by omega) rfl rfl (Nat.le_of_ble_eq_true rfl) rfl ?_
          refine aw_upR i33_0 cm_100 ⟨_, _, _, _, _, _, _, _, _, _, _, _, tad_15, pl0_15, le0_15, nu0_15, coy_15, wag_15, say_15, rfl, by omega, by omega, by omega, by omega, by omega, by omega, by omega⟩ (by decide) (WO (s := 37) (x := .int (s33 ||| ((1 : Int32) <<< (((hd (gb g) n a33) - 97) &&& 31)))) e_15 rfl LM0 (by decide) (by decide) (by decide) (Or.inl (by decide))) (fun V_58 j_58 k_58 e_58 => ?_)
          refine aw_aload_n dX12_readsMeant_86 rfl ?_
          refine aw_aload_n dX12_readsMeant_87 rfl ?_
          refine aw_get dX12_readsMeant_88 fl_X12_159 e_58 (by omega) rfl ?_
          refine aw_eqi (y := (nI a33)) ((Eq.symm (congrArg (fun z => fI z 14) e_58)).trans (KA (s := 37) (x := .int (s33 ||| ((1 : Int32) <<< (((hd (gb g) n a33) - 97) &&& 31)))) e_15 rfl (by decide) e_58 k_58 i33_2)) ?_
          refine aw_iconst (v := 1) dX12_readsMeant_91 (by decide) ?_
          refine aw_iadd dX12_readsMeant_92 ?_
          refine aw_eqi (y := nI (a33 + 1)) (nI_add _ _) ?_
          refine aw_put dX12_readsMeant_93 fp_X12_159 e_58 (by omega) rfl rfl (Nat.le_of_ble_eq_true rfl) rfl ?_
          refine aw_upR j_58 cm_100 ⟨_, _, _, _, _, _, _, _, _, _, _, _, tad_15, (a33 + 1), le0_15, nu0_15, coy_15, wag_15, say_15, rfl, by omega, by omega, by omega, by omega, by omega, by omega, by omega⟩ (by decide) (WO (s := 14) (x := .int (nI (a33 + 1))) e_58 rfl (LMs (LMs LM0)) (by decide) (by decide) (by decide) (Or.inl (by decide))) (fun V_59 j_59 k_59 e_59 => ?_)
          refine aw_goto (tgt := 33) dX12_readsMeant_96 (by decide) ?_
          refine aw_le ?_ (mih_33_11 _ (by omega) (a33 + 1) (s33 ||| ((1 : Int32) <<< (((hd (gb g) n a33) - 97) &&& 31))) V_59 rfl (j_59) ((KA (s := 14) (x := .int (nI (a33 + 1))) e_58 rfl (by decide) e_59 k_59 (KA (s := 37) (x := .int (s33 ||| ((1 : Int32) <<< (((hd (gb g) n a33) - 97) &&& 31)))) e_15 rfl (by decide) e_58 k_58 i33_1))) (((congrArg (fun z => fI z 14) e_59).trans rfl)) ((KA (s := 14) (x := .int (nI (a33 + 1))) e_58 rfl (by decide) e_59 k_59 ((congrArg (fun z => fI z 37) e_58).trans rfl))) (((k_59 _ (by decide)).trans ((k_58 _ (by decide)).trans i33_4))) ((mtF_step hy_20 hn_40).symm.trans i33_5) (⟨by omega, by omega⟩))
          exact ⟨rfl, trivial⟩
      · skip
        refine aw_eqi (y := 0) e_23 ?_
        refine aw_if_eq (tgt := 99) dX12_readsMeant_37 (by decide) (fun c_60 => ?_) (fun c_60 => ?_)
        rotate_left
        · exact absurd (by decide) c_60
        refine aw_iconst (v := 1) dX12_readsMeant_99 (by decide) ?_
        refine aw_zreti dX12_readsMeant_100 rfl (by first | exact Or.inl rfl | exact Or.inr rfl | assumption) (Nat.le_of_ble_eq_true rfl) (Nat.le_of_ble_eq_true rfl) ?_
        exact ⟨⟨(by first | exact Or.inl rfl | exact Or.inr rfl | assumption), Or.inr ⟨a33, _, (meant_lt c_9).trans (i33_5.symm.trans (mtF_stop hn_22)), i33_2, ⟨by omega, by omega⟩, rfl⟩⟩, rfl, i33_0⟩
    refine aw_le ?_ (ml_33_11 _ a 0 V_10 rfl (j_10) ((KA (s := 37) (x := .int 0) e_2 rfl (by decide) e_10 k_10 (KA (s := 37) (x := .int 65535) e_1 rfl (by decide) e_2 k_2 hE))) ((KA (s := 37) (x := .int 0) e_2 rfl (by decide) e_10 k_10 (KA (s := 37) (x := .int 65535) e_1 rfl (by decide) e_2 k_2 hA))) (((congrArg (fun z => fI z 37) e_10).trans rfl)) (((k_10 _ (by decide)).trans ((k_2 _ (by decide)).trans hg))) (rfl) (⟨Nat.le_refl _, by omega⟩))
    exact ⟨rfl, trivial⟩
  · skip
    have hl42 := hd_lit c_9 (by decide)
    refine aw_aload_n dX12_readsMeant_16 rfl ?_
    refine aw_aload_n dX12_readsMeant_17 rfl ?_
    refine aw_get dX12_readsMeant_18 fl_X12_159 e_2 (by omega) rfl ?_
    refine aw_eqi (y := (nI a)) ((Eq.symm (congrArg (fun z => fI z 14) e_2)).trans (KA (s := 37) (x := .int 65535) e_1 rfl (by decide) e_2 k_2 hA)) ?_
    refine aw_iconst (v := 1) dX12_readsMeant_21 (by decide) ?_
    refine aw_iadd dX12_readsMeant_22 ?_
    refine aw_eqi (y := nI (a + 1)) (nI_add _ _) ?_
    refine aw_put dX12_readsMeant_23 fp_X12_159 e_2 (by omega) rfl rfl (Nat.le_of_ble_eq_true rfl) rfl ?_
    refine aw_upR j_2 cm_100 ⟨_, _, _, _, _, _, _, _, _, _, _, _, tad_1, (a + 1), le0_1, nu0_1, coy_1, wag_1, say_1, rfl, by omega, by omega, by omega, by omega, by omega, by omega, by omega⟩ (by decide) (WO (s := 14) (x := .int (nI (a + 1))) e_2 rfl (LMs (LMs LM0)) (by decide) (by decide) (by decide) (Or.inl (by decide))) (fun V_61 j_61 k_61 e_61 => ?_)
    refine aw_iconst (v := 1) dX12_readsMeant_26 (by decide) ?_
    refine aw_zreti dX12_readsMeant_27 rfl (by first | exact Or.inl rfl | exact Or.inr rfl | assumption) (Nat.le_of_ble_eq_true rfl) (Nat.le_of_ble_eq_true rfl) ?_
    exact ⟨⟨(by first | exact Or.inl rfl | exact Or.inr rfl | assumption), Or.inr ⟨_, _, meant_star c_9, ((congrArg (fun z => fI z 14) e_61).trans rfl), ⟨by omega, by omega⟩, rfl⟩⟩, rfl, j_61⟩

set_option maxHeartbeats 20000000 in
set_option maxRecDepth 100000 in
theorem r_readsDreadS (l : Launch) (D : va_G) (b : Nat) (N : Nat) (V : Wd) (hN : 133 ≤ N) (cl : Nat) (hW : CR D b cl V) (n0 : Int32) (hn0 : ∃ j : Nat, j < 12 ∧ n0 = nI j) (g : Nat → Int32) (hg : V 110 = cB D 260 g) (n a : Nat) (hna : a ≤ n ∧ n ≤ 240) (hE : fI (V 100) 15 = nI n) (hA : fI (V 100) 14 = nI a) (L : Nat) (hL : fI (V 100) 36 = nI L ∧ L ≤ 20) : MI l D b 3 jX12_readsDread [.ref (b + 100), .int n0] N V 0 0 (fun r N9 V9 => ((r = 0 ∨ r = 1) ∧ ((∃ f, txD (gb g) n (20 - L) a = .inl f ∧ fI (V9 100) 16 = f ∧ r = 0) ∨ (∃ a9, stD (hd (gb g) n a) = true ∧ L < 20 ∧ lnD (gb g) n a = .inr (a9, ()) ∧ fI (V9 100) 14 = nI a9 ∧ fI (V9 100) 36 = nI (L + 1) ∧ (a < a9 ∧ a9 ≤ n) ∧ r = 1))) ∧ N = N9 ∧ JR D b N cl [(100, 100, 36, 36), (100, 100, 37, 37), (100, 100, 16, 16), (100, 100, 14, 14), (100, 100, 17, 17), (101, 101, 0, 191)] V V9) := by
  have hJ0 : JR D b N cl [(100, 100, 36, 36), (100, 100, 37, 37), (100, 100, 16, 16), (100, 100, 14, 14), (100, 100, 17, 17), (101, 101, 0, 191)] V V := JR.rf hW
  obtain ⟨i0, hi0, rfl⟩ := hn0
  refine mw_of (by decide) (by simp [Value.category]) (Nat.le_of_ble_eq_true rfl) ?_
  show AW l D b jX12_readsDread (fx_rm 3 0 0) none (fx_MQ D b 0 0 (fx_qi (fun r N9 V9 => ((r = 0 ∨ r = 1) ∧ ((∃ f, txD (gb g) n (20 - L) a = .inl f ∧ fI (V9 100) 16 = f ∧ r = 0) ∨ (∃ a9, stD (hd (gb g) n a) = true ∧ L < 20 ∧ lnD (gb g) n a = .inr (a9, ()) ∧ fI (V9 100) 14 = nI a9 ∧ fI (V9 100) 36 = nI (L + 1) ∧ (a < a9 ∧ a9 ≤ n) ∧ r = 1))) ∧ N = N9 ∧ JR D b N cl [(100, 100, 36, 36), (100, 100, 37, 37), (100, 100, 16, 16), (100, 100, 14, 14), (100, 100, 17, 17), (101, 101, 0, 191)] V V9))) 0 [some (.ref (b + 100)), some (.int (nI i0)), none, none, none] [] N V 0 0
  obtain ⟨hL1, hL2⟩ := hL
  refine aw_aload_n dX12_readsDread_0 rfl ?_
  obtain ⟨ftoldPeople_3, ftoldDoors_3, fwasDoors_3, ffault_3, fopen_3, flines_3, fmeantSet_3, fopenedNow_3, fvainNow_3, flowNow_3, fhighNow_3, fisKept_3, tad_3, pl0_3, le0_3, nu0_3, coy_3, wag_3, say_3, e_3, hntad_3, hnpl0_3, hnle0_3, hnnu0_3, hncoy_3, hnwag_3, hnsay_3⟩ := JR.get hJ0 cm_100
  refine aw_callVi (J' := jX12_here) (As := []) (st := []) dX12_readsDread_1 tb_1220 ok_X12_here ⟨_, e_3⟩ (by omega) rfl rfl (r_hereS l D b N V hN cl hJ0.1 g hg n a ⟨by omega, by omega⟩ hE hA) rfl (Nat.le_of_ble_eq_true rfl) ⟨Nat.le_of_ble_eq_true rfl, Nat.le_of_ble_eq_true rfl, Nat.le_of_ble_eq_true rfl, Nat.le_of_ble_eq_true rfl⟩ (fun r_4 N_5 V_6 q_7 => ?_)
  obtain ⟨h_2, rfl, rfl⟩ := q_7
  refine aw_eqi (y := (hd (gb g) n a)) h_2 ?_
  refine aw_bipush (v := 42) dX12_readsDread_4 (by decide) ?_
  refine aw_icmp_eq (tgt := 26) dX12_readsDread_6 (by decide) (fun c_8 => ?_) (fun c_8 => ?_)
  · skip
    refine aw_aload_n dX12_readsDread_26 rfl ?_
    refine aw_get dX12_readsDread_27 fl_X12_268 e_3 (by omega) rfl ?_
    refine aw_eqi (y := (nI L)) ((Eq.symm (congrArg (fun z => fI z 36) e_3)).trans hL1) ?_
    refine aw_bipush (v := 20) dX12_readsDread_30 (by decide) ?_
    refine aw_icmp_ne (tgt := 45) dX12_readsDread_32 (by decide) (fun c_9 => ?_) (fun c_9 => ?_)
    · skip
      have nc_9 : ¬ (L = 20) := fun z => c_9 ((nI_eq (a := L) (b := 20) (by omega) (by omega)).mpr z)
      refine aw_aload_n dX12_readsDread_45 rfl ?_
      refine aw_aload_n dX12_readsDread_46 rfl ?_
      refine aw_get dX12_readsDread_47 fl_X12_268 e_3 (by omega) rfl ?_
      refine aw_eqi (y := (nI L)) ((Eq.symm (congrArg (fun z => fI z 36) e_3)).trans hL1) ?_
      refine aw_iconst (v := 1) dX12_readsDread_50 (by decide) ?_
      refine aw_iadd dX12_readsDread_51 ?_
      refine aw_eqi (y := nI (L + 1)) (nI_add _ _) ?_
      refine aw_put dX12_readsDread_52 fp_X12_268 e_3 (by omega) rfl rfl (Nat.le_of_ble_eq_true rfl) rfl ?_
      refine aw_upR hJ0 cm_100 ⟨_, _, _, _, _, _, _, _, _, _, _, _, tad_3, pl0_3, le0_3, nu0_3, coy_3, wag_3, say_3, rfl, by omega, by omega, by omega, by omega, by omega, by omega, by omega⟩ (by decide) (WO (s := 36) (x := .int (nI (L + 1))) e_3 rfl LM0 (by decide) (by decide) (by decide) (Or.inl (by decide))) (fun V_10 j_10 k_10 e_10 => ?_)
      refine aw_aload_n dX12_readsDread_55 rfl ?_
      refine aw_callVi (J' := jX12_readsMeant) (As := []) (st := []) dX12_readsDread_56 tb_1310 ok_X12_readsMeant ⟨_, e_10⟩ (by omega) rfl rfl (r_readsMeantS l D b N V_10 hN cl j_10.1 g ((k_10 _ (by decide)).trans hg) n a ⟨by omega, by omega⟩ (KA (s := 36) (x := .int (nI (L + 1))) e_3 rfl (by decide) e_10 k_10 hE) (KA (s := 36) (x := .int (nI (L + 1))) e_3 rfl (by decide) e_10 k_10 hA)) rfl (Nat.le_of_ble_eq_true rfl) ⟨Nat.le_of_ble_eq_true rfl, Nat.le_of_ble_eq_true rfl, Nat.le_of_ble_eq_true rfl, Nat.le_of_ble_eq_true rfl⟩ (fun r_16 N_17 V_15 q_18 => ?_)
      obtain ⟨⟨z_13, h_12⟩, rfl, q_11⟩ := q_18
      have j_14 := JR.trans j_10 (JR.weak q_11 (Sub.cons (LMs LM0) (by decide) (by decide) (by decide) (Or.inr ⟨by decide, by decide⟩) (Sub.cons (LMs (LMs LM0)) (by decide) (by decide) (by decide) (Or.inr ⟨by decide, by decide⟩) (Sub.cons (LMs (LMs (LMs LM0))) (by decide) (by decide) (by decide) (Or.inr ⟨by decide, by decide⟩) Sub.nil))))
      rcases h_12 with ⟨f_19, hx_20, hk_21, e_22⟩ | ⟨a_23, s_24, hx_25, hk_26, hb_27, e_28⟩
      · skip
        refine aw_eqi (y := 0) e_22 ?_
        refine aw_if_ne (tgt := 64) dX12_readsDread_59 (by decide) (fun c_29 => ?_) (fun c_29 => ?_)
        · exact absurd rfl c_29
        refine aw_iconst (v := 0) dX12_readsDread_62 (by decide) ?_
        refine aw_zreti dX12_readsDread_63 rfl (by first | exact Or.inl rfl | exact Or.inr rfl | assumption) (Nat.le_of_ble_eq_true rfl) (Nat.le_of_ble_eq_true rfl) ?_
        exact ⟨⟨(by first | exact Or.inl rfl | exact Or.inr rfl | assumption), Or.inl ⟨_, tx_bad (stD_42 c_8) (lnD_m hx_20) (by omega), hk_21, rfl⟩⟩, rfl, j_14⟩
      · skip
        refine aw_eqi (y := 1) e_28 ?_
        obtain ⟨hb_27a, hb_27b⟩ := hb_27
        refine aw_if_ne (tgt := 64) dX12_readsDread_59 (by decide) (fun c_30 => ?_) (fun c_30 => ?_)
        rotate_left
        · exact absurd c_30 (by decide)
        refine aw_aload_n dX12_readsDread_64 rfl ?_
        obtain ⟨ftoldPeople_33, ftoldDoors_33, fwasDoors_33, ffault_33, fopen_33, flines_33, fmeantSet_33, fopenedNow_33, fvainNow_33, flowNow_33, fhighNow_33, fisKept_33, tad_33, pl0_33, le0_33, nu0_33, coy_33, wag_33, say_33, e_33, hntad_33, hnpl0_33, hnle0_33, hnnu0_33, hncoy_33, hnwag_33, hnsay_33⟩ := JR.get j_14 cm_100
        refine aw_callVi (J' := jX12_here) (As := []) (st := []) dX12_readsDread_65 tb_1220 ok_X12_here ⟨_, e_33⟩ (by omega) rfl rfl (r_hereS l D b N V_15 hN cl j_14.1 g ((JR.same q_11 (by decide) (by decide) (fun k => (nfc (by omega) (nfc (by omega) (nfc (by omega) nf0))))).trans ((k_10 _ (by decide)).trans hg)) n a_23 ⟨by omega, by omega⟩ ((JR.fI q_11 (by decide) (by decide) (nfc (by omega) (nfc (by omega) (nfc (by omega) nf0)))).trans (KA (s := 36) (x := .int (nI (L + 1))) e_3 rfl (by decide) e_10 k_10 hE)) hk_26) rfl (Nat.le_of_ble_eq_true rfl) ⟨Nat.le_of_ble_eq_true rfl, Nat.le_of_ble_eq_true rfl, Nat.le_of_ble_eq_true rfl, Nat.le_of_ble_eq_true rfl⟩ (fun r_34 N_35 V_36 q_37 => ?_)
        obtain ⟨h_32, rfl, rfl⟩ := q_37
        refine aw_eqi (y := (hd (gb g) n a_23)) h_32 ?_
        refine aw_istore_n (ls' := [some (.ref (b + 100)), some (.int (nI i0)), some (.int (hd (gb g) n a_23)), none, none]) dX12_readsDread_68 (Nat.le_of_ble_eq_true rfl) rfl ?_
        refine aw_iload_n dX12_readsDread_69 rfl ?_
        refine aw_bipush (v := 61) dX12_readsDread_70 (by decide) ?_
        refine aw_icmp_eq (tgt := 97) dX12_readsDread_72 (by decide) (fun c_38 => ?_) (fun c_38 => ?_)
        · skip
          have hlc_38 := hd_lit c_38 (by decide)
          refine aw_aload_n dX12_readsDread_97 rfl ?_
          refine aw_aload_n dX12_readsDread_98 rfl ?_
          refine aw_get dX12_readsDread_99 fl_X12_159 e_33 (by omega) rfl ?_
          refine aw_eqi (y := (nI a_23)) ((Eq.symm (congrArg (fun z => fI z 14) e_33)).trans hk_26) ?_
          refine aw_iconst (v := 1) dX12_readsDread_102 (by decide) ?_
          refine aw_iadd dX12_readsDread_103 ?_
          refine aw_eqi (y := nI (a_23 + 1)) (nI_add _ _) ?_
          refine aw_put dX12_readsDread_104 fp_X12_159 e_33 (by omega) rfl rfl (Nat.le_of_ble_eq_true rfl) rfl ?_
          refine aw_upR j_14 cm_100 ⟨_, _, _, _, _, _, _, _, _, _, _, _, tad_33, (a_23 + 1), le0_33, nu0_33, coy_33, wag_33, say_33, rfl, by omega, by omega, by omega, by omega, by omega, by omega, by omega⟩ (by decide) (WO (s := 14) (x := .int (nI (a_23 + 1))) e_33 rfl (LMs (LMs (LMs LM0))) (by decide) (by decide) (by decide) (Or.inl (by decide))) (fun V_39 j_39 k_39 e_39 => ?_)
          refine aw_aload_n dX12_readsDread_107 rfl ?_
          refine aw_callVi (J' := jX12_readsAmount) (As := []) (st := []) dX12_readsDread_108 tb_1318 ok_X12_readsAmount ⟨_, e_39⟩ (by omega) rfl rfl (r_readsAmountS l D b N V_39 hN cl j_39.1 g ((k_39 _ (by decide)).trans ((JR.same q_11 (by decide) (by decide) (fun k => (nfc (by omega) (nfc (by omega) (nfc (by omega) nf0))))).trans ((k_10 _ (by decide)).trans hg))) n (a_23 + 1) ⟨by omega, by omega⟩ (KA (s := 14) (x := .int (nI (a_23 + 1))) e_33 rfl (by decide) e_39 k_39 ((JR.fI q_11 (by decide) (by decide) (nfc (by omega) (nfc (by omega) (nfc (by omega) nf0)))).trans (KA (s := 36) (x := .int (nI (L + 1))) e_3 rfl (by decide) e_10 k_10 hE))) ((congrArg (fun z => fI z 14) e_39).trans rfl)) rfl (Nat.le_of_ble_eq_true rfl) ⟨Nat.le_of_ble_eq_true rfl, Nat.le_of_ble_eq_true rfl, Nat.le_of_ble_eq_true rfl, Nat.le_of_ble_eq_true rfl⟩ (fun r_45 N_46 V_44 q_47 => ?_)
          obtain ⟨⟨z_42, h_41⟩, rfl, q_40⟩ := q_47
          have j_43 := JR.trans j_39 (JR.weak q_40 (Sub.cons (LMs (LMs (LMs (LMs LM0)))) (by decide) (by decide) (by decide) (Or.inr ⟨by decide, by decide⟩) (Sub.cons (LMs (LMs (LMs LM0))) (by decide) (by decide) (by decide) (Or.inr ⟨by decide, by decide⟩) (Sub.cons (LMs (LMs LM0)) (by decide) (by decide) (by decide) (Or.inr ⟨by decide, by decide⟩) Sub.nil))))
          rcases h_41 with ⟨f_48, hx_49, hk_50, e_51⟩ | ⟨a_52, v_53, hx_54, hk_55, hv_56, hb_57, e_58⟩
          · skip
            refine aw_eqi (y := 0) e_51 ?_
            refine aw_if_ne (tgt := 116) dX12_readsDread_111 (by decide) (fun c_59 => ?_) (fun c_59 => ?_)
            · exact absurd rfl c_59
            refine aw_iconst (v := 0) dX12_readsDread_114 (by decide) ?_
            refine aw_zreti dX12_readsDread_115 rfl (by first | exact Or.inl rfl | exact Or.inr rfl | assumption) (Nat.le_of_ble_eq_true rfl) (Nat.le_of_ble_eq_true rfl) ?_
            exact ⟨⟨(by first | exact Or.inl rfl | exact Or.inr rfl | assumption), Or.inl ⟨_, tx_bad (stD_42 c_8) (lnD_n hx_25 (sgD_t (Or.inl c_38)) hx_49) (by omega), hk_50, rfl⟩⟩, rfl, j_43⟩
          · skip
            refine aw_eqi (y := 1) e_58 ?_
            obtain ⟨hb_57a, hb_57b, hb_57c⟩ := hb_57
            refine aw_if_ne (tgt := 116) dX12_readsDread_111 (by decide) (fun c_60 => ?_) (fun c_60 => ?_)
            rotate_left
            · exact absurd c_60 (by decide)
            refine aw_iconst (v := 0) dX12_readsDread_116 (by decide) ?_
            refine aw_istore_n (ls' := [some (.ref (b + 100)), some (.int (nI i0)), some (.int (hd (gb g) n a_23)), some (.int 0), none]) dX12_readsDread_117 (Nat.le_of_ble_eq_true rfl) rfl ?_
            obtain ⟨ftoldPeople_61, ftoldDoors_61, fwasDoors_61, ffault_61, fopen_61, flines_61, fmeantSet_61, fopenedNow_61, fvainNow_61, flowNow_61, fhighNow_61, fisKept_61, tad_61, pl0_61, le0_61, nu0_61, coy_61, wag_61, say_61, e_61, hntad_61, hnpl0_61, hnle0_61, hnnu0_61, hncoy_61, hnwag_61, hnsay_61⟩ := JR.get j_43 cm_100
            have loop_118_61 : ∀ (g_118 : Nat), ∀ (j118 : Nat)  (V118 : Wd), j118 + g_118 = 16 → (JR D b N cl [(100, 100, 36, 36), (100, 100, 37, 37), (100, 100, 16, 16), (100, 100, 14, 14), (100, 100, 17, 17), (101, 101, 0, 191)] V V118) → (V118 100 = cO 11 [.ref (b + 101), .ref (b + 102), .ref (b + 103), .ref (b + 104), .ref (b + 105), .ref (b + 106), .ref (b + 107), .ref (b + 108), .ref (b + 109), .int ftoldPeople_61, .int ftoldDoors_61, .int fwasDoors_61, .ref (b + 110), .int (nI tad_61), .int (nI pl0_61), .int (nI le0_61), .int ffault_61, .int (nI nu0_61), .int fopen_61, .int (nI coy_61), .int (nI wag_61), .int (nI say_61), .int (nI cl), .ref (b + 111), .ref (b + 112), .ref (b + 113), .ref (b + 114), .ref (b + 115), .ref (b + 116), .ref (b + 117), .ref (b + 118), .ref (b + 119), .ref (b + 120), .ref (b + 121), .ref (b + 122), .ref (b + 123), .int flines_61, .int fmeantSet_61, .int fopenedNow_61, .int fvainNow_61, .ref (b + 124), .ref (b + 125), .ref (b + 126), .ref (b + 127), .ref (b + 128), .int flowNow_61, .int fhighNow_61, .ref (b + 129), .ref (b + 130), .ref (b + 131), .ref (b + 132), .int fisKept_61]) → (V118 110 = cB D 260 g) → (fI (V118 100) 14 = (nI a_52)) → (fI (V118 100) 36 = (nI (L + 1))) → AW l D b jX12_readsDread (fx_rm 3 0 0) none (fx_MQ D b 0 0 (fx_qi (fun r N9 V9 => ((r = 0 ∨ r = 1) ∧ ((∃ f, txD (gb g) n (20 - L) a = .inl f ∧ fI (V9 100) 16 = f ∧ r = 0) ∨ (∃ a9, stD (hd (gb g) n a) = true ∧ L < 20 ∧ lnD (gb g) n a = .inr (a9, ()) ∧ fI (V9 100) 14 = nI a9 ∧ fI (V9 100) 36 = nI (L + 1) ∧ (a < a9 ∧ a9 ≤ n) ∧ r = 1))) ∧ N = N9 ∧ JR D b N cl [(100, 100, 36, 36), (100, 100, 37, 37), (100, 100, 16, 16), (100, 100, 14, 14), (100, 100, 17, 17), (101, 101, 0, 191)] V V9))) 118 [some (.ref (b + 100)), some (.int (nI i0)), some (.int (hd (gb g) n a_23)), some (.int (nI j118)), none] [] N V118 0 0 := by
              intro g_118
              induction g_118 with
              | zero =>
                intro j118  V118 hj118 i118_0 i118_1 i118_2 i118_3 i118_4
                obtain rfl : j118 = 16 := by omega
                refine aw_iload_n dX12_readsDread_118 rfl ?_
                refine aw_bipush (v := 16) dX12_readsDread_119 (by decide) ?_
                refine aw_icmp_ge (tgt := 203) dX12_readsDread_121 (by decide) (fun c_64 => ?_) (fun c_64 => ?_)
                rotate_left
                · exact absurd (nI_le (a := 16) (b := 16) (Nat.le_refl _) (by omega)) c_64
                refine aw_iconst (v := 1) dX12_readsDread_203 (by decide) ?_
                refine aw_zreti dX12_readsDread_204 rfl (by first | exact Or.inl rfl | exact Or.inr rfl | assumption) (Nat.le_of_ble_eq_true rfl) (Nat.le_of_ble_eq_true rfl) ?_
                exact ⟨⟨(by first | exact Or.inl rfl | exact Or.inr rfl | assumption), Or.inr ⟨_, (stD_42 c_8), by omega, lnD_ok hx_25 (sgD_t (Or.inl c_38)) hx_54, i118_3, i118_4, ⟨by omega, by omega⟩, rfl⟩⟩, rfl, i118_0⟩
              | succ g_118 ih_118_62 =>
                intro j118  V118 hj118 i118_0 i118_1 i118_2 i118_3 i118_4
                have hlj118 : j118 < 16 := by omega
                refine aw_iload_n dX12_readsDread_118 rfl ?_
                refine aw_bipush (v := 16) dX12_readsDread_119 (by decide) ?_
                refine aw_icmp_ge (tgt := 203) dX12_readsDread_121 (by decide) (fun c_65 => ?_) (fun c_65 => ?_)
                · exact absurd c_65 (nI_ge (a := j118) (b := 16) (by omega) (by omega))
                refine aw_aload_n dX12_readsDread_124 rfl ?_
                refine aw_get dX12_readsDread_125 fl_X12_262 i118_1 (by omega) rfl ?_
                refine aw_iload_n dX12_readsDread_128 rfl ?_
                refine aw_callSi (J' := jX12_has) (As := [.int fmeantSet_61, .int (nI j118)]) (st := []) dX12_readsDread_129 tb_1315 ok_X12_has rfl (r_hasS l D b N V118 hN cl i118_0.1 fmeantSet_61 (nI j118)) rfl (Nat.le_of_ble_eq_true rfl) ⟨Nat.le_of_ble_eq_true rfl, Nat.le_of_ble_eq_true rfl, Nat.le_of_ble_eq_true rfl, Nat.le_of_ble_eq_true rfl⟩ (fun r_69 N_70 V_71 q_72 => ?_)
                obtain ⟨⟨z_68, h_67⟩, rfl, rfl⟩ := q_72
                rcases h_67 with ⟨hy_73, e_74⟩ | ⟨hn_75, e_76⟩
                · skip
                  refine aw_eqi (y := 1) e_74 ?_
                  refine aw_if_ne (tgt := 138) dX12_readsDread_132 (by decide) (fun c_77 => ?_) (fun c_77 => ?_)
                  rotate_left
                  · exact absurd c_77 (by decide)
                  refine aw_iconst (v := 0) dX12_readsDread_138 (by decide) ?_
                  refine aw_bipush (v := 16) dX12_readsDread_139 (by decide) ?_
                  refine aw_iload_n dX12_readsDread_141 rfl ?_
                  refine aw_imul dX12_readsDread_142 ?_
                  refine aw_eqi (y := nI (16 * i0)) (pk_mul _ _) ?_
                  refine aw_iadd dX12_readsDread_143 ?_
                  refine aw_eqi (y := nI (0 + (16 * i0))) (nI_add _ _) ?_
                  refine aw_iload_n dX12_readsDread_144 rfl ?_
                  refine aw_iadd dX12_readsDread_145 ?_
                  refine aw_eqi (y := nI ((0 + (16 * i0)) + j118)) (nI_add _ _) ?_
                  refine aw_istore (ls' := [some (.ref (b + 100)), some (.int (nI i0)), some (.int (hd (gb g) n a_23)), some (.int (nI j118)), some (.int (nI ((0 + (16 * i0)) + j118)))]) dX12_readsDread_146 (Nat.le_of_ble_eq_true rfl) rfl ?_
                  refine aw_aload_n dX12_readsDread_148 rfl ?_
                  refine aw_get dX12_readsDread_149 fl_X12_7 i118_1 (by omega) rfl ?_
                  refine aw_iload dX12_readsDread_152 rfl ?_
                  refine aw_iload_n dX12_readsDread_154 rfl ?_
                  refine aw_bipush (v := 61) dX12_readsDread_155 (by decide) ?_
                  refine aw_icmp_ne (tgt := 167) dX12_readsDread_157 (by decide) (fun c_78 => ?_) (fun c_78 => ?_)
                  · first | exact absurd c_78 c_38 | exact absurd c_38 c_78 | exact absurd c_78 (Int32.not_lt.mpr c_38) | exact absurd c_38 (Int32.not_lt.mpr c_78) | exact c_38 (Int32.not_lt.mp c_78) | exact c_38 (Int32.not_le.mp c_78)
                  refine aw_aload_n dX12_readsDread_160 rfl ?_
                  refine aw_get dX12_readsDread_161 fl_X12_175 i118_1 (by omega) rfl ?_
                  refine aw_goto (tgt := 196) dX12_readsDread_164 (by decide) ?_
                  obtain ⟨g_79, e_79⟩ := JR.get i118_0 cm_101
                  refine aw_iast dX12_readsDread_196 e_79 (by omega) (vp_in_nI (n := ((0 + (16 * i0)) + j118)) (by omega) (by omega)) ?_
                  refine aw_upR i118_0 cm_101 ⟨_, rfl⟩ (by decide) (WE e_79 (LMs (LMs (LMs (LMs (LMs LM0))))) (by decide) (by decide) (by rw [nI_clamp (n := ((0 + (16 * i0)) + j118)) (by omega)]; omega) (by rw [nI_clamp (n := ((0 + (16 * i0)) + j118)) (by omega)]; omega)) (fun V_80 j_80 k_80 e_80 => ?_)
                  refine aw_iinc (v := (nI (j118 + 1))) (ls' := [some (.ref (b + 100)), some (.int (nI i0)), some (.int (hd (gb g) n a_23)), some (.int (nI (j118 + 1))), some (.int (nI ((0 + (16 * i0)) + j118)))]) dX12_readsDread_197 rfl (fx_up_1 _) (Nat.le_of_ble_eq_true rfl) rfl ?_
                  refine aw_goto (tgt := 118) dX12_readsDread_200 (by decide) ?_
                  refine aw_le ?_ (ih_118_62 (j118 + 1)  V_80 (by omega) (j_80) (((k_80 _ (by decide)).trans i118_1)) (((k_80 _ (by decide)).trans i118_2)) (((congrArg (fun z => fI z 14) (k_80 _ (by omega))).trans i118_3)) (((congrArg (fun z => fI z 36) (k_80 _ (by omega))).trans i118_4)))
                  exact ⟨rfl, ⟨rfl, ⟨rfl, ⟨rfl, trivial⟩⟩⟩⟩
                · skip
                  refine aw_eqi (y := 0) e_76 ?_
                  refine aw_if_ne (tgt := 138) dX12_readsDread_132 (by decide) (fun c_81 => ?_) (fun c_81 => ?_)
                  · exact absurd rfl c_81
                  refine aw_goto (tgt := 197) dX12_readsDread_135 (by decide) ?_
                  refine aw_iinc (v := (nI (j118 + 1))) (ls' := [some (.ref (b + 100)), some (.int (nI i0)), some (.int (hd (gb g) n a_23)), some (.int (nI (j118 + 1))), none]) dX12_readsDread_197 rfl (fx_up_1 _) (Nat.le_of_ble_eq_true rfl) rfl ?_
                  refine aw_goto (tgt := 118) dX12_readsDread_200 (by decide) ?_
                  refine aw_le ?_ (ih_118_62 (j118 + 1)  V118 (by omega) (i118_0) (i118_1) (i118_2) (i118_3) (i118_4))
                  exact ⟨rfl, ⟨rfl, ⟨rfl, ⟨rfl, trivial⟩⟩⟩⟩
            refine aw_le ?_ (loop_118_61 16 0  V_44 (by omega) (j_43) (e_61) (((JR.same q_40 (by decide) (by decide) (fun k => (nfc (by omega) (nfc (by omega) (nfc (by omega) nf0))))).trans ((k_39 _ (by decide)).trans ((JR.same q_11 (by decide) (by decide) (fun k => (nfc (by omega) (nfc (by omega) (nfc (by omega) nf0))))).trans ((k_10 _ (by decide)).trans hg))))) (hk_55) (((JR.fI q_40 (by decide) (by decide) (nfc (by omega) (nfc (by omega) (nfc (by omega) nf0)))).trans (KA (s := 14) (x := .int (nI (a_23 + 1))) e_33 rfl (by decide) e_39 k_39 ((JR.fI q_11 (by decide) (by decide) (nfc (by omega) (nfc (by omega) (nfc (by omega) nf0)))).trans ((congrArg (fun z => fI z 36) e_10).trans rfl))))))
            exact ⟨rfl, ⟨rfl, ⟨rfl, ⟨rfl, trivial⟩⟩⟩⟩
        · skip
          refine aw_iload_n dX12_readsDread_75 rfl ?_
          refine aw_bipush (v := 43) dX12_readsDread_76 (by decide) ?_
          refine aw_icmp_eq (tgt := 97) dX12_readsDread_78 (by decide) (fun c_82 => ?_) (fun c_82 => ?_)
          · skip
            have hlc_82 := hd_lit c_82 (by decide)
            refine aw_aload_n dX12_readsDread_97 rfl ?_
            refine aw_aload_n dX12_readsDread_98 rfl ?_
            refine aw_get dX12_readsDread_99 fl_X12_159 e_33 (by omega) rfl ?_
            refine aw_eqi (y := (nI a_23)) ((Eq.symm (congrArg (fun z => fI z 14) e_33)).trans hk_26) ?_
            refine aw_iconst (v := 1) dX12_readsDread_102 (by decide) ?_
            refine aw_iadd dX12_readsDread_103 ?_
            refine aw_eqi (y := nI (a_23 + 1)) (nI_add _ _) ?_
            refine aw_put dX12_readsDread_104 fp_X12_159 e_33 (by omega) rfl rfl (Nat.le_of_ble_eq_true rfl) rfl ?_
            refine aw_upR j_14 cm_100 ⟨_, _, _, _, _, _, _, _, _, _, _, _, tad_33, (a_23 + 1), le0_33, nu0_33, coy_33, wag_33, say_33, rfl, by omega, by omega, by omega, by omega, by omega, by omega, by omega⟩ (by decide) (WO (s := 14) (x := .int (nI (a_23 + 1))) e_33 rfl (LMs (LMs (LMs LM0))) (by decide) (by decide) (by decide) (Or.inl (by decide))) (fun V_83 j_83 k_83 e_83 => ?_)
            refine aw_aload_n dX12_readsDread_107 rfl ?_
            refine aw_callVi (J' := jX12_readsAmount) (As := []) (st := []) dX12_readsDread_108 tb_1318 ok_X12_readsAmount ⟨_, e_83⟩ (by omega) rfl rfl (r_readsAmountS l D b N V_83 hN cl j_83.1 g ((k_83 _ (by decide)).trans ((JR.same q_11 (by decide) (by decide) (fun k => (nfc (by omega) (nfc (by omega) (nfc (by omega) nf0))))).trans ((k_10 _ (by decide)).trans hg))) n (a_23 + 1) ⟨by omega, by omega⟩ (KA (s := 14) (x := .int (nI (a_23 + 1))) e_33 rfl (by decide) e_83 k_83 ((JR.fI q_11 (by decide) (by decide) (nfc (by omega) (nfc (by omega) (nfc (by omega) nf0)))).trans (KA (s := 36) (x := .int (nI (L + 1))) e_3 rfl (by decide) e_10 k_10 hE))) ((congrArg (fun z => fI z 14) e_83).trans rfl)) rfl (Nat.le_of_ble_eq_true rfl) ⟨Nat.le_of_ble_eq_true rfl, Nat.le_of_ble_eq_true rfl, Nat.le_of_ble_eq_true rfl, Nat.le_of_ble_eq_true rfl⟩ (fun r_89 N_90 V_88 q_91 => ?_)
            obtain ⟨⟨z_86, h_85⟩, rfl, q_84⟩ := q_91
            have j_87 := JR.trans j_83 (JR.weak q_84 (Sub.cons (LMs (LMs (LMs (LMs LM0)))) (by decide) (by decide) (by decide) (Or.inr ⟨by decide, by decide⟩) (Sub.cons (LMs (LMs (LMs LM0))) (by decide) (by decide) (by decide) (Or.inr ⟨by decide, by decide⟩) (Sub.cons (LMs (LMs LM0)) (by decide) (by decide) (by decide) (Or.inr ⟨by decide, by decide⟩) Sub.nil))))
            rcases h_85 with ⟨f_92, hx_93, hk_94, e_95⟩ | ⟨a_96, v_97, hx_98, hk_99, hv_100, hb_101, e_102⟩
            · skip
              refine aw_eqi (y := 0) e_95 ?_
              refine aw_if_ne (tgt := 116) dX12_readsDread_111 (by decide) (fun c_103 => ?_) (fun c_103 => ?_)
              · exact absurd rfl c_103
              refine aw_iconst (v := 0) dX12_readsDread_114 (by decide) ?_
              refine aw_zreti dX12_readsDread_115 rfl (by first | exact Or.inl rfl | exact Or.inr rfl | assumption) (Nat.le_of_ble_eq_true rfl) (Nat.le_of_ble_eq_true rfl) ?_
              exact ⟨⟨(by first | exact Or.inl rfl | exact Or.inr rfl | assumption), Or.inl ⟨_, tx_bad (stD_42 c_8) (lnD_n hx_25 (sgD_t (Or.inr (Or.inl c_82))) hx_93) (by omega), hk_94, rfl⟩⟩, rfl, j_87⟩
            · skip
              refine aw_eqi (y := 1) e_102 ?_
              obtain ⟨hb_101a, hb_101b, hb_101c⟩ := hb_101
              refine aw_if_ne (tgt := 116) dX12_readsDread_111 (by decide) (fun c_104 => ?_) (fun c_104 => ?_)
              rotate_left
              · exact absurd c_104 (by decide)
              refine aw_iconst (v := 0) dX12_readsDread_116 (by decide) ?_
              refine aw_istore_n (ls' := [some (.ref (b + 100)), some (.int (nI i0)), some (.int (hd (gb g) n a_23)), some (.int 0), none]) dX12_readsDread_117 (Nat.le_of_ble_eq_true rfl) rfl ?_
              obtain ⟨ftoldPeople_105, ftoldDoors_105, fwasDoors_105, ffault_105, fopen_105, flines_105, fmeantSet_105, fopenedNow_105, fvainNow_105, flowNow_105, fhighNow_105, fisKept_105, tad_105, pl0_105, le0_105, nu0_105, coy_105, wag_105, say_105, e_105, hntad_105, hnpl0_105, hnle0_105, hnnu0_105, hncoy_105, hnwag_105, hnsay_105⟩ := JR.get j_87 cm_100
              have loop_118_105 : ∀ (g_118 : Nat), ∀ (j118 : Nat)  (V118 : Wd), j118 + g_118 = 16 → (JR D b N cl [(100, 100, 36, 36), (100, 100, 37, 37), (100, 100, 16, 16), (100, 100, 14, 14), (100, 100, 17, 17), (101, 101, 0, 191)] V V118) → (V118 100 = cO 11 [.ref (b + 101), .ref (b + 102), .ref (b + 103), .ref (b + 104), .ref (b + 105), .ref (b + 106), .ref (b + 107), .ref (b + 108), .ref (b + 109), .int ftoldPeople_105, .int ftoldDoors_105, .int fwasDoors_105, .ref (b + 110), .int (nI tad_105), .int (nI pl0_105), .int (nI le0_105), .int ffault_105, .int (nI nu0_105), .int fopen_105, .int (nI coy_105), .int (nI wag_105), .int (nI say_105), .int (nI cl), .ref (b + 111), .ref (b + 112), .ref (b + 113), .ref (b + 114), .ref (b + 115), .ref (b + 116), .ref (b + 117), .ref (b + 118), .ref (b + 119), .ref (b + 120), .ref (b + 121), .ref (b + 122), .ref (b + 123), .int flines_105, .int fmeantSet_105, .int fopenedNow_105, .int fvainNow_105, .ref (b + 124), .ref (b + 125), .ref (b + 126), .ref (b + 127), .ref (b + 128), .int flowNow_105, .int fhighNow_105, .ref (b + 129), .ref (b + 130), .ref (b + 131), .ref (b + 132), .int fisKept_105]) → (V118 110 = cB D 260 g) → (fI (V118 100) 14 = (nI a_96)) → (fI (V118 100) 36 = (nI (L + 1))) → AW l D b jX12_readsDread (fx_rm 3 0 0) none (fx_MQ D b 0 0 (fx_qi (fun r N9 V9 => ((r = 0 ∨ r = 1) ∧ ((∃ f, txD (gb g) n (20 - L) a = .inl f ∧ fI (V9 100) 16 = f ∧ r = 0) ∨ (∃ a9, stD (hd (gb g) n a) = true ∧ L < 20 ∧ lnD (gb g) n a = .inr (a9, ()) ∧ fI (V9 100) 14 = nI a9 ∧ fI (V9 100) 36 = nI (L + 1) ∧ (a < a9 ∧ a9 ≤ n) ∧ r = 1))) ∧ N = N9 ∧ JR D b N cl [(100, 100, 36, 36), (100, 100, 37, 37), (100, 100, 16, 16), (100, 100, 14, 14), (100, 100, 17, 17), (101, 101, 0, 191)] V V9))) 118 [some (.ref (b + 100)), some (.int (nI i0)), some (.int (hd (gb g) n a_23)), some (.int (nI j118)), none] [] N V118 0 0 := by
                intro g_118
                induction g_118 with
                | zero =>
                  intro j118  V118 hj118 i118_0 i118_1 i118_2 i118_3 i118_4
                  obtain rfl : j118 = 16 := by omega
                  refine aw_iload_n dX12_readsDread_118 rfl ?_
                  refine aw_bipush (v := 16) dX12_readsDread_119 (by decide) ?_
                  refine aw_icmp_ge (tgt := 203) dX12_readsDread_121 (by decide) (fun c_108 => ?_) (fun c_108 => ?_)
                  rotate_left
                  · exact absurd (nI_le (a := 16) (b := 16) (Nat.le_refl _) (by omega)) c_108
                  refine aw_iconst (v := 1) dX12_readsDread_203 (by decide) ?_
                  refine aw_zreti dX12_readsDread_204 rfl (by first | exact Or.inl rfl | exact Or.inr rfl | assumption) (Nat.le_of_ble_eq_true rfl) (Nat.le_of_ble_eq_true rfl) ?_
                  exact ⟨⟨(by first | exact Or.inl rfl | exact Or.inr rfl | assumption), Or.inr ⟨_, (stD_42 c_8), by omega, lnD_ok hx_25 (sgD_t (Or.inr (Or.inl c_82))) hx_98, i118_3, i118_4, ⟨by omega, by omega⟩, rfl⟩⟩, rfl, i118_0⟩
                | succ g_118 ih_118_106 =>
                  intro j118  V118 hj118 i118_0 i118_1 i118_2 i118_3 i118_4
                  have hlj118 : j118 < 16 := by omega
                  refine aw_iload_n dX12_readsDread_118 rfl ?_
                  refine aw_bipush (v := 16) dX12_readsDread_119 (by decide) ?_
                  refine aw_icmp_ge (tgt := 203) dX12_readsDread_121 (by decide) (fun c_109 => ?_) (fun c_109 => ?_)
                  · exact absurd c_109 (nI_ge (a := j118) (b := 16) (by omega) (by omega))
                  refine aw_aload_n dX12_readsDread_124 rfl ?_
                  refine aw_get dX12_readsDread_125 fl_X12_262 i118_1 (by omega) rfl ?_
                  refine aw_iload_n dX12_readsDread_128 rfl ?_
                  refine aw_callSi (J' := jX12_has) (As := [.int fmeantSet_105, .int (nI j118)]) (st := []) dX12_readsDread_129 tb_1315 ok_X12_has rfl (r_hasS l D b N V118 hN cl i118_0.1 fmeantSet_105 (nI j118)) rfl (Nat.le_of_ble_eq_true rfl) ⟨Nat.le_of_ble_eq_true rfl, Nat.le_of_ble_eq_true rfl, Nat.le_of_ble_eq_true rfl, Nat.le_of_ble_eq_true rfl⟩ (fun r_113 N_114 V_115 q_116 => ?_)
                  obtain ⟨⟨z_112, h_111⟩, rfl, rfl⟩ := q_116
                  rcases h_111 with ⟨hy_117, e_118⟩ | ⟨hn_119, e_120⟩
                  · skip
                    refine aw_eqi (y := 1) e_118 ?_
                    refine aw_if_ne (tgt := 138) dX12_readsDread_132 (by decide) (fun c_121 => ?_) (fun c_121 => ?_)
                    rotate_left
                    · exact absurd c_121 (by decide)
                    refine aw_iconst (v := 0) dX12_readsDread_138 (by decide) ?_
                    refine aw_bipush (v := 16) dX12_readsDread_139 (by decide) ?_
                    refine aw_iload_n dX12_readsDread_141 rfl ?_
                    refine aw_imul dX12_readsDread_142 ?_
                    refine aw_eqi (y := nI (16 * i0)) (pk_mul _ _) ?_
                    refine aw_iadd dX12_readsDread_143 ?_
                    refine aw_eqi (y := nI (0 + (16 * i0))) (nI_add _ _) ?_
                    refine aw_iload_n dX12_readsDread_144 rfl ?_
                    refine aw_iadd dX12_readsDread_145 ?_
                    refine aw_eqi (y := nI ((0 + (16 * i0)) + j118)) (nI_add _ _) ?_
                    refine aw_istore (ls' := [some (.ref (b + 100)), some (.int (nI i0)), some (.int (hd (gb g) n a_23)), some (.int (nI j118)), some (.int (nI ((0 + (16 * i0)) + j118)))]) dX12_readsDread_146 (Nat.le_of_ble_eq_true rfl) rfl ?_
                    refine aw_aload_n dX12_readsDread_148 rfl ?_
                    refine aw_get dX12_readsDread_149 fl_X12_7 i118_1 (by omega) rfl ?_
                    refine aw_iload dX12_readsDread_152 rfl ?_
                    refine aw_iload_n dX12_readsDread_154 rfl ?_
                    refine aw_bipush (v := 61) dX12_readsDread_155 (by decide) ?_
                    refine aw_icmp_ne (tgt := 167) dX12_readsDread_157 (by decide) (fun c_122 => ?_) (fun c_122 => ?_)
                    rotate_left
                    · first | exact absurd c_38 c_122 | exact absurd c_122 c_38
                    refine aw_aload_n dX12_readsDread_167 rfl ?_
                    refine aw_get dX12_readsDread_168 fl_X12_7 i118_1 (by omega) rfl ?_
                    refine aw_iload dX12_readsDread_171 rfl ?_
                    obtain ⟨g_123, e_123⟩ := JR.get i118_0 cm_101
                    refine aw_iald (v := (g_123 ((0 + (16 * i0)) + j118))) dX12_readsDread_173 e_123 (by omega) (vp_in_nI (n := ((0 + (16 * i0)) + j118)) (by omega) (by omega)) (congrArg g_123 (nI_clamp (n := ((0 + (16 * i0)) + j118)) (by omega))) ?_
                    refine aw_iload_n dX12_readsDread_174 rfl ?_
                    refine aw_bipush (v := 43) dX12_readsDread_175 (by decide) ?_
                    refine aw_icmp_ne (tgt := 187) dX12_readsDread_177 (by decide) (fun c_124 => ?_) (fun c_124 => ?_)
                    · first | exact absurd c_124 c_82 | exact absurd c_82 c_124 | exact absurd c_124 (Int32.not_lt.mpr c_82) | exact absurd c_82 (Int32.not_lt.mpr c_124) | exact c_82 (Int32.not_lt.mp c_124) | exact c_82 (Int32.not_le.mp c_124)
                    refine aw_aload_n dX12_readsDread_180 rfl ?_
                    refine aw_get dX12_readsDread_181 fl_X12_175 i118_1 (by omega) rfl ?_
                    refine aw_goto (tgt := 192) dX12_readsDread_184 (by decide) ?_
                    refine aw_iadd dX12_readsDread_192 ?_
                    refine aw_callSi (J' := jX12_limit) (As := [.int ((g_123 ((0 + (16 * i0)) + j118)) + (nI nu0_105))]) (st := [.int (nI ((0 + (16 * i0)) + j118)), .ref (b + 101)]) dX12_readsDread_193 tb_1322 ok_X12_limit rfl (r_limit l D b N V118 hN cl i118_0.1 ((g_123 ((0 + (16 * i0)) + j118)) + (nI nu0_105))) rfl (Nat.le_of_ble_eq_true rfl) ⟨Nat.le_of_ble_eq_true rfl, Nat.le_of_ble_eq_true rfl, Nat.le_of_ble_eq_true rfl, Nat.le_of_ble_eq_true rfl⟩ (fun r_126 N_127 V_128 q_129 => ?_)
                    obtain ⟨rfl, rfl⟩ := q_129
                    refine aw_iast dX12_readsDread_196 e_123 (by omega) (vp_in_nI (n := ((0 + (16 * i0)) + j118)) (by omega) (by omega)) ?_
                    refine aw_upR i118_0 cm_101 ⟨_, rfl⟩ (by decide) (WE e_123 (LMs (LMs (LMs (LMs (LMs LM0))))) (by decide) (by decide) (by rw [nI_clamp (n := ((0 + (16 * i0)) + j118)) (by omega)]; omega) (by rw [nI_clamp (n := ((0 + (16 * i0)) + j118)) (by omega)]; omega)) (fun V_130 j_130 k_130 e_130 => ?_)
                    refine aw_iinc (v := (nI (j118 + 1))) (ls' := [some (.ref (b + 100)), some (.int (nI i0)), some (.int (hd (gb g) n a_23)), some (.int (nI (j118 + 1))), some (.int (nI ((0 + (16 * i0)) + j118)))]) dX12_readsDread_197 rfl (fx_up_1 _) (Nat.le_of_ble_eq_true rfl) rfl ?_
                    refine aw_goto (tgt := 118) dX12_readsDread_200 (by decide) ?_
                    refine aw_le ?_ (ih_118_106 (j118 + 1)  V_130 (by omega) (j_130) (((k_130 _ (by decide)).trans i118_1)) (((k_130 _ (by decide)).trans i118_2)) (((congrArg (fun z => fI z 14) (k_130 _ (by omega))).trans i118_3)) (((congrArg (fun z => fI z 36) (k_130 _ (by omega))).trans i118_4)))
                    exact ⟨rfl, ⟨rfl, ⟨rfl, ⟨rfl, trivial⟩⟩⟩⟩
                  · skip
                    refine aw_eqi (y := 0) e_120 ?_
                    refine aw_if_ne (tgt := 138) dX12_readsDread_132 (by decide) (fun c_131 => ?_) (fun c_131 => ?_)
                    · exact absurd rfl c_131
                    refine aw_goto (tgt := 197) dX12_readsDread_135 (by decide) ?_
                    refine aw_iinc (v := (nI (j118 + 1))) (ls' := [some (.ref (b + 100)), some (.int (nI i0)), some (.int (hd (gb g) n a_23)), some (.int (nI (j118 + 1))), none]) dX12_readsDread_197 rfl (fx_up_1 _) (Nat.le_of_ble_eq_true rfl) rfl ?_
                    refine aw_goto (tgt := 118) dX12_readsDread_200 (by decide) ?_
                    refine aw_le ?_ (ih_118_106 (j118 + 1)  V118 (by omega) (i118_0) (i118_1) (i118_2) (i118_3) (i118_4))
                    exact ⟨rfl, ⟨rfl, ⟨rfl, ⟨rfl, trivial⟩⟩⟩⟩
              refine aw_le ?_ (loop_118_105 16 0  V_88 (by omega) (j_87) (e_105) (((JR.same q_84 (by decide) (by decide) (fun k => (nfc (by omega) (nfc (by omega) (nfc (by omega) nf0))))).trans ((k_83 _ (by decide)).trans ((JR.same q_11 (by decide) (by decide) (fun k => (nfc (by omega) (nfc (by omega) (nfc (by omega) nf0))))).trans ((k_10 _ (by decide)).trans hg))))) (hk_99) (((JR.fI q_84 (by decide) (by decide) (nfc (by omega) (nfc (by omega) (nfc (by omega) nf0)))).trans (KA (s := 14) (x := .int (nI (a_23 + 1))) e_33 rfl (by decide) e_83 k_83 ((JR.fI q_11 (by decide) (by decide) (nfc (by omega) (nfc (by omega) (nfc (by omega) nf0)))).trans ((congrArg (fun z => fI z 36) e_10).trans rfl))))))
              exact ⟨rfl, ⟨rfl, ⟨rfl, ⟨rfl, trivial⟩⟩⟩⟩
          · skip
            refine aw_iload_n dX12_readsDread_81 rfl ?_
            refine aw_bipush (v := 45) dX12_readsDread_82 (by decide) ?_
            refine aw_icmp_eq (tgt := 97) dX12_readsDread_84 (by decide) (fun c_132 => ?_) (fun c_132 => ?_)
            · skip
              have hlc_132 := hd_lit c_132 (by decide)
              refine aw_aload_n dX12_readsDread_97 rfl ?_
              refine aw_aload_n dX12_readsDread_98 rfl ?_
              refine aw_get dX12_readsDread_99 fl_X12_159 e_33 (by omega) rfl ?_
              refine aw_eqi (y := (nI a_23)) ((Eq.symm (congrArg (fun z => fI z 14) e_33)).trans hk_26) ?_
              refine aw_iconst (v := 1) dX12_readsDread_102 (by decide) ?_
              refine aw_iadd dX12_readsDread_103 ?_
              refine aw_eqi (y := nI (a_23 + 1)) (nI_add _ _) ?_
              refine aw_put dX12_readsDread_104 fp_X12_159 e_33 (by omega) rfl rfl (Nat.le_of_ble_eq_true rfl) rfl ?_
              refine aw_upR j_14 cm_100 ⟨_, _, _, _, _, _, _, _, _, _, _, _, tad_33, (a_23 + 1), le0_33, nu0_33, coy_33, wag_33, say_33, rfl, by omega, by omega, by omega, by omega, by omega, by omega, by omega⟩ (by decide) (WO (s := 14) (x := .int (nI (a_23 + 1))) e_33 rfl (LMs (LMs (LMs LM0))) (by decide) (by decide) (by decide) (Or.inl (by decide))) (fun V_133 j_133 k_133 e_133 => ?_)
              refine aw_aload_n dX12_readsDread_107 rfl ?_
              refine aw_callVi (J' := jX12_readsAmount) (As := []) (st := []) dX12_readsDread_108 tb_1318 ok_X12_readsAmount ⟨_, e_133⟩ (by omega) rfl rfl (r_readsAmountS l D b N V_133 hN cl j_133.1 g ((k_133 _ (by decide)).trans ((JR.same q_11 (by decide) (by decide) (fun k => (nfc (by omega) (nfc (by omega) (nfc (by omega) nf0))))).trans ((k_10 _ (by decide)).trans hg))) n (a_23 + 1) ⟨by omega, by omega⟩ (KA (s := 14) (x := .int (nI (a_23 + 1))) e_33 rfl (by decide) e_133 k_133 ((JR.fI q_11 (by decide) (by decide) (nfc (by omega) (nfc (by omega) (nfc (by omega) nf0)))).trans (KA (s := 36) (x := .int (nI (L + 1))) e_3 rfl (by decide) e_10 k_10 hE))) ((congrArg (fun z => fI z 14) e_133).trans rfl)) rfl (Nat.le_of_ble_eq_true rfl) ⟨Nat.le_of_ble_eq_true rfl, Nat.le_of_ble_eq_true rfl, Nat.le_of_ble_eq_true rfl, Nat.le_of_ble_eq_true rfl⟩ (fun r_139 N_140 V_138 q_141 => ?_)
              obtain ⟨⟨z_136, h_135⟩, rfl, q_134⟩ := q_141
              have j_137 := JR.trans j_133 (JR.weak q_134 (Sub.cons (LMs (LMs (LMs (LMs LM0)))) (by decide) (by decide) (by decide) (Or.inr ⟨by decide, by decide⟩) (Sub.cons (LMs (LMs (LMs LM0))) (by decide) (by decide) (by decide) (Or.inr ⟨by decide, by decide⟩) (Sub.cons (LMs (LMs LM0)) (by decide) (by decide) (by decide) (Or.inr ⟨by decide, by decide⟩) Sub.nil))))
              rcases h_135 with ⟨f_142, hx_143, hk_144, e_145⟩ | ⟨a_146, v_147, hx_148, hk_149, hv_150, hb_151, e_152⟩
              · skip
                refine aw_eqi (y := 0) e_145 ?_
                refine aw_if_ne (tgt := 116) dX12_readsDread_111 (by decide) (fun c_153 => ?_) (fun c_153 => ?_)
                · exact absurd rfl c_153
                refine aw_iconst (v := 0) dX12_readsDread_114 (by decide) ?_
                refine aw_zreti dX12_readsDread_115 rfl (by first | exact Or.inl rfl | exact Or.inr rfl | assumption) (Nat.le_of_ble_eq_true rfl) (Nat.le_of_ble_eq_true rfl) ?_
                exact ⟨⟨(by first | exact Or.inl rfl | exact Or.inr rfl | assumption), Or.inl ⟨_, tx_bad (stD_42 c_8) (lnD_n hx_25 (sgD_t (Or.inr (Or.inr c_132))) hx_143) (by omega), hk_144, rfl⟩⟩, rfl, j_137⟩
              · skip
                refine aw_eqi (y := 1) e_152 ?_
                obtain ⟨hb_151a, hb_151b, hb_151c⟩ := hb_151
                refine aw_if_ne (tgt := 116) dX12_readsDread_111 (by decide) (fun c_154 => ?_) (fun c_154 => ?_)
                rotate_left
                · exact absurd c_154 (by decide)
                refine aw_iconst (v := 0) dX12_readsDread_116 (by decide) ?_
                refine aw_istore_n (ls' := [some (.ref (b + 100)), some (.int (nI i0)), some (.int (hd (gb g) n a_23)), some (.int 0), none]) dX12_readsDread_117 (Nat.le_of_ble_eq_true rfl) rfl ?_
                obtain ⟨ftoldPeople_155, ftoldDoors_155, fwasDoors_155, ffault_155, fopen_155, flines_155, fmeantSet_155, fopenedNow_155, fvainNow_155, flowNow_155, fhighNow_155, fisKept_155, tad_155, pl0_155, le0_155, nu0_155, coy_155, wag_155, say_155, e_155, hntad_155, hnpl0_155, hnle0_155, hnnu0_155, hncoy_155, hnwag_155, hnsay_155⟩ := JR.get j_137 cm_100
                have loop_118_155 : ∀ (g_118 : Nat), ∀ (j118 : Nat)  (V118 : Wd), j118 + g_118 = 16 → (JR D b N cl [(100, 100, 36, 36), (100, 100, 37, 37), (100, 100, 16, 16), (100, 100, 14, 14), (100, 100, 17, 17), (101, 101, 0, 191)] V V118) → (V118 100 = cO 11 [.ref (b + 101), .ref (b + 102), .ref (b + 103), .ref (b + 104), .ref (b + 105), .ref (b + 106), .ref (b + 107), .ref (b + 108), .ref (b + 109), .int ftoldPeople_155, .int ftoldDoors_155, .int fwasDoors_155, .ref (b + 110), .int (nI tad_155), .int (nI pl0_155), .int (nI le0_155), .int ffault_155, .int (nI nu0_155), .int fopen_155, .int (nI coy_155), .int (nI wag_155), .int (nI say_155), .int (nI cl), .ref (b + 111), .ref (b + 112), .ref (b + 113), .ref (b + 114), .ref (b + 115), .ref (b + 116), .ref (b + 117), .ref (b + 118), .ref (b + 119), .ref (b + 120), .ref (b + 121), .ref (b + 122), .ref (b + 123), .int flines_155, .int fmeantSet_155, .int fopenedNow_155, .int fvainNow_155, .ref (b + 124), .ref (b + 125), .ref (b + 126), .ref (b + 127), .ref (b + 128), .int flowNow_155, .int fhighNow_155, .ref (b + 129), .ref (b + 130), .ref (b + 131), .ref (b + 132), .int fisKept_155]) → (V118 110 = cB D 260 g) → (fI (V118 100) 14 = (nI a_146)) → (fI (V118 100) 36 = (nI (L + 1))) → AW l D b jX12_readsDread (fx_rm 3 0 0) none (fx_MQ D b 0 0 (fx_qi (fun r N9 V9 => ((r = 0 ∨ r = 1) ∧ ((∃ f, txD (gb g) n (20 - L) a = .inl f ∧ fI (V9 100) 16 = f ∧ r = 0) ∨ (∃ a9, stD (hd (gb g) n a) = true ∧ L < 20 ∧ lnD (gb g) n a = .inr (a9, ()) ∧ fI (V9 100) 14 = nI a9 ∧ fI (V9 100) 36 = nI (L + 1) ∧ (a < a9 ∧ a9 ≤ n) ∧ r = 1))) ∧ N = N9 ∧ JR D b N cl [(100, 100, 36, 36), (100, 100, 37, 37), (100, 100, 16, 16), (100, 100, 14, 14), (100, 100, 17, 17), (101, 101, 0, 191)] V V9))) 118 [some (.ref (b + 100)), some (.int (nI i0)), some (.int (hd (gb g) n a_23)), some (.int (nI j118)), none] [] N V118 0 0 := by
                  intro g_118
                  induction g_118 with
                  | zero =>
                    intro j118  V118 hj118 i118_0 i118_1 i118_2 i118_3 i118_4
                    obtain rfl : j118 = 16 := by omega
                    refine aw_iload_n dX12_readsDread_118 rfl ?_
                    refine aw_bipush (v := 16) dX12_readsDread_119 (by decide) ?_
                    refine aw_icmp_ge (tgt := 203) dX12_readsDread_121 (by decide) (fun c_158 => ?_) (fun c_158 => ?_)
                    rotate_left
                    · exact absurd (nI_le (a := 16) (b := 16) (Nat.le_refl _) (by omega)) c_158
                    refine aw_iconst (v := 1) dX12_readsDread_203 (by decide) ?_
                    refine aw_zreti dX12_readsDread_204 rfl (by first | exact Or.inl rfl | exact Or.inr rfl | assumption) (Nat.le_of_ble_eq_true rfl) (Nat.le_of_ble_eq_true rfl) ?_
                    exact ⟨⟨(by first | exact Or.inl rfl | exact Or.inr rfl | assumption), Or.inr ⟨_, (stD_42 c_8), by omega, lnD_ok hx_25 (sgD_t (Or.inr (Or.inr c_132))) hx_148, i118_3, i118_4, ⟨by omega, by omega⟩, rfl⟩⟩, rfl, i118_0⟩
                  | succ g_118 ih_118_156 =>
                    intro j118  V118 hj118 i118_0 i118_1 i118_2 i118_3 i118_4
                    have hlj118 : j118 < 16 := by omega
                    refine aw_iload_n dX12_readsDread_118 rfl ?_
                    refine aw_bipush (v := 16) dX12_readsDread_119 (by decide) ?_
                    refine aw_icmp_ge (tgt := 203) dX12_readsDread_121 (by decide) (fun c_159 => ?_) (fun c_159 => ?_)
                    · exact absurd c_159 (nI_ge (a := j118) (b := 16) (by omega) (by omega))
                    refine aw_aload_n dX12_readsDread_124 rfl ?_
                    refine aw_get dX12_readsDread_125 fl_X12_262 i118_1 (by omega) rfl ?_
                    refine aw_iload_n dX12_readsDread_128 rfl ?_
                    refine aw_callSi (J' := jX12_has) (As := [.int fmeantSet_155, .int (nI j118)]) (st := []) dX12_readsDread_129 tb_1315 ok_X12_has rfl (r_hasS l D b N V118 hN cl i118_0.1 fmeantSet_155 (nI j118)) rfl (Nat.le_of_ble_eq_true rfl) ⟨Nat.le_of_ble_eq_true rfl, Nat.le_of_ble_eq_true rfl, Nat.le_of_ble_eq_true rfl, Nat.le_of_ble_eq_true rfl⟩ (fun r_163 N_164 V_165 q_166 => ?_)
                    obtain ⟨⟨z_162, h_161⟩, rfl, rfl⟩ := q_166
                    rcases h_161 with ⟨hy_167, e_168⟩ | ⟨hn_169, e_170⟩
                    · skip
                      refine aw_eqi (y := 1) e_168 ?_
                      refine aw_if_ne (tgt := 138) dX12_readsDread_132 (by decide) (fun c_171 => ?_) (fun c_171 => ?_)
                      rotate_left
                      · exact absurd c_171 (by decide)
                      refine aw_iconst (v := 0) dX12_readsDread_138 (by decide) ?_
                      refine aw_bipush (v := 16) dX12_readsDread_139 (by decide) ?_
                      refine aw_iload_n dX12_readsDread_141 rfl ?_
                      refine aw_imul dX12_readsDread_142 ?_
                      refine aw_eqi (y := nI (16 * i0)) (pk_mul _ _) ?_
                      refine aw_iadd dX12_readsDread_143 ?_
                      refine aw_eqi (y := nI (0 + (16 * i0))) (nI_add _ _) ?_
                      refine aw_iload_n dX12_readsDread_144 rfl ?_
                      refine aw_iadd dX12_readsDread_145 ?_
                      refine aw_eqi (y := nI ((0 + (16 * i0)) + j118)) (nI_add _ _) ?_
                      refine aw_istore (ls' := [some (.ref (b + 100)), some (.int (nI i0)), some (.int (hd (gb g) n a_23)), some (.int (nI j118)), some (.int (nI ((0 + (16 * i0)) + j118)))]) dX12_readsDread_146 (Nat.le_of_ble_eq_true rfl) rfl ?_
                      refine aw_aload_n dX12_readsDread_148 rfl ?_
                      refine aw_get dX12_readsDread_149 fl_X12_7 i118_1 (by omega) rfl ?_
                      refine aw_iload dX12_readsDread_152 rfl ?_
                      refine aw_iload_n dX12_readsDread_154 rfl ?_
                      refine aw_bipush (v := 61) dX12_readsDread_155 (by decide) ?_
                      refine aw_icmp_ne (tgt := 167) dX12_readsDread_157 (by decide) (fun c_172 => ?_) (fun c_172 => ?_)
                      rotate_left
                      · first | exact absurd c_38 c_172 | exact absurd c_172 c_38
                      refine aw_aload_n dX12_readsDread_167 rfl ?_
                      refine aw_get dX12_readsDread_168 fl_X12_7 i118_1 (by omega) rfl ?_
                      refine aw_iload dX12_readsDread_171 rfl ?_
                      obtain ⟨g_173, e_173⟩ := JR.get i118_0 cm_101
                      refine aw_iald (v := (g_173 ((0 + (16 * i0)) + j118))) dX12_readsDread_173 e_173 (by omega) (vp_in_nI (n := ((0 + (16 * i0)) + j118)) (by omega) (by omega)) (congrArg g_173 (nI_clamp (n := ((0 + (16 * i0)) + j118)) (by omega))) ?_
                      refine aw_iload_n dX12_readsDread_174 rfl ?_
                      refine aw_bipush (v := 43) dX12_readsDread_175 (by decide) ?_
                      refine aw_icmp_ne (tgt := 187) dX12_readsDread_177 (by decide) (fun c_174 => ?_) (fun c_174 => ?_)
                      rotate_left
                      · first | exact absurd c_82 c_174 | exact absurd c_174 c_82
                      refine aw_aload_n dX12_readsDread_187 rfl ?_
                      refine aw_get dX12_readsDread_188 fl_X12_175 i118_1 (by omega) rfl ?_
                      refine aw_ineg dX12_readsDread_191 ?_
                      refine aw_iadd dX12_readsDread_192 ?_
                      refine aw_callSi (J' := jX12_limit) (As := [.int ((g_173 ((0 + (16 * i0)) + j118)) + (-(nI nu0_155)))]) (st := [.int (nI ((0 + (16 * i0)) + j118)), .ref (b + 101)]) dX12_readsDread_193 tb_1322 ok_X12_limit rfl (r_limit l D b N V118 hN cl i118_0.1 ((g_173 ((0 + (16 * i0)) + j118)) + (-(nI nu0_155)))) rfl (Nat.le_of_ble_eq_true rfl) ⟨Nat.le_of_ble_eq_true rfl, Nat.le_of_ble_eq_true rfl, Nat.le_of_ble_eq_true rfl, Nat.le_of_ble_eq_true rfl⟩ (fun r_176 N_177 V_178 q_179 => ?_)
                      obtain ⟨rfl, rfl⟩ := q_179
                      refine aw_iast dX12_readsDread_196 e_173 (by omega) (vp_in_nI (n := ((0 + (16 * i0)) + j118)) (by omega) (by omega)) ?_
                      refine aw_upR i118_0 cm_101 ⟨_, rfl⟩ (by decide) (WE e_173 (LMs (LMs (LMs (LMs (LMs LM0))))) (by decide) (by decide) (by rw [nI_clamp (n := ((0 + (16 * i0)) + j118)) (by omega)]; omega) (by rw [nI_clamp (n := ((0 + (16 * i0)) + j118)) (by omega)]; omega)) (fun V_180 j_180 k_180 e_180 => ?_)
                      refine aw_iinc (v := (nI (j118 + 1))) (ls' := [some (.ref (b + 100)), some (.int (nI i0)), some (.int (hd (gb g) n a_23)), some (.int (nI (j118 + 1))), some (.int (nI ((0 + (16 * i0)) + j118)))]) dX12_readsDread_197 rfl (fx_up_1 _) (Nat.le_of_ble_eq_true rfl) rfl ?_
                      refine aw_goto (tgt := 118) dX12_readsDread_200 (by decide) ?_
                      refine aw_le ?_ (ih_118_156 (j118 + 1)  V_180 (by omega) (j_180) (((k_180 _ (by decide)).trans i118_1)) (((k_180 _ (by decide)).trans i118_2)) (((congrArg (fun z => fI z 14) (k_180 _ (by omega))).trans i118_3)) (((congrArg (fun z => fI z 36) (k_180 _ (by omega))).trans i118_4)))
                      exact ⟨rfl, ⟨rfl, ⟨rfl, ⟨rfl, trivial⟩⟩⟩⟩
                    · skip
                      refine aw_eqi (y := 0) e_170 ?_
                      refine aw_if_ne (tgt := 138) dX12_readsDread_132 (by decide) (fun c_181 => ?_) (fun c_181 => ?_)
                      · exact absurd rfl c_181
                      refine aw_goto (tgt := 197) dX12_readsDread_135 (by decide) ?_
                      refine aw_iinc (v := (nI (j118 + 1))) (ls' := [some (.ref (b + 100)), some (.int (nI i0)), some (.int (hd (gb g) n a_23)), some (.int (nI (j118 + 1))), none]) dX12_readsDread_197 rfl (fx_up_1 _) (Nat.le_of_ble_eq_true rfl) rfl ?_
                      refine aw_goto (tgt := 118) dX12_readsDread_200 (by decide) ?_
                      refine aw_le ?_ (ih_118_156 (j118 + 1)  V118 (by omega) (i118_0) (i118_1) (i118_2) (i118_3) (i118_4))
                      exact ⟨rfl, ⟨rfl, ⟨rfl, ⟨rfl, trivial⟩⟩⟩⟩
                refine aw_le ?_ (loop_118_155 16 0  V_138 (by omega) (j_137) (e_155) (((JR.same q_134 (by decide) (by decide) (fun k => (nfc (by omega) (nfc (by omega) (nfc (by omega) nf0))))).trans ((k_133 _ (by decide)).trans ((JR.same q_11 (by decide) (by decide) (fun k => (nfc (by omega) (nfc (by omega) (nfc (by omega) nf0))))).trans ((k_10 _ (by decide)).trans hg))))) (hk_149) (((JR.fI q_134 (by decide) (by decide) (nfc (by omega) (nfc (by omega) (nfc (by omega) nf0)))).trans (KA (s := 14) (x := .int (nI (a_23 + 1))) e_33 rfl (by decide) e_133 k_133 ((JR.fI q_11 (by decide) (by decide) (nfc (by omega) (nfc (by omega) (nfc (by omega) nf0)))).trans ((congrArg (fun z => fI z 36) e_10).trans rfl))))))
                exact ⟨rfl, ⟨rfl, ⟨rfl, ⟨rfl, trivial⟩⟩⟩⟩
            · skip
              refine aw_aload_n dX12_readsDread_87 rfl ?_
              refine aw_iconst (v := 1) dX12_readsDread_88 (by decide) ?_
              refine aw_aload_n dX12_readsDread_89 rfl ?_
              refine aw_get dX12_readsDread_90 fl_X12_159 e_33 (by omega) rfl ?_
              refine aw_eqi (y := (nI a_23)) ((Eq.symm (congrArg (fun z => fI z 14) e_33)).trans hk_26) ?_
              refine aw_callVi (J' := jX12_wrongAt) (As := [.int 1, .int (nI a_23)]) (st := []) dX12_readsDread_93 tb_1224 ok_X12_wrongAt ⟨_, e_33⟩ (by omega) rfl rfl (r_wrongAtS l D b N V_15 hN cl j_14.1 1 (nI a_23)) rfl (Nat.le_of_ble_eq_true rfl) ⟨Nat.le_of_ble_eq_true rfl, Nat.le_of_ble_eq_true rfl, Nat.le_of_ble_eq_true rfl, Nat.le_of_ble_eq_true rfl⟩ (fun r_187 N_188 V_186 q_189 => ?_)
              obtain ⟨⟨z_184, h_183⟩, rfl, q_182⟩ := q_189
              have j_185 := JR.trans j_14 (JR.weak q_182 (Sub.cons (LMs (LMs LM0)) (by decide) (by decide) (by decide) (Or.inr ⟨by decide, by decide⟩) Sub.nil))
              obtain ⟨rfl, h_183f⟩ := h_183
              refine aw_zreti dX12_readsDread_96 rfl (by first | exact Or.inl rfl | exact Or.inr rfl | assumption) (Nat.le_of_ble_eq_true rfl) (Nat.le_of_ble_eq_true rfl) ?_
              exact ⟨⟨(by first | exact Or.inl rfl | exact Or.inr rfl | assumption), Or.inl ⟨_, tx_bad (stD_42 c_8) (lnD_s hx_25 (sgD_f c_38 c_82 c_132)) (by omega), h_183f, rfl⟩⟩, rfl, j_185⟩
    · skip
      have nc_9 : L = 20 := (nI_eq (a := L) (b := 20) (by omega) (by omega)).mp c_9
      refine aw_aload_n dX12_readsDread_35 rfl ?_
      refine aw_iconst (v := 4) dX12_readsDread_36 (by decide) ?_
      refine aw_aload_n dX12_readsDread_37 rfl ?_
      refine aw_get dX12_readsDread_38 fl_X12_159 e_3 (by omega) rfl ?_
      refine aw_eqi (y := (nI a)) ((Eq.symm (congrArg (fun z => fI z 14) e_3)).trans hA) ?_
      refine aw_callVi (J' := jX12_wrongAt) (As := [.int 4, .int (nI a)]) (st := []) dX12_readsDread_41 tb_1224 ok_X12_wrongAt ⟨_, e_3⟩ (by omega) rfl rfl (r_wrongAtS l D b N V hN cl hJ0.1 4 (nI a)) rfl (Nat.le_of_ble_eq_true rfl) ⟨Nat.le_of_ble_eq_true rfl, Nat.le_of_ble_eq_true rfl, Nat.le_of_ble_eq_true rfl, Nat.le_of_ble_eq_true rfl⟩ (fun r_195 N_196 V_194 q_197 => ?_)
      obtain ⟨⟨z_192, h_191⟩, rfl, q_190⟩ := q_197
      have j_193 := JR.trans hJ0 (JR.weak q_190 (Sub.cons (LMs (LMs LM0)) (by decide) (by decide) (by decide) (Or.inr ⟨by decide, by decide⟩) Sub.nil))
      obtain ⟨rfl, h_191f⟩ := h_191
      refine aw_zreti dX12_readsDread_44 rfl (by first | exact Or.inl rfl | exact Or.inr rfl | assumption) (Nat.le_of_ble_eq_true rfl) (Nat.le_of_ble_eq_true rfl) ?_
      exact ⟨⟨(by first | exact Or.inl rfl | exact Or.inr rfl | assumption), Or.inl ⟨_, (congrArg (fun q => txD (gb g) n q a) (by omega : 20 - L = 0)).trans (tx_many (stD_42 c_8)), h_191f, rfl⟩⟩, rfl, j_193⟩
  · skip
    refine aw_aload_n dX12_readsDread_9 rfl ?_
    refine aw_callVi (J' := jX12_isLetter) (As := []) (st := []) dX12_readsDread_10 tb_1306 ok_X12_isLetter ⟨_, e_3⟩ (by omega) rfl rfl (r_isLetterS l D b N V hN cl hJ0.1 g hg n a ⟨by omega, by omega⟩ hE hA) rfl (Nat.le_of_ble_eq_true rfl) ⟨Nat.le_of_ble_eq_true rfl, Nat.le_of_ble_eq_true rfl, Nat.le_of_ble_eq_true rfl, Nat.le_of_ble_eq_true rfl⟩ (fun r_201 N_202 V_203 q_204 => ?_)
    obtain ⟨⟨z_200, h_199⟩, rfl, rfl⟩ := q_204
    rcases h_199 with ⟨hy_205, e_206⟩ | ⟨hn_207, e_208⟩
    · skip
      refine aw_eqi (y := 1) e_206 ?_
      have hlhy_205 := isLt_hd hy_205
      refine aw_if_ne (tgt := 26) dX12_readsDread_13 (by decide) (fun c_209 => ?_) (fun c_209 => ?_)
      rotate_left
      · exact absurd c_209 (by decide)
      refine aw_aload_n dX12_readsDread_26 rfl ?_
      refine aw_get dX12_readsDread_27 fl_X12_268 e_3 (by omega) rfl ?_
      refine aw_eqi (y := (nI L)) ((Eq.symm (congrArg (fun z => fI z 36) e_3)).trans hL1) ?_
      refine aw_bipush (v := 20) dX12_readsDread_30 (by decide) ?_
      refine aw_icmp_ne (tgt := 45) dX12_readsDread_32 (by decide) (fun c_210 => ?_) (fun c_210 => ?_)
      · skip
        have nc_210 : ¬ (L = 20) := fun z => c_210 ((nI_eq (a := L) (b := 20) (by omega) (by omega)).mpr z)
        refine aw_aload_n dX12_readsDread_45 rfl ?_
        refine aw_aload_n dX12_readsDread_46 rfl ?_
        refine aw_get dX12_readsDread_47 fl_X12_268 e_3 (by omega) rfl ?_
        refine aw_eqi (y := (nI L)) ((Eq.symm (congrArg (fun z => fI z 36) e_3)).trans hL1) ?_
        refine aw_iconst (v := 1) dX12_readsDread_50 (by decide) ?_
        refine aw_iadd dX12_readsDread_51 ?_
        refine aw_eqi (y := nI (L + 1)) (nI_add _ _) ?_
        refine aw_put dX12_readsDread_52 fp_X12_268 e_3 (by omega) rfl rfl (Nat.le_of_ble_eq_true rfl) rfl ?_
        refine aw_upR hJ0 cm_100 ⟨_, _, _, _, _, _, _, _, _, _, _, _, tad_3, pl0_3, le0_3, nu0_3, coy_3, wag_3, say_3, rfl, by omega, by omega, by omega, by omega, by omega, by omega, by omega⟩ (by decide) (WO (s := 36) (x := .int (nI (L + 1))) e_3 rfl LM0 (by decide) (by decide) (by decide) (Or.inl (by decide))) (fun V_211 j_211 k_211 e_211 => ?_)
        refine aw_aload_n dX12_readsDread_55 rfl ?_
        refine aw_callVi (J' := jX12_readsMeant) (As := []) (st := []) dX12_readsDread_56 tb_1310 ok_X12_readsMeant ⟨_, e_211⟩ (by omega) rfl rfl (r_readsMeantS l D b N V_211 hN cl j_211.1 g ((k_211 _ (by decide)).trans hg) n a ⟨by omega, by omega⟩ (KA (s := 36) (x := .int (nI (L + 1))) e_3 rfl (by decide) e_211 k_211 hE) (KA (s := 36) (x := .int (nI (L + 1))) e_3 rfl (by decide) e_211 k_211 hA)) rfl (Nat.le_of_ble_eq_true rfl) ⟨Nat.le_of_ble_eq_true rfl, Nat.le_of_ble_eq_true rfl, Nat.le_of_ble_eq_true rfl, Nat.le_of_ble_eq_true rfl⟩ (fun r_217 N_218 V_216 q_219 => ?_)
        obtain ⟨⟨z_214, h_213⟩, rfl, q_212⟩ := q_219
        have j_215 := JR.trans j_211 (JR.weak q_212 (Sub.cons (LMs LM0) (by decide) (by decide) (by decide) (Or.inr ⟨by decide, by decide⟩) (Sub.cons (LMs (LMs LM0)) (by decide) (by decide) (by decide) (Or.inr ⟨by decide, by decide⟩) (Sub.cons (LMs (LMs (LMs LM0))) (by decide) (by decide) (by decide) (Or.inr ⟨by decide, by decide⟩) Sub.nil))))
        rcases h_213 with ⟨f_220, hx_221, hk_222, e_223⟩ | ⟨a_224, s_225, hx_226, hk_227, hb_228, e_229⟩
        · skip
          refine aw_eqi (y := 0) e_223 ?_
          refine aw_if_ne (tgt := 64) dX12_readsDread_59 (by decide) (fun c_230 => ?_) (fun c_230 => ?_)
          · exact absurd rfl c_230
          refine aw_iconst (v := 0) dX12_readsDread_62 (by decide) ?_
          refine aw_zreti dX12_readsDread_63 rfl (by first | exact Or.inl rfl | exact Or.inr rfl | assumption) (Nat.le_of_ble_eq_true rfl) (Nat.le_of_ble_eq_true rfl) ?_
          exact ⟨⟨(by first | exact Or.inl rfl | exact Or.inr rfl | assumption), Or.inl ⟨_, tx_bad ((stD_no c_8).trans hy_205) (lnD_m hx_221) (by omega), hk_222, rfl⟩⟩, rfl, j_215⟩
        · skip
          refine aw_eqi (y := 1) e_229 ?_
          obtain ⟨hb_228a, hb_228b⟩ := hb_228
          refine aw_if_ne (tgt := 64) dX12_readsDread_59 (by decide) (fun c_231 => ?_) (fun c_231 => ?_)
          rotate_left
          · exact absurd c_231 (by decide)
          refine aw_aload_n dX12_readsDread_64 rfl ?_
          obtain ⟨ftoldPeople_234, ftoldDoors_234, fwasDoors_234, ffault_234, fopen_234, flines_234, fmeantSet_234, fopenedNow_234, fvainNow_234, flowNow_234, fhighNow_234, fisKept_234, tad_234, pl0_234, le0_234, nu0_234, coy_234, wag_234, say_234, e_234, hntad_234, hnpl0_234, hnle0_234, hnnu0_234, hncoy_234, hnwag_234, hnsay_234⟩ := JR.get j_215 cm_100
          refine aw_callVi (J' := jX12_here) (As := []) (st := []) dX12_readsDread_65 tb_1220 ok_X12_here ⟨_, e_234⟩ (by omega) rfl rfl (r_hereS l D b N V_216 hN cl j_215.1 g ((JR.same q_212 (by decide) (by decide) (fun k => (nfc (by omega) (nfc (by omega) (nfc (by omega) nf0))))).trans ((k_211 _ (by decide)).trans hg)) n a_224 ⟨by omega, by omega⟩ ((JR.fI q_212 (by decide) (by decide) (nfc (by omega) (nfc (by omega) (nfc (by omega) nf0)))).trans (KA (s := 36) (x := .int (nI (L + 1))) e_3 rfl (by decide) e_211 k_211 hE)) hk_227) rfl (Nat.le_of_ble_eq_true rfl) ⟨Nat.le_of_ble_eq_true rfl, Nat.le_of_ble_eq_true rfl, Nat.le_of_ble_eq_true rfl, Nat.le_of_ble_eq_true rfl⟩ (fun r_235 N_236 V_237 q_238 => ?_)
          obtain ⟨h_233, rfl, rfl⟩ := q_238
          refine aw_eqi (y := (hd (gb g) n a_224)) h_233 ?_
          refine aw_istore_n (ls' := [some (.ref (b + 100)), some (.int (nI i0)), some (.int (hd (gb g) n a_224)), none, none]) dX12_readsDread_68 (Nat.le_of_ble_eq_true rfl) rfl ?_
          refine aw_iload_n dX12_readsDread_69 rfl ?_
          refine aw_bipush (v := 61) dX12_readsDread_70 (by decide) ?_
          refine aw_icmp_eq (tgt := 97) dX12_readsDread_72 (by decide) (fun c_239 => ?_) (fun c_239 => ?_)
          · skip
            have hlc_239 := hd_lit c_239 (by decide)
            refine aw_aload_n dX12_readsDread_97 rfl ?_
            refine aw_aload_n dX12_readsDread_98 rfl ?_
            refine aw_get dX12_readsDread_99 fl_X12_159 e_234 (by omega) rfl ?_
            refine aw_eqi (y := (nI a_224)) ((Eq.symm (congrArg (fun z => fI z 14) e_234)).trans hk_227) ?_
            refine aw_iconst (v := 1) dX12_readsDread_102 (by decide) ?_
            refine aw_iadd dX12_readsDread_103 ?_
            refine aw_eqi (y := nI (a_224 + 1)) (nI_add _ _) ?_
            refine aw_put dX12_readsDread_104 fp_X12_159 e_234 (by omega) rfl rfl (Nat.le_of_ble_eq_true rfl) rfl ?_
            refine aw_upR j_215 cm_100 ⟨_, _, _, _, _, _, _, _, _, _, _, _, tad_234, (a_224 + 1), le0_234, nu0_234, coy_234, wag_234, say_234, rfl, by omega, by omega, by omega, by omega, by omega, by omega, by omega⟩ (by decide) (WO (s := 14) (x := .int (nI (a_224 + 1))) e_234 rfl (LMs (LMs (LMs LM0))) (by decide) (by decide) (by decide) (Or.inl (by decide))) (fun V_240 j_240 k_240 e_240 => ?_)
            refine aw_aload_n dX12_readsDread_107 rfl ?_
            refine aw_callVi (J' := jX12_readsAmount) (As := []) (st := []) dX12_readsDread_108 tb_1318 ok_X12_readsAmount ⟨_, e_240⟩ (by omega) rfl rfl (r_readsAmountS l D b N V_240 hN cl j_240.1 g ((k_240 _ (by decide)).trans ((JR.same q_212 (by decide) (by decide) (fun k => (nfc (by omega) (nfc (by omega) (nfc (by omega) nf0))))).trans ((k_211 _ (by decide)).trans hg))) n (a_224 + 1) ⟨by omega, by omega⟩ (KA (s := 14) (x := .int (nI (a_224 + 1))) e_234 rfl (by decide) e_240 k_240 ((JR.fI q_212 (by decide) (by decide) (nfc (by omega) (nfc (by omega) (nfc (by omega) nf0)))).trans (KA (s := 36) (x := .int (nI (L + 1))) e_3 rfl (by decide) e_211 k_211 hE))) ((congrArg (fun z => fI z 14) e_240).trans rfl)) rfl (Nat.le_of_ble_eq_true rfl) ⟨Nat.le_of_ble_eq_true rfl, Nat.le_of_ble_eq_true rfl, Nat.le_of_ble_eq_true rfl, Nat.le_of_ble_eq_true rfl⟩ (fun r_246 N_247 V_245 q_248 => ?_)
            obtain ⟨⟨z_243, h_242⟩, rfl, q_241⟩ := q_248
            have j_244 := JR.trans j_240 (JR.weak q_241 (Sub.cons (LMs (LMs (LMs (LMs LM0)))) (by decide) (by decide) (by decide) (Or.inr ⟨by decide, by decide⟩) (Sub.cons (LMs (LMs (LMs LM0))) (by decide) (by decide) (by decide) (Or.inr ⟨by decide, by decide⟩) (Sub.cons (LMs (LMs LM0)) (by decide) (by decide) (by decide) (Or.inr ⟨by decide, by decide⟩) Sub.nil))))
            rcases h_242 with ⟨f_249, hx_250, hk_251, e_252⟩ | ⟨a_253, v_254, hx_255, hk_256, hv_257, hb_258, e_259⟩
            · skip
              refine aw_eqi (y := 0) e_252 ?_
              refine aw_if_ne (tgt := 116) dX12_readsDread_111 (by decide) (fun c_260 => ?_) (fun c_260 => ?_)
              · exact absurd rfl c_260
              refine aw_iconst (v := 0) dX12_readsDread_114 (by decide) ?_
              refine aw_zreti dX12_readsDread_115 rfl (by first | exact Or.inl rfl | exact Or.inr rfl | assumption) (Nat.le_of_ble_eq_true rfl) (Nat.le_of_ble_eq_true rfl) ?_
              exact ⟨⟨(by first | exact Or.inl rfl | exact Or.inr rfl | assumption), Or.inl ⟨_, tx_bad ((stD_no c_8).trans hy_205) (lnD_n hx_226 (sgD_t (Or.inl c_239)) hx_250) (by omega), hk_251, rfl⟩⟩, rfl, j_244⟩
            · skip
              refine aw_eqi (y := 1) e_259 ?_
              obtain ⟨hb_258a, hb_258b, hb_258c⟩ := hb_258
              refine aw_if_ne (tgt := 116) dX12_readsDread_111 (by decide) (fun c_261 => ?_) (fun c_261 => ?_)
              rotate_left
              · exact absurd c_261 (by decide)
              refine aw_iconst (v := 0) dX12_readsDread_116 (by decide) ?_
              refine aw_istore_n (ls' := [some (.ref (b + 100)), some (.int (nI i0)), some (.int (hd (gb g) n a_224)), some (.int 0), none]) dX12_readsDread_117 (Nat.le_of_ble_eq_true rfl) rfl ?_
              obtain ⟨ftoldPeople_262, ftoldDoors_262, fwasDoors_262, ffault_262, fopen_262, flines_262, fmeantSet_262, fopenedNow_262, fvainNow_262, flowNow_262, fhighNow_262, fisKept_262, tad_262, pl0_262, le0_262, nu0_262, coy_262, wag_262, say_262, e_262, hntad_262, hnpl0_262, hnle0_262, hnnu0_262, hncoy_262, hnwag_262, hnsay_262⟩ := JR.get j_244 cm_100
              have loop_118_262 : ∀ (g_118 : Nat), ∀ (j118 : Nat)  (V118 : Wd), j118 + g_118 = 16 → (JR D b N cl [(100, 100, 36, 36), (100, 100, 37, 37), (100, 100, 16, 16), (100, 100, 14, 14), (100, 100, 17, 17), (101, 101, 0, 191)] V V118) → (V118 100 = cO 11 [.ref (b + 101), .ref (b + 102), .ref (b + 103), .ref (b + 104), .ref (b + 105), .ref (b + 106), .ref (b + 107), .ref (b + 108), .ref (b + 109), .int ftoldPeople_262, .int ftoldDoors_262, .int fwasDoors_262, .ref (b + 110), .int (nI tad_262), .int (nI pl0_262), .int (nI le0_262), .int ffault_262, .int (nI nu0_262), .int fopen_262, .int (nI coy_262), .int (nI wag_262), .int (nI say_262), .int (nI cl), .ref (b + 111), .ref (b + 112), .ref (b + 113), .ref (b + 114), .ref (b + 115), .ref (b + 116), .ref (b + 117), .ref (b + 118), .ref (b + 119), .ref (b + 120), .ref (b + 121), .ref (b + 122), .ref (b + 123), .int flines_262, .int fmeantSet_262, .int fopenedNow_262, .int fvainNow_262, .ref (b + 124), .ref (b + 125), .ref (b + 126), .ref (b + 127), .ref (b + 128), .int flowNow_262, .int fhighNow_262, .ref (b + 129), .ref (b + 130), .ref (b + 131), .ref (b + 132), .int fisKept_262]) → (V118 110 = cB D 260 g) → (fI (V118 100) 14 = (nI a_253)) → (fI (V118 100) 36 = (nI (L + 1))) → AW l D b jX12_readsDread (fx_rm 3 0 0) none (fx_MQ D b 0 0 (fx_qi (fun r N9 V9 => ((r = 0 ∨ r = 1) ∧ ((∃ f, txD (gb g) n (20 - L) a = .inl f ∧ fI (V9 100) 16 = f ∧ r = 0) ∨ (∃ a9, stD (hd (gb g) n a) = true ∧ L < 20 ∧ lnD (gb g) n a = .inr (a9, ()) ∧ fI (V9 100) 14 = nI a9 ∧ fI (V9 100) 36 = nI (L + 1) ∧ (a < a9 ∧ a9 ≤ n) ∧ r = 1))) ∧ N = N9 ∧ JR D b N cl [(100, 100, 36, 36), (100, 100, 37, 37), (100, 100, 16, 16), (100, 100, 14, 14), (100, 100, 17, 17), (101, 101, 0, 191)] V V9))) 118 [some (.ref (b + 100)), some (.int (nI i0)), some (.int (hd (gb g) n a_224)), some (.int (nI j118)), none] [] N V118 0 0 := by
                intro g_118
                induction g_118 with
                | zero =>
                  intro j118  V118 hj118 i118_0 i118_1 i118_2 i118_3 i118_4
                  obtain rfl : j118 = 16 := by omega
                  refine aw_iload_n dX12_readsDread_118 rfl ?_
                  refine aw_bipush (v := 16) dX12_readsDread_119 (by decide) ?_
                  refine aw_icmp_ge (tgt := 203) dX12_readsDread_121 (by decide) (fun c_265 => ?_) (fun c_265 => ?_)
                  rotate_left
                  · exact absurd (nI_le (a := 16) (b := 16) (Nat.le_refl _) (by omega)) c_265
                  refine aw_iconst (v := 1) dX12_readsDread_203 (by decide) ?_
                  refine aw_zreti dX12_readsDread_204 rfl (by first | exact Or.inl rfl | exact Or.inr rfl | assumption) (Nat.le_of_ble_eq_true rfl) (Nat.le_of_ble_eq_true rfl) ?_
                  exact ⟨⟨(by first | exact Or.inl rfl | exact Or.inr rfl | assumption), Or.inr ⟨_, ((stD_no c_8).trans hy_205), by omega, lnD_ok hx_226 (sgD_t (Or.inl c_239)) hx_255, i118_3, i118_4, ⟨by omega, by omega⟩, rfl⟩⟩, rfl, i118_0⟩
                | succ g_118 ih_118_263 =>
                  intro j118  V118 hj118 i118_0 i118_1 i118_2 i118_3 i118_4
                  have hlj118 : j118 < 16 := by omega
                  refine aw_iload_n dX12_readsDread_118 rfl ?_
                  refine aw_bipush (v := 16) dX12_readsDread_119 (by decide) ?_
                  refine aw_icmp_ge (tgt := 203) dX12_readsDread_121 (by decide) (fun c_266 => ?_) (fun c_266 => ?_)
                  · exact absurd c_266 (nI_ge (a := j118) (b := 16) (by omega) (by omega))
                  refine aw_aload_n dX12_readsDread_124 rfl ?_
                  refine aw_get dX12_readsDread_125 fl_X12_262 i118_1 (by omega) rfl ?_
                  refine aw_iload_n dX12_readsDread_128 rfl ?_
                  refine aw_callSi (J' := jX12_has) (As := [.int fmeantSet_262, .int (nI j118)]) (st := []) dX12_readsDread_129 tb_1315 ok_X12_has rfl (r_hasS l D b N V118 hN cl i118_0.1 fmeantSet_262 (nI j118)) rfl (Nat.le_of_ble_eq_true rfl) ⟨Nat.le_of_ble_eq_true rfl, Nat.le_of_ble_eq_true rfl, Nat.le_of_ble_eq_true rfl, Nat.le_of_ble_eq_true rfl⟩ (fun r_270 N_271 V_272 q_273 => ?_)
                  obtain ⟨⟨z_269, h_268⟩, rfl, rfl⟩ := q_273
                  rcases h_268 with ⟨hy_274, e_275⟩ | ⟨hn_276, e_277⟩
                  · skip
                    refine aw_eqi (y := 1) e_275 ?_
                    refine aw_if_ne (tgt := 138) dX12_readsDread_132 (by decide) (fun c_278 => ?_) (fun c_278 => ?_)
                    rotate_left
                    · exact absurd c_278 (by decide)
                    refine aw_iconst (v := 0) dX12_readsDread_138 (by decide) ?_
                    refine aw_bipush (v := 16) dX12_readsDread_139 (by decide) ?_
                    refine aw_iload_n dX12_readsDread_141 rfl ?_
                    refine aw_imul dX12_readsDread_142 ?_
                    refine aw_eqi (y := nI (16 * i0)) (pk_mul _ _) ?_
                    refine aw_iadd dX12_readsDread_143 ?_
                    refine aw_eqi (y := nI (0 + (16 * i0))) (nI_add _ _) ?_
                    refine aw_iload_n dX12_readsDread_144 rfl ?_
                    refine aw_iadd dX12_readsDread_145 ?_
                    refine aw_eqi (y := nI ((0 + (16 * i0)) + j118)) (nI_add _ _) ?_
                    refine aw_istore (ls' := [some (.ref (b + 100)), some (.int (nI i0)), some (.int (hd (gb g) n a_224)), some (.int (nI j118)), some (.int (nI ((0 + (16 * i0)) + j118)))]) dX12_readsDread_146 (Nat.le_of_ble_eq_true rfl) rfl ?_
                    refine aw_aload_n dX12_readsDread_148 rfl ?_
                    refine aw_get dX12_readsDread_149 fl_X12_7 i118_1 (by omega) rfl ?_
                    refine aw_iload dX12_readsDread_152 rfl ?_
                    refine aw_iload_n dX12_readsDread_154 rfl ?_
                    refine aw_bipush (v := 61) dX12_readsDread_155 (by decide) ?_
                    refine aw_icmp_ne (tgt := 167) dX12_readsDread_157 (by decide) (fun c_279 => ?_) (fun c_279 => ?_)
                    · first | exact absurd c_279 c_239 | exact absurd c_239 c_279 | exact absurd c_279 (Int32.not_lt.mpr c_239) | exact absurd c_239 (Int32.not_lt.mpr c_279) | exact c_239 (Int32.not_lt.mp c_279) | exact c_239 (Int32.not_le.mp c_279)
                    refine aw_aload_n dX12_readsDread_160 rfl ?_
                    refine aw_get dX12_readsDread_161 fl_X12_175 i118_1 (by omega) rfl ?_
                    refine aw_goto (tgt := 196) dX12_readsDread_164 (by decide) ?_
                    obtain ⟨g_280, e_280⟩ := JR.get i118_0 cm_101
                    refine aw_iast dX12_readsDread_196 e_280 (by omega) (vp_in_nI (n := ((0 + (16 * i0)) + j118)) (by omega) (by omega)) ?_
                    refine aw_upR i118_0 cm_101 ⟨_, rfl⟩ (by decide) (WE e_280 (LMs (LMs (LMs (LMs (LMs LM0))))) (by decide) (by decide) (by rw [nI_clamp (n := ((0 + (16 * i0)) + j118)) (by omega)]; omega) (by rw [nI_clamp (n := ((0 + (16 * i0)) + j118)) (by omega)]; omega)) (fun V_281 j_281 k_281 e_281 => ?_)
                    refine aw_iinc (v := (nI (j118 + 1))) (ls' := [some (.ref (b + 100)), some (.int (nI i0)), some (.int (hd (gb g) n a_224)), some (.int (nI (j118 + 1))), some (.int (nI ((0 + (16 * i0)) + j118)))]) dX12_readsDread_197 rfl (fx_up_1 _) (Nat.le_of_ble_eq_true rfl) rfl ?_
                    refine aw_goto (tgt := 118) dX12_readsDread_200 (by decide) ?_
                    refine aw_le ?_ (ih_118_263 (j118 + 1)  V_281 (by omega) (j_281) (((k_281 _ (by decide)).trans i118_1)) (((k_281 _ (by decide)).trans i118_2)) (((congrArg (fun z => fI z 14) (k_281 _ (by omega))).trans i118_3)) (((congrArg (fun z => fI z 36) (k_281 _ (by omega))).trans i118_4)))
                    exact ⟨rfl, ⟨rfl, ⟨rfl, ⟨rfl, trivial⟩⟩⟩⟩
                  · skip
                    refine aw_eqi (y := 0) e_277 ?_
                    refine aw_if_ne (tgt := 138) dX12_readsDread_132 (by decide) (fun c_282 => ?_) (fun c_282 => ?_)
                    · exact absurd rfl c_282
                    refine aw_goto (tgt := 197) dX12_readsDread_135 (by decide) ?_
                    refine aw_iinc (v := (nI (j118 + 1))) (ls' := [some (.ref (b + 100)), some (.int (nI i0)), some (.int (hd (gb g) n a_224)), some (.int (nI (j118 + 1))), none]) dX12_readsDread_197 rfl (fx_up_1 _) (Nat.le_of_ble_eq_true rfl) rfl ?_
                    refine aw_goto (tgt := 118) dX12_readsDread_200 (by decide) ?_
                    refine aw_le ?_ (ih_118_263 (j118 + 1)  V118 (by omega) (i118_0) (i118_1) (i118_2) (i118_3) (i118_4))
                    exact ⟨rfl, ⟨rfl, ⟨rfl, ⟨rfl, trivial⟩⟩⟩⟩
              refine aw_le ?_ (loop_118_262 16 0  V_245 (by omega) (j_244) (e_262) (((JR.same q_241 (by decide) (by decide) (fun k => (nfc (by omega) (nfc (by omega) (nfc (by omega) nf0))))).trans ((k_240 _ (by decide)).trans ((JR.same q_212 (by decide) (by decide) (fun k => (nfc (by omega) (nfc (by omega) (nfc (by omega) nf0))))).trans ((k_211 _ (by decide)).trans hg))))) (hk_256) (((JR.fI q_241 (by decide) (by decide) (nfc (by omega) (nfc (by omega) (nfc (by omega) nf0)))).trans (KA (s := 14) (x := .int (nI (a_224 + 1))) e_234 rfl (by decide) e_240 k_240 ((JR.fI q_212 (by decide) (by decide) (nfc (by omega) (nfc (by omega) (nfc (by omega) nf0)))).trans ((congrArg (fun z => fI z 36) e_211).trans rfl))))))
              exact ⟨rfl, ⟨rfl, ⟨rfl, ⟨rfl, trivial⟩⟩⟩⟩
          · skip
            refine aw_iload_n dX12_readsDread_75 rfl ?_
            refine aw_bipush (v := 43) dX12_readsDread_76 (by decide) ?_
            refine aw_icmp_eq (tgt := 97) dX12_readsDread_78 (by decide) (fun c_283 => ?_) (fun c_283 => ?_)
            · skip
              have hlc_283 := hd_lit c_283 (by decide)
              refine aw_aload_n dX12_readsDread_97 rfl ?_
              refine aw_aload_n dX12_readsDread_98 rfl ?_
              refine aw_get dX12_readsDread_99 fl_X12_159 e_234 (by omega) rfl ?_
              refine aw_eqi (y := (nI a_224)) ((Eq.symm (congrArg (fun z => fI z 14) e_234)).trans hk_227) ?_
              refine aw_iconst (v := 1) dX12_readsDread_102 (by decide) ?_
              refine aw_iadd dX12_readsDread_103 ?_
              refine aw_eqi (y := nI (a_224 + 1)) (nI_add _ _) ?_
              refine aw_put dX12_readsDread_104 fp_X12_159 e_234 (by omega) rfl rfl (Nat.le_of_ble_eq_true rfl) rfl ?_
              refine aw_upR j_215 cm_100 ⟨_, _, _, _, _, _, _, _, _, _, _, _, tad_234, (a_224 + 1), le0_234, nu0_234, coy_234, wag_234, say_234, rfl, by omega, by omega, by omega, by omega, by omega, by omega, by omega⟩ (by decide) (WO (s := 14) (x := .int (nI (a_224 + 1))) e_234 rfl (LMs (LMs (LMs LM0))) (by decide) (by decide) (by decide) (Or.inl (by decide))) (fun V_284 j_284 k_284 e_284 => ?_)
              refine aw_aload_n dX12_readsDread_107 rfl ?_
              refine aw_callVi (J' := jX12_readsAmount) (As := []) (st := []) dX12_readsDread_108 tb_1318 ok_X12_readsAmount ⟨_, e_284⟩ (by omega) rfl rfl (r_readsAmountS l D b N V_284 hN cl j_284.1 g ((k_284 _ (by decide)).trans ((JR.same q_212 (by decide) (by decide) (fun k => (nfc (by omega) (nfc (by omega) (nfc (by omega) nf0))))).trans ((k_211 _ (by decide)).trans hg))) n (a_224 + 1) ⟨by omega, by omega⟩ (KA (s := 14) (x := .int (nI (a_224 + 1))) e_234 rfl (by decide) e_284 k_284 ((JR.fI q_212 (by decide) (by decide) (nfc (by omega) (nfc (by omega) (nfc (by omega) nf0)))).trans (KA (s := 36) (x := .int (nI (L + 1))) e_3 rfl (by decide) e_211 k_211 hE))) ((congrArg (fun z => fI z 14) e_284).trans rfl)) rfl (Nat.le_of_ble_eq_true rfl) ⟨Nat.le_of_ble_eq_true rfl, Nat.le_of_ble_eq_true rfl, Nat.le_of_ble_eq_true rfl, Nat.le_of_ble_eq_true rfl⟩ (fun r_290 N_291 V_289 q_292 => ?_)
              obtain ⟨⟨z_287, h_286⟩, rfl, q_285⟩ := q_292
              have j_288 := JR.trans j_284 (JR.weak q_285 (Sub.cons (LMs (LMs (LMs (LMs LM0)))) (by decide) (by decide) (by decide) (Or.inr ⟨by decide, by decide⟩) (Sub.cons (LMs (LMs (LMs LM0))) (by decide) (by decide) (by decide) (Or.inr ⟨by decide, by decide⟩) (Sub.cons (LMs (LMs LM0)) (by decide) (by decide) (by decide) (Or.inr ⟨by decide, by decide⟩) Sub.nil))))
              rcases h_286 with ⟨f_293, hx_294, hk_295, e_296⟩ | ⟨a_297, v_298, hx_299, hk_300, hv_301, hb_302, e_303⟩
              · skip
                refine aw_eqi (y := 0) e_296 ?_
                refine aw_if_ne (tgt := 116) dX12_readsDread_111 (by decide) (fun c_304 => ?_) (fun c_304 => ?_)
                · exact absurd rfl c_304
                refine aw_iconst (v := 0) dX12_readsDread_114 (by decide) ?_
                refine aw_zreti dX12_readsDread_115 rfl (by first | exact Or.inl rfl | exact Or.inr rfl | assumption) (Nat.le_of_ble_eq_true rfl) (Nat.le_of_ble_eq_true rfl) ?_
                exact ⟨⟨(by first | exact Or.inl rfl | exact Or.inr rfl | assumption), Or.inl ⟨_, tx_bad ((stD_no c_8).trans hy_205) (lnD_n hx_226 (sgD_t (Or.inr (Or.inl c_283))) hx_294) (by omega), hk_295, rfl⟩⟩, rfl, j_288⟩
              · skip
                refine aw_eqi (y := 1) e_303 ?_
                obtain ⟨hb_302a, hb_302b, hb_302c⟩ := hb_302
                refine aw_if_ne (tgt := 116) dX12_readsDread_111 (by decide) (fun c_305 => ?_) (fun c_305 => ?_)
                rotate_left
                · exact absurd c_305 (by decide)
                refine aw_iconst (v := 0) dX12_readsDread_116 (by decide) ?_
                refine aw_istore_n (ls' := [some (.ref (b + 100)), some (.int (nI i0)), some (.int (hd (gb g) n a_224)), some (.int 0), none]) dX12_readsDread_117 (Nat.le_of_ble_eq_true rfl) rfl ?_
                obtain ⟨ftoldPeople_306, ftoldDoors_306, fwasDoors_306, ffault_306, fopen_306, flines_306, fmeantSet_306, fopenedNow_306, fvainNow_306, flowNow_306, fhighNow_306, fisKept_306, tad_306, pl0_306, le0_306, nu0_306, coy_306, wag_306, say_306, e_306, hntad_306, hnpl0_306, hnle0_306, hnnu0_306, hncoy_306, hnwag_306, hnsay_306⟩ := JR.get j_288 cm_100
                have loop_118_306 : ∀ (g_118 : Nat), ∀ (j118 : Nat)  (V118 : Wd), j118 + g_118 = 16 → (JR D b N cl [(100, 100, 36, 36), (100, 100, 37, 37), (100, 100, 16, 16), (100, 100, 14, 14), (100, 100, 17, 17), (101, 101, 0, 191)] V V118) → (V118 100 = cO 11 [.ref (b + 101), .ref (b + 102), .ref (b + 103), .ref (b + 104), .ref (b + 105), .ref (b + 106), .ref (b + 107), .ref (b + 108), .ref (b + 109), .int ftoldPeople_306, .int ftoldDoors_306, .int fwasDoors_306, .ref (b + 110), .int (nI tad_306), .int (nI pl0_306), .int (nI le0_306), .int ffault_306, .int (nI nu0_306), .int fopen_306, .int (nI coy_306), .int (nI wag_306), .int (nI say_306), .int (nI cl), .ref (b + 111), .ref (b + 112), .ref (b + 113), .ref (b + 114), .ref (b + 115), .ref (b + 116), .ref (b + 117), .ref (b + 118), .ref (b + 119), .ref (b + 120), .ref (b + 121), .ref (b + 122), .ref (b + 123), .int flines_306, .int fmeantSet_306, .int fopenedNow_306, .int fvainNow_306, .ref (b + 124), .ref (b + 125), .ref (b + 126), .ref (b + 127), .ref (b + 128), .int flowNow_306, .int fhighNow_306, .ref (b + 129), .ref (b + 130), .ref (b + 131), .ref (b + 132), .int fisKept_306]) → (V118 110 = cB D 260 g) → (fI (V118 100) 14 = (nI a_297)) → (fI (V118 100) 36 = (nI (L + 1))) → AW l D b jX12_readsDread (fx_rm 3 0 0) none (fx_MQ D b 0 0 (fx_qi (fun r N9 V9 => ((r = 0 ∨ r = 1) ∧ ((∃ f, txD (gb g) n (20 - L) a = .inl f ∧ fI (V9 100) 16 = f ∧ r = 0) ∨ (∃ a9, stD (hd (gb g) n a) = true ∧ L < 20 ∧ lnD (gb g) n a = .inr (a9, ()) ∧ fI (V9 100) 14 = nI a9 ∧ fI (V9 100) 36 = nI (L + 1) ∧ (a < a9 ∧ a9 ≤ n) ∧ r = 1))) ∧ N = N9 ∧ JR D b N cl [(100, 100, 36, 36), (100, 100, 37, 37), (100, 100, 16, 16), (100, 100, 14, 14), (100, 100, 17, 17), (101, 101, 0, 191)] V V9))) 118 [some (.ref (b + 100)), some (.int (nI i0)), some (.int (hd (gb g) n a_224)), some (.int (nI j118)), none] [] N V118 0 0 := by
                  intro g_118
                  induction g_118 with
                  | zero =>
                    intro j118  V118 hj118 i118_0 i118_1 i118_2 i118_3 i118_4
                    obtain rfl : j118 = 16 := by omega
                    refine aw_iload_n dX12_readsDread_118 rfl ?_
                    refine aw_bipush (v := 16) dX12_readsDread_119 (by decide) ?_
                    refine aw_icmp_ge (tgt := 203) dX12_readsDread_121 (by decide) (fun c_309 => ?_) (fun c_309 => ?_)
                    rotate_left
                    · exact absurd (nI_le (a := 16) (b := 16) (Nat.le_refl _) (by omega)) c_309
                    refine aw_iconst (v := 1) dX12_readsDread_203 (by decide) ?_
                    refine aw_zreti dX12_readsDread_204 rfl (by first | exact Or.inl rfl | exact Or.inr rfl | assumption) (Nat.le_of_ble_eq_true rfl) (Nat.le_of_ble_eq_true rfl) ?_
                    exact ⟨⟨(by first | exact Or.inl rfl | exact Or.inr rfl | assumption), Or.inr ⟨_, ((stD_no c_8).trans hy_205), by omega, lnD_ok hx_226 (sgD_t (Or.inr (Or.inl c_283))) hx_299, i118_3, i118_4, ⟨by omega, by omega⟩, rfl⟩⟩, rfl, i118_0⟩
                  | succ g_118 ih_118_307 =>
                    intro j118  V118 hj118 i118_0 i118_1 i118_2 i118_3 i118_4
                    have hlj118 : j118 < 16 := by omega
                    refine aw_iload_n dX12_readsDread_118 rfl ?_
                    refine aw_bipush (v := 16) dX12_readsDread_119 (by decide) ?_
                    refine aw_icmp_ge (tgt := 203) dX12_readsDread_121 (by decide) (fun c_310 => ?_) (fun c_310 => ?_)
                    · exact absurd c_310 (nI_ge (a := j118) (b := 16) (by omega) (by omega))
                    refine aw_aload_n dX12_readsDread_124 rfl ?_
                    refine aw_get dX12_readsDread_125 fl_X12_262 i118_1 (by omega) rfl ?_
                    refine aw_iload_n dX12_readsDread_128 rfl ?_
                    refine aw_callSi (J' := jX12_has) (As := [.int fmeantSet_306, .int (nI j118)]) (st := []) dX12_readsDread_129 tb_1315 ok_X12_has rfl (r_hasS l D b N V118 hN cl i118_0.1 fmeantSet_306 (nI j118)) rfl (Nat.le_of_ble_eq_true rfl) ⟨Nat.le_of_ble_eq_true rfl, Nat.le_of_ble_eq_true rfl, Nat.le_of_ble_eq_true rfl, Nat.le_of_ble_eq_true rfl⟩ (fun r_314 N_315 V_316 q_317 => ?_)
                    obtain ⟨⟨z_313, h_312⟩, rfl, rfl⟩ := q_317
                    rcases h_312 with ⟨hy_318, e_319⟩ | ⟨hn_320, e_321⟩
                    · skip
                      refine aw_eqi (y := 1) e_319 ?_
                      refine aw_if_ne (tgt := 138) dX12_readsDread_132 (by decide) (fun c_322 => ?_) (fun c_322 => ?_)
                      rotate_left
                      · exact absurd c_322 (by decide)
                      refine aw_iconst (v := 0) dX12_readsDread_138 (by decide) ?_
                      refine aw_bipush (v := 16) dX12_readsDread_139 (by decide) ?_
                      refine aw_iload_n dX12_readsDread_141 rfl ?_
                      refine aw_imul dX12_readsDread_142 ?_
                      refine aw_eqi (y := nI (16 * i0)) (pk_mul _ _) ?_
                      refine aw_iadd dX12_readsDread_143 ?_
                      refine aw_eqi (y := nI (0 + (16 * i0))) (nI_add _ _) ?_
                      refine aw_iload_n dX12_readsDread_144 rfl ?_
                      refine aw_iadd dX12_readsDread_145 ?_
                      refine aw_eqi (y := nI ((0 + (16 * i0)) + j118)) (nI_add _ _) ?_
                      refine aw_istore (ls' := [some (.ref (b + 100)), some (.int (nI i0)), some (.int (hd (gb g) n a_224)), some (.int (nI j118)), some (.int (nI ((0 + (16 * i0)) + j118)))]) dX12_readsDread_146 (Nat.le_of_ble_eq_true rfl) rfl ?_
                      refine aw_aload_n dX12_readsDread_148 rfl ?_
                      refine aw_get dX12_readsDread_149 fl_X12_7 i118_1 (by omega) rfl ?_
                      refine aw_iload dX12_readsDread_152 rfl ?_
                      refine aw_iload_n dX12_readsDread_154 rfl ?_
                      refine aw_bipush (v := 61) dX12_readsDread_155 (by decide) ?_
                      refine aw_icmp_ne (tgt := 167) dX12_readsDread_157 (by decide) (fun c_323 => ?_) (fun c_323 => ?_)
                      rotate_left
                      · first | exact absurd c_239 c_323 | exact absurd c_323 c_239
                      refine aw_aload_n dX12_readsDread_167 rfl ?_
                      refine aw_get dX12_readsDread_168 fl_X12_7 i118_1 (by omega) rfl ?_
                      refine aw_iload dX12_readsDread_171 rfl ?_
                      obtain ⟨g_324, e_324⟩ := JR.get i118_0 cm_101
                      refine aw_iald (v := (g_324 ((0 + (16 * i0)) + j118))) dX12_readsDread_173 e_324 (by omega) (vp_in_nI (n := ((0 + (16 * i0)) + j118)) (by omega) (by omega)) (congrArg g_324 (nI_clamp (n := ((0 + (16 * i0)) + j118)) (by omega))) ?_
                      refine aw_iload_n dX12_readsDread_174 rfl ?_
                      refine aw_bipush (v := 43) dX12_readsDread_175 (by decide) ?_
                      refine aw_icmp_ne (tgt := 187) dX12_readsDread_177 (by decide) (fun c_325 => ?_) (fun c_325 => ?_)
                      · first | exact absurd c_325 c_283 | exact absurd c_283 c_325 | exact absurd c_325 (Int32.not_lt.mpr c_283) | exact absurd c_283 (Int32.not_lt.mpr c_325) | exact c_283 (Int32.not_lt.mp c_325) | exact c_283 (Int32.not_le.mp c_325)
                      refine aw_aload_n dX12_readsDread_180 rfl ?_
                      refine aw_get dX12_readsDread_181 fl_X12_175 i118_1 (by omega) rfl ?_
                      refine aw_goto (tgt := 192) dX12_readsDread_184 (by decide) ?_
                      refine aw_iadd dX12_readsDread_192 ?_
                      refine aw_callSi (J' := jX12_limit) (As := [.int ((g_324 ((0 + (16 * i0)) + j118)) + (nI nu0_306))]) (st := [.int (nI ((0 + (16 * i0)) + j118)), .ref (b + 101)]) dX12_readsDread_193 tb_1322 ok_X12_limit rfl (r_limit l D b N V118 hN cl i118_0.1 ((g_324 ((0 + (16 * i0)) + j118)) + (nI nu0_306))) rfl (Nat.le_of_ble_eq_true rfl) ⟨Nat.le_of_ble_eq_true rfl, Nat.le_of_ble_eq_true rfl, Nat.le_of_ble_eq_true rfl, Nat.le_of_ble_eq_true rfl⟩ (fun r_327 N_328 V_329 q_330 => ?_)
                      obtain ⟨rfl, rfl⟩ := q_330
                      refine aw_iast dX12_readsDread_196 e_324 (by omega) (vp_in_nI (n := ((0 + (16 * i0)) + j118)) (by omega) (by omega)) ?_
                      refine aw_upR i118_0 cm_101 ⟨_, rfl⟩ (by decide) (WE e_324 (LMs (LMs (LMs (LMs (LMs LM0))))) (by decide) (by decide) (by rw [nI_clamp (n := ((0 + (16 * i0)) + j118)) (by omega)]; omega) (by rw [nI_clamp (n := ((0 + (16 * i0)) + j118)) (by omega)]; omega)) (fun V_331 j_331 k_331 e_331 => ?_)
                      refine aw_iinc (v := (nI (j118 + 1))) (ls' := [some (.ref (b + 100)), some (.int (nI i0)), some (.int (hd (gb g) n a_224)), some (.int (nI (j118 + 1))), some (.int (nI ((0 + (16 * i0)) + j118)))]) dX12_readsDread_197 rfl (fx_up_1 _) (Nat.le_of_ble_eq_true rfl) rfl ?_
                      refine aw_goto (tgt := 118) dX12_readsDread_200 (by decide) ?_
                      refine aw_le ?_ (ih_118_307 (j118 + 1)  V_331 (by omega) (j_331) (((k_331 _ (by decide)).trans i118_1)) (((k_331 _ (by decide)).trans i118_2)) (((congrArg (fun z => fI z 14) (k_331 _ (by omega))).trans i118_3)) (((congrArg (fun z => fI z 36) (k_331 _ (by omega))).trans i118_4)))
                      exact ⟨rfl, ⟨rfl, ⟨rfl, ⟨rfl, trivial⟩⟩⟩⟩
                    · skip
                      refine aw_eqi (y := 0) e_321 ?_
                      refine aw_if_ne (tgt := 138) dX12_readsDread_132 (by decide) (fun c_332 => ?_) (fun c_332 => ?_)
                      · exact absurd rfl c_332
                      refine aw_goto (tgt := 197) dX12_readsDread_135 (by decide) ?_
                      refine aw_iinc (v := (nI (j118 + 1))) (ls' := [some (.ref (b + 100)), some (.int (nI i0)), some (.int (hd (gb g) n a_224)), some (.int (nI (j118 + 1))), none]) dX12_readsDread_197 rfl (fx_up_1 _) (Nat.le_of_ble_eq_true rfl) rfl ?_
                      refine aw_goto (tgt := 118) dX12_readsDread_200 (by decide) ?_
                      refine aw_le ?_ (ih_118_307 (j118 + 1)  V118 (by omega) (i118_0) (i118_1) (i118_2) (i118_3) (i118_4))
                      exact ⟨rfl, ⟨rfl, ⟨rfl, ⟨rfl, trivial⟩⟩⟩⟩
                refine aw_le ?_ (loop_118_306 16 0  V_289 (by omega) (j_288) (e_306) (((JR.same q_285 (by decide) (by decide) (fun k => (nfc (by omega) (nfc (by omega) (nfc (by omega) nf0))))).trans ((k_284 _ (by decide)).trans ((JR.same q_212 (by decide) (by decide) (fun k => (nfc (by omega) (nfc (by omega) (nfc (by omega) nf0))))).trans ((k_211 _ (by decide)).trans hg))))) (hk_300) (((JR.fI q_285 (by decide) (by decide) (nfc (by omega) (nfc (by omega) (nfc (by omega) nf0)))).trans (KA (s := 14) (x := .int (nI (a_224 + 1))) e_234 rfl (by decide) e_284 k_284 ((JR.fI q_212 (by decide) (by decide) (nfc (by omega) (nfc (by omega) (nfc (by omega) nf0)))).trans ((congrArg (fun z => fI z 36) e_211).trans rfl))))))
                exact ⟨rfl, ⟨rfl, ⟨rfl, ⟨rfl, trivial⟩⟩⟩⟩
            · skip
              refine aw_iload_n dX12_readsDread_81 rfl ?_
              refine aw_bipush (v := 45) dX12_readsDread_82 (by decide) ?_
              refine aw_icmp_eq (tgt := 97) dX12_readsDread_84 (by decide) (fun c_333 => ?_) (fun c_333 => ?_)
              · skip
                have hlc_333 := hd_lit c_333 (by decide)
                refine aw_aload_n dX12_readsDread_97 rfl ?_
                refine aw_aload_n dX12_readsDread_98 rfl ?_
                refine aw_get dX12_readsDread_99 fl_X12_159 e_234 (by omega) rfl ?_
                refine aw_eqi (y := (nI a_224)) ((Eq.symm (congrArg (fun z => fI z 14) e_234)).trans hk_227) ?_
                refine aw_iconst (v := 1) dX12_readsDread_102 (by decide) ?_
                refine aw_iadd dX12_readsDread_103 ?_
                refine aw_eqi (y := nI (a_224 + 1)) (nI_add _ _) ?_
                refine aw_put dX12_readsDread_104 fp_X12_159 e_234 (by omega) rfl rfl (Nat.le_of_ble_eq_true rfl) rfl ?_
                refine aw_upR j_215 cm_100 ⟨_, _, _, _, _, _, _, _, _, _, _, _, tad_234, (a_224 + 1), le0_234, nu0_234, coy_234, wag_234, say_234, rfl, by omega, by omega, by omega, by omega, by omega, by omega, by omega⟩ (by decide) (WO (s := 14) (x := .int (nI (a_224 + 1))) e_234 rfl (LMs (LMs (LMs LM0))) (by decide) (by decide) (by decide) (Or.inl (by decide))) (fun V_334 j_334 k_334 e_334 => ?_)
                refine aw_aload_n dX12_readsDread_107 rfl ?_
                refine aw_callVi (J' := jX12_readsAmount) (As := []) (st := []) dX12_readsDread_108 tb_1318 ok_X12_readsAmount ⟨_, e_334⟩ (by omega) rfl rfl (r_readsAmountS l D b N V_334 hN cl j_334.1 g ((k_334 _ (by decide)).trans ((JR.same q_212 (by decide) (by decide) (fun k => (nfc (by omega) (nfc (by omega) (nfc (by omega) nf0))))).trans ((k_211 _ (by decide)).trans hg))) n (a_224 + 1) ⟨by omega, by omega⟩ (KA (s := 14) (x := .int (nI (a_224 + 1))) e_234 rfl (by decide) e_334 k_334 ((JR.fI q_212 (by decide) (by decide) (nfc (by omega) (nfc (by omega) (nfc (by omega) nf0)))).trans (KA (s := 36) (x := .int (nI (L + 1))) e_3 rfl (by decide) e_211 k_211 hE))) ((congrArg (fun z => fI z 14) e_334).trans rfl)) rfl (Nat.le_of_ble_eq_true rfl) ⟨Nat.le_of_ble_eq_true rfl, Nat.le_of_ble_eq_true rfl, Nat.le_of_ble_eq_true rfl, Nat.le_of_ble_eq_true rfl⟩ (fun r_340 N_341 V_339 q_342 => ?_)
                obtain ⟨⟨z_337, h_336⟩, rfl, q_335⟩ := q_342
                have j_338 := JR.trans j_334 (JR.weak q_335 (Sub.cons (LMs (LMs (LMs (LMs LM0)))) (by decide) (by decide) (by decide) (Or.inr ⟨by decide, by decide⟩) (Sub.cons (LMs (LMs (LMs LM0))) (by decide) (by decide) (by decide) (Or.inr ⟨by decide, by decide⟩) (Sub.cons (LMs (LMs LM0)) (by decide) (by decide) (by decide) (Or.inr ⟨by decide, by decide⟩) Sub.nil))))
                rcases h_336 with ⟨f_343, hx_344, hk_345, e_346⟩ | ⟨a_347, v_348, hx_349, hk_350, hv_351, hb_352, e_353⟩
                · skip
                  refine aw_eqi (y := 0) e_346 ?_
                  refine aw_if_ne (tgt := 116) dX12_readsDread_111 (by decide) (fun c_354 => ?_) (fun c_354 => ?_)
                  · exact absurd rfl c_354
                  refine aw_iconst (v := 0) dX12_readsDread_114 (by decide) ?_
                  refine aw_zreti dX12_readsDread_115 rfl (by first | exact Or.inl rfl | exact Or.inr rfl | assumption) (Nat.le_of_ble_eq_true rfl) (Nat.le_of_ble_eq_true rfl) ?_
                  exact ⟨⟨(by first | exact Or.inl rfl | exact Or.inr rfl | assumption), Or.inl ⟨_, tx_bad ((stD_no c_8).trans hy_205) (lnD_n hx_226 (sgD_t (Or.inr (Or.inr c_333))) hx_344) (by omega), hk_345, rfl⟩⟩, rfl, j_338⟩
                · skip
                  refine aw_eqi (y := 1) e_353 ?_
                  obtain ⟨hb_352a, hb_352b, hb_352c⟩ := hb_352
                  refine aw_if_ne (tgt := 116) dX12_readsDread_111 (by decide) (fun c_355 => ?_) (fun c_355 => ?_)
                  rotate_left
                  · exact absurd c_355 (by decide)
                  refine aw_iconst (v := 0) dX12_readsDread_116 (by decide) ?_
                  refine aw_istore_n (ls' := [some (.ref (b + 100)), some (.int (nI i0)), some (.int (hd (gb g) n a_224)), some (.int 0), none]) dX12_readsDread_117 (Nat.le_of_ble_eq_true rfl) rfl ?_
                  obtain ⟨ftoldPeople_356, ftoldDoors_356, fwasDoors_356, ffault_356, fopen_356, flines_356, fmeantSet_356, fopenedNow_356, fvainNow_356, flowNow_356, fhighNow_356, fisKept_356, tad_356, pl0_356, le0_356, nu0_356, coy_356, wag_356, say_356, e_356, hntad_356, hnpl0_356, hnle0_356, hnnu0_356, hncoy_356, hnwag_356, hnsay_356⟩ := JR.get j_338 cm_100
                  have loop_118_356 : ∀ (g_118 : Nat), ∀ (j118 : Nat)  (V118 : Wd), j118 + g_118 = 16 → (JR D b N cl [(100, 100, 36, 36), (100, 100, 37, 37), (100, 100, 16, 16), (100, 100, 14, 14), (100, 100, 17, 17), (101, 101, 0, 191)] V V118) → (V118 100 = cO 11 [.ref (b + 101), .ref (b + 102), .ref (b + 103), .ref (b + 104), .ref (b + 105), .ref (b + 106), .ref (b + 107), .ref (b + 108), .ref (b + 109), .int ftoldPeople_356, .int ftoldDoors_356, .int fwasDoors_356, .ref (b + 110), .int (nI tad_356), .int (nI pl0_356), .int (nI le0_356), .int ffault_356, .int (nI nu0_356), .int fopen_356, .int (nI coy_356), .int (nI wag_356), .int (nI say_356), .int (nI cl), .ref (b + 111), .ref (b + 112), .ref (b + 113), .ref (b + 114), .ref (b + 115), .ref (b + 116), .ref (b + 117), .ref (b + 118), .ref (b + 119), .ref (b + 120), .ref (b + 121), .ref (b + 122), .ref (b + 123), .int flines_356, .int fmeantSet_356, .int fopenedNow_356, .int fvainNow_356, .ref (b + 124), .ref (b + 125), .ref (b + 126), .ref (b + 127), .ref (b + 128), .int flowNow_356, .int fhighNow_356, .ref (b + 129), .ref (b + 130), .ref (b + 131), .ref (b + 132), .int fisKept_356]) → (V118 110 = cB D 260 g) → (fI (V118 100) 14 = (nI a_347)) → (fI (V118 100) 36 = (nI (L + 1))) → AW l D b jX12_readsDread (fx_rm 3 0 0) none (fx_MQ D b 0 0 (fx_qi (fun r N9 V9 => ((r = 0 ∨ r = 1) ∧ ((∃ f, txD (gb g) n (20 - L) a = .inl f ∧ fI (V9 100) 16 = f ∧ r = 0) ∨ (∃ a9, stD (hd (gb g) n a) = true ∧ L < 20 ∧ lnD (gb g) n a = .inr (a9, ()) ∧ fI (V9 100) 14 = nI a9 ∧ fI (V9 100) 36 = nI (L + 1) ∧ (a < a9 ∧ a9 ≤ n) ∧ r = 1))) ∧ N = N9 ∧ JR D b N cl [(100, 100, 36, 36), (100, 100, 37, 37), (100, 100, 16, 16), (100, 100, 14, 14), (100, 100, 17, 17), (101, 101, 0, 191)] V V9))) 118 [some (.ref (b + 100)), some (.int (nI i0)), some (.int (hd (gb g) n a_224)), some (.int (nI j118)), none] [] N V118 0 0 := by
                    intro g_118
                    induction g_118 with
                    | zero =>
                      intro j118  V118 hj118 i118_0 i118_1 i118_2 i118_3 i118_4
                      obtain rfl : j118 = 16 := by omega
                      refine aw_iload_n dX12_readsDread_118 rfl ?_
                      refine aw_bipush (v := 16) dX12_readsDread_119 (by decide) ?_
                      refine aw_icmp_ge (tgt := 203) dX12_readsDread_121 (by decide) (fun c_359 => ?_) (fun c_359 => ?_)
                      rotate_left
                      · exact absurd (nI_le (a := 16) (b := 16) (Nat.le_refl _) (by omega)) c_359
                      refine aw_iconst (v := 1) dX12_readsDread_203 (by decide) ?_
                      refine aw_zreti dX12_readsDread_204 rfl (by first | exact Or.inl rfl | exact Or.inr rfl | assumption) (Nat.le_of_ble_eq_true rfl) (Nat.le_of_ble_eq_true rfl) ?_
                      exact ⟨⟨(by first | exact Or.inl rfl | exact Or.inr rfl | assumption), Or.inr ⟨_, ((stD_no c_8).trans hy_205), by omega, lnD_ok hx_226 (sgD_t (Or.inr (Or.inr c_333))) hx_349, i118_3, i118_4, ⟨by omega, by omega⟩, rfl⟩⟩, rfl, i118_0⟩
                    | succ g_118 ih_118_357 =>
                      intro j118  V118 hj118 i118_0 i118_1 i118_2 i118_3 i118_4
                      have hlj118 : j118 < 16 := by omega
                      refine aw_iload_n dX12_readsDread_118 rfl ?_
                      refine aw_bipush (v := 16) dX12_readsDread_119 (by decide) ?_
                      refine aw_icmp_ge (tgt := 203) dX12_readsDread_121 (by decide) (fun c_360 => ?_) (fun c_360 => ?_)
                      · exact absurd c_360 (nI_ge (a := j118) (b := 16) (by omega) (by omega))
                      refine aw_aload_n dX12_readsDread_124 rfl ?_
                      refine aw_get dX12_readsDread_125 fl_X12_262 i118_1 (by omega) rfl ?_
                      refine aw_iload_n dX12_readsDread_128 rfl ?_
                      refine aw_callSi (J' := jX12_has) (As := [.int fmeantSet_356, .int (nI j118)]) (st := []) dX12_readsDread_129 tb_1315 ok_X12_has rfl (r_hasS l D b N V118 hN cl i118_0.1 fmeantSet_356 (nI j118)) rfl (Nat.le_of_ble_eq_true rfl) ⟨Nat.le_of_ble_eq_true rfl, Nat.le_of_ble_eq_true rfl, Nat.le_of_ble_eq_true rfl, Nat.le_of_ble_eq_true rfl⟩ (fun r_364 N_365 V_366 q_367 => ?_)
                      obtain ⟨⟨z_363, h_362⟩, rfl, rfl⟩ := q_367
                      rcases h_362 with ⟨hy_368, e_369⟩ | ⟨hn_370, e_371⟩
                      · skip
                        refine aw_eqi (y := 1) e_369 ?_
                        refine aw_if_ne (tgt := 138) dX12_readsDread_132 (by decide) (fun c_372 => ?_) (fun c_372 => ?_)
                        rotate_left
                        · exact absurd c_372 (by decide)
                        refine aw_iconst (v := 0) dX12_readsDread_138 (by decide) ?_
                        refine aw_bipush (v := 16) dX12_readsDread_139 (by decide) ?_
                        refine aw_iload_n dX12_readsDread_141 rfl ?_
                        refine aw_imul dX12_readsDread_142 ?_
                        refine aw_eqi (y := nI (16 * i0)) (pk_mul _ _) ?_
                        refine aw_iadd dX12_readsDread_143 ?_
                        refine aw_eqi (y := nI (0 + (16 * i0))) (nI_add _ _) ?_
                        refine aw_iload_n dX12_readsDread_144 rfl ?_
                        refine aw_iadd dX12_readsDread_145 ?_
                        refine aw_eqi (y := nI ((0 + (16 * i0)) + j118)) (nI_add _ _) ?_
                        refine aw_istore (ls' := [some (.ref (b + 100)), some (.int (nI i0)), some (.int (hd (gb g) n a_224)), some (.int (nI j118)), some (.int (nI ((0 + (16 * i0)) + j118)))]) dX12_readsDread_146 (Nat.le_of_ble_eq_true rfl) rfl ?_
                        refine aw_aload_n dX12_readsDread_148 rfl ?_
                        refine aw_get dX12_readsDread_149 fl_X12_7 i118_1 (by omega) rfl ?_
                        refine aw_iload dX12_readsDread_152 rfl ?_
                        refine aw_iload_n dX12_readsDread_154 rfl ?_
                        refine aw_bipush (v := 61) dX12_readsDread_155 (by decide) ?_
                        refine aw_icmp_ne (tgt := 167) dX12_readsDread_157 (by decide) (fun c_373 => ?_) (fun c_373 => ?_)
                        rotate_left
                        · first | exact absurd c_239 c_373 | exact absurd c_373 c_239
                        refine aw_aload_n dX12_readsDread_167 rfl ?_
                        refine aw_get dX12_readsDread_168 fl_X12_7 i118_1 (by omega) rfl ?_
                        refine aw_iload dX12_readsDread_171 rfl ?_
                        obtain ⟨g_374, e_374⟩ := JR.get i118_0 cm_101
                        refine aw_iald (v := (g_374 ((0 + (16 * i0)) + j118))) dX12_readsDread_173 e_374 (by omega) (vp_in_nI (n := ((0 + (16 * i0)) + j118)) (by omega) (by omega)) (congrArg g_374 (nI_clamp (n := ((0 + (16 * i0)) + j118)) (by omega))) ?_
                        refine aw_iload_n dX12_readsDread_174 rfl ?_
                        refine aw_bipush (v := 43) dX12_readsDread_175 (by decide) ?_
                        refine aw_icmp_ne (tgt := 187) dX12_readsDread_177 (by decide) (fun c_375 => ?_) (fun c_375 => ?_)
                        rotate_left
                        · first | exact absurd c_283 c_375 | exact absurd c_375 c_283
                        refine aw_aload_n dX12_readsDread_187 rfl ?_
                        refine aw_get dX12_readsDread_188 fl_X12_175 i118_1 (by omega) rfl ?_
                        refine aw_ineg dX12_readsDread_191 ?_
                        refine aw_iadd dX12_readsDread_192 ?_
                        refine aw_callSi (J' := jX12_limit) (As := [.int ((g_374 ((0 + (16 * i0)) + j118)) + (-(nI nu0_356)))]) (st := [.int (nI ((0 + (16 * i0)) + j118)), .ref (b + 101)]) dX12_readsDread_193 tb_1322 ok_X12_limit rfl (r_limit l D b N V118 hN cl i118_0.1 ((g_374 ((0 + (16 * i0)) + j118)) + (-(nI nu0_356)))) rfl (Nat.le_of_ble_eq_true rfl) ⟨Nat.le_of_ble_eq_true rfl, Nat.le_of_ble_eq_true rfl, Nat.le_of_ble_eq_true rfl, Nat.le_of_ble_eq_true rfl⟩ (fun r_377 N_378 V_379 q_380 => ?_)
                        obtain ⟨rfl, rfl⟩ := q_380
                        refine aw_iast dX12_readsDread_196 e_374 (by omega) (vp_in_nI (n := ((0 + (16 * i0)) + j118)) (by omega) (by omega)) ?_
                        refine aw_upR i118_0 cm_101 ⟨_, rfl⟩ (by decide) (WE e_374 (LMs (LMs (LMs (LMs (LMs LM0))))) (by decide) (by decide) (by rw [nI_clamp (n := ((0 + (16 * i0)) + j118)) (by omega)]; omega) (by rw [nI_clamp (n := ((0 + (16 * i0)) + j118)) (by omega)]; omega)) (fun V_381 j_381 k_381 e_381 => ?_)
                        refine aw_iinc (v := (nI (j118 + 1))) (ls' := [some (.ref (b + 100)), some (.int (nI i0)), some (.int (hd (gb g) n a_224)), some (.int (nI (j118 + 1))), some (.int (nI ((0 + (16 * i0)) + j118)))]) dX12_readsDread_197 rfl (fx_up_1 _) (Nat.le_of_ble_eq_true rfl) rfl ?_
                        refine aw_goto (tgt := 118) dX12_readsDread_200 (by decide) ?_
                        refine aw_le ?_ (ih_118_357 (j118 + 1)  V_381 (by omega) (j_381) (((k_381 _ (by decide)).trans i118_1)) (((k_381 _ (by decide)).trans i118_2)) (((congrArg (fun z => fI z 14) (k_381 _ (by omega))).trans i118_3)) (((congrArg (fun z => fI z 36) (k_381 _ (by omega))).trans i118_4)))
                        exact ⟨rfl, ⟨rfl, ⟨rfl, ⟨rfl, trivial⟩⟩⟩⟩
                      · skip
                        refine aw_eqi (y := 0) e_371 ?_
                        refine aw_if_ne (tgt := 138) dX12_readsDread_132 (by decide) (fun c_382 => ?_) (fun c_382 => ?_)
                        · exact absurd rfl c_382
                        refine aw_goto (tgt := 197) dX12_readsDread_135 (by decide) ?_
                        refine aw_iinc (v := (nI (j118 + 1))) (ls' := [some (.ref (b + 100)), some (.int (nI i0)), some (.int (hd (gb g) n a_224)), some (.int (nI (j118 + 1))), none]) dX12_readsDread_197 rfl (fx_up_1 _) (Nat.le_of_ble_eq_true rfl) rfl ?_
                        refine aw_goto (tgt := 118) dX12_readsDread_200 (by decide) ?_
                        refine aw_le ?_ (ih_118_357 (j118 + 1)  V118 (by omega) (i118_0) (i118_1) (i118_2) (i118_3) (i118_4))
                        exact ⟨rfl, ⟨rfl, ⟨rfl, ⟨rfl, trivial⟩⟩⟩⟩
                  refine aw_le ?_ (loop_118_356 16 0  V_339 (by omega) (j_338) (e_356) (((JR.same q_335 (by decide) (by decide) (fun k => (nfc (by omega) (nfc (by omega) (nfc (by omega) nf0))))).trans ((k_334 _ (by decide)).trans ((JR.same q_212 (by decide) (by decide) (fun k => (nfc (by omega) (nfc (by omega) (nfc (by omega) nf0))))).trans ((k_211 _ (by decide)).trans hg))))) (hk_350) (((JR.fI q_335 (by decide) (by decide) (nfc (by omega) (nfc (by omega) (nfc (by omega) nf0)))).trans (KA (s := 14) (x := .int (nI (a_224 + 1))) e_234 rfl (by decide) e_334 k_334 ((JR.fI q_212 (by decide) (by decide) (nfc (by omega) (nfc (by omega) (nfc (by omega) nf0)))).trans ((congrArg (fun z => fI z 36) e_211).trans rfl))))))
                  exact ⟨rfl, ⟨rfl, ⟨rfl, ⟨rfl, trivial⟩⟩⟩⟩
              · skip
                refine aw_aload_n dX12_readsDread_87 rfl ?_
                refine aw_iconst (v := 1) dX12_readsDread_88 (by decide) ?_
                refine aw_aload_n dX12_readsDread_89 rfl ?_
                refine aw_get dX12_readsDread_90 fl_X12_159 e_234 (by omega) rfl ?_
                refine aw_eqi (y := (nI a_224)) ((Eq.symm (congrArg (fun z => fI z 14) e_234)).trans hk_227) ?_
                refine aw_callVi (J' := jX12_wrongAt) (As := [.int 1, .int (nI a_224)]) (st := []) dX12_readsDread_93 tb_1224 ok_X12_wrongAt ⟨_, e_234⟩ (by omega) rfl rfl (r_wrongAtS l D b N V_216 hN cl j_215.1 1 (nI a_224)) rfl (Nat.le_of_ble_eq_true rfl) ⟨Nat.le_of_ble_eq_true rfl, Nat.le_of_ble_eq_true rfl, Nat.le_of_ble_eq_true rfl, Nat.le_of_ble_eq_true rfl⟩ (fun r_388 N_389 V_387 q_390 => ?_)
                obtain ⟨⟨z_385, h_384⟩, rfl, q_383⟩ := q_390
                have j_386 := JR.trans j_215 (JR.weak q_383 (Sub.cons (LMs (LMs LM0)) (by decide) (by decide) (by decide) (Or.inr ⟨by decide, by decide⟩) Sub.nil))
                obtain ⟨rfl, h_384f⟩ := h_384
                refine aw_zreti dX12_readsDread_96 rfl (by first | exact Or.inl rfl | exact Or.inr rfl | assumption) (Nat.le_of_ble_eq_true rfl) (Nat.le_of_ble_eq_true rfl) ?_
                exact ⟨⟨(by first | exact Or.inl rfl | exact Or.inr rfl | assumption), Or.inl ⟨_, tx_bad ((stD_no c_8).trans hy_205) (lnD_s hx_226 (sgD_f c_239 c_283 c_333)) (by omega), h_384f, rfl⟩⟩, rfl, j_386⟩
      · skip
        have nc_210 : L = 20 := (nI_eq (a := L) (b := 20) (by omega) (by omega)).mp c_210
        refine aw_aload_n dX12_readsDread_35 rfl ?_
        refine aw_iconst (v := 4) dX12_readsDread_36 (by decide) ?_
        refine aw_aload_n dX12_readsDread_37 rfl ?_
        refine aw_get dX12_readsDread_38 fl_X12_159 e_3 (by omega) rfl ?_
        refine aw_eqi (y := (nI a)) ((Eq.symm (congrArg (fun z => fI z 14) e_3)).trans hA) ?_
        refine aw_callVi (J' := jX12_wrongAt) (As := [.int 4, .int (nI a)]) (st := []) dX12_readsDread_41 tb_1224 ok_X12_wrongAt ⟨_, e_3⟩ (by omega) rfl rfl (r_wrongAtS l D b N V hN cl hJ0.1 4 (nI a)) rfl (Nat.le_of_ble_eq_true rfl) ⟨Nat.le_of_ble_eq_true rfl, Nat.le_of_ble_eq_true rfl, Nat.le_of_ble_eq_true rfl, Nat.le_of_ble_eq_true rfl⟩ (fun r_396 N_397 V_395 q_398 => ?_)
        obtain ⟨⟨z_393, h_392⟩, rfl, q_391⟩ := q_398
        have j_394 := JR.trans hJ0 (JR.weak q_391 (Sub.cons (LMs (LMs LM0)) (by decide) (by decide) (by decide) (Or.inr ⟨by decide, by decide⟩) Sub.nil))
        obtain ⟨rfl, h_392f⟩ := h_392
        refine aw_zreti dX12_readsDread_44 rfl (by first | exact Or.inl rfl | exact Or.inr rfl | assumption) (Nat.le_of_ble_eq_true rfl) (Nat.le_of_ble_eq_true rfl) ?_
        exact ⟨⟨(by first | exact Or.inl rfl | exact Or.inr rfl | assumption), Or.inl ⟨_, (congrArg (fun q => txD (gb g) n q a) (by omega : 20 - L = 0)).trans (tx_many ((stD_no c_8).trans hy_205)), h_392f, rfl⟩⟩, rfl, j_394⟩
    · skip
      refine aw_eqi (y := 0) e_208 ?_
      refine aw_if_ne (tgt := 26) dX12_readsDread_13 (by decide) (fun c_399 => ?_) (fun c_399 => ?_)
      · exact absurd rfl c_399
      refine aw_aload_n dX12_readsDread_16 rfl ?_
      refine aw_iconst (v := 1) dX12_readsDread_17 (by decide) ?_
      refine aw_aload_n dX12_readsDread_18 rfl ?_
      refine aw_get dX12_readsDread_19 fl_X12_159 e_3 (by omega) rfl ?_
      refine aw_eqi (y := (nI a)) ((Eq.symm (congrArg (fun z => fI z 14) e_3)).trans hA) ?_
      refine aw_callVi (J' := jX12_wrongAt) (As := [.int 1, .int (nI a)]) (st := []) dX12_readsDread_22 tb_1224 ok_X12_wrongAt ⟨_, e_3⟩ (by omega) rfl rfl (r_wrongAtS l D b N V hN cl hJ0.1 1 (nI a)) rfl (Nat.le_of_ble_eq_true rfl) ⟨Nat.le_of_ble_eq_true rfl, Nat.le_of_ble_eq_true rfl, Nat.le_of_ble_eq_true rfl, Nat.le_of_ble_eq_true rfl⟩ (fun r_405 N_406 V_404 q_407 => ?_)
      obtain ⟨⟨z_402, h_401⟩, rfl, q_400⟩ := q_407
      have j_403 := JR.trans hJ0 (JR.weak q_400 (Sub.cons (LMs (LMs LM0)) (by decide) (by decide) (by decide) (Or.inr ⟨by decide, by decide⟩) Sub.nil))
      obtain ⟨rfl, h_401f⟩ := h_401
      refine aw_zreti dX12_readsDread_25 rfl (by first | exact Or.inl rfl | exact Or.inr rfl | assumption) (Nat.le_of_ble_eq_true rfl) (Nat.le_of_ble_eq_true rfl) ?_
      exact ⟨⟨(by first | exact Or.inl rfl | exact Or.inr rfl | assumption), Or.inl ⟨_, tx_st ((stD_no c_8).trans hn_207), h_401f, rfl⟩⟩, rfl, j_403⟩

set_option maxHeartbeats 4000000 in
set_option maxRecDepth 100000 in
theorem r_beginsTextS (l : Launch) (D : va_G) (b : Nat) (N : Nat) (V : Wd) (hN : 133 ≤ N) (cl : Nat) (hW : CR D b cl V) (n0 : Int32) (hn0 : ∃ j : Nat, j < 241 ∧ n0 = nI j)  : MV l D b 0 jX12_beginsText [.ref (b + 100), .int n0] N V 0 0 (fun N9 V9 => (fI (V9 100) 14 = nI 0 ∧ fI (V9 100) 15 = n0) ∧ N = N9 ∧ JR D b N cl [(100, 100, 14, 14), (100, 100, 15, 15), (100, 100, 19, 19), (100, 100, 21, 21)] V V9) := by
  have hJ0 : JR D b N cl [(100, 100, 14, 14), (100, 100, 15, 15), (100, 100, 19, 19), (100, 100, 21, 21)] V V := JR.rf hW
  obtain ⟨i0, hi0, rfl⟩ := hn0
  refine mw_of (by decide) (by simp [Value.category]) (Nat.le_of_ble_eq_true rfl) ?_
  show AW l D b jX12_beginsText (fx_rm 0 0 0) none (fx_MQ D b 0 0 (fx_qv (fun N9 V9 => (fI (V9 100) 14 = nI 0 ∧ fI (V9 100) 15 = (nI i0)) ∧ N = N9 ∧ JR D b N cl [(100, 100, 14, 14), (100, 100, 15, 15), (100, 100, 19, 19), (100, 100, 21, 21)] V V9))) 0 [some (.ref (b + 100)), some (.int (nI i0))] [] N V 0 0
  refine aw_aload_n dX12_beginsText_0 rfl ?_
  refine aw_iconst (v := 0) dX12_beginsText_1 (by decide) ?_
  obtain ⟨ftoldPeople_1, ftoldDoors_1, fwasDoors_1, ffault_1, fopen_1, flines_1, fmeantSet_1, fopenedNow_1, fvainNow_1, flowNow_1, fhighNow_1, fisKept_1, tad_1, pl0_1, le0_1, nu0_1, coy_1, wag_1, say_1, e_1, hntad_1, hnpl0_1, hnle0_1, hnnu0_1, hncoy_1, hnwag_1, hnsay_1⟩ := JR.get hJ0 cm_100
  refine aw_put dX12_beginsText_2 fp_X12_159 e_1 (by omega) rfl rfl (Nat.le_of_ble_eq_true rfl) rfl ?_
  refine aw_upR hJ0 cm_100 ⟨_, _, _, _, _, _, _, _, _, _, _, _, tad_1, 0, le0_1, nu0_1, coy_1, wag_1, say_1, rfl, by omega, by omega, by omega, by omega, by omega, by omega, by omega⟩ (by decide) (WO (s := 14) (x := .int 0) e_1 rfl LM0 (by decide) (by decide) (by decide) (Or.inl (by decide))) (fun V_2 j_2 k_2 e_2 => ?_)
  refine aw_aload_n dX12_beginsText_5 rfl ?_
  refine aw_iload_n dX12_beginsText_6 rfl ?_
  refine aw_put dX12_beginsText_7 fp_X12_162 e_2 (by omega) rfl rfl (Nat.le_of_ble_eq_true rfl) rfl ?_
  refine aw_upR j_2 cm_100 ⟨_, _, _, _, _, _, _, _, _, _, _, _, tad_1, 0, i0, nu0_1, coy_1, wag_1, say_1, rfl, by omega, by omega, by omega, by omega, by omega, by omega, by omega⟩ (by decide) (WO (s := 15) (x := .int (nI i0)) e_2 rfl (LMs LM0) (by decide) (by decide) (by decide) (Or.inl (by decide))) (fun V_3 j_3 k_3 e_3 => ?_)
  refine aw_aload_n dX12_beginsText_10 rfl ?_
  refine aw_iconst (v := 0) dX12_beginsText_11 (by decide) ?_
  refine aw_put dX12_beginsText_12 fp_X12_182 e_3 (by omega) rfl rfl (Nat.le_of_ble_eq_true rfl) rfl ?_
  refine aw_upR j_3 cm_100 ⟨_, _, _, _, _, _, _, _, _, _, _, _, tad_1, 0, i0, nu0_1, 0, wag_1, say_1, rfl, by omega, by omega, by omega, by omega, by omega, by omega, by omega⟩ (by decide) (WO (s := 19) (x := .int 0) e_3 rfl (LMs (LMs LM0)) (by decide) (by decide) (by decide) (Or.inl (by decide))) (fun V_4 j_4 k_4 e_4 => ?_)
  refine aw_aload_n dX12_beginsText_15 rfl ?_
  refine aw_iconst (v := 0) dX12_beginsText_16 (by decide) ?_
  refine aw_put dX12_beginsText_17 fp_X12_236 e_4 (by omega) rfl rfl (Nat.le_of_ble_eq_true rfl) rfl ?_
  refine aw_upR j_4 cm_100 ⟨_, _, _, _, _, _, _, _, _, _, _, _, tad_1, 0, i0, nu0_1, 0, wag_1, 0, rfl, by omega, by omega, by omega, by omega, by omega, by omega, by omega⟩ (by decide) (WO (s := 21) (x := .int 0) e_4 rfl (LMs (LMs (LMs LM0))) (by decide) (by decide) (by decide) (Or.inl (by decide))) (fun V_5 j_5 k_5 e_5 => ?_)
  refine aw_vreti dX12_beginsText_20 rfl (Nat.le_of_ble_eq_true rfl) (Nat.le_of_ble_eq_true rfl) ?_
  exact ⟨⟨(KA (s := 21) (x := .int 0) e_4 rfl (by decide) e_5 k_5 (KA (s := 19) (x := .int 0) e_3 rfl (by decide) e_4 k_4 (KA (s := 15) (x := .int (nI i0)) e_2 rfl (by decide) e_3 k_3 ((congrArg (fun z => fI z 14) e_2).trans rfl)))), (KA (s := 21) (x := .int 0) e_4 rfl (by decide) e_5 k_5 (KA (s := 19) (x := .int 0) e_3 rfl (by decide) e_4 k_4 ((congrArg (fun z => fI z 15) e_3).trans rfl)))⟩, rfl, j_5⟩

set_option maxHeartbeats 100000000 in
set_option maxRecDepth 100000 in
theorem r_dreadsS (l : Launch) (D : va_G) (b : Nat) (N : Nat) (V : Wd) (hN : 133 ≤ N) (cl : Nat) (hW : CR D b cl V) (n0 : Int32) (n1 : Int32) (m0 : Int32) (m1 : Int32) (hm : m0 = n0 ∧ m1 = n1) : MI l D b 4 jX12_dreads [.ref (b + 100), .int n0, .int n1] N V 0 0 (fun r N9 V9 => (ANS (cDr m0 m1 (fI (V 100) 13)) r (dreadsA (gb (fI (V 110))) m1) ∧ TKS (cDr m0 m1 (fI (V 100) 13)) (fI (V 100) 13) (fI (V9 100) 13) ∧ fI (V9 101) 208 = fI (V 101) 208) ∧ N = N9 ∧ JR D b N cl [(101, 102, 0, 1000000), (100, 100, 14, 14), (100, 100, 15, 15), (100, 100, 19, 19), (100, 100, 21, 21), (100, 100, 36, 36), (100, 100, 37, 37), (100, 100, 16, 16), (100, 100, 17, 17), (100, 100, 13, 13), (100, 100, 9, 9)] V V9) := by
  have hJ0 : JR D b N cl [(101, 102, 0, 1000000), (100, 100, 14, 14), (100, 100, 15, 15), (100, 100, 19, 19), (100, 100, 21, 21), (100, 100, 36, 36), (100, 100, 37, 37), (100, 100, 16, 16), (100, 100, 17, 17), (100, 100, 13, 13), (100, 100, 9, 9)] V V := JR.rf hW
  refine mw_of (by decide) (by simp [Value.category]) (Nat.le_of_ble_eq_true rfl) ?_
  show AW l D b jX12_dreads (fx_rm 4 0 0) none (fx_MQ D b 0 0 (fx_qi (fun r N9 V9 => (ANS (cDr m0 m1 (fI (V 100) 13)) r (dreadsA (gb (fI (V 110))) m1) ∧ TKS (cDr m0 m1 (fI (V 100) 13)) (fI (V 100) 13) (fI (V9 100) 13) ∧ fI (V9 101) 208 = fI (V 101) 208) ∧ N = N9 ∧ JR D b N cl [(101, 102, 0, 1000000), (100, 100, 14, 14), (100, 100, 15, 15), (100, 100, 19, 19), (100, 100, 21, 21), (100, 100, 36, 36), (100, 100, 37, 37), (100, 100, 16, 16), (100, 100, 17, 17), (100, 100, 13, 13), (100, 100, 9, 9)] V V9))) 0 [some (.ref (b + 100)), some (.int n0), some (.int n1), none] [] N V 0 0
  obtain ⟨ftoldPeople_1, ftoldDoors_1, fwasDoors_1, ffault_1, fopen_1, flines_1, fmeantSet_1, fopenedNow_1, fvainNow_1, flowNow_1, fhighNow_1, fisKept_1, tad_1, pl0_1, le0_1, nu0_1, coy_1, wag_1, say_1, e_1, hntad_1, hnpl0_1, hnle0_1, hnnu0_1, hncoy_1, hnwag_1, hnsay_1⟩ := JR.get hJ0 cm_100
  have hta0 : fI (V 100) 13 = nI tad_1 := ((congrArg (fun z => fI z 13) e_1).trans rfl)
  obtain ⟨g_2, e_2⟩ := JR.get hJ0 cm_110
  refine aw_iload_n dX12_dreads_0 rfl ?_
  refine aw_iconst (v := 0) dX12_dreads_1 (by decide) ?_
  refine aw_bipush (v := 11) dX12_dreads_2 (by decide) ?_
  refine aw_callSi (J' := jX12_in) (As := [.int n0, .int 0, .int 11]) (st := []) dX12_dreads_4 tb_1209 ok_X12_in rfl (r_inK l D b N V hN cl hJ0.1 n0 0 11) rfl (Nat.le_of_ble_eq_true rfl) ⟨Nat.le_of_ble_eq_true rfl, Nat.le_of_ble_eq_true rfl, Nat.le_of_ble_eq_true rfl, Nat.le_of_ble_eq_true rfl⟩ (fun r_8 N_9 V_10 q_11 => ?_)
  obtain ⟨⟨z_5, h_4⟩, rfl, rfl⟩ := q_11
  obtain ⟨hi_6, hi_7⟩ := h_4
  refine aw_if_eq (tgt := 28) dX12_dreads_7 (by decide) (fun c_12 => ?_) (fun c_12 => ?_)
  · skip
    refine aw_iconst (v := (-1)) dX12_dreads_28 (by decide) ?_
    refine aw_ireti dX12_dreads_29 rfl (Nat.le_of_ble_eq_true rfl) (Nat.le_of_ble_eq_true rfl) ?_
    exact ⟨⟨Or.inr ⟨(by have zhi_7 := hi_7 c_12; have zt := fx_nIt (n := tad_1) (by omega); have e0 : (0 : Int32).toInt = 0 := (by decide); have e1 : (1 : Int32).toInt = 1 := (by decide); have e11 : (11 : Int32).toInt = 11 := (by decide); have e120 : (120 : Int32).toInt = 120 := (by decide); have q0 := zhi_7; have q1 := hm.1; have q2 := hm.2; have q3 := hta0; simp only [cDr, ← Int32.toInt_inj, Int32.le_iff_toInt_le, Int32.lt_iff_toInt_lt] at q0 q1 q2 q3 ⊢; omega), rfl⟩, Or.inr ⟨(by have zhi_7 := hi_7 c_12; have zt := fx_nIt (n := tad_1) (by omega); have e0 : (0 : Int32).toInt = 0 := (by decide); have e1 : (1 : Int32).toInt = 1 := (by decide); have e11 : (11 : Int32).toInt = 11 := (by decide); have e120 : (120 : Int32).toInt = 120 := (by decide); have q0 := zhi_7; have q1 := hm.1; have q2 := hm.2; have q3 := hta0; simp only [cDr, ← Int32.toInt_inj, Int32.le_iff_toInt_le, Int32.lt_iff_toInt_lt] at q0 q1 q2 q3 ⊢; omega), hta0.trans hta0.symm⟩, (Eq.refl (fI (V 101) 208))⟩, rfl, hJ0⟩
  · skip
    obtain ⟨zn0, h0zn0, hzn0, rfl⟩ := in_nat (a := 0) (b := 11) (by decide) (hi_6.resolve_left c_12)
    refine aw_iload_n dX12_dreads_10 rfl ?_
    refine aw_iconst (v := 1) dX12_dreads_11 (by decide) ?_
    refine aw_bipush (v := 120) dX12_dreads_12 (by decide) ?_
    refine aw_callSi (J' := jX12_in) (As := [.int n1, .int 1, .int 120]) (st := []) dX12_dreads_14 tb_1209 ok_X12_in rfl (r_inK l D b N V hN cl hJ0.1 n1 1 120) rfl (Nat.le_of_ble_eq_true rfl) ⟨Nat.le_of_ble_eq_true rfl, Nat.le_of_ble_eq_true rfl, Nat.le_of_ble_eq_true rfl, Nat.le_of_ble_eq_true rfl⟩ (fun r_18 N_19 V_20 q_21 => ?_)
    obtain ⟨⟨z_15, h_14⟩, rfl, rfl⟩ := q_21
    obtain ⟨hi_16, hi_17⟩ := h_14
    refine aw_if_eq (tgt := 28) dX12_dreads_17 (by decide) (fun c_22 => ?_) (fun c_22 => ?_)
    · skip
      refine aw_iconst (v := (-1)) dX12_dreads_28 (by decide) ?_
      refine aw_ireti dX12_dreads_29 rfl (Nat.le_of_ble_eq_true rfl) (Nat.le_of_ble_eq_true rfl) ?_
      exact ⟨⟨Or.inr ⟨(by have zhi_17 := hi_17 c_22; have zhi_6 := hi_6.resolve_left c_12; have zzzn0 := fx_nIt (n := zn0) (by omega); have zt := fx_nIt (n := tad_1) (by omega); have e0 : (0 : Int32).toInt = 0 := (by decide); have e1 : (1 : Int32).toInt = 1 := (by decide); have e11 : (11 : Int32).toInt = 11 := (by decide); have e120 : (120 : Int32).toInt = 120 := (by decide); have q0 := zhi_17; have q1 := zhi_6; have q2 := hm.1; have q3 := hm.2; have q4 := hta0; simp only [cDr, ← Int32.toInt_inj, Int32.le_iff_toInt_le, Int32.lt_iff_toInt_lt] at q0 q1 q2 q3 q4 ⊢; omega), rfl⟩, Or.inr ⟨(by have zhi_17 := hi_17 c_22; have zhi_6 := hi_6.resolve_left c_12; have zzzn0 := fx_nIt (n := zn0) (by omega); have zt := fx_nIt (n := tad_1) (by omega); have e0 : (0 : Int32).toInt = 0 := (by decide); have e1 : (1 : Int32).toInt = 1 := (by decide); have e11 : (11 : Int32).toInt = 11 := (by decide); have e120 : (120 : Int32).toInt = 120 := (by decide); have q0 := zhi_17; have q1 := zhi_6; have q2 := hm.1; have q3 := hm.2; have q4 := hta0; simp only [cDr, ← Int32.toInt_inj, Int32.le_iff_toInt_le, Int32.lt_iff_toInt_lt] at q0 q1 q2 q3 q4 ⊢; omega), hta0.trans hta0.symm⟩, (Eq.refl (fI (V 101) 208))⟩, rfl, hJ0⟩
    · skip
      obtain ⟨zn1, h0zn1, hzn1, rfl⟩ := in_nat (a := 1) (b := 120) (by decide) (hi_16.resolve_left c_22)
      refine aw_iload_n dX12_dreads_20 rfl ?_
      refine aw_aload_n dX12_dreads_21 rfl ?_
      refine aw_get dX12_dreads_22 fl_X12_152 e_1 (by omega) rfl ?_
      refine aw_icmp_le (tgt := 30) dX12_dreads_25 (by decide) (fun c_23 => ?_) (fun c_23 => ?_)
      · skip
        have nc_23 : zn1 ≤ tad_1 := (nI_leI (a := zn1) (b := tad_1) (by omega) (by omega)).mp c_23
        refine aw_aload_n dX12_dreads_30 rfl ?_
        refine aw_iload_n dX12_dreads_31 rfl ?_
        refine aw_callVv (J' := jX12_beginsText) (As := [.int (nI zn1)]) (st := []) dX12_dreads_32 tb_1212 ok_X12_beginsText ⟨_, e_1⟩ (by omega) rfl rfl (r_beginsTextS l D b N V hN cl hJ0.1 (nI zn1) ⟨zn1, by omega, rfl⟩) rfl (Nat.le_of_ble_eq_true rfl) ⟨Nat.le_of_ble_eq_true rfl, Nat.le_of_ble_eq_true rfl, Nat.le_of_ble_eq_true rfl, Nat.le_of_ble_eq_true rfl⟩ (fun  N_29 V_27 q_30 => ?_)
        obtain ⟨h_25, rfl, q_24⟩ := q_30
        have j_26 := JR.trans hJ0 (JR.weak q_24 (Sub.cons (LMs LM0) (by decide) (by decide) (by decide) (Or.inr ⟨by decide, by decide⟩) (Sub.cons (LMs (LMs LM0)) (by decide) (by decide) (by decide) (Or.inr ⟨by decide, by decide⟩) (Sub.cons (LMs (LMs (LMs LM0))) (by decide) (by decide) (by decide) (Or.inr ⟨by decide, by decide⟩) (Sub.cons (LMs (LMs (LMs (LMs LM0)))) (by decide) (by decide) (by decide) (Or.inr ⟨by decide, by decide⟩) Sub.nil)))))
        obtain ⟨hb_28a, hb_28b⟩ := h_25
        refine aw_aload_n dX12_dreads_35 rfl ?_
        refine aw_iconst (v := 0) dX12_dreads_36 (by decide) ?_
        obtain ⟨ftoldPeople_31, ftoldDoors_31, fwasDoors_31, ffault_31, fopen_31, flines_31, fmeantSet_31, fopenedNow_31, fvainNow_31, flowNow_31, fhighNow_31, fisKept_31, tad_31, pl0_31, le0_31, nu0_31, coy_31, wag_31, say_31, e_31, hntad_31, hnpl0_31, hnle0_31, hnnu0_31, hncoy_31, hnwag_31, hnsay_31⟩ := JR.get j_26 cm_100
        refine aw_put dX12_dreads_37 fp_X12_268 e_31 (by omega) rfl rfl (Nat.le_of_ble_eq_true rfl) rfl ?_
        refine aw_upR j_26 cm_100 ⟨_, _, _, _, _, _, _, _, _, _, _, _, tad_31, pl0_31, le0_31, nu0_31, coy_31, wag_31, say_31, rfl, by omega, by omega, by omega, by omega, by omega, by omega, by omega⟩ (by decide) (WO (s := 36) (x := .int 0) e_31 rfl (LMs (LMs (LMs (LMs (LMs LM0))))) (by decide) (by decide) (by decide) (Or.inl (by decide))) (fun V_32 j_32 k_32 e_32 => ?_)
        refine aw_aload_n dX12_dreads_40 rfl ?_
        refine aw_get dX12_dreads_41 fl_X12_7 e_32 (by omega) rfl ?_
        refine aw_aload_n dX12_dreads_44 rfl ?_
        refine aw_get dX12_dreads_45 fl_X12_13 e_32 (by omega) rfl ?_
        refine aw_callSv (J' := jX12_copies) (As := [.ref (b + 101), .ref (b + 102)]) (st := []) dX12_dreads_48 tb_1299 ok_X12_copies rfl (r_copiesK l D b N V_32 hN cl j_32.1 101 1 cm_101 102 2 cm_102 (by decide) (by decide)) rfl (Nat.le_of_ble_eq_true rfl) ⟨Nat.le_of_ble_eq_true rfl, Nat.le_of_ble_eq_true rfl, Nat.le_of_ble_eq_true rfl, Nat.le_of_ble_eq_true rfl⟩ (fun  N_37 V_36 q_38 => ?_)
        obtain ⟨h_34, rfl, q_33⟩ := q_38
        have j_35 := JR.trans j_32 (JR.weak q_33 (Sub.cons LM0 (by decide) (by decide) (by decide) (Or.inl rfl) Sub.nil))
        refine aw_aload_n dX12_dreads_51 rfl ?_
        refine aw_iload_n dX12_dreads_52 rfl ?_
        obtain ⟨ftoldPeople_44, ftoldDoors_44, fwasDoors_44, ffault_44, fopen_44, flines_44, fmeantSet_44, fopenedNow_44, fvainNow_44, flowNow_44, fhighNow_44, fisKept_44, tad_44, pl0_44, le0_44, nu0_44, coy_44, wag_44, say_44, e_44, hntad_44, hnpl0_44, hnle0_44, hnnu0_44, hncoy_44, hnwag_44, hnsay_44⟩ := JR.get j_35 cm_100
        refine aw_callVi (J' := jX12_readsDread) (As := [.int (nI zn0)]) (st := []) dX12_dreads_53 tb_1302 ok_X12_readsDread ⟨_, e_44⟩ (by omega) rfl rfl (r_readsDreadS l D b N V_36 hN cl j_35.1 (nI zn0) ⟨zn0, by omega, rfl⟩ g_2 ((JR.same q_33 (by decide) (by decide) (fun k => (nfc (by omega) nf0))).trans ((k_32 _ (by decide)).trans ((JR.same q_24 (by decide) (by decide) (fun k => (nfc (by omega) (nfc (by omega) (nfc (by omega) (nfc (by omega) nf0)))))).trans e_2))) zn1 0 ⟨by omega, by omega⟩ ((JR.fI q_33 (by decide) (by decide) (nfc (by omega) nf0)).trans (KA (s := 36) (x := .int 0) e_31 rfl (by decide) e_32 k_32 hb_28b)) ((JR.fI q_33 (by decide) (by decide) (nfc (by omega) nf0)).trans (KA (s := 36) (x := .int 0) e_31 rfl (by decide) e_32 k_32 hb_28a)) 0 ⟨((JR.fI q_33 (by decide) (by decide) (nfc (by omega) nf0)).trans ((congrArg (fun z => fI z 36) e_32).trans rfl)), by omega⟩) rfl (Nat.le_of_ble_eq_true rfl) ⟨Nat.le_of_ble_eq_true rfl, Nat.le_of_ble_eq_true rfl, Nat.le_of_ble_eq_true rfl, Nat.le_of_ble_eq_true rfl⟩ (fun r_45 N_46 V_43 q_47 => ?_)
        obtain ⟨⟨z_41, h_40⟩, rfl, q_39⟩ := q_47
        have j_42 := JR.trans j_35 (JR.weak q_39 (Sub.cons (LMs (LMs (LMs (LMs (LMs LM0))))) (by decide) (by decide) (by decide) (Or.inr ⟨by decide, by decide⟩) (Sub.cons (LMs (LMs (LMs (LMs (LMs (LMs LM0)))))) (by decide) (by decide) (by decide) (Or.inr ⟨by decide, by decide⟩) (Sub.cons (LMs (LMs (LMs (LMs (LMs (LMs (LMs LM0))))))) (by decide) (by decide) (by decide) (Or.inr ⟨by decide, by decide⟩) (Sub.cons (LMs LM0) (by decide) (by decide) (by decide) (Or.inr ⟨by decide, by decide⟩) (Sub.cons (LMs (LMs (LMs (LMs (LMs (LMs (LMs (LMs LM0)))))))) (by decide) (by decide) (by decide) (Or.inr ⟨by decide, by decide⟩) (Sub.cons LM0 (by decide) (by decide) (by decide) (Or.inl rfl) Sub.nil)))))))
        rcases h_40 with ⟨f_48, hx_49, hk_50, e_51⟩ | ⟨a_52, hst_53, hl_54, hx_55, hk_56, hL_57, hb_58, e_59⟩
        · skip
          refine aw_eqi (y := 0) e_51 ?_
          refine aw_istore_n (ls' := [some (.ref (b + 100)), some (.int (nI zn0)), some (.int (nI zn1)), some (.int 0)]) dX12_dreads_56 (Nat.le_of_ble_eq_true rfl) rfl ?_
          have ml_57_60 : ∀ (m : Nat) (a57 : Nat) (L57 : Nat) (v57_3 : Int32) (V57 : Wd), m = 2 * (240 - a57) + (if v57_3 = 0 then 0 else 1) → (JR D b N cl [(101, 102, 0, 1000000), (100, 100, 14, 14), (100, 100, 15, 15), (100, 100, 19, 19), (100, 100, 21, 21), (100, 100, 36, 36), (100, 100, 37, 37), (100, 100, 16, 16), (100, 100, 17, 17), (100, 100, 13, 13), (100, 100, 9, 9)] V V57) → (fI (V57 100) 15 = nI zn1) → (V57 110 = cB D 260 g_2) → ((v57_3 = 0 ∧ txD (gb g_2) zn1 20 0 = .inl (fI (V57 100) 16)) ∨ (v57_3 = 1 ∧ fI (V57 100) 14 = nI a57 ∧ fI (V57 100) 36 = nI L57 ∧ (1 ≤ L57 ∧ L57 ≤ 20 ∧ a57 ≤ zn1) ∧ afD (gb g_2) zn1 (20 - L57) a57 = txD (gb g_2) zn1 20 0)) → (a57 ≤ 240) → (fI (V57 101) 208 = (fI (V 101) 208)) → (fI (V57 102) 208 = (fI (V 101) 208)) → AW l D b jX12_dreads (fx_rm 4 0 0) none (fx_MQ D b 0 0 (fx_qi (fun r N9 V9 => (ANS (cDr m0 m1 (fI (V 100) 13)) r (dreadsA (gb (fI (V 110))) m1) ∧ TKS (cDr m0 m1 (fI (V 100) 13)) (fI (V 100) 13) (fI (V9 100) 13) ∧ fI (V9 101) 208 = fI (V 101) 208) ∧ N = N9 ∧ JR D b N cl [(101, 102, 0, 1000000), (100, 100, 14, 14), (100, 100, 15, 15), (100, 100, 19, 19), (100, 100, 21, 21), (100, 100, 36, 36), (100, 100, 37, 37), (100, 100, 16, 16), (100, 100, 17, 17), (100, 100, 13, 13), (100, 100, 9, 9)] V V9))) 57 [some (.ref (b + 100)), some (.int (nI zn0)), some (.int (nI zn1)), some (.int v57_3)] [] N V57 0 0 := by
            intro m; refine Nat.strongRecOn m ?_
            intro m mih_57_60 a57 L57 v57_3 V57 hm57 i57_0 i57_1 i57_2 i57_3 i57_4 i57_5 i57_6
            refine aw_iload_n dX12_dreads_57 rfl ?_
            refine aw_if_eq (tgt := 98) dX12_dreads_58 (by decide) (fun c_61 => ?_) (fun c_61 => ?_)
            · skip
              refine aw_aload_n dX12_dreads_98 rfl ?_
              refine aw_iconst (v := 0) dX12_dreads_99 (by decide) ?_
              obtain ⟨ftoldPeople_62, ftoldDoors_62, fwasDoors_62, ffault_62, fopen_62, flines_62, fmeantSet_62, fopenedNow_62, fvainNow_62, flowNow_62, fhighNow_62, fisKept_62, tad_62, pl0_62, le0_62, nu0_62, coy_62, wag_62, say_62, e_62, hntad_62, hnpl0_62, hnle0_62, hnnu0_62, hncoy_62, hnwag_62, hnsay_62⟩ := JR.get i57_0 cm_100
              refine aw_put dX12_dreads_100 fp_X12_152 e_62 (by omega) rfl rfl (Nat.le_of_ble_eq_true rfl) rfl ?_
              refine aw_upR i57_0 cm_100 ⟨_, _, _, _, _, _, _, _, _, _, _, _, 0, pl0_62, le0_62, nu0_62, coy_62, wag_62, say_62, rfl, by omega, by omega, by omega, by omega, by omega, by omega, by omega⟩ (by decide) (WO (s := 13) (x := .int 0) e_62 rfl (LMs (LMs (LMs (LMs (LMs (LMs (LMs (LMs (LMs LM0))))))))) (by decide) (by decide) (by decide) (Or.inl (by decide))) (fun V_63 j_63 k_63 e_63 => ?_)
              refine aw_iload_n dX12_dreads_103 rfl ?_
              refine aw_if_ne (tgt := 123) dX12_dreads_104 (by decide) (fun c_64 => ?_) (fun c_64 => ?_)
              · first | exact absurd c_64 c_61 | exact absurd c_61 c_64 | exact absurd c_64 (Int32.not_lt.mpr c_61) | exact absurd c_61 (Int32.not_lt.mpr c_64) | exact c_61 (Int32.not_lt.mp c_64) | exact c_61 (Int32.not_le.mp c_64)
              refine aw_aload_n dX12_dreads_107 rfl ?_
              refine aw_get dX12_dreads_108 fl_X12_13 e_63 (by omega) rfl ?_
              refine aw_aload_n dX12_dreads_111 rfl ?_
              refine aw_get dX12_dreads_112 fl_X12_7 e_63 (by omega) rfl ?_
              refine aw_callSv (J' := jX12_copies) (As := [.ref (b + 102), .ref (b + 101)]) (st := []) dX12_dreads_115 tb_1299 ok_X12_copies rfl (r_copiesK l D b N V_63 hN cl j_63.1 102 2 cm_102 101 1 cm_101 (by decide) (by decide)) rfl (Nat.le_of_ble_eq_true rfl) ⟨Nat.le_of_ble_eq_true rfl, Nat.le_of_ble_eq_true rfl, Nat.le_of_ble_eq_true rfl, Nat.le_of_ble_eq_true rfl⟩ (fun  N_69 V_68 q_70 => ?_)
              obtain ⟨h_66, rfl, q_65⟩ := q_70
              have j_67 := JR.trans j_63 (JR.weak q_65 (Sub.cons LM0 (by decide) (by decide) (by decide) (Or.inl rfl) Sub.nil))
              refine aw_aload_n dX12_dreads_118 rfl ?_
              obtain ⟨ftoldPeople_71, ftoldDoors_71, fwasDoors_71, ffault_71, fopen_71, flines_71, fmeantSet_71, fopenedNow_71, fvainNow_71, flowNow_71, fhighNow_71, fisKept_71, tad_71, pl0_71, le0_71, nu0_71, coy_71, wag_71, say_71, e_71, hntad_71, hnpl0_71, hnle0_71, hnnu0_71, hncoy_71, hnwag_71, hnsay_71⟩ := JR.get j_67 cm_100
              refine aw_get dX12_dreads_119 fl_X12_169 e_71 (by omega) rfl ?_
              refine aw_eqi (y := (fI (V57 100) 16)) ((Eq.symm (congrArg (fun z => fI z 16) e_71)).trans ((JR.fI q_65 (by decide) (by decide) (nfc (by omega) nf0)).trans (KA (s := 13) (x := .int 0) e_62 rfl (by decide) e_63 k_63 (Eq.refl (fI (V57 100) 16))))) ?_
              refine aw_ireti dX12_dreads_122 rfl (Nat.le_of_ble_eq_true rfl) (Nat.le_of_ble_eq_true rfl) ?_
              exact ⟨⟨Or.inl ⟨(by have zhi_6 := hi_6.resolve_left c_12; have zhi_16 := hi_16.resolve_left c_22; have zzzn0 := fx_nIt (n := zn0) (by omega); have zzzn1 := fx_nIt (n := zn1) (by omega); have zt := fx_nIt (n := tad_1) (by omega); have e0 : (0 : Int32).toInt = 0 := (by decide); have e1 : (1 : Int32).toInt = 1 := (by decide); have e11 : (11 : Int32).toInt = 11 := (by decide); have e120 : (120 : Int32).toInt = 120 := (by decide); have q0 := zhi_6; have q1 := zhi_16; have q2 := hm.1; have q3 := hm.2; have q4 := hta0; simp only [cDr, ← Int32.toInt_inj, Int32.le_iff_toInt_le, Int32.lt_iff_toInt_lt] at q0 q1 q2 q3 q4 ⊢; omega), (congrArg cod (i57_3.resolve_right (fun z => absurd ((c_61).symm.trans z.1) (by decide))).2).symm.trans (dreadsA_ofm e_2 hm.2 (by omega)).symm⟩, Or.inl ⟨(by have zhi_6 := hi_6.resolve_left c_12; have zhi_16 := hi_16.resolve_left c_22; have zzzn0 := fx_nIt (n := zn0) (by omega); have zzzn1 := fx_nIt (n := zn1) (by omega); have zt := fx_nIt (n := tad_1) (by omega); have e0 : (0 : Int32).toInt = 0 := (by decide); have e1 : (1 : Int32).toInt = 1 := (by decide); have e11 : (11 : Int32).toInt = 11 := (by decide); have e120 : (120 : Int32).toInt = 120 := (by decide); have q0 := zhi_6; have q1 := zhi_16; have q2 := hm.1; have q3 := hm.2; have q4 := hta0; simp only [cDr, ← Int32.toInt_inj, Int32.le_iff_toInt_le, Int32.lt_iff_toInt_lt] at q0 q1 q2 q3 q4 ⊢; omega), ((JR.fI q_65 (by decide) (by decide) (nfc (by omega) nf0)).trans ((congrArg (fun z => fI z 13) e_63).trans rfl))⟩, ((h_66 208 (by decide)).trans (KA (s := 13) (x := .int 0) e_62 rfl (by decide) e_63 k_63 i57_6))⟩, rfl, j_67⟩
            · skip
              obtain ⟨hgd57, hA57, hL57, ⟨b157, b257, b357⟩, hX57⟩ := i57_3.resolve_left (fun z => c_61 z.1)
              refine aw_aload_n dX12_dreads_61 rfl ?_
              obtain ⟨ftoldPeople_72, ftoldDoors_72, fwasDoors_72, ffault_72, fopen_72, flines_72, fmeantSet_72, fopenedNow_72, fvainNow_72, flowNow_72, fhighNow_72, fisKept_72, tad_72, pl0_72, le0_72, nu0_72, coy_72, wag_72, say_72, e_72, hntad_72, hnpl0_72, hnle0_72, hnnu0_72, hncoy_72, hnwag_72, hnsay_72⟩ := JR.get i57_0 cm_100
              refine aw_get dX12_dreads_62 fl_X12_159 e_72 (by omega) rfl ?_
              refine aw_eqi (y := (nI a57)) ((Eq.symm (congrArg (fun z => fI z 14) e_72)).trans hA57) ?_
              refine aw_aload_n dX12_dreads_65 rfl ?_
              refine aw_get dX12_dreads_66 fl_X12_162 e_72 (by omega) rfl ?_
              refine aw_eqi (y := (nI zn1)) ((Eq.symm (congrArg (fun z => fI z 15) e_72)).trans i57_1) ?_
              refine aw_icmp_ge (tgt := 98) dX12_dreads_69 (by decide) (fun c_73 => ?_) (fun c_73 => ?_)
              · skip
                have nc_73 : zn1 ≤ a57 := (nI_leI (a := zn1) (b := a57) (by omega) (by omega)).mp c_73
                refine aw_aload_n dX12_dreads_98 rfl ?_
                refine aw_iconst (v := 0) dX12_dreads_99 (by decide) ?_
                refine aw_put dX12_dreads_100 fp_X12_152 e_72 (by omega) rfl rfl (Nat.le_of_ble_eq_true rfl) rfl ?_
                refine aw_upR i57_0 cm_100 ⟨_, _, _, _, _, _, _, _, _, _, _, _, 0, pl0_72, le0_72, nu0_72, coy_72, wag_72, say_72, rfl, by omega, by omega, by omega, by omega, by omega, by omega, by omega⟩ (by decide) (WO (s := 13) (x := .int 0) e_72 rfl (LMs (LMs (LMs (LMs (LMs (LMs (LMs (LMs (LMs LM0))))))))) (by decide) (by decide) (by decide) (Or.inl (by decide))) (fun V_74 j_74 k_74 e_74 => ?_)
                refine aw_iload_n dX12_dreads_103 rfl ?_
                refine aw_if_ne (tgt := 123) dX12_dreads_104 (by decide) (fun c_75 => ?_) (fun c_75 => ?_)
                rotate_left
                · first | exact absurd c_61 c_75 | exact absurd c_75 c_61
                refine aw_aload_n dX12_dreads_123 rfl ?_
                refine aw_aload_n dX12_dreads_124 rfl ?_
                refine aw_get dX12_dreads_125 fl_X12_121 e_74 (by omega) rfl ?_
                refine aw_iconst (v := 1) dX12_dreads_128 (by decide) ?_
                refine aw_iload_n dX12_dreads_129 rfl ?_
                refine aw_ishl dX12_dreads_130 ?_
                refine aw_ior dX12_dreads_131 ?_
                refine aw_put dX12_dreads_132 fp_X12_121 e_74 (by omega) rfl rfl (Nat.le_of_ble_eq_true rfl) rfl ?_
                refine aw_upR j_74 cm_100 ⟨_, _, _, _, _, _, _, _, _, _, _, _, 0, pl0_72, le0_72, nu0_72, coy_72, wag_72, say_72, rfl, by omega, by omega, by omega, by omega, by omega, by omega, by omega⟩ (by decide) (WO (s := 9) (x := .int (ftoldPeople_72 ||| ((1 : Int32) <<< ((nI zn0) &&& 31)))) e_74 rfl (LMs (LMs (LMs (LMs (LMs (LMs (LMs (LMs (LMs (LMs LM0)))))))))) (by decide) (by decide) (by decide) (Or.inl (by decide))) (fun V_76 j_76 k_76 e_76 => ?_)
                refine aw_aload_n dX12_dreads_135 rfl ?_
                refine aw_get dX12_dreads_136 fl_X12_268 e_76 (by omega) rfl ?_
                refine aw_eqi (y := (nI L57)) ((Eq.symm (congrArg (fun z => fI z 36) e_76)).trans (KA (s := 9) (x := .int (ftoldPeople_72 ||| ((1 : Int32) <<< ((nI zn0) &&& 31)))) e_74 rfl (by decide) e_76 k_76 (KA (s := 13) (x := .int 0) e_72 rfl (by decide) e_74 k_74 hL57))) ?_
                refine aw_ireti dX12_dreads_139 rfl (Nat.le_of_ble_eq_true rfl) (Nat.le_of_ble_eq_true rfl) ?_
                exact ⟨⟨Or.inl ⟨(by have zhi_6 := hi_6.resolve_left c_12; have zhi_16 := hi_16.resolve_left c_22; have zzzn0 := fx_nIt (n := zn0) (by omega); have zzzn1 := fx_nIt (n := zn1) (by omega); have zt := fx_nIt (n := tad_1) (by omega); have e0 : (0 : Int32).toInt = 0 := (by decide); have e1 : (1 : Int32).toInt = 1 := (by decide); have e11 : (11 : Int32).toInt = 11 := (by decide); have e120 : (120 : Int32).toInt = 120 := (by decide); have q0 := zhi_6; have q1 := zhi_16; have q2 := hm.1; have q3 := hm.2; have q4 := hta0; simp only [cDr, ← Int32.toInt_inj, Int32.le_iff_toInt_le, Int32.lt_iff_toInt_lt] at q0 q1 q2 q3 q4 ⊢; omega), ((congrArg nI (by omega : L57 = 20 - (20 - L57))).trans (congrArg cod (hX57.symm.trans (af_end (by omega)))).symm).trans (dreadsA_ofm e_2 hm.2 (by omega)).symm⟩, Or.inl ⟨(by have zhi_6 := hi_6.resolve_left c_12; have zhi_16 := hi_16.resolve_left c_22; have zzzn0 := fx_nIt (n := zn0) (by omega); have zzzn1 := fx_nIt (n := zn1) (by omega); have zt := fx_nIt (n := tad_1) (by omega); have e0 : (0 : Int32).toInt = 0 := (by decide); have e1 : (1 : Int32).toInt = 1 := (by decide); have e11 : (11 : Int32).toInt = 11 := (by decide); have e120 : (120 : Int32).toInt = 120 := (by decide); have q0 := zhi_6; have q1 := zhi_16; have q2 := hm.1; have q3 := hm.2; have q4 := hta0; simp only [cDr, ← Int32.toInt_inj, Int32.le_iff_toInt_le, Int32.lt_iff_toInt_lt] at q0 q1 q2 q3 q4 ⊢; omega), (KA (s := 9) (x := .int (ftoldPeople_72 ||| ((1 : Int32) <<< ((nI zn0) &&& 31)))) e_74 rfl (by decide) e_76 k_76 ((congrArg (fun z => fI z 13) e_74).trans rfl))⟩, (KA (s := 9) (x := .int (ftoldPeople_72 ||| ((1 : Int32) <<< ((nI zn0) &&& 31)))) e_74 rfl (by decide) e_76 k_76 (KA (s := 13) (x := .int 0) e_72 rfl (by decide) e_74 k_74 i57_5))⟩, rfl, j_76⟩
              · skip
                have nc_73 : ¬ (zn1 ≤ a57) := fun z => c_73 ((nI_leI (a := zn1) (b := a57) (by omega) (by omega)).mpr z)
                refine aw_aload_n dX12_dreads_72 rfl ?_
                refine aw_bipush (v := 59) dX12_dreads_73 (by decide) ?_
                refine aw_callVi (J' := jX12_takes) (As := [.int 59]) (st := []) dX12_dreads_75 tb_1291 ok_X12_takes ⟨_, e_72⟩ (by omega) rfl rfl (r_takesS l D b N V57 hN cl i57_0.1 59 g_2 i57_2 zn1 a57 ⟨by omega, by omega⟩ i57_1 hA57 (by decide)) rfl (Nat.le_of_ble_eq_true rfl) ⟨Nat.le_of_ble_eq_true rfl, Nat.le_of_ble_eq_true rfl, Nat.le_of_ble_eq_true rfl, Nat.le_of_ble_eq_true rfl⟩ (fun r_82 N_83 V_81 q_84 => ?_)
                obtain ⟨⟨z_79, h_78⟩, rfl, q_77⟩ := q_84
                have j_80 := JR.trans i57_0 (JR.weak q_77 (Sub.cons (LMs LM0) (by decide) (by decide) (by decide) (Or.inr ⟨by decide, by decide⟩) (Sub.cons (LMs (LMs (LMs (LMs (LMs (LMs (LMs LM0))))))) (by decide) (by decide) (by decide) (Or.inr ⟨by decide, by decide⟩) Sub.nil)))
                rcases h_78 with ⟨hy_85, hk_86, e_87⟩ | ⟨hn_88, hk_89, e_90⟩
                · skip
                  refine aw_eqi (y := 1) e_87 ?_
                  have hlhy_85 := hd_lit hy_85 (by decide)
                  refine aw_if_eq (tgt := 93) dX12_dreads_78 (by decide) (fun c_91 => ?_) (fun c_91 => ?_)
                  · exact absurd c_91 (by decide)
                  refine aw_aload_n dX12_dreads_81 rfl ?_
                  refine aw_iload_n dX12_dreads_82 rfl ?_
                  obtain ⟨ftoldPeople_97, ftoldDoors_97, fwasDoors_97, ffault_97, fopen_97, flines_97, fmeantSet_97, fopenedNow_97, fvainNow_97, flowNow_97, fhighNow_97, fisKept_97, tad_97, pl0_97, le0_97, nu0_97, coy_97, wag_97, say_97, e_97, hntad_97, hnpl0_97, hnle0_97, hnnu0_97, hncoy_97, hnwag_97, hnsay_97⟩ := JR.get j_80 cm_100
                  refine aw_callVi (J' := jX12_readsDread) (As := [.int (nI zn0)]) (st := []) dX12_dreads_83 tb_1302 ok_X12_readsDread ⟨_, e_97⟩ (by omega) rfl rfl (r_readsDreadS l D b N V_81 hN cl j_80.1 (nI zn0) ⟨zn0, by omega, rfl⟩ g_2 ((JR.same q_77 (by decide) (by decide) (fun k => (nfc (by omega) (nfc (by omega) nf0)))).trans i57_2) zn1 (a57 + 1) ⟨by omega, by omega⟩ ((JR.fI q_77 (by decide) (by decide) (nfc (by omega) (nfc (by omega) nf0))).trans i57_1) hk_86 L57 ⟨((JR.fI q_77 (by decide) (by decide) (nfc (by omega) (nfc (by omega) nf0))).trans hL57), by omega⟩) rfl (Nat.le_of_ble_eq_true rfl) ⟨Nat.le_of_ble_eq_true rfl, Nat.le_of_ble_eq_true rfl, Nat.le_of_ble_eq_true rfl, Nat.le_of_ble_eq_true rfl⟩ (fun r_98 N_99 V_96 q_100 => ?_)
                  obtain ⟨⟨z_94, h_93⟩, rfl, q_92⟩ := q_100
                  have j_95 := JR.trans j_80 (JR.weak q_92 (Sub.cons (LMs (LMs (LMs (LMs (LMs LM0))))) (by decide) (by decide) (by decide) (Or.inr ⟨by decide, by decide⟩) (Sub.cons (LMs (LMs (LMs (LMs (LMs (LMs LM0)))))) (by decide) (by decide) (by decide) (Or.inr ⟨by decide, by decide⟩) (Sub.cons (LMs (LMs (LMs (LMs (LMs (LMs (LMs LM0))))))) (by decide) (by decide) (by decide) (Or.inr ⟨by decide, by decide⟩) (Sub.cons (LMs LM0) (by decide) (by decide) (by decide) (Or.inr ⟨by decide, by decide⟩) (Sub.cons (LMs (LMs (LMs (LMs (LMs (LMs (LMs (LMs LM0)))))))) (by decide) (by decide) (by decide) (Or.inr ⟨by decide, by decide⟩) (Sub.cons LM0 (by decide) (by decide) (by decide) (Or.inl rfl) Sub.nil)))))))
                  rcases h_93 with ⟨f_101, hx_102, hk_103, e_104⟩ | ⟨a_105, hst_106, hl_107, hx_108, hk_109, hL_110, hb_111, e_112⟩
                  · skip
                    refine aw_eqi (y := 0) e_104 ?_
                    refine aw_if_eq (tgt := 93) dX12_dreads_86 (by decide) (fun c_113 => ?_) (fun c_113 => ?_)
                    rotate_left
                    · exact absurd (by decide) c_113
                    refine aw_iconst (v := 0) dX12_dreads_93 (by decide) ?_
                    refine aw_istore_n (ls' := [some (.ref (b + 100)), some (.int (nI zn0)), some (.int (nI zn1)), some (.int 0)]) dX12_dreads_94 (Nat.le_of_ble_eq_true rfl) rfl ?_
                    refine aw_goto (tgt := 57) dX12_dreads_95 (by decide) ?_
                    refine aw_le ?_ (mih_57_60 _ (by rw [hm57]; exact tl_dec c_61 (by omega) (Or.inl rfl) (by omega)) a57 L57 0 V_96 rfl (j_95) (((JR.fI q_92 (by decide) (by decide) (nfc (by omega) (nfc (by omega) (nfc (by omega) (nfc (by omega) (nfc (by omega) (nfc (by omega) nf0))))))).trans ((JR.fI q_77 (by decide) (by decide) (nfc (by omega) (nfc (by omega) nf0))).trans i57_1))) (((JR.same q_92 (by decide) (by decide) (fun k => (nfc (by omega) (nfc (by omega) (nfc (by omega) (nfc (by omega) (nfc (by omega) (nfc (by omega) nf0)))))))).trans ((JR.same q_77 (by decide) (by decide) (fun k => (nfc (by omega) (nfc (by omega) nf0)))).trans i57_2))) (Or.inl ⟨rfl, hX57.symm.trans ((af_go hy_85).trans (hx_102.trans (congrArg Sum.inl hk_103.symm)))⟩) (by omega) (((JR.fI q_92 (by decide) (by decide) (nfc (by omega) (nfc (by omega) (nfc (by omega) (nfc (by omega) (nfc (by omega) (nfc (by omega) nf0))))))).trans ((JR.fI q_77 (by decide) (by decide) (nfc (by omega) (nfc (by omega) nf0))).trans i57_5))) (((JR.fI q_92 (by decide) (by decide) (nfc (by omega) (nfc (by omega) (nfc (by omega) (nfc (by omega) (nfc (by omega) (nfc (by omega) nf0))))))).trans ((JR.fI q_77 (by decide) (by decide) (nfc (by omega) (nfc (by omega) nf0))).trans i57_6))))
                    exact ⟨rfl, ⟨rfl, ⟨rfl, ⟨rfl, trivial⟩⟩⟩⟩
                  · skip
                    refine aw_eqi (y := 1) e_112 ?_
                    obtain ⟨hb_111a, hb_111b⟩ := hb_111
                    refine aw_if_eq (tgt := 93) dX12_dreads_86 (by decide) (fun c_114 => ?_) (fun c_114 => ?_)
                    · exact absurd c_114 (by decide)
                    refine aw_iconst (v := 1) dX12_dreads_89 (by decide) ?_
                    refine aw_goto (tgt := 94) dX12_dreads_90 (by decide) ?_
                    refine aw_istore_n (ls' := [some (.ref (b + 100)), some (.int (nI zn0)), some (.int (nI zn1)), some (.int 1)]) dX12_dreads_94 (Nat.le_of_ble_eq_true rfl) rfl ?_
                    refine aw_goto (tgt := 57) dX12_dreads_95 (by decide) ?_
                    refine aw_le ?_ (mih_57_60 _ (by rw [hm57]; exact tl_dec c_61 (by omega) (Or.inr (by omega)) (by omega)) a_105 (L57 + 1) 1 V_96 rfl (j_95) (((JR.fI q_92 (by decide) (by decide) (nfc (by omega) (nfc (by omega) (nfc (by omega) (nfc (by omega) (nfc (by omega) (nfc (by omega) nf0))))))).trans ((JR.fI q_77 (by decide) (by decide) (nfc (by omega) (nfc (by omega) nf0))).trans i57_1))) (((JR.same q_92 (by decide) (by decide) (fun k => (nfc (by omega) (nfc (by omega) (nfc (by omega) (nfc (by omega) (nfc (by omega) (nfc (by omega) nf0)))))))).trans ((JR.same q_77 (by decide) (by decide) (fun k => (nfc (by omega) (nfc (by omega) nf0)))).trans i57_2))) (Or.inr ⟨rfl, hk_109, hL_110, ⟨by omega, by omega, by omega⟩, by have q := (tx_go (M := 20) (ln := (fun a _ => lnD (gb g_2) zn1 a)) hst_106 hx_108 (by omega)).symm.trans ((af_go hy_85).symm.trans hX57); rw [show 20 - L57 - 1 = 20 - (L57 + 1) by omega] at q; exact q⟩) (by omega) (((JR.fI q_92 (by decide) (by decide) (nfc (by omega) (nfc (by omega) (nfc (by omega) (nfc (by omega) (nfc (by omega) (nfc (by omega) nf0))))))).trans ((JR.fI q_77 (by decide) (by decide) (nfc (by omega) (nfc (by omega) nf0))).trans i57_5))) (((JR.fI q_92 (by decide) (by decide) (nfc (by omega) (nfc (by omega) (nfc (by omega) (nfc (by omega) (nfc (by omega) (nfc (by omega) nf0))))))).trans ((JR.fI q_77 (by decide) (by decide) (nfc (by omega) (nfc (by omega) nf0))).trans i57_6))))
                    exact ⟨rfl, ⟨rfl, ⟨rfl, ⟨rfl, trivial⟩⟩⟩⟩
                · skip
                  refine aw_eqi (y := 0) e_90 ?_
                  refine aw_if_eq (tgt := 93) dX12_dreads_78 (by decide) (fun c_115 => ?_) (fun c_115 => ?_)
                  rotate_left
                  · exact absurd (by decide) c_115
                  refine aw_iconst (v := 0) dX12_dreads_93 (by decide) ?_
                  refine aw_istore_n (ls' := [some (.ref (b + 100)), some (.int (nI zn0)), some (.int (nI zn1)), some (.int 0)]) dX12_dreads_94 (Nat.le_of_ble_eq_true rfl) rfl ?_
                  refine aw_goto (tgt := 57) dX12_dreads_95 (by decide) ?_
                  refine aw_le ?_ (mih_57_60 _ (by rw [hm57]; exact tl_dec c_61 (by omega) (Or.inl rfl) (by omega)) a57 L57 0 V_81 rfl (j_80) (((JR.fI q_77 (by decide) (by decide) (nfc (by omega) (nfc (by omega) nf0))).trans i57_1)) (((JR.same q_77 (by decide) (by decide) (fun k => (nfc (by omega) (nfc (by omega) nf0)))).trans i57_2)) (Or.inl ⟨rfl, hX57.symm.trans ((af_no (by omega) hn_88).trans (congrArg Sum.inl hk_89.symm))⟩) (by omega) (((JR.fI q_77 (by decide) (by decide) (nfc (by omega) (nfc (by omega) nf0))).trans i57_5)) (((JR.fI q_77 (by decide) (by decide) (nfc (by omega) (nfc (by omega) nf0))).trans i57_6)))
                  exact ⟨rfl, ⟨rfl, ⟨rfl, ⟨rfl, trivial⟩⟩⟩⟩
          refine aw_le ?_ (ml_57_60 _ 0 0 0 V_43 rfl (j_42) (((JR.fI q_39 (by decide) (by decide) (nfc (by omega) (nfc (by omega) (nfc (by omega) (nfc (by omega) (nfc (by omega) (nfc (by omega) nf0))))))).trans ((JR.fI q_33 (by decide) (by decide) (nfc (by omega) nf0)).trans (KA (s := 36) (x := .int 0) e_31 rfl (by decide) e_32 k_32 hb_28b)))) (((JR.same q_39 (by decide) (by decide) (fun k => (nfc (by omega) (nfc (by omega) (nfc (by omega) (nfc (by omega) (nfc (by omega) (nfc (by omega) nf0)))))))).trans ((JR.same q_33 (by decide) (by decide) (fun k => (nfc (by omega) nf0))).trans ((k_32 _ (by decide)).trans ((JR.same q_24 (by decide) (by decide) (fun k => (nfc (by omega) (nfc (by omega) (nfc (by omega) (nfc (by omega) nf0)))))).trans e_2))))) (Or.inl ⟨rfl, hx_49.trans (congrArg Sum.inl hk_50.symm)⟩) (by omega) (((JR.fI q_39 (by decide) (by decide) (nfc (by omega) (nfc (by omega) (nfc (by omega) (nfc (by omega) (nfc (by omega) (nfc (by omega) nf0))))))).trans ((JR.fI q_33 (by decide) (by decide) (nfc (by omega) nf0)).trans (KA (s := 36) (x := .int 0) e_31 rfl (by decide) e_32 k_32 ((JR.fI q_24 (by decide) (by decide) (nfc (by omega) (nfc (by omega) (nfc (by omega) (nfc (by omega) nf0))))).trans (Eq.refl (fI (V 101) 208))))))) (((JR.fI q_39 (by decide) (by decide) (nfc (by omega) (nfc (by omega) (nfc (by omega) (nfc (by omega) (nfc (by omega) (nfc (by omega) nf0))))))).trans ((h_34 208 (by decide)).trans (KA (s := 36) (x := .int 0) e_31 rfl (by decide) e_32 k_32 ((JR.fI q_24 (by decide) (by decide) (nfc (by omega) (nfc (by omega) (nfc (by omega) (nfc (by omega) nf0))))).trans (Eq.refl (fI (V 101) 208))))))))
          exact ⟨rfl, ⟨rfl, ⟨rfl, ⟨rfl, trivial⟩⟩⟩⟩
        · skip
          refine aw_eqi (y := 1) e_59 ?_
          obtain ⟨hb_58a, hb_58b⟩ := hb_58
          refine aw_istore_n (ls' := [some (.ref (b + 100)), some (.int (nI zn0)), some (.int (nI zn1)), some (.int 1)]) dX12_dreads_56 (Nat.le_of_ble_eq_true rfl) rfl ?_
          have ml_57_116 : ∀ (m : Nat) (a57 : Nat) (L57 : Nat) (v57_3 : Int32) (V57 : Wd), m = 2 * (240 - a57) + (if v57_3 = 0 then 0 else 1) → (JR D b N cl [(101, 102, 0, 1000000), (100, 100, 14, 14), (100, 100, 15, 15), (100, 100, 19, 19), (100, 100, 21, 21), (100, 100, 36, 36), (100, 100, 37, 37), (100, 100, 16, 16), (100, 100, 17, 17), (100, 100, 13, 13), (100, 100, 9, 9)] V V57) → (fI (V57 100) 15 = nI zn1) → (V57 110 = cB D 260 g_2) → ((v57_3 = 0 ∧ txD (gb g_2) zn1 20 0 = .inl (fI (V57 100) 16)) ∨ (v57_3 = 1 ∧ fI (V57 100) 14 = nI a57 ∧ fI (V57 100) 36 = nI L57 ∧ (1 ≤ L57 ∧ L57 ≤ 20 ∧ a57 ≤ zn1) ∧ afD (gb g_2) zn1 (20 - L57) a57 = txD (gb g_2) zn1 20 0)) → (a57 ≤ 240) → (fI (V57 101) 208 = (fI (V 101) 208)) → (fI (V57 102) 208 = (fI (V 101) 208)) → AW l D b jX12_dreads (fx_rm 4 0 0) none (fx_MQ D b 0 0 (fx_qi (fun r N9 V9 => (ANS (cDr m0 m1 (fI (V 100) 13)) r (dreadsA (gb (fI (V 110))) m1) ∧ TKS (cDr m0 m1 (fI (V 100) 13)) (fI (V 100) 13) (fI (V9 100) 13) ∧ fI (V9 101) 208 = fI (V 101) 208) ∧ N = N9 ∧ JR D b N cl [(101, 102, 0, 1000000), (100, 100, 14, 14), (100, 100, 15, 15), (100, 100, 19, 19), (100, 100, 21, 21), (100, 100, 36, 36), (100, 100, 37, 37), (100, 100, 16, 16), (100, 100, 17, 17), (100, 100, 13, 13), (100, 100, 9, 9)] V V9))) 57 [some (.ref (b + 100)), some (.int (nI zn0)), some (.int (nI zn1)), some (.int v57_3)] [] N V57 0 0 := by
            intro m; refine Nat.strongRecOn m ?_
            intro m mih_57_116 a57 L57 v57_3 V57 hm57 i57_0 i57_1 i57_2 i57_3 i57_4 i57_5 i57_6
            refine aw_iload_n dX12_dreads_57 rfl ?_
            refine aw_if_eq (tgt := 98) dX12_dreads_58 (by decide) (fun c_117 => ?_) (fun c_117 => ?_)
            · skip
              refine aw_aload_n dX12_dreads_98 rfl ?_
              refine aw_iconst (v := 0) dX12_dreads_99 (by decide) ?_
              obtain ⟨ftoldPeople_118, ftoldDoors_118, fwasDoors_118, ffault_118, fopen_118, flines_118, fmeantSet_118, fopenedNow_118, fvainNow_118, flowNow_118, fhighNow_118, fisKept_118, tad_118, pl0_118, le0_118, nu0_118, coy_118, wag_118, say_118, e_118, hntad_118, hnpl0_118, hnle0_118, hnnu0_118, hncoy_118, hnwag_118, hnsay_118⟩ := JR.get i57_0 cm_100
              refine aw_put dX12_dreads_100 fp_X12_152 e_118 (by omega) rfl rfl (Nat.le_of_ble_eq_true rfl) rfl ?_
              refine aw_upR i57_0 cm_100 ⟨_, _, _, _, _, _, _, _, _, _, _, _, 0, pl0_118, le0_118, nu0_118, coy_118, wag_118, say_118, rfl, by omega, by omega, by omega, by omega, by omega, by omega, by omega⟩ (by decide) (WO (s := 13) (x := .int 0) e_118 rfl (LMs (LMs (LMs (LMs (LMs (LMs (LMs (LMs (LMs LM0))))))))) (by decide) (by decide) (by decide) (Or.inl (by decide))) (fun V_119 j_119 k_119 e_119 => ?_)
              refine aw_iload_n dX12_dreads_103 rfl ?_
              refine aw_if_ne (tgt := 123) dX12_dreads_104 (by decide) (fun c_120 => ?_) (fun c_120 => ?_)
              · first | exact absurd c_120 c_117 | exact absurd c_117 c_120 | exact absurd c_120 (Int32.not_lt.mpr c_117) | exact absurd c_117 (Int32.not_lt.mpr c_120) | exact c_117 (Int32.not_lt.mp c_120) | exact c_117 (Int32.not_le.mp c_120)
              refine aw_aload_n dX12_dreads_107 rfl ?_
              refine aw_get dX12_dreads_108 fl_X12_13 e_119 (by omega) rfl ?_
              refine aw_aload_n dX12_dreads_111 rfl ?_
              refine aw_get dX12_dreads_112 fl_X12_7 e_119 (by omega) rfl ?_
              refine aw_callSv (J' := jX12_copies) (As := [.ref (b + 102), .ref (b + 101)]) (st := []) dX12_dreads_115 tb_1299 ok_X12_copies rfl (r_copiesK l D b N V_119 hN cl j_119.1 102 2 cm_102 101 1 cm_101 (by decide) (by decide)) rfl (Nat.le_of_ble_eq_true rfl) ⟨Nat.le_of_ble_eq_true rfl, Nat.le_of_ble_eq_true rfl, Nat.le_of_ble_eq_true rfl, Nat.le_of_ble_eq_true rfl⟩ (fun  N_125 V_124 q_126 => ?_)
              obtain ⟨h_122, rfl, q_121⟩ := q_126
              have j_123 := JR.trans j_119 (JR.weak q_121 (Sub.cons LM0 (by decide) (by decide) (by decide) (Or.inl rfl) Sub.nil))
              refine aw_aload_n dX12_dreads_118 rfl ?_
              obtain ⟨ftoldPeople_127, ftoldDoors_127, fwasDoors_127, ffault_127, fopen_127, flines_127, fmeantSet_127, fopenedNow_127, fvainNow_127, flowNow_127, fhighNow_127, fisKept_127, tad_127, pl0_127, le0_127, nu0_127, coy_127, wag_127, say_127, e_127, hntad_127, hnpl0_127, hnle0_127, hnnu0_127, hncoy_127, hnwag_127, hnsay_127⟩ := JR.get j_123 cm_100
              refine aw_get dX12_dreads_119 fl_X12_169 e_127 (by omega) rfl ?_
              refine aw_eqi (y := (fI (V57 100) 16)) ((Eq.symm (congrArg (fun z => fI z 16) e_127)).trans ((JR.fI q_121 (by decide) (by decide) (nfc (by omega) nf0)).trans (KA (s := 13) (x := .int 0) e_118 rfl (by decide) e_119 k_119 (Eq.refl (fI (V57 100) 16))))) ?_
              refine aw_ireti dX12_dreads_122 rfl (Nat.le_of_ble_eq_true rfl) (Nat.le_of_ble_eq_true rfl) ?_
              exact ⟨⟨Or.inl ⟨(by have zhi_6 := hi_6.resolve_left c_12; have zhi_16 := hi_16.resolve_left c_22; have zzzn0 := fx_nIt (n := zn0) (by omega); have zzzn1 := fx_nIt (n := zn1) (by omega); have zt := fx_nIt (n := tad_1) (by omega); have e0 : (0 : Int32).toInt = 0 := (by decide); have e1 : (1 : Int32).toInt = 1 := (by decide); have e11 : (11 : Int32).toInt = 11 := (by decide); have e120 : (120 : Int32).toInt = 120 := (by decide); have q0 := zhi_6; have q1 := zhi_16; have q2 := hm.1; have q3 := hm.2; have q4 := hta0; simp only [cDr, ← Int32.toInt_inj, Int32.le_iff_toInt_le, Int32.lt_iff_toInt_lt] at q0 q1 q2 q3 q4 ⊢; omega), (congrArg cod (i57_3.resolve_right (fun z => absurd ((c_117).symm.trans z.1) (by decide))).2).symm.trans (dreadsA_ofm e_2 hm.2 (by omega)).symm⟩, Or.inl ⟨(by have zhi_6 := hi_6.resolve_left c_12; have zhi_16 := hi_16.resolve_left c_22; have zzzn0 := fx_nIt (n := zn0) (by omega); have zzzn1 := fx_nIt (n := zn1) (by omega); have zt := fx_nIt (n := tad_1) (by omega); have e0 : (0 : Int32).toInt = 0 := (by decide); have e1 : (1 : Int32).toInt = 1 := (by decide); have e11 : (11 : Int32).toInt = 11 := (by decide); have e120 : (120 : Int32).toInt = 120 := (by decide); have q0 := zhi_6; have q1 := zhi_16; have q2 := hm.1; have q3 := hm.2; have q4 := hta0; simp only [cDr, ← Int32.toInt_inj, Int32.le_iff_toInt_le, Int32.lt_iff_toInt_lt] at q0 q1 q2 q3 q4 ⊢; omega), ((JR.fI q_121 (by decide) (by decide) (nfc (by omega) nf0)).trans ((congrArg (fun z => fI z 13) e_119).trans rfl))⟩, ((h_122 208 (by decide)).trans (KA (s := 13) (x := .int 0) e_118 rfl (by decide) e_119 k_119 i57_6))⟩, rfl, j_123⟩
            · skip
              obtain ⟨hgd57, hA57, hL57, ⟨b157, b257, b357⟩, hX57⟩ := i57_3.resolve_left (fun z => c_117 z.1)
              refine aw_aload_n dX12_dreads_61 rfl ?_
              obtain ⟨ftoldPeople_128, ftoldDoors_128, fwasDoors_128, ffault_128, fopen_128, flines_128, fmeantSet_128, fopenedNow_128, fvainNow_128, flowNow_128, fhighNow_128, fisKept_128, tad_128, pl0_128, le0_128, nu0_128, coy_128, wag_128, say_128, e_128, hntad_128, hnpl0_128, hnle0_128, hnnu0_128, hncoy_128, hnwag_128, hnsay_128⟩ := JR.get i57_0 cm_100
              refine aw_get dX12_dreads_62 fl_X12_159 e_128 (by omega) rfl ?_
              refine aw_eqi (y := (nI a57)) ((Eq.symm (congrArg (fun z => fI z 14) e_128)).trans hA57) ?_
              refine aw_aload_n dX12_dreads_65 rfl ?_
              refine aw_get dX12_dreads_66 fl_X12_162 e_128 (by omega) rfl ?_
              refine aw_eqi (y := (nI zn1)) ((Eq.symm (congrArg (fun z => fI z 15) e_128)).trans i57_1) ?_
              refine aw_icmp_ge (tgt := 98) dX12_dreads_69 (by decide) (fun c_129 => ?_) (fun c_129 => ?_)
              · skip
                have nc_129 : zn1 ≤ a57 := (nI_leI (a := zn1) (b := a57) (by omega) (by omega)).mp c_129
                refine aw_aload_n dX12_dreads_98 rfl ?_
                refine aw_iconst (v := 0) dX12_dreads_99 (by decide) ?_
                refine aw_put dX12_dreads_100 fp_X12_152 e_128 (by omega) rfl rfl (Nat.le_of_ble_eq_true rfl) rfl ?_
                refine aw_upR i57_0 cm_100 ⟨_, _, _, _, _, _, _, _, _, _, _, _, 0, pl0_128, le0_128, nu0_128, coy_128, wag_128, say_128, rfl, by omega, by omega, by omega, by omega, by omega, by omega, by omega⟩ (by decide) (WO (s := 13) (x := .int 0) e_128 rfl (LMs (LMs (LMs (LMs (LMs (LMs (LMs (LMs (LMs LM0))))))))) (by decide) (by decide) (by decide) (Or.inl (by decide))) (fun V_130 j_130 k_130 e_130 => ?_)
                refine aw_iload_n dX12_dreads_103 rfl ?_
                refine aw_if_ne (tgt := 123) dX12_dreads_104 (by decide) (fun c_131 => ?_) (fun c_131 => ?_)
                rotate_left
                · first | exact absurd c_117 c_131 | exact absurd c_131 c_117
                refine aw_aload_n dX12_dreads_123 rfl ?_
                refine aw_aload_n dX12_dreads_124 rfl ?_
                refine aw_get dX12_dreads_125 fl_X12_121 e_130 (by omega) rfl ?_
                refine aw_iconst (v := 1) dX12_dreads_128 (by decide) ?_
                refine aw_iload_n dX12_dreads_129 rfl ?_
                refine aw_ishl dX12_dreads_130 ?_
                refine aw_ior dX12_dreads_131 ?_
                refine aw_put dX12_dreads_132 fp_X12_121 e_130 (by omega) rfl rfl (Nat.le_of_ble_eq_true rfl) rfl ?_
                refine aw_upR j_130 cm_100 ⟨_, _, _, _, _, _, _, _, _, _, _, _, 0, pl0_128, le0_128, nu0_128, coy_128, wag_128, say_128, rfl, by omega, by omega, by omega, by omega, by omega, by omega, by omega⟩ (by decide) (WO (s := 9) (x := .int (ftoldPeople_128 ||| ((1 : Int32) <<< ((nI zn0) &&& 31)))) e_130 rfl (LMs (LMs (LMs (LMs (LMs (LMs (LMs (LMs (LMs (LMs LM0)))))))))) (by decide) (by decide) (by decide) (Or.inl (by decide))) (fun V_132 j_132 k_132 e_132 => ?_)
                refine aw_aload_n dX12_dreads_135 rfl ?_
                refine aw_get dX12_dreads_136 fl_X12_268 e_132 (by omega) rfl ?_
                refine aw_eqi (y := (nI L57)) ((Eq.symm (congrArg (fun z => fI z 36) e_132)).trans (KA (s := 9) (x := .int (ftoldPeople_128 ||| ((1 : Int32) <<< ((nI zn0) &&& 31)))) e_130 rfl (by decide) e_132 k_132 (KA (s := 13) (x := .int 0) e_128 rfl (by decide) e_130 k_130 hL57))) ?_
                refine aw_ireti dX12_dreads_139 rfl (Nat.le_of_ble_eq_true rfl) (Nat.le_of_ble_eq_true rfl) ?_
                exact ⟨⟨Or.inl ⟨(by have zhi_6 := hi_6.resolve_left c_12; have zhi_16 := hi_16.resolve_left c_22; have zzzn0 := fx_nIt (n := zn0) (by omega); have zzzn1 := fx_nIt (n := zn1) (by omega); have zt := fx_nIt (n := tad_1) (by omega); have e0 : (0 : Int32).toInt = 0 := (by decide); have e1 : (1 : Int32).toInt = 1 := (by decide); have e11 : (11 : Int32).toInt = 11 := (by decide); have e120 : (120 : Int32).toInt = 120 := (by decide); have q0 := zhi_6; have q1 := zhi_16; have q2 := hm.1; have q3 := hm.2; have q4 := hta0; simp only [cDr, ← Int32.toInt_inj, Int32.le_iff_toInt_le, Int32.lt_iff_toInt_lt] at q0 q1 q2 q3 q4 ⊢; omega), ((congrArg nI (by omega : L57 = 20 - (20 - L57))).trans (congrArg cod (hX57.symm.trans (af_end (by omega)))).symm).trans (dreadsA_ofm e_2 hm.2 (by omega)).symm⟩, Or.inl ⟨(by have zhi_6 := hi_6.resolve_left c_12; have zhi_16 := hi_16.resolve_left c_22; have zzzn0 := fx_nIt (n := zn0) (by omega); have zzzn1 := fx_nIt (n := zn1) (by omega); have zt := fx_nIt (n := tad_1) (by omega); have e0 : (0 : Int32).toInt = 0 := (by decide); have e1 : (1 : Int32).toInt = 1 := (by decide); have e11 : (11 : Int32).toInt = 11 := (by decide); have e120 : (120 : Int32).toInt = 120 := (by decide); have q0 := zhi_6; have q1 := zhi_16; have q2 := hm.1; have q3 := hm.2; have q4 := hta0; simp only [cDr, ← Int32.toInt_inj, Int32.le_iff_toInt_le, Int32.lt_iff_toInt_lt] at q0 q1 q2 q3 q4 ⊢; omega), (KA (s := 9) (x := .int (ftoldPeople_128 ||| ((1 : Int32) <<< ((nI zn0) &&& 31)))) e_130 rfl (by decide) e_132 k_132 ((congrArg (fun z => fI z 13) e_130).trans rfl))⟩, (KA (s := 9) (x := .int (ftoldPeople_128 ||| ((1 : Int32) <<< ((nI zn0) &&& 31)))) e_130 rfl (by decide) e_132 k_132 (KA (s := 13) (x := .int 0) e_128 rfl (by decide) e_130 k_130 i57_5))⟩, rfl, j_132⟩
              · skip
                have nc_129 : ¬ (zn1 ≤ a57) := fun z => c_129 ((nI_leI (a := zn1) (b := a57) (by omega) (by omega)).mpr z)
                refine aw_aload_n dX12_dreads_72 rfl ?_
                refine aw_bipush (v := 59) dX12_dreads_73 (by decide) ?_
                refine aw_callVi (J' := jX12_takes) (As := [.int 59]) (st := []) dX12_dreads_75 tb_1291 ok_X12_takes ⟨_, e_128⟩ (by omega) rfl rfl (r_takesS l D b N V57 hN cl i57_0.1 59 g_2 i57_2 zn1 a57 ⟨by omega, by omega⟩ i57_1 hA57 (by decide)) rfl (Nat.le_of_ble_eq_true rfl) ⟨Nat.le_of_ble_eq_true rfl, Nat.le_of_ble_eq_true rfl, Nat.le_of_ble_eq_true rfl, Nat.le_of_ble_eq_true rfl⟩ (fun r_138 N_139 V_137 q_140 => ?_)
                obtain ⟨⟨z_135, h_134⟩, rfl, q_133⟩ := q_140
                have j_136 := JR.trans i57_0 (JR.weak q_133 (Sub.cons (LMs LM0) (by decide) (by decide) (by decide) (Or.inr ⟨by decide, by decide⟩) (Sub.cons (LMs (LMs (LMs (LMs (LMs (LMs (LMs LM0))))))) (by decide) (by decide) (by decide) (Or.inr ⟨by decide, by decide⟩) Sub.nil)))
                rcases h_134 with ⟨hy_141, hk_142, e_143⟩ | ⟨hn_144, hk_145, e_146⟩
                · skip
                  refine aw_eqi (y := 1) e_143 ?_
                  have hlhy_141 := hd_lit hy_141 (by decide)
                  refine aw_if_eq (tgt := 93) dX12_dreads_78 (by decide) (fun c_147 => ?_) (fun c_147 => ?_)
                  · exact absurd c_147 (by decide)
                  refine aw_aload_n dX12_dreads_81 rfl ?_
                  refine aw_iload_n dX12_dreads_82 rfl ?_
                  obtain ⟨ftoldPeople_153, ftoldDoors_153, fwasDoors_153, ffault_153, fopen_153, flines_153, fmeantSet_153, fopenedNow_153, fvainNow_153, flowNow_153, fhighNow_153, fisKept_153, tad_153, pl0_153, le0_153, nu0_153, coy_153, wag_153, say_153, e_153, hntad_153, hnpl0_153, hnle0_153, hnnu0_153, hncoy_153, hnwag_153, hnsay_153⟩ := JR.get j_136 cm_100
                  refine aw_callVi (J' := jX12_readsDread) (As := [.int (nI zn0)]) (st := []) dX12_dreads_83 tb_1302 ok_X12_readsDread ⟨_, e_153⟩ (by omega) rfl rfl (r_readsDreadS l D b N V_137 hN cl j_136.1 (nI zn0) ⟨zn0, by omega, rfl⟩ g_2 ((JR.same q_133 (by decide) (by decide) (fun k => (nfc (by omega) (nfc (by omega) nf0)))).trans i57_2) zn1 (a57 + 1) ⟨by omega, by omega⟩ ((JR.fI q_133 (by decide) (by decide) (nfc (by omega) (nfc (by omega) nf0))).trans i57_1) hk_142 L57 ⟨((JR.fI q_133 (by decide) (by decide) (nfc (by omega) (nfc (by omega) nf0))).trans hL57), by omega⟩) rfl (Nat.le_of_ble_eq_true rfl) ⟨Nat.le_of_ble_eq_true rfl, Nat.le_of_ble_eq_true rfl, Nat.le_of_ble_eq_true rfl, Nat.le_of_ble_eq_true rfl⟩ (fun r_154 N_155 V_152 q_156 => ?_)
                  obtain ⟨⟨z_150, h_149⟩, rfl, q_148⟩ := q_156
                  have j_151 := JR.trans j_136 (JR.weak q_148 (Sub.cons (LMs (LMs (LMs (LMs (LMs LM0))))) (by decide) (by decide) (by decide) (Or.inr ⟨by decide, by decide⟩) (Sub.cons (LMs (LMs (LMs (LMs (LMs (LMs LM0)))))) (by decide) (by decide) (by decide) (Or.inr ⟨by decide, by decide⟩) (Sub.cons (LMs (LMs (LMs (LMs (LMs (LMs (LMs LM0))))))) (by decide) (by decide) (by decide) (Or.inr ⟨by decide, by decide⟩) (Sub.cons (LMs LM0) (by decide) (by decide) (by decide) (Or.inr ⟨by decide, by decide⟩) (Sub.cons (LMs (LMs (LMs (LMs (LMs (LMs (LMs (LMs LM0)))))))) (by decide) (by decide) (by decide) (Or.inr ⟨by decide, by decide⟩) (Sub.cons LM0 (by decide) (by decide) (by decide) (Or.inl rfl) Sub.nil)))))))
                  rcases h_149 with ⟨f_157, hx_158, hk_159, e_160⟩ | ⟨a_161, hst_162, hl_163, hx_164, hk_165, hL_166, hb_167, e_168⟩
                  · skip
                    refine aw_eqi (y := 0) e_160 ?_
                    refine aw_if_eq (tgt := 93) dX12_dreads_86 (by decide) (fun c_169 => ?_) (fun c_169 => ?_)
                    rotate_left
                    · exact absurd (by decide) c_169
                    refine aw_iconst (v := 0) dX12_dreads_93 (by decide) ?_
                    refine aw_istore_n (ls' := [some (.ref (b + 100)), some (.int (nI zn0)), some (.int (nI zn1)), some (.int 0)]) dX12_dreads_94 (Nat.le_of_ble_eq_true rfl) rfl ?_
                    refine aw_goto (tgt := 57) dX12_dreads_95 (by decide) ?_
                    refine aw_le ?_ (mih_57_116 _ (by rw [hm57]; exact tl_dec c_117 (by omega) (Or.inl rfl) (by omega)) a57 L57 0 V_152 rfl (j_151) (((JR.fI q_148 (by decide) (by decide) (nfc (by omega) (nfc (by omega) (nfc (by omega) (nfc (by omega) (nfc (by omega) (nfc (by omega) nf0))))))).trans ((JR.fI q_133 (by decide) (by decide) (nfc (by omega) (nfc (by omega) nf0))).trans i57_1))) (((JR.same q_148 (by decide) (by decide) (fun k => (nfc (by omega) (nfc (by omega) (nfc (by omega) (nfc (by omega) (nfc (by omega) (nfc (by omega) nf0)))))))).trans ((JR.same q_133 (by decide) (by decide) (fun k => (nfc (by omega) (nfc (by omega) nf0)))).trans i57_2))) (Or.inl ⟨rfl, hX57.symm.trans ((af_go hy_141).trans (hx_158.trans (congrArg Sum.inl hk_159.symm)))⟩) (by omega) (((JR.fI q_148 (by decide) (by decide) (nfc (by omega) (nfc (by omega) (nfc (by omega) (nfc (by omega) (nfc (by omega) (nfc (by omega) nf0))))))).trans ((JR.fI q_133 (by decide) (by decide) (nfc (by omega) (nfc (by omega) nf0))).trans i57_5))) (((JR.fI q_148 (by decide) (by decide) (nfc (by omega) (nfc (by omega) (nfc (by omega) (nfc (by omega) (nfc (by omega) (nfc (by omega) nf0))))))).trans ((JR.fI q_133 (by decide) (by decide) (nfc (by omega) (nfc (by omega) nf0))).trans i57_6))))
                    exact ⟨rfl, ⟨rfl, ⟨rfl, ⟨rfl, trivial⟩⟩⟩⟩
                  · skip
                    refine aw_eqi (y := 1) e_168 ?_
                    obtain ⟨hb_167a, hb_167b⟩ := hb_167
                    refine aw_if_eq (tgt := 93) dX12_dreads_86 (by decide) (fun c_170 => ?_) (fun c_170 => ?_)
                    · exact absurd c_170 (by decide)
                    refine aw_iconst (v := 1) dX12_dreads_89 (by decide) ?_
                    refine aw_goto (tgt := 94) dX12_dreads_90 (by decide) ?_
                    refine aw_istore_n (ls' := [some (.ref (b + 100)), some (.int (nI zn0)), some (.int (nI zn1)), some (.int 1)]) dX12_dreads_94 (Nat.le_of_ble_eq_true rfl) rfl ?_
                    refine aw_goto (tgt := 57) dX12_dreads_95 (by decide) ?_
                    refine aw_le ?_ (mih_57_116 _ (by rw [hm57]; exact tl_dec c_117 (by omega) (Or.inr (by omega)) (by omega)) a_161 (L57 + 1) 1 V_152 rfl (j_151) (((JR.fI q_148 (by decide) (by decide) (nfc (by omega) (nfc (by omega) (nfc (by omega) (nfc (by omega) (nfc (by omega) (nfc (by omega) nf0))))))).trans ((JR.fI q_133 (by decide) (by decide) (nfc (by omega) (nfc (by omega) nf0))).trans i57_1))) (((JR.same q_148 (by decide) (by decide) (fun k => (nfc (by omega) (nfc (by omega) (nfc (by omega) (nfc (by omega) (nfc (by omega) (nfc (by omega) nf0)))))))).trans ((JR.same q_133 (by decide) (by decide) (fun k => (nfc (by omega) (nfc (by omega) nf0)))).trans i57_2))) (Or.inr ⟨rfl, hk_165, hL_166, ⟨by omega, by omega, by omega⟩, by have q := (tx_go (M := 20) (ln := (fun a _ => lnD (gb g_2) zn1 a)) hst_162 hx_164 (by omega)).symm.trans ((af_go hy_141).symm.trans hX57); rw [show 20 - L57 - 1 = 20 - (L57 + 1) by omega] at q; exact q⟩) (by omega) (((JR.fI q_148 (by decide) (by decide) (nfc (by omega) (nfc (by omega) (nfc (by omega) (nfc (by omega) (nfc (by omega) (nfc (by omega) nf0))))))).trans ((JR.fI q_133 (by decide) (by decide) (nfc (by omega) (nfc (by omega) nf0))).trans i57_5))) (((JR.fI q_148 (by decide) (by decide) (nfc (by omega) (nfc (by omega) (nfc (by omega) (nfc (by omega) (nfc (by omega) (nfc (by omega) nf0))))))).trans ((JR.fI q_133 (by decide) (by decide) (nfc (by omega) (nfc (by omega) nf0))).trans i57_6))))
                    exact ⟨rfl, ⟨rfl, ⟨rfl, ⟨rfl, trivial⟩⟩⟩⟩
                · skip
                  refine aw_eqi (y := 0) e_146 ?_
                  refine aw_if_eq (tgt := 93) dX12_dreads_78 (by decide) (fun c_171 => ?_) (fun c_171 => ?_)
                  rotate_left
                  · exact absurd (by decide) c_171
                  refine aw_iconst (v := 0) dX12_dreads_93 (by decide) ?_
                  refine aw_istore_n (ls' := [some (.ref (b + 100)), some (.int (nI zn0)), some (.int (nI zn1)), some (.int 0)]) dX12_dreads_94 (Nat.le_of_ble_eq_true rfl) rfl ?_
                  refine aw_goto (tgt := 57) dX12_dreads_95 (by decide) ?_
                  refine aw_le ?_ (mih_57_116 _ (by rw [hm57]; exact tl_dec c_117 (by omega) (Or.inl rfl) (by omega)) a57 L57 0 V_137 rfl (j_136) (((JR.fI q_133 (by decide) (by decide) (nfc (by omega) (nfc (by omega) nf0))).trans i57_1)) (((JR.same q_133 (by decide) (by decide) (fun k => (nfc (by omega) (nfc (by omega) nf0)))).trans i57_2)) (Or.inl ⟨rfl, hX57.symm.trans ((af_no (by omega) hn_144).trans (congrArg Sum.inl hk_145.symm))⟩) (by omega) (((JR.fI q_133 (by decide) (by decide) (nfc (by omega) (nfc (by omega) nf0))).trans i57_5)) (((JR.fI q_133 (by decide) (by decide) (nfc (by omega) (nfc (by omega) nf0))).trans i57_6)))
                  exact ⟨rfl, ⟨rfl, ⟨rfl, ⟨rfl, trivial⟩⟩⟩⟩
          refine aw_le ?_ (ml_57_116 _ a_52 (0 + 1) 1 V_43 rfl (j_42) (((JR.fI q_39 (by decide) (by decide) (nfc (by omega) (nfc (by omega) (nfc (by omega) (nfc (by omega) (nfc (by omega) (nfc (by omega) nf0))))))).trans ((JR.fI q_33 (by decide) (by decide) (nfc (by omega) nf0)).trans (KA (s := 36) (x := .int 0) e_31 rfl (by decide) e_32 k_32 hb_28b)))) (((JR.same q_39 (by decide) (by decide) (fun k => (nfc (by omega) (nfc (by omega) (nfc (by omega) (nfc (by omega) (nfc (by omega) (nfc (by omega) nf0)))))))).trans ((JR.same q_33 (by decide) (by decide) (fun k => (nfc (by omega) nf0))).trans ((k_32 _ (by decide)).trans ((JR.same q_24 (by decide) (by decide) (fun k => (nfc (by omega) (nfc (by omega) (nfc (by omega) (nfc (by omega) nf0)))))).trans e_2))))) (Or.inr ⟨rfl, hk_56, hL_57, ⟨by omega, by omega, by omega⟩, (tx_go (M := 20) (ln := (fun a _ => lnD (gb g_2) zn1 a)) hst_53 hx_55 (by decide)).symm⟩) (by omega) (((JR.fI q_39 (by decide) (by decide) (nfc (by omega) (nfc (by omega) (nfc (by omega) (nfc (by omega) (nfc (by omega) (nfc (by omega) nf0))))))).trans ((JR.fI q_33 (by decide) (by decide) (nfc (by omega) nf0)).trans (KA (s := 36) (x := .int 0) e_31 rfl (by decide) e_32 k_32 ((JR.fI q_24 (by decide) (by decide) (nfc (by omega) (nfc (by omega) (nfc (by omega) (nfc (by omega) nf0))))).trans (Eq.refl (fI (V 101) 208))))))) (((JR.fI q_39 (by decide) (by decide) (nfc (by omega) (nfc (by omega) (nfc (by omega) (nfc (by omega) (nfc (by omega) (nfc (by omega) nf0))))))).trans ((h_34 208 (by decide)).trans (KA (s := 36) (x := .int 0) e_31 rfl (by decide) e_32 k_32 ((JR.fI q_24 (by decide) (by decide) (nfc (by omega) (nfc (by omega) (nfc (by omega) (nfc (by omega) nf0))))).trans (Eq.refl (fI (V 101) 208))))))))
          exact ⟨rfl, ⟨rfl, ⟨rfl, ⟨rfl, trivial⟩⟩⟩⟩
      · skip
        have nc_23 : ¬ (zn1 ≤ tad_1) := fun z => c_23 ((nI_leI (a := zn1) (b := tad_1) (by omega) (by omega)).mpr z)
        refine aw_iconst (v := (-1)) dX12_dreads_28 (by decide) ?_
        refine aw_ireti dX12_dreads_29 rfl (Nat.le_of_ble_eq_true rfl) (Nat.le_of_ble_eq_true rfl) ?_
        exact ⟨⟨Or.inr ⟨(by have zhi_6 := hi_6.resolve_left c_12; have zhi_16 := hi_16.resolve_left c_22; have zzzn0 := fx_nIt (n := zn0) (by omega); have zzzn1 := fx_nIt (n := zn1) (by omega); have zt := fx_nIt (n := tad_1) (by omega); have e0 : (0 : Int32).toInt = 0 := (by decide); have e1 : (1 : Int32).toInt = 1 := (by decide); have e11 : (11 : Int32).toInt = 11 := (by decide); have e120 : (120 : Int32).toInt = 120 := (by decide); have q0 := zhi_6; have q1 := zhi_16; have q2 := hm.1; have q3 := hm.2; have q4 := hta0; simp only [cDr, ← Int32.toInt_inj, Int32.le_iff_toInt_le, Int32.lt_iff_toInt_lt] at q0 q1 q2 q3 q4 ⊢; omega), rfl⟩, Or.inr ⟨(by have zhi_6 := hi_6.resolve_left c_12; have zhi_16 := hi_16.resolve_left c_22; have zzzn0 := fx_nIt (n := zn0) (by omega); have zzzn1 := fx_nIt (n := zn1) (by omega); have zt := fx_nIt (n := tad_1) (by omega); have e0 : (0 : Int32).toInt = 0 := (by decide); have e1 : (1 : Int32).toInt = 1 := (by decide); have e11 : (11 : Int32).toInt = 11 := (by decide); have e120 : (120 : Int32).toInt = 120 := (by decide); have q0 := zhi_6; have q1 := zhi_16; have q2 := hm.1; have q3 := hm.2; have q4 := hta0; simp only [cDr, ← Int32.toInt_inj, Int32.le_iff_toInt_le, Int32.lt_iff_toInt_lt] at q0 q1 q2 q3 q4 ⊢; omega), hta0.trans hta0.symm⟩, (Eq.refl (fI (V 101) 208))⟩, rfl, hJ0⟩

theorem nar255 (x : Int32) : (vp_nar .byte (x.toInt8.toInt32)) &&& 255 = x &&& 255 := by
  have h0 : vp_nar .byte (x.toInt8.toInt32) = x.toInt8.toInt32.toInt8.toInt32 := rfl
  have hb : ∀ i : Nat, i < 32 → (255#32).getLsbD i = decide (i < 8) := by decide
  rw [h0]
  apply Int32.toBitVec_inj.mp
  rw [Int32.toBitVec_and, Int32.toBitVec_and]
  apply BitVec.eq_of_getLsbD_eq
  intro i hi
  rw [BitVec.getLsbD_and, BitVec.getLsbD_and, show (255 : Int32).toBitVec = 255#32 from rfl, hb i hi]
  have k1 : ∀ (w v : Nat) (y : BitVec w), i < w → i < v → (y.signExtend v).getLsbD i = y.getLsbD i := fun w v y h1 h2 => by
    rw [BitVec.getLsbD_signExtend]; simp [h1, h2]
  by_cases h8 : i < 8
  · rw [Int8.toBitVec_toInt32, Int32.toBitVec_toInt8, Int8.toBitVec_toInt32, Int32.toBitVec_toInt8, k1 _ _ _ h8 hi, k1 _ _ _ hi h8, k1 _ _ _ h8 hi, k1 _ _ _ hi h8]
  · simp [h8]
theorem ap4_ofm {D : va_G} {V V' : Wd} {g : Nat → Int32} {s : Nat} {v : Int32} (e0 : V 110 = cB D 260 g) (e : V' 110 = cB D 260 (upd (upd (upd (upd g (nI s).toNatClampNeg (vp_nar .byte ((v >>> (24 &&& 31)).toInt8.toInt32))) (nI (s + 1)).toNatClampNeg (vp_nar .byte ((v >>> (16 &&& 31)).toInt8.toInt32))) (nI (s + 1 + 1)).toNatClampNeg (vp_nar .byte ((v >>> (8 &&& 31)).toInt8.toInt32))) (nI (s + 1 + 1 + 1)).toNatClampNeg (vp_nar .byte ((v >>> (0 &&& 31)).toInt8.toInt32)))) (hs : s + 4 ≤ 260) : gb (fI (V' 110)) = ap4 (gb (fI (V 110))) s v := by
  have hf : fI (V 110) = g := funext fun k => by rw [e0]; rfl
  rw [nI_clamp (n := s) (by omega), nI_clamp (n := s + 1) (by omega), nI_clamp (n := s + 1 + 1) (by omega), nI_clamp (n := s + 1 + 1 + 1) (by omega)] at e
  have hu : ∀ (h : Nat → Int32) (k : Nat) (x y : Int32), x &&& 255 = y → gb (upd h k x) = upd (gb h) k y := fun h k x y q => funext fun i => by
    by_cases c : i = k
    · subst c; show upd h i x i &&& 255 = _; rw [pk_us, pk_us]; exact q
    · show upd h k x i &&& 255 = _; rw [pk_un c, pk_un c]
  have h9 : fI (V' 110) = upd (upd (upd (upd g s (vp_nar .byte ((v >>> (24 &&& 31)).toInt8.toInt32))) (s + 1) (vp_nar .byte ((v >>> (16 &&& 31)).toInt8.toInt32))) (s + 1 + 1) (vp_nar .byte ((v >>> (8 &&& 31)).toInt8.toInt32))) (s + 1 + 1 + 1) (vp_nar .byte ((v >>> (0 &&& 31)).toInt8.toInt32)) := funext fun k => (congrArg (fun z => fI z k) e).trans rfl
  rw [h9, hf, hu _ _ _ _ (nar255 _), hu _ _ _ _ (nar255 _), hu _ _ _ _ (nar255 _), hu _ _ _ _ (nar255 _)]
  rfl

set_option maxHeartbeats 4000000 in
set_option maxRecDepth 100000 in
theorem r_typesS (l : Launch) (D : va_G) (b : Nat) (N : Nat) (V : Wd) (hN : 133 ≤ N) (cl : Nat) (hW : CR D b cl V) (n0 : Int32) (s : Nat) (hs : fI (V 100) 13 = nI s ∧ s + 4 ≤ 260) : MV l D b 0 jX12_types [.ref (b + 100), .int n0] N V 0 0 (fun N9 V9 => (fI (V9 100) 13 = nI (s + 4) ∧ gb (fI (V9 110)) = ap4 (gb (fI (V 110))) s n0) ∧ N = N9 ∧ JR D b N cl [(110, 110, 0, 1000000), (100, 100, 13, 13)] V V9) := by
  have hJ0 : JR D b N cl [(110, 110, 0, 1000000), (100, 100, 13, 13)] V V := JR.rf hW
  refine mw_of (by decide) (by simp [Value.category]) (Nat.le_of_ble_eq_true rfl) ?_
  show AW l D b jX12_types (fx_rm 0 0 0) none (fx_MQ D b 0 0 (fx_qv (fun N9 V9 => (fI (V9 100) 13 = nI (s + 4) ∧ gb (fI (V9 110)) = ap4 (gb (fI (V 110))) s n0) ∧ N = N9 ∧ JR D b N cl [(110, 110, 0, 1000000), (100, 100, 13, 13)] V V9))) 0 [some (.ref (b + 100)), some (.int n0), none] [] N V 0 0
  obtain ⟨hs0, hs4⟩ := hs
  obtain ⟨g_1, e_1⟩ := JR.get hJ0 cm_110
  refine aw_iconst (v := 3) dX12_types_0 (by decide) ?_
  refine aw_istore_n (ls' := [some (.ref (b + 100)), some (.int n0), some (.int 3)]) dX12_types_1 (Nat.le_of_ble_eq_true rfl) rfl ?_
  refine aw_iload_n dX12_types_2 rfl ?_
  refine aw_if_lt (tgt := 38) dX12_types_3 (by decide) (fun c_2 => ?_) (fun c_2 => ?_)
  · exact absurd c_2 (by decide)
  refine aw_aload_n dX12_types_6 rfl ?_
  obtain ⟨ftoldPeople_3, ftoldDoors_3, fwasDoors_3, ffault_3, fopen_3, flines_3, fmeantSet_3, fopenedNow_3, fvainNow_3, flowNow_3, fhighNow_3, fisKept_3, tad_3, pl0_3, le0_3, nu0_3, coy_3, wag_3, say_3, e_3, hntad_3, hnpl0_3, hnle0_3, hnnu0_3, hncoy_3, hnwag_3, hnsay_3⟩ := JR.get hJ0 cm_100
  refine aw_get dX12_types_7 fl_X12_37 e_3 (by omega) rfl ?_
  refine aw_aload_n dX12_types_10 rfl ?_
  refine aw_get dX12_types_11 fl_X12_152 e_3 (by omega) rfl ?_
  refine aw_eqi (y := (nI s)) ((Eq.symm (congrArg (fun z => fI z 13) e_3)).trans hs0) ?_
  refine aw_iload_n dX12_types_14 rfl ?_
  refine aw_bipush (v := 8) dX12_types_15 (by decide) ?_
  refine aw_iload_n dX12_types_17 rfl ?_
  refine aw_imul dX12_types_18 ?_
  refine aw_eqi (y := 24) (by decide) ?_
  refine aw_ishr dX12_types_19 ?_
  refine aw_i2b dX12_types_20 rfl ?_
  refine aw_bast dX12_types_21 e_1 (by omega) (vp_in_nI (n := s) (by omega) (by omega)) ?_
  refine aw_upR hJ0 cm_110 ⟨_, rfl⟩ (by decide) (WA LM0 (by decide) (by decide)) (fun V_4 j_4 k_4 e_4 => ?_)
  refine aw_aload_n dX12_types_22 rfl ?_
  refine aw_aload_n dX12_types_23 rfl ?_
  refine aw_get dX12_types_24 fl_X12_152 ((k_4 _ (by decide)).trans e_3) (by omega) rfl ?_
  refine aw_eqi (y := (nI s)) ((Eq.symm (congrArg (fun z => fI z 13) ((k_4 _ (by decide)).trans e_3))).trans ((congrArg (fun z => fI z 13) (k_4 _ (by omega))).trans hs0)) ?_
  refine aw_iconst (v := 1) dX12_types_27 (by decide) ?_
  refine aw_iadd dX12_types_28 ?_
  refine aw_eqi (y := nI (s + 1)) (nI_add _ _) ?_
  refine aw_put dX12_types_29 fp_X12_152 ((k_4 _ (by decide)).trans e_3) (by omega) rfl rfl (Nat.le_of_ble_eq_true rfl) rfl ?_
  refine aw_upR j_4 cm_100 ⟨_, _, _, _, _, _, _, _, _, _, _, _, (s + 1), pl0_3, le0_3, nu0_3, coy_3, wag_3, say_3, rfl, by omega, by omega, by omega, by omega, by omega, by omega, by omega⟩ (by decide) (WO (s := 13) (x := .int (nI (s + 1))) ((k_4 _ (by decide)).trans e_3) rfl (LMs LM0) (by decide) (by decide) (by decide) (Or.inl (by decide))) (fun V_5 j_5 k_5 e_5 => ?_)
  refine aw_iinc (v := 2) (ls' := [some (.ref (b + 100)), some (.int n0), some (.int 2)]) dX12_types_32 rfl (by decide) (Nat.le_of_ble_eq_true rfl) rfl ?_
  refine aw_goto (tgt := 2) dX12_types_35 (by decide) ?_
  refine aw_iload_n dX12_types_2 rfl ?_
  refine aw_if_lt (tgt := 38) dX12_types_3 (by decide) (fun c_6 => ?_) (fun c_6 => ?_)
  · exact absurd c_6 (by decide)
  refine aw_aload_n dX12_types_6 rfl ?_
  refine aw_get dX12_types_7 fl_X12_37 e_5 (by omega) rfl ?_
  refine aw_aload_n dX12_types_10 rfl ?_
  refine aw_get dX12_types_11 fl_X12_152 e_5 (by omega) rfl ?_
  refine aw_iload_n dX12_types_14 rfl ?_
  refine aw_bipush (v := 8) dX12_types_15 (by decide) ?_
  refine aw_iload_n dX12_types_17 rfl ?_
  refine aw_imul dX12_types_18 ?_
  refine aw_eqi (y := 16) (by decide) ?_
  refine aw_ishr dX12_types_19 ?_
  refine aw_i2b dX12_types_20 rfl ?_
  refine aw_bast dX12_types_21 ((k_5 _ (by decide)).trans e_4) (by omega) (vp_in_nI (n := (s + 1)) (by omega) (by omega)) ?_
  refine aw_upR j_5 cm_110 ⟨_, rfl⟩ (by decide) (WA LM0 (by decide) (by decide)) (fun V_7 j_7 k_7 e_7 => ?_)
  refine aw_aload_n dX12_types_22 rfl ?_
  refine aw_aload_n dX12_types_23 rfl ?_
  refine aw_get dX12_types_24 fl_X12_152 ((k_7 _ (by decide)).trans e_5) (by omega) rfl ?_
  refine aw_iconst (v := 1) dX12_types_27 (by decide) ?_
  refine aw_iadd dX12_types_28 ?_
  refine aw_eqi (y := nI ((s + 1) + 1)) (nI_add _ _) ?_
  refine aw_put dX12_types_29 fp_X12_152 ((k_7 _ (by decide)).trans e_5) (by omega) rfl rfl (Nat.le_of_ble_eq_true rfl) rfl ?_
  refine aw_upR j_7 cm_100 ⟨_, _, _, _, _, _, _, _, _, _, _, _, ((s + 1) + 1), pl0_3, le0_3, nu0_3, coy_3, wag_3, say_3, rfl, by omega, by omega, by omega, by omega, by omega, by omega, by omega⟩ (by decide) (WO (s := 13) (x := .int (nI ((s + 1) + 1))) ((k_7 _ (by decide)).trans e_5) rfl (LMs LM0) (by decide) (by decide) (by decide) (Or.inl (by decide))) (fun V_8 j_8 k_8 e_8 => ?_)
  refine aw_iinc (v := 1) (ls' := [some (.ref (b + 100)), some (.int n0), some (.int 1)]) dX12_types_32 rfl (by decide) (Nat.le_of_ble_eq_true rfl) rfl ?_
  refine aw_goto (tgt := 2) dX12_types_35 (by decide) ?_
  refine aw_iload_n dX12_types_2 rfl ?_
  refine aw_if_lt (tgt := 38) dX12_types_3 (by decide) (fun c_9 => ?_) (fun c_9 => ?_)
  · exact absurd c_9 (by decide)
  refine aw_aload_n dX12_types_6 rfl ?_
  refine aw_get dX12_types_7 fl_X12_37 e_8 (by omega) rfl ?_
  refine aw_aload_n dX12_types_10 rfl ?_
  refine aw_get dX12_types_11 fl_X12_152 e_8 (by omega) rfl ?_
  refine aw_iload_n dX12_types_14 rfl ?_
  refine aw_bipush (v := 8) dX12_types_15 (by decide) ?_
  refine aw_iload_n dX12_types_17 rfl ?_
  refine aw_imul dX12_types_18 ?_
  refine aw_eqi (y := 8) (by decide) ?_
  refine aw_ishr dX12_types_19 ?_
  refine aw_i2b dX12_types_20 rfl ?_
  refine aw_bast dX12_types_21 ((k_8 _ (by decide)).trans e_7) (by omega) (vp_in_nI (n := ((s + 1) + 1)) (by omega) (by omega)) ?_
  refine aw_upR j_8 cm_110 ⟨_, rfl⟩ (by decide) (WA LM0 (by decide) (by decide)) (fun V_10 j_10 k_10 e_10 => ?_)
  refine aw_aload_n dX12_types_22 rfl ?_
  refine aw_aload_n dX12_types_23 rfl ?_
  refine aw_get dX12_types_24 fl_X12_152 ((k_10 _ (by decide)).trans e_8) (by omega) rfl ?_
  refine aw_iconst (v := 1) dX12_types_27 (by decide) ?_
  refine aw_iadd dX12_types_28 ?_
  refine aw_eqi (y := nI (((s + 1) + 1) + 1)) (nI_add _ _) ?_
  refine aw_put dX12_types_29 fp_X12_152 ((k_10 _ (by decide)).trans e_8) (by omega) rfl rfl (Nat.le_of_ble_eq_true rfl) rfl ?_
  refine aw_upR j_10 cm_100 ⟨_, _, _, _, _, _, _, _, _, _, _, _, (((s + 1) + 1) + 1), pl0_3, le0_3, nu0_3, coy_3, wag_3, say_3, rfl, by omega, by omega, by omega, by omega, by omega, by omega, by omega⟩ (by decide) (WO (s := 13) (x := .int (nI (((s + 1) + 1) + 1))) ((k_10 _ (by decide)).trans e_8) rfl (LMs LM0) (by decide) (by decide) (by decide) (Or.inl (by decide))) (fun V_11 j_11 k_11 e_11 => ?_)
  refine aw_iinc (v := 0) (ls' := [some (.ref (b + 100)), some (.int n0), some (.int 0)]) dX12_types_32 rfl (by decide) (Nat.le_of_ble_eq_true rfl) rfl ?_
  refine aw_goto (tgt := 2) dX12_types_35 (by decide) ?_
  refine aw_iload_n dX12_types_2 rfl ?_
  refine aw_if_lt (tgt := 38) dX12_types_3 (by decide) (fun c_12 => ?_) (fun c_12 => ?_)
  · exact absurd c_12 (by decide)
  refine aw_aload_n dX12_types_6 rfl ?_
  refine aw_get dX12_types_7 fl_X12_37 e_11 (by omega) rfl ?_
  refine aw_aload_n dX12_types_10 rfl ?_
  refine aw_get dX12_types_11 fl_X12_152 e_11 (by omega) rfl ?_
  refine aw_iload_n dX12_types_14 rfl ?_
  refine aw_bipush (v := 8) dX12_types_15 (by decide) ?_
  refine aw_iload_n dX12_types_17 rfl ?_
  refine aw_imul dX12_types_18 ?_
  refine aw_eqi (y := 0) (by decide) ?_
  refine aw_ishr dX12_types_19 ?_
  refine aw_i2b dX12_types_20 rfl ?_
  refine aw_bast dX12_types_21 ((k_11 _ (by decide)).trans e_10) (by omega) (vp_in_nI (n := (((s + 1) + 1) + 1)) (by omega) (by omega)) ?_
  refine aw_upR j_11 cm_110 ⟨_, rfl⟩ (by decide) (WA LM0 (by decide) (by decide)) (fun V_13 j_13 k_13 e_13 => ?_)
  refine aw_aload_n dX12_types_22 rfl ?_
  refine aw_aload_n dX12_types_23 rfl ?_
  refine aw_get dX12_types_24 fl_X12_152 ((k_13 _ (by decide)).trans e_11) (by omega) rfl ?_
  refine aw_iconst (v := 1) dX12_types_27 (by decide) ?_
  refine aw_iadd dX12_types_28 ?_
  refine aw_eqi (y := nI ((((s + 1) + 1) + 1) + 1)) (nI_add _ _) ?_
  refine aw_put dX12_types_29 fp_X12_152 ((k_13 _ (by decide)).trans e_11) (by omega) rfl rfl (Nat.le_of_ble_eq_true rfl) rfl ?_
  refine aw_upR j_13 cm_100 ⟨_, _, _, _, _, _, _, _, _, _, _, _, ((((s + 1) + 1) + 1) + 1), pl0_3, le0_3, nu0_3, coy_3, wag_3, say_3, rfl, by omega, by omega, by omega, by omega, by omega, by omega, by omega⟩ (by decide) (WO (s := 13) (x := .int (nI ((((s + 1) + 1) + 1) + 1))) ((k_13 _ (by decide)).trans e_11) rfl (LMs LM0) (by decide) (by decide) (by decide) (Or.inl (by decide))) (fun V_14 j_14 k_14 e_14 => ?_)
  refine aw_iinc (v := (-1)) (ls' := [some (.ref (b + 100)), some (.int n0), some (.int (-1))]) dX12_types_32 rfl (by decide) (Nat.le_of_ble_eq_true rfl) rfl ?_
  refine aw_goto (tgt := 2) dX12_types_35 (by decide) ?_
  refine aw_iload_n dX12_types_2 rfl ?_
  refine aw_if_lt (tgt := 38) dX12_types_3 (by decide) (fun c_15 => ?_) (fun c_15 => ?_)
  rotate_left
  · exact absurd (by decide) c_15
  refine aw_vreti dX12_types_38 rfl (Nat.le_of_ble_eq_true rfl) (Nat.le_of_ble_eq_true rfl) ?_
  exact ⟨⟨((congrArg (fun z => fI z 13) e_14).trans rfl).trans (congrArg nI (by omega)), ap4_ofm e_1 ((k_14 _ (by decide)).trans e_13) hs4⟩, rfl, j_14⟩

set_option maxHeartbeats 4000000 in
set_option maxRecDepth 100000 in
theorem r_feedS (l : Launch) (D : va_G) (b : Nat) (N : Nat) (V : Wd) (hN : 133 ≤ N) (cl : Nat) (hW : CR D b cl V) (n0 : Int32) (n1 : Int32) (n2 : Int32) (n3 : Int32) (n4 : Int32)  : MI l D b 1 jX12_feed [.ref (b + 100), .int n0, .int n1, .int n2, .int n3, .int n4] N V 0 0 (fun r N9 V9 => (FDS (fI (V 100) 13) r (fI (V9 100) 13) ∧ FDB (fI (V 100) 13) (gb (fI (V 110))) (gb (fI (V9 110))) n0 n1 n2 n3 n4) ∧ N = N9 ∧ JR D b N cl [(110, 110, 0, 1000000), (100, 100, 13, 13)] V V9) := by
  have hJ0 : JR D b N cl [(110, 110, 0, 1000000), (100, 100, 13, 13)] V V := JR.rf hW
  refine mw_of (by decide) (by simp [Value.category]) (Nat.le_of_ble_eq_true rfl) ?_
  show AW l D b jX12_feed (fx_rm 1 0 0) none (fx_MQ D b 0 0 (fx_qi (fun r N9 V9 => (FDS (fI (V 100) 13) r (fI (V9 100) 13) ∧ FDB (fI (V 100) 13) (gb (fI (V 110))) (gb (fI (V9 110))) n0 n1 n2 n3 n4) ∧ N = N9 ∧ JR D b N cl [(110, 110, 0, 1000000), (100, 100, 13, 13)] V V9))) 0 [some (.ref (b + 100)), some (.int n0), some (.int n1), some (.int n2), some (.int n3), some (.int n4)] [] N V 0 0
  obtain ⟨ftoldPeople_1, ftoldDoors_1, fwasDoors_1, ffault_1, fopen_1, flines_1, fmeantSet_1, fopenedNow_1, fvainNow_1, flowNow_1, fhighNow_1, fisKept_1, tad_1, pl0_1, le0_1, nu0_1, coy_1, wag_1, say_1, e_1, hntad_1, hnpl0_1, hnle0_1, hnnu0_1, hncoy_1, hnwag_1, hnsay_1⟩ := JR.get hJ0 cm_100
  have hta0 : fI (V 100) 13 = nI tad_1 := ((congrArg (fun z => fI z 13) e_1).trans rfl)
  refine aw_aload_n dX12_feed_0 rfl ?_
  refine aw_get dX12_feed_1 fl_X12_152 e_1 (by omega) rfl ?_
  refine aw_bipush (v := 20) dX12_feed_4 (by decide) ?_
  refine aw_iadd dX12_feed_6 ?_
  refine aw_eqi (y := nI (tad_1 + 20)) (nI_add _ _) ?_
  refine aw_sipush (v := 260) dX12_feed_7 (by decide) ?_
  refine aw_icmp_le (tgt := 15) dX12_feed_10 (by decide) (fun c_2 => ?_) (fun c_2 => ?_)
  · skip
    have nc_2 : (tad_1 + 20) ≤ 260 := (nI_leI (a := (tad_1 + 20)) (b := 260) (by omega) (by omega)).mp c_2
    refine aw_aload_n dX12_feed_15 rfl ?_
    refine aw_iload_n dX12_feed_16 rfl ?_
    refine aw_callVv (J' := jX12_types) (As := [.int n0]) (st := []) dX12_feed_17 tb_1201 ok_X12_types ⟨_, e_1⟩ (by omega) rfl rfl (r_typesS l D b N V hN cl hJ0.1 n0 tad_1 ⟨hta0, by omega⟩) rfl (Nat.le_of_ble_eq_true rfl) ⟨Nat.le_of_ble_eq_true rfl, Nat.le_of_ble_eq_true rfl, Nat.le_of_ble_eq_true rfl, Nat.le_of_ble_eq_true rfl⟩ (fun  N_7 V_6 q_8 => ?_)
    obtain ⟨h_4, rfl, q_3⟩ := q_8
    have j_5 := JR.trans hJ0 (JR.weak q_3 (Sub.cons LM0 (by decide) (by decide) (by decide) (Or.inl rfl) (Sub.cons (LMs LM0) (by decide) (by decide) (by decide) (Or.inr ⟨by decide, by decide⟩) Sub.nil)))
    obtain ⟨h_4s, h_4b⟩ := h_4
    refine aw_aload_n dX12_feed_20 rfl ?_
    refine aw_iload_n dX12_feed_21 rfl ?_
    obtain ⟨ftoldPeople_13, ftoldDoors_13, fwasDoors_13, ffault_13, fopen_13, flines_13, fmeantSet_13, fopenedNow_13, fvainNow_13, flowNow_13, fhighNow_13, fisKept_13, tad_13, pl0_13, le0_13, nu0_13, coy_13, wag_13, say_13, e_13, hntad_13, hnpl0_13, hnle0_13, hnnu0_13, hncoy_13, hnwag_13, hnsay_13⟩ := JR.get j_5 cm_100
    refine aw_callVv (J' := jX12_types) (As := [.int n1]) (st := []) dX12_feed_22 tb_1201 ok_X12_types ⟨_, e_13⟩ (by omega) rfl rfl (r_typesS l D b N V_6 hN cl j_5.1 n1 (tad_1 + 4) ⟨h_4s, by omega⟩) rfl (Nat.le_of_ble_eq_true rfl) ⟨Nat.le_of_ble_eq_true rfl, Nat.le_of_ble_eq_true rfl, Nat.le_of_ble_eq_true rfl, Nat.le_of_ble_eq_true rfl⟩ (fun  N_14 V_12 q_15 => ?_)
    obtain ⟨h_10, rfl, q_9⟩ := q_15
    have j_11 := JR.trans j_5 (JR.weak q_9 (Sub.cons LM0 (by decide) (by decide) (by decide) (Or.inl rfl) (Sub.cons (LMs LM0) (by decide) (by decide) (by decide) (Or.inr ⟨by decide, by decide⟩) Sub.nil)))
    obtain ⟨h_10s, h_10b⟩ := h_10
    refine aw_aload_n dX12_feed_25 rfl ?_
    refine aw_iload_n dX12_feed_26 rfl ?_
    obtain ⟨ftoldPeople_20, ftoldDoors_20, fwasDoors_20, ffault_20, fopen_20, flines_20, fmeantSet_20, fopenedNow_20, fvainNow_20, flowNow_20, fhighNow_20, fisKept_20, tad_20, pl0_20, le0_20, nu0_20, coy_20, wag_20, say_20, e_20, hntad_20, hnpl0_20, hnle0_20, hnnu0_20, hncoy_20, hnwag_20, hnsay_20⟩ := JR.get j_11 cm_100
    refine aw_callVv (J' := jX12_types) (As := [.int n2]) (st := []) dX12_feed_27 tb_1201 ok_X12_types ⟨_, e_20⟩ (by omega) rfl rfl (r_typesS l D b N V_12 hN cl j_11.1 n2 ((tad_1 + 4) + 4) ⟨h_10s, by omega⟩) rfl (Nat.le_of_ble_eq_true rfl) ⟨Nat.le_of_ble_eq_true rfl, Nat.le_of_ble_eq_true rfl, Nat.le_of_ble_eq_true rfl, Nat.le_of_ble_eq_true rfl⟩ (fun  N_21 V_19 q_22 => ?_)
    obtain ⟨h_17, rfl, q_16⟩ := q_22
    have j_18 := JR.trans j_11 (JR.weak q_16 (Sub.cons LM0 (by decide) (by decide) (by decide) (Or.inl rfl) (Sub.cons (LMs LM0) (by decide) (by decide) (by decide) (Or.inr ⟨by decide, by decide⟩) Sub.nil)))
    obtain ⟨h_17s, h_17b⟩ := h_17
    refine aw_aload_n dX12_feed_30 rfl ?_
    refine aw_iload dX12_feed_31 rfl ?_
    obtain ⟨ftoldPeople_27, ftoldDoors_27, fwasDoors_27, ffault_27, fopen_27, flines_27, fmeantSet_27, fopenedNow_27, fvainNow_27, flowNow_27, fhighNow_27, fisKept_27, tad_27, pl0_27, le0_27, nu0_27, coy_27, wag_27, say_27, e_27, hntad_27, hnpl0_27, hnle0_27, hnnu0_27, hncoy_27, hnwag_27, hnsay_27⟩ := JR.get j_18 cm_100
    refine aw_callVv (J' := jX12_types) (As := [.int n3]) (st := []) dX12_feed_33 tb_1201 ok_X12_types ⟨_, e_27⟩ (by omega) rfl rfl (r_typesS l D b N V_19 hN cl j_18.1 n3 (((tad_1 + 4) + 4) + 4) ⟨h_17s, by omega⟩) rfl (Nat.le_of_ble_eq_true rfl) ⟨Nat.le_of_ble_eq_true rfl, Nat.le_of_ble_eq_true rfl, Nat.le_of_ble_eq_true rfl, Nat.le_of_ble_eq_true rfl⟩ (fun  N_28 V_26 q_29 => ?_)
    obtain ⟨h_24, rfl, q_23⟩ := q_29
    have j_25 := JR.trans j_18 (JR.weak q_23 (Sub.cons LM0 (by decide) (by decide) (by decide) (Or.inl rfl) (Sub.cons (LMs LM0) (by decide) (by decide) (by decide) (Or.inr ⟨by decide, by decide⟩) Sub.nil)))
    obtain ⟨h_24s, h_24b⟩ := h_24
    refine aw_aload_n dX12_feed_36 rfl ?_
    refine aw_iload dX12_feed_37 rfl ?_
    obtain ⟨ftoldPeople_34, ftoldDoors_34, fwasDoors_34, ffault_34, fopen_34, flines_34, fmeantSet_34, fopenedNow_34, fvainNow_34, flowNow_34, fhighNow_34, fisKept_34, tad_34, pl0_34, le0_34, nu0_34, coy_34, wag_34, say_34, e_34, hntad_34, hnpl0_34, hnle0_34, hnnu0_34, hncoy_34, hnwag_34, hnsay_34⟩ := JR.get j_25 cm_100
    refine aw_callVv (J' := jX12_types) (As := [.int n4]) (st := []) dX12_feed_39 tb_1201 ok_X12_types ⟨_, e_34⟩ (by omega) rfl rfl (r_typesS l D b N V_26 hN cl j_25.1 n4 ((((tad_1 + 4) + 4) + 4) + 4) ⟨h_24s, by omega⟩) rfl (Nat.le_of_ble_eq_true rfl) ⟨Nat.le_of_ble_eq_true rfl, Nat.le_of_ble_eq_true rfl, Nat.le_of_ble_eq_true rfl, Nat.le_of_ble_eq_true rfl⟩ (fun  N_35 V_33 q_36 => ?_)
    obtain ⟨h_31, rfl, q_30⟩ := q_36
    have j_32 := JR.trans j_25 (JR.weak q_30 (Sub.cons LM0 (by decide) (by decide) (by decide) (Or.inl rfl) (Sub.cons (LMs LM0) (by decide) (by decide) (by decide) (Or.inr ⟨by decide, by decide⟩) Sub.nil)))
    obtain ⟨h_31s, h_31b⟩ := h_31
    refine aw_aload_n dX12_feed_42 rfl ?_
    obtain ⟨ftoldPeople_37, ftoldDoors_37, fwasDoors_37, ffault_37, fopen_37, flines_37, fmeantSet_37, fopenedNow_37, fvainNow_37, flowNow_37, fhighNow_37, fisKept_37, tad_37, pl0_37, le0_37, nu0_37, coy_37, wag_37, say_37, e_37, hntad_37, hnpl0_37, hnle0_37, hnnu0_37, hncoy_37, hnwag_37, hnsay_37⟩ := JR.get j_32 cm_100
    refine aw_get dX12_feed_43 fl_X12_152 e_37 (by omega) rfl ?_
    refine aw_eqi (y := (nI (((((tad_1 + 4) + 4) + 4) + 4) + 4))) ((Eq.symm (congrArg (fun z => fI z 13) e_37)).trans h_31s) ?_
    refine aw_ireti dX12_feed_46 rfl (Nat.le_of_ble_eq_true rfl) (Nat.le_of_ble_eq_true rfl) ?_
    exact ⟨⟨Or.inr ⟨by rw [hta0]; exact fun z => absurd ((nI_ltI (a := 240) (b := tad_1) (by omega) (by omega)).mp z) (by omega), by rw [hta0]; exact (congrArg nI (by omega)).trans (nI_a20 _).symm, by rw [hta0]; exact h_31s.trans ((congrArg nI (by omega)).trans (nI_a20 _).symm)⟩, Or.inr ⟨by rw [hta0]; exact fun z => absurd ((nI_ltI (a := 240) (b := tad_1) (by omega) (by omega)).mp z) (by omega), by rw [hta0, nI_clamp (n := tad_1) (by omega), ap20, h_31b, h_24b, h_17b, h_10b, h_4b]⟩⟩, rfl, j_32⟩
  · skip
    have nc_2 : ¬ ((tad_1 + 20) ≤ 260) := fun z => c_2 ((nI_leI (a := (tad_1 + 20)) (b := 260) (by omega) (by omega)).mpr z)
    refine aw_iconst (v := (-1)) dX12_feed_13 (by decide) ?_
    refine aw_ireti dX12_feed_14 rfl (Nat.le_of_ble_eq_true rfl) (Nat.le_of_ble_eq_true rfl) ?_
    exact ⟨⟨Or.inl ⟨by rw [hta0]; exact (nI_ltI (a := 240) (b := tad_1) (by omega) (by omega)).mpr (by omega), rfl, hta0.trans hta0.symm⟩, Or.inl ⟨by rw [hta0]; exact (nI_ltI (a := 240) (b := tad_1) (by omega) (by omega)).mpr (by omega), rfl⟩⟩, rfl, hJ0⟩
