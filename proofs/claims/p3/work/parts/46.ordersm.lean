
theorem in_fork {x a c r : Int32} (z : r = 0 ∨ r = 1) (h : (r = 0 ∨ (a ≤ x ∧ x ≤ c)) ∧ (r = 0 → ¬ (a ≤ x ∧ x ≤ c))) : ((a ≤ x ∧ x ≤ c) ∧ r = 1) ∨ (¬ (a ≤ x ∧ x ≤ c) ∧ r = 0) := by
  rcases z with e | e
  · exact Or.inr ⟨h.2 e, e⟩
  · exact Or.inl ⟨h.1.resolve_left (by rw [e]; decide), e⟩
theorem told_t2 {P x : Int32} (h : 0 ≤ x ∧ x ≤ 11) (hb : bt P x = true) : told P x = true := by rw [told, decide_eq_true h.1, decide_eq_true h.2, hb]; rfl
theorem told_f2 {P x : Int32} (h : ¬ (0 ≤ x ∧ x ≤ 11) ∨ bt P x = false) : told P x = false := by
  rcases h with h | h
  · by_cases c : 0 ≤ x
    · rw [told, decide_eq_false (fun z => h ⟨c, z⟩), Bool.and_false]; rfl
    · rw [told, decide_eq_false c]; rfl
  · rw [told, h, Bool.and_false]
theorem isDr_t2 {P x : Int32} (h : 0 ≤ x ∧ x ≤ 15) (hb : bt P x = true) : isDr P x = true := by rw [isDr, decide_eq_true h.1, decide_eq_true h.2, hb]; rfl
theorem isDr_f2 {P x : Int32} (h : ¬ (0 ≤ x ∧ x ≤ 15) ∨ bt P x = false) : isDr P x = false := by
  rcases h with h | h
  · by_cases c : 0 ≤ x
    · rw [isDr, decide_eq_false (fun z => h ⟨c, z⟩), Bool.and_false]; rfl
    · rw [isDr, decide_eq_false c]; rfl
  · rw [isDr, h, Bool.and_false]
theorem k4_or {x : Int32} {q : Nat} (h : ∃ k : Nat, k < 4096 ∧ x = nI k) (hq : q < 12) : ∃ k : Nat, k < 4096 ∧ x ||| (1 : Int32) <<< (nI q &&& 31) = nI k := by
  obtain ⟨k, hk, rfl⟩ := h
  have h1 := fx_pow12 hq
  exact ⟨k ||| 2 ^ q, Nat.or_lt_two_pow (n := 12) hk h1, by rw [fx_shl12 q hq, fx_orI]⟩
theorem k4_and {x y : Int32} (h : ∃ k : Nat, k < 4096 ∧ x = nI k) : ∃ k : Nat, k < 4096 ∧ x &&& y = nI k := by
  obtain ⟨k, hk, rfl⟩ := h
  obtain ⟨j, hj, e⟩ := fx_andle (s := k) y
  exact ⟨j, by omega, e⟩
theorem sub97 (z : Nat) : nI (97 + z) - 97 = nI z := by
  rw [show (97 : Int32) = nI 97 from rfl, pk_sub (by omega), show 97 + z - 97 = z by omega]

set_option maxHeartbeats 4000000 in
set_option maxRecDepth 100000 in
theorem r_isToldS (l : Launch) (D : va_G) (b : Nat) (N : Nat) (V : Wd) (hN : 133 ≤ N) (cl : Nat) (hW : CR D b cl V) (n0 : Int32) (P : Int32) (hP : fI (V 100) 9 = P) : MI l D b 1 jX12_isTold [.ref (b + 100), .int n0] N V 0 0 (fun r N9 V9 => ((r = 0 ∨ r = 1) ∧ ((told P n0 = true ∧ r = 1) ∨ (told P n0 = false ∧ r = 0))) ∧ N = N9 ∧ V = V9) := by
  have hJ0 : JR D b N cl [] V V := JR.rf hW
  refine mw_of (by decide) (by simp [Value.category]) (Nat.le_of_ble_eq_true rfl) ?_
  show AW l D b jX12_isTold (fx_rm 1 0 0) none (fx_MQ D b 0 0 (fx_qi (fun r N9 V9 => ((r = 0 ∨ r = 1) ∧ ((told P n0 = true ∧ r = 1) ∨ (told P n0 = false ∧ r = 0))) ∧ N = N9 ∧ V = V9))) 0 [some (.ref (b + 100)), some (.int n0)] [] N V 0 0
  refine aw_iload_n dX12_isTold_0 rfl ?_
  refine aw_iconst (v := 0) dX12_isTold_1 (by decide) ?_
  refine aw_bipush (v := 11) dX12_isTold_2 (by decide) ?_
  refine aw_callSi (J' := jX12_in) (As := [.int n0, .int 0, .int 11]) (st := []) dX12_isTold_4 tb_1209 ok_X12_in rfl (r_inK l D b N V hN cl hJ0.1 n0 0 11) rfl (Nat.le_of_ble_eq_true rfl) ⟨Nat.le_of_ble_eq_true rfl, Nat.le_of_ble_eq_true rfl, Nat.le_of_ble_eq_true rfl, Nat.le_of_ble_eq_true rfl⟩ (fun r_6 N_7 V_8 q_9 => ?_)
  obtain ⟨⟨z_3, h_2⟩, rfl, rfl⟩ := q_9
  rcases (in_fork z_3 h_2) with ⟨hy_10, e_11⟩ | ⟨hn_12, e_13⟩
  · skip
    refine aw_eqi (y := 1) e_11 ?_
    refine aw_if_eq (tgt := 25) dX12_isTold_7 (by decide) (fun c_14 => ?_) (fun c_14 => ?_)
    · exact absurd c_14 (by decide)
    refine aw_aload_n dX12_isTold_10 rfl ?_
    obtain ⟨ftoldPeople_15, ftoldDoors_15, fwasDoors_15, ffault_15, fopen_15, flines_15, fmeantSet_15, fopenedNow_15, fvainNow_15, flowNow_15, fhighNow_15, fisKept_15, tad_15, pl0_15, le0_15, nu0_15, coy_15, wag_15, say_15, e_15, hntad_15, hnpl0_15, hnle0_15, hnnu0_15, hncoy_15, hnwag_15, hnsay_15⟩ := JR.get hJ0 cm_100
    refine aw_get dX12_isTold_11 fl_X12_121 e_15 (by omega) rfl ?_
    refine aw_eqi (y := P) ((Eq.symm (congrArg (fun z => fI z 9) e_15)).trans hP) ?_
    refine aw_iload_n dX12_isTold_14 rfl ?_
    refine aw_callSi (J' := jX12_has) (As := [.int P, .int n0]) (st := []) dX12_isTold_15 tb_1315 ok_X12_has rfl (r_hasS l D b N V hN cl hJ0.1 P n0) rfl (Nat.le_of_ble_eq_true rfl) ⟨Nat.le_of_ble_eq_true rfl, Nat.le_of_ble_eq_true rfl, Nat.le_of_ble_eq_true rfl, Nat.le_of_ble_eq_true rfl⟩ (fun r_19 N_20 V_21 q_22 => ?_)
    obtain ⟨⟨z_18, h_17⟩, rfl, rfl⟩ := q_22
    rcases h_17 with ⟨hy_23, e_24⟩ | ⟨hn_25, e_26⟩
    · skip
      refine aw_eqi (y := 1) e_24 ?_
      refine aw_if_eq (tgt := 25) dX12_isTold_18 (by decide) (fun c_27 => ?_) (fun c_27 => ?_)
      · exact absurd c_27 (by decide)
      refine aw_iconst (v := 1) dX12_isTold_21 (by decide) ?_
      refine aw_goto (tgt := 26) dX12_isTold_22 (by decide) ?_
      refine aw_zreti dX12_isTold_26 rfl (by first | exact Or.inl rfl | exact Or.inr rfl | assumption) (Nat.le_of_ble_eq_true rfl) (Nat.le_of_ble_eq_true rfl) ?_
      exact ⟨⟨(by first | exact Or.inl rfl | exact Or.inr rfl | assumption), Or.inl ⟨told_t2 hy_10 hy_23, rfl⟩⟩, rfl, rfl⟩
    · skip
      refine aw_eqi (y := 0) e_26 ?_
      refine aw_if_eq (tgt := 25) dX12_isTold_18 (by decide) (fun c_28 => ?_) (fun c_28 => ?_)
      rotate_left
      · exact absurd (by decide) c_28
      refine aw_iconst (v := 0) dX12_isTold_25 (by decide) ?_
      refine aw_zreti dX12_isTold_26 rfl (by first | exact Or.inl rfl | exact Or.inr rfl | assumption) (Nat.le_of_ble_eq_true rfl) (Nat.le_of_ble_eq_true rfl) ?_
      exact ⟨⟨(by first | exact Or.inl rfl | exact Or.inr rfl | assumption), Or.inr ⟨told_f2 (Or.inr hn_25), rfl⟩⟩, rfl, rfl⟩
  · skip
    refine aw_eqi (y := 0) e_13 ?_
    refine aw_if_eq (tgt := 25) dX12_isTold_7 (by decide) (fun c_29 => ?_) (fun c_29 => ?_)
    rotate_left
    · exact absurd (by decide) c_29
    refine aw_iconst (v := 0) dX12_isTold_25 (by decide) ?_
    refine aw_zreti dX12_isTold_26 rfl (by first | exact Or.inl rfl | exact Or.inr rfl | assumption) (Nat.le_of_ble_eq_true rfl) (Nat.le_of_ble_eq_true rfl) ?_
    exact ⟨⟨(by first | exact Or.inl rfl | exact Or.inr rfl | assumption), Or.inr ⟨told_f2 (Or.inl hn_12), rfl⟩⟩, rfl, rfl⟩

set_option maxHeartbeats 4000000 in
set_option maxRecDepth 100000 in
theorem r_isDoorS (l : Launch) (D : va_G) (b : Nat) (N : Nat) (V : Wd) (hN : 133 ≤ N) (cl : Nat) (hW : CR D b cl V) (n0 : Int32) (P : Int32) (hP : fI (V 100) 10 = P) : MI l D b 1 jX12_isDoor [.ref (b + 100), .int n0] N V 0 0 (fun r N9 V9 => ((r = 0 ∨ r = 1) ∧ ((isDr P n0 = true ∧ r = 1) ∨ (isDr P n0 = false ∧ r = 0))) ∧ N = N9 ∧ V = V9) := by
  have hJ0 : JR D b N cl [] V V := JR.rf hW
  refine mw_of (by decide) (by simp [Value.category]) (Nat.le_of_ble_eq_true rfl) ?_
  show AW l D b jX12_isDoor (fx_rm 1 0 0) none (fx_MQ D b 0 0 (fx_qi (fun r N9 V9 => ((r = 0 ∨ r = 1) ∧ ((isDr P n0 = true ∧ r = 1) ∨ (isDr P n0 = false ∧ r = 0))) ∧ N = N9 ∧ V = V9))) 0 [some (.ref (b + 100)), some (.int n0)] [] N V 0 0
  refine aw_iload_n dX12_isDoor_0 rfl ?_
  refine aw_iconst (v := 0) dX12_isDoor_1 (by decide) ?_
  refine aw_bipush (v := 15) dX12_isDoor_2 (by decide) ?_
  refine aw_callSi (J' := jX12_in) (As := [.int n0, .int 0, .int 15]) (st := []) dX12_isDoor_4 tb_1209 ok_X12_in rfl (r_inK l D b N V hN cl hJ0.1 n0 0 15) rfl (Nat.le_of_ble_eq_true rfl) ⟨Nat.le_of_ble_eq_true rfl, Nat.le_of_ble_eq_true rfl, Nat.le_of_ble_eq_true rfl, Nat.le_of_ble_eq_true rfl⟩ (fun r_6 N_7 V_8 q_9 => ?_)
  obtain ⟨⟨z_3, h_2⟩, rfl, rfl⟩ := q_9
  rcases (in_fork z_3 h_2) with ⟨hy_10, e_11⟩ | ⟨hn_12, e_13⟩
  · skip
    refine aw_eqi (y := 1) e_11 ?_
    refine aw_if_eq (tgt := 25) dX12_isDoor_7 (by decide) (fun c_14 => ?_) (fun c_14 => ?_)
    · exact absurd c_14 (by decide)
    refine aw_aload_n dX12_isDoor_10 rfl ?_
    obtain ⟨ftoldPeople_15, ftoldDoors_15, fwasDoors_15, ffault_15, fopen_15, flines_15, fmeantSet_15, fopenedNow_15, fvainNow_15, flowNow_15, fhighNow_15, fisKept_15, tad_15, pl0_15, le0_15, nu0_15, coy_15, wag_15, say_15, e_15, hntad_15, hnpl0_15, hnle0_15, hnnu0_15, hncoy_15, hnwag_15, hnsay_15⟩ := JR.get hJ0 cm_100
    refine aw_get dX12_isDoor_11 fl_X12_129 e_15 (by omega) rfl ?_
    refine aw_eqi (y := P) ((Eq.symm (congrArg (fun z => fI z 10) e_15)).trans hP) ?_
    refine aw_iload_n dX12_isDoor_14 rfl ?_
    refine aw_callSi (J' := jX12_has) (As := [.int P, .int n0]) (st := []) dX12_isDoor_15 tb_1315 ok_X12_has rfl (r_hasS l D b N V hN cl hJ0.1 P n0) rfl (Nat.le_of_ble_eq_true rfl) ⟨Nat.le_of_ble_eq_true rfl, Nat.le_of_ble_eq_true rfl, Nat.le_of_ble_eq_true rfl, Nat.le_of_ble_eq_true rfl⟩ (fun r_19 N_20 V_21 q_22 => ?_)
    obtain ⟨⟨z_18, h_17⟩, rfl, rfl⟩ := q_22
    rcases h_17 with ⟨hy_23, e_24⟩ | ⟨hn_25, e_26⟩
    · skip
      refine aw_eqi (y := 1) e_24 ?_
      refine aw_if_eq (tgt := 25) dX12_isDoor_18 (by decide) (fun c_27 => ?_) (fun c_27 => ?_)
      · exact absurd c_27 (by decide)
      refine aw_iconst (v := 1) dX12_isDoor_21 (by decide) ?_
      refine aw_goto (tgt := 26) dX12_isDoor_22 (by decide) ?_
      refine aw_zreti dX12_isDoor_26 rfl (by first | exact Or.inl rfl | exact Or.inr rfl | assumption) (Nat.le_of_ble_eq_true rfl) (Nat.le_of_ble_eq_true rfl) ?_
      exact ⟨⟨(by first | exact Or.inl rfl | exact Or.inr rfl | assumption), Or.inl ⟨isDr_t2 hy_10 hy_23, rfl⟩⟩, rfl, rfl⟩
    · skip
      refine aw_eqi (y := 0) e_26 ?_
      refine aw_if_eq (tgt := 25) dX12_isDoor_18 (by decide) (fun c_28 => ?_) (fun c_28 => ?_)
      rotate_left
      · exact absurd (by decide) c_28
      refine aw_iconst (v := 0) dX12_isDoor_25 (by decide) ?_
      refine aw_zreti dX12_isDoor_26 rfl (by first | exact Or.inl rfl | exact Or.inr rfl | assumption) (Nat.le_of_ble_eq_true rfl) (Nat.le_of_ble_eq_true rfl) ?_
      exact ⟨⟨(by first | exact Or.inl rfl | exact Or.inr rfl | assumption), Or.inr ⟨isDr_f2 (Or.inr hn_25), rfl⟩⟩, rfl, rfl⟩
  · skip
    refine aw_eqi (y := 0) e_13 ?_
    refine aw_if_eq (tgt := 25) dX12_isDoor_7 (by decide) (fun c_29 => ?_) (fun c_29 => ?_)
    rotate_left
    · exact absurd (by decide) c_29
    refine aw_iconst (v := 0) dX12_isDoor_25 (by decide) ?_
    refine aw_zreti dX12_isDoor_26 rfl (by first | exact Or.inl rfl | exact Or.inr rfl | assumption) (Nat.le_of_ble_eq_true rfl) (Nat.le_of_ble_eq_true rfl) ?_
    exact ⟨⟨(by first | exact Or.inl rfl | exact Or.inr rfl | assumption), Or.inr ⟨isDr_f2 (Or.inl hn_12), rfl⟩⟩, rfl, rfl⟩

set_option maxHeartbeats 4000000 in
set_option maxRecDepth 100000 in
theorem r_readsOneS (l : Launch) (D : va_G) (b : Nat) (N : Nat) (V : Wd) (hN : 133 ≤ N) (cl : Nat) (hW : CR D b cl V)  (g : Nat → Int32) (hg : V 110 = cB D 260 g) (n a : Nat) (hna : a ≤ n ∧ n ≤ 240) (hE : fI (V 100) 15 = nI n) (hA : fI (V 100) 14 = nI a) (P : Int32) (hP : fI (V 100) 9 = P) : MI l D b 3 jX12_readsOne [.ref (b + 100)] N V 0 0 (fun r N9 V9 => ((r = 0 ∨ r = 1) ∧ ((∃ f, num (gb g) n 2 a = .inl f ∧ fI (V9 100) 16 = f ∧ r = 0) ∨ (∃ a9 d9, num (gb g) n 2 a = .inr (a9, d9) ∧ told P (nI d9) = false ∧ fI (V9 100) 16 = flt 7 a ∧ r = 0) ∨ (∃ a9 d9, num (gb g) n 2 a = .inr (a9, d9) ∧ told P (nI d9) = true ∧ fI (V9 100) 14 = nI a9 ∧ fI (V9 100) 17 = nI d9 ∧ (a < a9 ∧ a9 ≤ n ∧ d9 < 12) ∧ r = 1))) ∧ N = N9 ∧ JR D b N cl [(100, 100, 17, 17), (100, 100, 14, 14), (100, 100, 16, 16)] V V9) := by
  have hJ0 : JR D b N cl [(100, 100, 17, 17), (100, 100, 14, 14), (100, 100, 16, 16)] V V := JR.rf hW
  refine mw_of (by decide) (by simp [Value.category]) (Nat.le_of_ble_eq_true rfl) ?_
  show AW l D b jX12_readsOne (fx_rm 3 0 0) none (fx_MQ D b 0 0 (fx_qi (fun r N9 V9 => ((r = 0 ∨ r = 1) ∧ ((∃ f, num (gb g) n 2 a = .inl f ∧ fI (V9 100) 16 = f ∧ r = 0) ∨ (∃ a9 d9, num (gb g) n 2 a = .inr (a9, d9) ∧ told P (nI d9) = false ∧ fI (V9 100) 16 = flt 7 a ∧ r = 0) ∨ (∃ a9 d9, num (gb g) n 2 a = .inr (a9, d9) ∧ told P (nI d9) = true ∧ fI (V9 100) 14 = nI a9 ∧ fI (V9 100) 17 = nI d9 ∧ (a < a9 ∧ a9 ≤ n ∧ d9 < 12) ∧ r = 1))) ∧ N = N9 ∧ JR D b N cl [(100, 100, 17, 17), (100, 100, 14, 14), (100, 100, 16, 16)] V V9))) 0 [some (.ref (b + 100)), none] [] N V 0 0
  refine aw_aload_n dX12_readsOne_0 rfl ?_
  obtain ⟨ftoldPeople_1, ftoldDoors_1, fwasDoors_1, ffault_1, fopen_1, flines_1, fmeantSet_1, fopenedNow_1, fvainNow_1, flowNow_1, fhighNow_1, fisKept_1, tad_1, pl0_1, le0_1, nu0_1, coy_1, wag_1, say_1, e_1, hntad_1, hnpl0_1, hnle0_1, hnnu0_1, hncoy_1, hnwag_1, hnsay_1⟩ := JR.get hJ0 cm_100
  refine aw_get dX12_readsOne_1 fl_X12_159 e_1 (by omega) rfl ?_
  refine aw_eqi (y := (nI a)) ((Eq.symm (congrArg (fun z => fI z 14) e_1)).trans hA) ?_
  refine aw_istore_n (ls' := [some (.ref (b + 100)), some (.int (nI a))]) dX12_readsOne_4 (Nat.le_of_ble_eq_true rfl) rfl ?_
  refine aw_aload_n dX12_readsOne_5 rfl ?_
  refine aw_callVi (J' := jX12_readsAmount) (As := []) (st := []) dX12_readsOne_6 tb_1318 ok_X12_readsAmount ⟨_, e_1⟩ (by omega) rfl rfl (r_readsAmountS l D b N V hN cl hJ0.1 g hg n a ⟨by omega, by omega⟩ hE hA) rfl (Nat.le_of_ble_eq_true rfl) ⟨Nat.le_of_ble_eq_true rfl, Nat.le_of_ble_eq_true rfl, Nat.le_of_ble_eq_true rfl, Nat.le_of_ble_eq_true rfl⟩ (fun r_7 N_8 V_6 q_9 => ?_)
  obtain ⟨⟨z_4, h_3⟩, rfl, q_2⟩ := q_9
  have j_5 := JR.trans hJ0 (JR.weak q_2 (Sub.cons LM0 (by decide) (by decide) (by decide) (Or.inr ⟨by decide, by decide⟩) (Sub.cons (LMs LM0) (by decide) (by decide) (by decide) (Or.inr ⟨by decide, by decide⟩) (Sub.cons (LMs (LMs LM0)) (by decide) (by decide) (by decide) (Or.inr ⟨by decide, by decide⟩) Sub.nil))))
  rcases h_3 with ⟨f_10, hx_11, hk_12, e_13⟩ | ⟨a_14, v_15, hx_16, hk_17, hv_18, hb_19, e_20⟩
  · skip
    refine aw_eqi (y := 0) e_13 ?_
    refine aw_if_ne (tgt := 14) dX12_readsOne_9 (by decide) (fun c_21 => ?_) (fun c_21 => ?_)
    · exact absurd rfl c_21
    refine aw_iconst (v := 0) dX12_readsOne_12 (by decide) ?_
    refine aw_zreti dX12_readsOne_13 rfl (by first | exact Or.inl rfl | exact Or.inr rfl | assumption) (Nat.le_of_ble_eq_true rfl) (Nat.le_of_ble_eq_true rfl) ?_
    exact ⟨⟨(by first | exact Or.inl rfl | exact Or.inr rfl | assumption), Or.inl ⟨_, hx_11, hk_12, rfl⟩⟩, rfl, j_5⟩
  · skip
    refine aw_eqi (y := 1) e_20 ?_
    obtain ⟨hb_19a, hb_19b, hb_19c⟩ := hb_19
    refine aw_if_ne (tgt := 14) dX12_readsOne_9 (by decide) (fun c_22 => ?_) (fun c_22 => ?_)
    rotate_left
    · exact absurd c_22 (by decide)
    refine aw_aload_n dX12_readsOne_14 rfl ?_
    refine aw_aload_n dX12_readsOne_15 rfl ?_
    obtain ⟨ftoldPeople_23, ftoldDoors_23, fwasDoors_23, ffault_23, fopen_23, flines_23, fmeantSet_23, fopenedNow_23, fvainNow_23, flowNow_23, fhighNow_23, fisKept_23, tad_23, pl0_23, le0_23, nu0_23, coy_23, wag_23, say_23, e_23, hntad_23, hnpl0_23, hnle0_23, hnnu0_23, hncoy_23, hnwag_23, hnsay_23⟩ := JR.get j_5 cm_100
    refine aw_get dX12_readsOne_16 fl_X12_175 e_23 (by omega) rfl ?_
    refine aw_eqi (y := (nI v_15)) ((Eq.symm (congrArg (fun z => fI z 17) e_23)).trans hv_18) ?_
    refine aw_callVi (J' := jX12_isTold) (As := [.int (nI v_15)]) (st := []) dX12_readsOne_19 tb_1351 ok_X12_isTold ⟨_, e_23⟩ (by omega) rfl rfl (r_isToldS l D b N V_6 hN cl j_5.1 (nI v_15) P ((JR.fI q_2 (by decide) (by decide) (nfc (by omega) (nfc (by omega) (nfc (by omega) nf0)))).trans hP)) rfl (Nat.le_of_ble_eq_true rfl) ⟨Nat.le_of_ble_eq_true rfl, Nat.le_of_ble_eq_true rfl, Nat.le_of_ble_eq_true rfl, Nat.le_of_ble_eq_true rfl⟩ (fun r_27 N_28 V_29 q_30 => ?_)
    obtain ⟨⟨z_26, h_25⟩, rfl, rfl⟩ := q_30
    rcases h_25 with ⟨hy_31, e_32⟩ | ⟨hn_33, e_34⟩
    · skip
      refine aw_eqi (y := 1) e_32 ?_
      have hlhy_31 := told_lt (by omega) hy_31
      refine aw_if_ne (tgt := 35) dX12_readsOne_22 (by decide) (fun c_35 => ?_) (fun c_35 => ?_)
      rotate_left
      · exact absurd c_35 (by decide)
      refine aw_iconst (v := 1) dX12_readsOne_35 (by decide) ?_
      refine aw_goto (tgt := 40) dX12_readsOne_36 (by decide) ?_
      refine aw_zreti dX12_readsOne_40 rfl (by first | exact Or.inl rfl | exact Or.inr rfl | assumption) (Nat.le_of_ble_eq_true rfl) (Nat.le_of_ble_eq_true rfl) ?_
      exact ⟨⟨(by first | exact Or.inl rfl | exact Or.inr rfl | assumption), Or.inr (Or.inr ⟨_, _, hx_16, hy_31, hk_17, hv_18, ⟨by omega, by omega, by omega⟩, rfl⟩)⟩, rfl, j_5⟩
    · skip
      refine aw_eqi (y := 0) e_34 ?_
      refine aw_if_ne (tgt := 35) dX12_readsOne_22 (by decide) (fun c_36 => ?_) (fun c_36 => ?_)
      · exact absurd rfl c_36
      refine aw_aload_n dX12_readsOne_25 rfl ?_
      refine aw_bipush (v := 7) dX12_readsOne_26 (by decide) ?_
      refine aw_iload_n dX12_readsOne_28 rfl ?_
      refine aw_callVi (J' := jX12_wrongAt) (As := [.int 7, .int (nI a)]) (st := []) dX12_readsOne_29 tb_1224 ok_X12_wrongAt ⟨_, e_23⟩ (by omega) rfl rfl (r_wrongAtS l D b N V_6 hN cl j_5.1 7 (nI a)) rfl (Nat.le_of_ble_eq_true rfl) ⟨Nat.le_of_ble_eq_true rfl, Nat.le_of_ble_eq_true rfl, Nat.le_of_ble_eq_true rfl, Nat.le_of_ble_eq_true rfl⟩ (fun r_42 N_43 V_41 q_44 => ?_)
      obtain ⟨⟨z_39, h_38⟩, rfl, q_37⟩ := q_44
      have j_40 := JR.trans j_5 (JR.weak q_37 (Sub.cons (LMs (LMs LM0)) (by decide) (by decide) (by decide) (Or.inr ⟨by decide, by decide⟩) Sub.nil))
      obtain ⟨rfl, h_38f⟩ := h_38
      refine aw_if_eq (tgt := 39) dX12_readsOne_32 (by decide) (fun c_45 => ?_) (fun c_45 => ?_)
      rotate_left
      · exact absurd (by decide) c_45
      refine aw_iconst (v := 0) dX12_readsOne_39 (by decide) ?_
      refine aw_zreti dX12_readsOne_40 rfl (by first | exact Or.inl rfl | exact Or.inr rfl | assumption) (Nat.le_of_ble_eq_true rfl) (Nat.le_of_ble_eq_true rfl) ?_
      exact ⟨⟨(by first | exact Or.inl rfl | exact Or.inr rfl | assumption), Or.inr (Or.inl ⟨_, _, hx_16, hn_33, h_38f, rfl⟩)⟩, rfl, j_40⟩

set_option maxHeartbeats 20000000 in
set_option maxRecDepth 100000 in
theorem r_readsTwoS (l : Launch) (D : va_G) (b : Nat) (N : Nat) (V : Wd) (hN : 133 ≤ N) (cl : Nat) (hW : CR D b cl V)  (g : Nat → Int32) (hg : V 110 = cB D 260 g) (n a : Nat) (hna : a ≤ n ∧ n ≤ 240) (hE : fI (V 100) 15 = nI n) (hA : fI (V 100) 14 = nI a) (P : Int32) (hP : fI (V 100) 9 = P) (s : OS) (hD : fI (V 100) 10 = s.1) (hK : rs (fI (V 104)) = s.2) : MI l D b 4 jX12_readsTwo [.ref (b + 100)] N V 0 0 (fun r N9 V9 => ((r = 0 ∨ r = 1) ∧ ((∃ f, lnAc (gb g) n P a s = .inl f ∧ fI (V9 100) 16 = f ∧ r = 0) ∨ (∃ a9 s9, lnAc (gb g) n P a s = .inr (a9, s9) ∧ fI (V9 100) 14 = nI a9 ∧ fI (V9 100) 10 = s9.1 ∧ rs (fI (V9 104)) = s9.2 ∧ (a < a9 ∧ a9 ≤ n) ∧ r = 1))) ∧ N = N9 ∧ JR D b N cl [(104, 104, 0, 1000000), (100, 100, 17, 17), (100, 100, 14, 14), (100, 100, 16, 16)] V V9) := by
  have hJ0 : JR D b N cl [(104, 104, 0, 1000000), (100, 100, 17, 17), (100, 100, 14, 14), (100, 100, 16, 16)] V V := JR.rf hW
  refine mw_of (by decide) (by simp [Value.category]) (Nat.le_of_ble_eq_true rfl) ?_
  show AW l D b jX12_readsTwo (fx_rm 4 0 0) none (fx_MQ D b 0 0 (fx_qi (fun r N9 V9 => ((r = 0 ∨ r = 1) ∧ ((∃ f, lnAc (gb g) n P a s = .inl f ∧ fI (V9 100) 16 = f ∧ r = 0) ∨ (∃ a9 s9, lnAc (gb g) n P a s = .inr (a9, s9) ∧ fI (V9 100) 14 = nI a9 ∧ fI (V9 100) 10 = s9.1 ∧ rs (fI (V9 104)) = s9.2 ∧ (a < a9 ∧ a9 ≤ n) ∧ r = 1))) ∧ N = N9 ∧ JR D b N cl [(104, 104, 0, 1000000), (100, 100, 17, 17), (100, 100, 14, 14), (100, 100, 16, 16)] V V9))) 0 [some (.ref (b + 100)), none, none, none, none] [] N V 0 0
  refine aw_aload_n dX12_readsTwo_0 rfl ?_
  obtain ⟨ftoldPeople_6, ftoldDoors_6, fwasDoors_6, ffault_6, fopen_6, flines_6, fmeantSet_6, fopenedNow_6, fvainNow_6, flowNow_6, fhighNow_6, fisKept_6, tad_6, pl0_6, le0_6, nu0_6, coy_6, wag_6, say_6, e_6, hntad_6, hnpl0_6, hnle0_6, hnnu0_6, hncoy_6, hnwag_6, hnsay_6⟩ := JR.get hJ0 cm_100
  refine aw_callVi (J' := jX12_readsOne) (As := []) (st := []) dX12_readsTwo_1 tb_1347 ok_X12_readsOne ⟨_, e_6⟩ (by omega) rfl rfl (r_readsOneS l D b N V hN cl hJ0.1 g hg n a ⟨by omega, by omega⟩ hE hA P hP) rfl (Nat.le_of_ble_eq_true rfl) ⟨Nat.le_of_ble_eq_true rfl, Nat.le_of_ble_eq_true rfl, Nat.le_of_ble_eq_true rfl, Nat.le_of_ble_eq_true rfl⟩ (fun r_7 N_8 V_5 q_9 => ?_)
  obtain ⟨⟨z_3, h_2⟩, rfl, q_1⟩ := q_9
  have j_4 := JR.trans hJ0 (JR.weak q_1 (Sub.cons (LMs LM0) (by decide) (by decide) (by decide) (Or.inr ⟨by decide, by decide⟩) (Sub.cons (LMs (LMs LM0)) (by decide) (by decide) (by decide) (Or.inr ⟨by decide, by decide⟩) (Sub.cons (LMs (LMs (LMs LM0))) (by decide) (by decide) (by decide) (Or.inr ⟨by decide, by decide⟩) Sub.nil))))
  rcases h_2 with ⟨f_10, hx_11, hk_12, e_13⟩ | ⟨a_14, d_15, hx_16, ht_17, hk_18, e_19⟩ | ⟨a_20, d_21, hx_22, ht_23, hk_24, hv_25, hb_26, e_27⟩
  · skip
    refine aw_eqi (y := 0) e_13 ?_
    refine aw_if_ne (tgt := 9) dX12_readsTwo_4 (by decide) (fun c_28 => ?_) (fun c_28 => ?_)
    · exact absurd rfl c_28
    refine aw_iconst (v := 0) dX12_readsTwo_7 (by decide) ?_
    refine aw_zreti dX12_readsTwo_8 rfl (by first | exact Or.inl rfl | exact Or.inr rfl | assumption) (Nat.le_of_ble_eq_true rfl) (Nat.le_of_ble_eq_true rfl) ?_
    exact ⟨⟨(by first | exact Or.inl rfl | exact Or.inr rfl | assumption), Or.inl ⟨_, ac_n hx_11, hk_12, rfl⟩⟩, rfl, j_4⟩
  · skip
    refine aw_eqi (y := 0) e_19 ?_
    refine aw_if_ne (tgt := 9) dX12_readsTwo_4 (by decide) (fun c_29 => ?_) (fun c_29 => ?_)
    · exact absurd rfl c_29
    refine aw_iconst (v := 0) dX12_readsTwo_7 (by decide) ?_
    refine aw_zreti dX12_readsTwo_8 rfl (by first | exact Or.inl rfl | exact Or.inr rfl | assumption) (Nat.le_of_ble_eq_true rfl) (Nat.le_of_ble_eq_true rfl) ?_
    exact ⟨⟨(by first | exact Or.inl rfl | exact Or.inr rfl | assumption), Or.inl ⟨_, ac_7 hx_16 ht_17, hk_18, rfl⟩⟩, rfl, j_4⟩
  · skip
    refine aw_eqi (y := 1) e_27 ?_
    obtain ⟨hb_26a, hb_26b, hb_26c⟩ := hb_26
    refine aw_if_ne (tgt := 9) dX12_readsTwo_4 (by decide) (fun c_30 => ?_) (fun c_30 => ?_)
    rotate_left
    · exact absurd c_30 (by decide)
    refine aw_aload_n dX12_readsTwo_9 rfl ?_
    obtain ⟨ftoldPeople_31, ftoldDoors_31, fwasDoors_31, ffault_31, fopen_31, flines_31, fmeantSet_31, fopenedNow_31, fvainNow_31, flowNow_31, fhighNow_31, fisKept_31, tad_31, pl0_31, le0_31, nu0_31, coy_31, wag_31, say_31, e_31, hntad_31, hnpl0_31, hnle0_31, hnnu0_31, hncoy_31, hnwag_31, hnsay_31⟩ := JR.get j_4 cm_100
    refine aw_get dX12_readsTwo_10 fl_X12_175 e_31 (by omega) rfl ?_
    refine aw_eqi (y := (nI d_21)) ((Eq.symm (congrArg (fun z => fI z 17) e_31)).trans hv_25) ?_
    refine aw_istore_n (ls' := [some (.ref (b + 100)), some (.int (nI d_21)), none, none, none]) dX12_readsTwo_13 (Nat.le_of_ble_eq_true rfl) rfl ?_
    refine aw_aload_n dX12_readsTwo_14 rfl ?_
    refine aw_callVi (J' := jX12_here) (As := []) (st := []) dX12_readsTwo_15 tb_1220 ok_X12_here ⟨_, e_31⟩ (by omega) rfl rfl (r_hereS l D b N V_5 hN cl j_4.1 g ((JR.same q_1 (by decide) (by decide) (fun k => (nfc (by omega) (nfc (by omega) (nfc (by omega) nf0))))).trans hg) n a_20 ⟨by omega, by omega⟩ ((JR.fI q_1 (by decide) (by decide) (nfc (by omega) (nfc (by omega) (nfc (by omega) nf0)))).trans hE) hk_24) rfl (Nat.le_of_ble_eq_true rfl) ⟨Nat.le_of_ble_eq_true rfl, Nat.le_of_ble_eq_true rfl, Nat.le_of_ble_eq_true rfl, Nat.le_of_ble_eq_true rfl⟩ (fun r_34 N_35 V_36 q_37 => ?_)
    obtain ⟨h_33, rfl, rfl⟩ := q_37
    refine aw_eqi (y := (hd (gb g) n a_20)) h_33 ?_
    refine aw_bipush (v := 38) dX12_readsTwo_18 (by decide) ?_
    refine aw_icmp_ne (tgt := 27) dX12_readsTwo_20 (by decide) (fun c_38 => ?_) (fun c_38 => ?_)
    · skip
      refine aw_iconst (v := 0) dX12_readsTwo_27 (by decide) ?_
      refine aw_istore_n (ls' := [some (.ref (b + 100)), some (.int (nI d_21)), some (.int 0), none, none]) dX12_readsTwo_28 (Nat.le_of_ble_eq_true rfl) rfl ?_
      refine aw_iload_n dX12_readsTwo_29 rfl ?_
      refine aw_if_ne (tgt := 52) dX12_readsTwo_30 (by decide) (fun c_39 => ?_) (fun c_39 => ?_)
      · exact absurd rfl c_39
      refine aw_aload_n dX12_readsTwo_33 rfl ?_
      refine aw_callVi (J' := jX12_here) (As := []) (st := []) dX12_readsTwo_34 tb_1220 ok_X12_here ⟨_, e_31⟩ (by omega) rfl rfl (r_hereS l D b N V_5 hN cl j_4.1 g ((JR.same q_1 (by decide) (by decide) (fun k => (nfc (by omega) (nfc (by omega) (nfc (by omega) nf0))))).trans hg) n a_20 ⟨by omega, by omega⟩ ((JR.fI q_1 (by decide) (by decide) (nfc (by omega) (nfc (by omega) (nfc (by omega) nf0)))).trans hE) hk_24) rfl (Nat.le_of_ble_eq_true rfl) ⟨Nat.le_of_ble_eq_true rfl, Nat.le_of_ble_eq_true rfl, Nat.le_of_ble_eq_true rfl, Nat.le_of_ble_eq_true rfl⟩ (fun r_42 N_43 V_44 q_45 => ?_)
      obtain ⟨h_41, rfl, rfl⟩ := q_45
      refine aw_eqi (y := (hd (gb g) n a_20)) h_41 ?_
      refine aw_bipush (v := 47) dX12_readsTwo_37 (by decide) ?_
      refine aw_icmp_eq (tgt := 52) dX12_readsTwo_39 (by decide) (fun c_46 => ?_) (fun c_46 => ?_)
      · skip
        have hlc_46 := hd_lit c_46 (by decide)
        refine aw_aload_n dX12_readsTwo_52 rfl ?_
        refine aw_aload_n dX12_readsTwo_53 rfl ?_
        refine aw_get dX12_readsTwo_54 fl_X12_159 e_31 (by omega) rfl ?_
        refine aw_eqi (y := (nI a_20)) ((Eq.symm (congrArg (fun z => fI z 14) e_31)).trans hk_24) ?_
        refine aw_iconst (v := 1) dX12_readsTwo_57 (by decide) ?_
        refine aw_iadd dX12_readsTwo_58 ?_
        refine aw_eqi (y := nI (a_20 + 1)) (nI_add _ _) ?_
        refine aw_put dX12_readsTwo_59 fp_X12_159 e_31 (by omega) rfl rfl (Nat.le_of_ble_eq_true rfl) rfl ?_
        refine aw_upR j_4 cm_100 ⟨_, _, _, _, _, _, _, _, _, _, _, _, tad_31, (a_20 + 1), le0_31, nu0_31, coy_31, wag_31, say_31, rfl, by omega, by omega, by omega, by omega, by omega, by omega, by omega⟩ (by decide) (WO (s := 14) (x := .int (nI (a_20 + 1))) e_31 rfl (LMs (LMs LM0)) (by decide) (by decide) (by decide) (Or.inl (by decide))) (fun V_47 j_47 k_47 e_47 => ?_)
        refine aw_aload_n dX12_readsTwo_62 rfl ?_
        refine aw_get dX12_readsTwo_63 fl_X12_159 e_47 (by omega) rfl ?_
        refine aw_istore_n (ls' := [some (.ref (b + 100)), some (.int (nI d_21)), some (.int 0), some (.int (nI (a_20 + 1))), none]) dX12_readsTwo_66 (Nat.le_of_ble_eq_true rfl) rfl ?_
        refine aw_aload_n dX12_readsTwo_67 rfl ?_
        refine aw_callVi (J' := jX12_readsOne) (As := []) (st := []) dX12_readsTwo_68 tb_1347 ok_X12_readsOne ⟨_, e_47⟩ (by omega) rfl rfl (r_readsOneS l D b N V_47 hN cl j_47.1 g ((k_47 _ (by decide)).trans ((JR.same q_1 (by decide) (by decide) (fun k => (nfc (by omega) (nfc (by omega) (nfc (by omega) nf0))))).trans hg)) n (a_20 + 1) ⟨by omega, by omega⟩ (KA (s := 14) (x := .int (nI (a_20 + 1))) e_31 rfl (by decide) e_47 k_47 ((JR.fI q_1 (by decide) (by decide) (nfc (by omega) (nfc (by omega) (nfc (by omega) nf0)))).trans hE)) ((congrArg (fun z => fI z 14) e_47).trans rfl) P (KA (s := 14) (x := .int (nI (a_20 + 1))) e_31 rfl (by decide) e_47 k_47 ((JR.fI q_1 (by decide) (by decide) (nfc (by omega) (nfc (by omega) (nfc (by omega) nf0)))).trans hP))) rfl (Nat.le_of_ble_eq_true rfl) ⟨Nat.le_of_ble_eq_true rfl, Nat.le_of_ble_eq_true rfl, Nat.le_of_ble_eq_true rfl, Nat.le_of_ble_eq_true rfl⟩ (fun r_53 N_54 V_52 q_55 => ?_)
        obtain ⟨⟨z_50, h_49⟩, rfl, q_48⟩ := q_55
        have j_51 := JR.trans j_47 (JR.weak q_48 (Sub.cons (LMs LM0) (by decide) (by decide) (by decide) (Or.inr ⟨by decide, by decide⟩) (Sub.cons (LMs (LMs LM0)) (by decide) (by decide) (by decide) (Or.inr ⟨by decide, by decide⟩) (Sub.cons (LMs (LMs (LMs LM0))) (by decide) (by decide) (by decide) (Or.inr ⟨by decide, by decide⟩) Sub.nil))))
        rcases h_49 with ⟨f_56, hx_57, hk_58, e_59⟩ | ⟨a_60, d_61, hx_62, ht_63, hk_64, e_65⟩ | ⟨a_66, d_67, hx_68, ht_69, hk_70, hv_71, hb_72, e_73⟩
        · skip
          refine aw_eqi (y := 0) e_59 ?_
          refine aw_if_ne (tgt := 76) dX12_readsTwo_71 (by decide) (fun c_74 => ?_) (fun c_74 => ?_)
          · exact absurd rfl c_74
          refine aw_iconst (v := 0) dX12_readsTwo_74 (by decide) ?_
          refine aw_zreti dX12_readsTwo_75 rfl (by first | exact Or.inl rfl | exact Or.inr rfl | assumption) (Nat.le_of_ble_eq_true rfl) (Nat.le_of_ble_eq_true rfl) ?_
          exact ⟨⟨(by first | exact Or.inl rfl | exact Or.inr rfl | assumption), Or.inl ⟨_, ac_n2 hx_22 ht_23 (Or.inr c_46) hx_57, hk_58, rfl⟩⟩, rfl, j_51⟩
        · skip
          refine aw_eqi (y := 0) e_65 ?_
          refine aw_if_ne (tgt := 76) dX12_readsTwo_71 (by decide) (fun c_75 => ?_) (fun c_75 => ?_)
          · exact absurd rfl c_75
          refine aw_iconst (v := 0) dX12_readsTwo_74 (by decide) ?_
          refine aw_zreti dX12_readsTwo_75 rfl (by first | exact Or.inl rfl | exact Or.inr rfl | assumption) (Nat.le_of_ble_eq_true rfl) (Nat.le_of_ble_eq_true rfl) ?_
          exact ⟨⟨(by first | exact Or.inl rfl | exact Or.inr rfl | assumption), Or.inl ⟨_, ac_72 hx_22 ht_23 (Or.inr c_46) hx_62 ht_63, hk_64, rfl⟩⟩, rfl, j_51⟩
        · skip
          refine aw_eqi (y := 1) e_73 ?_
          obtain ⟨hb_72a, hb_72b, hb_72c⟩ := hb_72
          refine aw_if_ne (tgt := 76) dX12_readsTwo_71 (by decide) (fun c_76 => ?_) (fun c_76 => ?_)
          rotate_left
          · exact absurd c_76 (by decide)
          refine aw_aload_n dX12_readsTwo_76 rfl ?_
          obtain ⟨ftoldPeople_77, ftoldDoors_77, fwasDoors_77, ffault_77, fopen_77, flines_77, fmeantSet_77, fopenedNow_77, fvainNow_77, flowNow_77, fhighNow_77, fisKept_77, tad_77, pl0_77, le0_77, nu0_77, coy_77, wag_77, say_77, e_77, hntad_77, hnpl0_77, hnle0_77, hnnu0_77, hncoy_77, hnwag_77, hnsay_77⟩ := JR.get j_51 cm_100
          refine aw_get dX12_readsTwo_77 fl_X12_175 e_77 (by omega) rfl ?_
          refine aw_eqi (y := (nI d_67)) ((Eq.symm (congrArg (fun z => fI z 17) e_77)).trans hv_71) ?_
          refine aw_istore (ls' := [some (.ref (b + 100)), some (.int (nI d_21)), some (.int 0), some (.int (nI (a_20 + 1))), some (.int (nI d_67))]) dX12_readsTwo_80 (Nat.le_of_ble_eq_true rfl) rfl ?_
          refine aw_iload_n dX12_readsTwo_82 rfl ?_
          refine aw_iload dX12_readsTwo_83 rfl ?_
          refine aw_icmp_ne (tgt := 96) dX12_readsTwo_85 (by decide) (fun c_78 => ?_) (fun c_78 => ?_)
          · skip
            have nc_78 : ¬ (d_21 = d_67) := fun z => c_78 ((nI_eq (a := d_21) (b := d_67) (by omega) (by omega)).mpr z)
            obtain ⟨g_79, e_79, p_79⟩ := JR.get j_51 cm_104
            refine aw_aload_n dX12_readsTwo_96 rfl ?_
            refine aw_get dX12_readsTwo_97 fl_X12_19 e_77 (by omega) rfl ?_
            refine aw_iload_n dX12_readsTwo_100 rfl ?_
            refine aw_iload_n dX12_readsTwo_101 rfl ?_
            refine aw_if_eq (tgt := 119) dX12_readsTwo_102 (by decide) (fun c_80 => ?_) (fun c_80 => ?_)
            rotate_left
            · exact absurd (by decide) c_80
            refine aw_aload_n dX12_readsTwo_119 rfl ?_
            refine aw_get dX12_readsTwo_120 fl_X12_19 e_77 (by omega) rfl ?_
            refine aw_iload_n dX12_readsTwo_123 rfl ?_
            refine aw_iald (v := (g_79 d_21)) dX12_readsTwo_124 e_79 (by omega) (vp_in_nI (n := d_21) (by omega) (by omega)) (congrArg g_79 (nI_clamp (n := d_21) (by omega))) ?_
            refine aw_iconst (v := 1) dX12_readsTwo_125 (by decide) ?_
            refine aw_iload dX12_readsTwo_126 rfl ?_
            refine aw_ishl dX12_readsTwo_128 ?_
            refine aw_iconst (v := (-1)) dX12_readsTwo_129 (by decide) ?_
            refine aw_ixor dX12_readsTwo_130 ?_
            refine aw_iand dX12_readsTwo_131 ?_
            refine aw_iast dX12_readsTwo_132 e_79 (by omega) (vp_in_nI (n := d_21) (by omega) (by omega)) ?_
            have np_82 : ∀ j, j < 12 → (fun v => ∃ k : Nat, k < 4096 ∧ v = nI k) ((upd g_79 d_21 ((g_79 d_21) &&& (((1 : Int32) <<< ((nI d_67) &&& 31)) ^^^ (-1)))) j) := isP_upd (P := (fun v => ∃ k : Nat, k < 4096 ∧ v = nI k)) p_79 (k4_and (p_79 d_21 (by omega)))
            refine aw_upR j_51 cm_104 ⟨_, rfl, by rw [nI_clamp (n := d_21) (by omega)]; exact np_82⟩ (by decide) (WA LM0 (by decide) (by decide)) (fun V_81 j_81 k_81 e_81 => ?_)
            have e_83 : V_81 104 = cI D 12 (upd g_79 d_21 ((g_79 d_21) &&& (((1 : Int32) <<< ((nI d_67) &&& 31)) ^^^ (-1)))) := by rw [e_81, nI_clamp (n := d_21) (by omega)]
            refine aw_aload_n dX12_readsTwo_133 rfl ?_
            refine aw_get dX12_readsTwo_134 fl_X12_19 ((k_81 _ (by decide)).trans e_77) (by omega) rfl ?_
            refine aw_iload dX12_readsTwo_137 rfl ?_
            refine aw_iload_n dX12_readsTwo_139 rfl ?_
            refine aw_if_eq (tgt := 157) dX12_readsTwo_140 (by decide) (fun c_84 => ?_) (fun c_84 => ?_)
            rotate_left
            · exact absurd (by decide) c_84
            refine aw_aload_n dX12_readsTwo_157 rfl ?_
            refine aw_get dX12_readsTwo_158 fl_X12_19 ((k_81 _ (by decide)).trans e_77) (by omega) rfl ?_
            refine aw_iload dX12_readsTwo_161 rfl ?_
            refine aw_iald (v := ((upd g_79 d_21 ((g_79 d_21) &&& (((1 : Int32) <<< ((nI d_67) &&& 31)) ^^^ (-1)))) d_67)) dX12_readsTwo_163 e_83 (by omega) (vp_in_nI (n := d_67) (by omega) (by omega)) (congrArg (upd g_79 d_21 ((g_79 d_21) &&& (((1 : Int32) <<< ((nI d_67) &&& 31)) ^^^ (-1)))) (nI_clamp (n := d_67) (by omega))) ?_
            refine aw_iconst (v := 1) dX12_readsTwo_164 (by decide) ?_
            refine aw_iload_n dX12_readsTwo_165 rfl ?_
            refine aw_ishl dX12_readsTwo_166 ?_
            refine aw_iconst (v := (-1)) dX12_readsTwo_167 (by decide) ?_
            refine aw_ixor dX12_readsTwo_168 ?_
            refine aw_iand dX12_readsTwo_169 ?_
            refine aw_iast dX12_readsTwo_170 e_83 (by omega) (vp_in_nI (n := d_67) (by omega) (by omega)) ?_
            have np_86 : ∀ j, j < 12 → (fun v => ∃ k : Nat, k < 4096 ∧ v = nI k) ((upd (upd g_79 d_21 ((g_79 d_21) &&& (((1 : Int32) <<< ((nI d_67) &&& 31)) ^^^ (-1)))) d_67 (((upd g_79 d_21 ((g_79 d_21) &&& (((1 : Int32) <<< ((nI d_67) &&& 31)) ^^^ (-1)))) d_67) &&& (((1 : Int32) <<< ((nI d_21) &&& 31)) ^^^ (-1)))) j) := isP_upd (P := (fun v => ∃ k : Nat, k < 4096 ∧ v = nI k)) np_82 (k4_and (np_82 d_67 (by omega)))
            refine aw_upR j_81 cm_104 ⟨_, rfl, by rw [nI_clamp (n := d_67) (by omega)]; exact np_86⟩ (by decide) (WA LM0 (by decide) (by decide)) (fun V_85 j_85 k_85 e_85 => ?_)
            have e_87 : V_85 104 = cI D 12 (upd (upd g_79 d_21 ((g_79 d_21) &&& (((1 : Int32) <<< ((nI d_67) &&& 31)) ^^^ (-1)))) d_67 (((upd g_79 d_21 ((g_79 d_21) &&& (((1 : Int32) <<< ((nI d_67) &&& 31)) ^^^ (-1)))) d_67) &&& (((1 : Int32) <<< ((nI d_21) &&& 31)) ^^^ (-1)))) := by rw [e_85, nI_clamp (n := d_67) (by omega)]
            refine aw_iconst (v := 1) dX12_readsTwo_171 (by decide) ?_
            refine aw_zreti dX12_readsTwo_172 rfl (by first | exact Or.inl rfl | exact Or.inr rfl | assumption) (Nat.le_of_ble_eq_true rfl) (Nat.le_of_ble_eq_true rfl) ?_
            exact ⟨⟨(by first | exact Or.inl rfl | exact Or.inr rfl | assumption), Or.inr ⟨_, _, ac_dn hx_22 ht_23 c_46 hx_68 ht_69 (by omega), ((congrArg (fun z => fI z 14) (k_85 _ (by omega))).trans ((congrArg (fun z => fI z 14) (k_81 _ (by omega))).trans hk_70)), ((congrArg (fun z => fI z 10) (k_85 _ (by omega))).trans ((congrArg (fun z => fI z 10) (k_81 _ (by omega))).trans ((JR.fI q_48 (by decide) (by decide) (nfc (by omega) (nfc (by omega) (nfc (by omega) nf0)))).trans (KA (s := 14) (x := .int (nI (a_20 + 1))) e_31 rfl (by decide) e_47 k_47 ((JR.fI q_1 (by decide) (by decide) (nfc (by omega) (nfc (by omega) (nfc (by omega) nf0)))).trans hD))))), ((congrArg (fun z => rs (fI z)) e_87).trans ((kdn_rs (by omega) (by omega)).trans (congrArg (fun K => kdn K d_21 d_67) ((congrArg (fun z => rs (fI z)) e_79).symm.trans ((congrArg (fun z => rs (fI z)) (JR.same q_48 (by decide) (by decide) (fun k => (nfc (by omega) (nfc (by omega) (nfc (by omega) nf0)))))).trans ((congrArg (fun z => rs (fI z)) (k_47 _ (by omega))).trans ((congrArg (fun z => rs (fI z)) (JR.same q_1 (by decide) (by decide) (fun k => (nfc (by omega) (nfc (by omega) (nfc (by omega) nf0)))))).trans hK))))))), ⟨by omega, by omega⟩, rfl⟩⟩, rfl, j_85⟩
          · skip
            have nc_78 : d_21 = d_67 := (nI_eq (a := d_21) (b := d_67) (by omega) (by omega)).mp c_78
            refine aw_aload_n dX12_readsTwo_88 rfl ?_
            refine aw_bipush (v := 6) dX12_readsTwo_89 (by decide) ?_
            refine aw_iload_n dX12_readsTwo_91 rfl ?_
            refine aw_callVi (J' := jX12_wrongAt) (As := [.int 6, .int (nI (a_20 + 1))]) (st := []) dX12_readsTwo_92 tb_1224 ok_X12_wrongAt ⟨_, e_77⟩ (by omega) rfl rfl (r_wrongAtS l D b N V_52 hN cl j_51.1 6 (nI (a_20 + 1))) rfl (Nat.le_of_ble_eq_true rfl) ⟨Nat.le_of_ble_eq_true rfl, Nat.le_of_ble_eq_true rfl, Nat.le_of_ble_eq_true rfl, Nat.le_of_ble_eq_true rfl⟩ (fun r_93 N_94 V_92 q_95 => ?_)
            obtain ⟨⟨z_90, h_89⟩, rfl, q_88⟩ := q_95
            have j_91 := JR.trans j_51 (JR.weak q_88 (Sub.cons (LMs (LMs (LMs LM0))) (by decide) (by decide) (by decide) (Or.inr ⟨by decide, by decide⟩) Sub.nil))
            obtain ⟨rfl, h_89f⟩ := h_89
            refine aw_zreti dX12_readsTwo_95 rfl (by first | exact Or.inl rfl | exact Or.inr rfl | assumption) (Nat.le_of_ble_eq_true rfl) (Nat.le_of_ble_eq_true rfl) ?_
            exact ⟨⟨(by first | exact Or.inl rfl | exact Or.inr rfl | assumption), Or.inl ⟨_, ac_6 hx_22 ht_23 (Or.inr c_46) hx_68 ht_69 (by omega), h_89f, rfl⟩⟩, rfl, j_91⟩
      · skip
        refine aw_aload_n dX12_readsTwo_42 rfl ?_
        refine aw_iconst (v := 1) dX12_readsTwo_43 (by decide) ?_
        refine aw_aload_n dX12_readsTwo_44 rfl ?_
        refine aw_get dX12_readsTwo_45 fl_X12_159 e_31 (by omega) rfl ?_
        refine aw_eqi (y := (nI a_20)) ((Eq.symm (congrArg (fun z => fI z 14) e_31)).trans hk_24) ?_
        refine aw_callVi (J' := jX12_wrongAt) (As := [.int 1, .int (nI a_20)]) (st := []) dX12_readsTwo_48 tb_1224 ok_X12_wrongAt ⟨_, e_31⟩ (by omega) rfl rfl (r_wrongAtS l D b N V_5 hN cl j_4.1 1 (nI a_20)) rfl (Nat.le_of_ble_eq_true rfl) ⟨Nat.le_of_ble_eq_true rfl, Nat.le_of_ble_eq_true rfl, Nat.le_of_ble_eq_true rfl, Nat.le_of_ble_eq_true rfl⟩ (fun r_101 N_102 V_100 q_103 => ?_)
        obtain ⟨⟨z_98, h_97⟩, rfl, q_96⟩ := q_103
        have j_99 := JR.trans j_4 (JR.weak q_96 (Sub.cons (LMs (LMs (LMs LM0))) (by decide) (by decide) (by decide) (Or.inr ⟨by decide, by decide⟩) Sub.nil))
        obtain ⟨rfl, h_97f⟩ := h_97
        refine aw_zreti dX12_readsTwo_51 rfl (by first | exact Or.inl rfl | exact Or.inr rfl | assumption) (Nat.le_of_ble_eq_true rfl) (Nat.le_of_ble_eq_true rfl) ?_
        exact ⟨⟨(by first | exact Or.inl rfl | exact Or.inr rfl | assumption), Or.inl ⟨_, ac_s hx_22 ht_23 (fun z => z.elim c_38 c_46), h_97f, rfl⟩⟩, rfl, j_99⟩
    · skip
      refine aw_iconst (v := 1) dX12_readsTwo_23 (by decide) ?_
      refine aw_goto (tgt := 28) dX12_readsTwo_24 (by decide) ?_
      refine aw_istore_n (ls' := [some (.ref (b + 100)), some (.int (nI d_21)), some (.int 1), none, none]) dX12_readsTwo_28 (Nat.le_of_ble_eq_true rfl) rfl ?_
      refine aw_iload_n dX12_readsTwo_29 rfl ?_
      refine aw_if_ne (tgt := 52) dX12_readsTwo_30 (by decide) (fun c_104 => ?_) (fun c_104 => ?_)
      rotate_left
      · exact absurd c_104 (by decide)
      have hlc_38 := hd_lit c_38 (by decide)
      refine aw_aload_n dX12_readsTwo_52 rfl ?_
      refine aw_aload_n dX12_readsTwo_53 rfl ?_
      refine aw_get dX12_readsTwo_54 fl_X12_159 e_31 (by omega) rfl ?_
      refine aw_eqi (y := (nI a_20)) ((Eq.symm (congrArg (fun z => fI z 14) e_31)).trans hk_24) ?_
      refine aw_iconst (v := 1) dX12_readsTwo_57 (by decide) ?_
      refine aw_iadd dX12_readsTwo_58 ?_
      refine aw_eqi (y := nI (a_20 + 1)) (nI_add _ _) ?_
      refine aw_put dX12_readsTwo_59 fp_X12_159 e_31 (by omega) rfl rfl (Nat.le_of_ble_eq_true rfl) rfl ?_
      refine aw_upR j_4 cm_100 ⟨_, _, _, _, _, _, _, _, _, _, _, _, tad_31, (a_20 + 1), le0_31, nu0_31, coy_31, wag_31, say_31, rfl, by omega, by omega, by omega, by omega, by omega, by omega, by omega⟩ (by decide) (WO (s := 14) (x := .int (nI (a_20 + 1))) e_31 rfl (LMs (LMs LM0)) (by decide) (by decide) (by decide) (Or.inl (by decide))) (fun V_105 j_105 k_105 e_105 => ?_)
      refine aw_aload_n dX12_readsTwo_62 rfl ?_
      refine aw_get dX12_readsTwo_63 fl_X12_159 e_105 (by omega) rfl ?_
      refine aw_istore_n (ls' := [some (.ref (b + 100)), some (.int (nI d_21)), some (.int 1), some (.int (nI (a_20 + 1))), none]) dX12_readsTwo_66 (Nat.le_of_ble_eq_true rfl) rfl ?_
      refine aw_aload_n dX12_readsTwo_67 rfl ?_
      refine aw_callVi (J' := jX12_readsOne) (As := []) (st := []) dX12_readsTwo_68 tb_1347 ok_X12_readsOne ⟨_, e_105⟩ (by omega) rfl rfl (r_readsOneS l D b N V_105 hN cl j_105.1 g ((k_105 _ (by decide)).trans ((JR.same q_1 (by decide) (by decide) (fun k => (nfc (by omega) (nfc (by omega) (nfc (by omega) nf0))))).trans hg)) n (a_20 + 1) ⟨by omega, by omega⟩ (KA (s := 14) (x := .int (nI (a_20 + 1))) e_31 rfl (by decide) e_105 k_105 ((JR.fI q_1 (by decide) (by decide) (nfc (by omega) (nfc (by omega) (nfc (by omega) nf0)))).trans hE)) ((congrArg (fun z => fI z 14) e_105).trans rfl) P (KA (s := 14) (x := .int (nI (a_20 + 1))) e_31 rfl (by decide) e_105 k_105 ((JR.fI q_1 (by decide) (by decide) (nfc (by omega) (nfc (by omega) (nfc (by omega) nf0)))).trans hP))) rfl (Nat.le_of_ble_eq_true rfl) ⟨Nat.le_of_ble_eq_true rfl, Nat.le_of_ble_eq_true rfl, Nat.le_of_ble_eq_true rfl, Nat.le_of_ble_eq_true rfl⟩ (fun r_111 N_112 V_110 q_113 => ?_)
      obtain ⟨⟨z_108, h_107⟩, rfl, q_106⟩ := q_113
      have j_109 := JR.trans j_105 (JR.weak q_106 (Sub.cons (LMs LM0) (by decide) (by decide) (by decide) (Or.inr ⟨by decide, by decide⟩) (Sub.cons (LMs (LMs LM0)) (by decide) (by decide) (by decide) (Or.inr ⟨by decide, by decide⟩) (Sub.cons (LMs (LMs (LMs LM0))) (by decide) (by decide) (by decide) (Or.inr ⟨by decide, by decide⟩) Sub.nil))))
      rcases h_107 with ⟨f_114, hx_115, hk_116, e_117⟩ | ⟨a_118, d_119, hx_120, ht_121, hk_122, e_123⟩ | ⟨a_124, d_125, hx_126, ht_127, hk_128, hv_129, hb_130, e_131⟩
      · skip
        refine aw_eqi (y := 0) e_117 ?_
        refine aw_if_ne (tgt := 76) dX12_readsTwo_71 (by decide) (fun c_132 => ?_) (fun c_132 => ?_)
        · exact absurd rfl c_132
        refine aw_iconst (v := 0) dX12_readsTwo_74 (by decide) ?_
        refine aw_zreti dX12_readsTwo_75 rfl (by first | exact Or.inl rfl | exact Or.inr rfl | assumption) (Nat.le_of_ble_eq_true rfl) (Nat.le_of_ble_eq_true rfl) ?_
        exact ⟨⟨(by first | exact Or.inl rfl | exact Or.inr rfl | assumption), Or.inl ⟨_, ac_n2 hx_22 ht_23 (Or.inl c_38) hx_115, hk_116, rfl⟩⟩, rfl, j_109⟩
      · skip
        refine aw_eqi (y := 0) e_123 ?_
        refine aw_if_ne (tgt := 76) dX12_readsTwo_71 (by decide) (fun c_133 => ?_) (fun c_133 => ?_)
        · exact absurd rfl c_133
        refine aw_iconst (v := 0) dX12_readsTwo_74 (by decide) ?_
        refine aw_zreti dX12_readsTwo_75 rfl (by first | exact Or.inl rfl | exact Or.inr rfl | assumption) (Nat.le_of_ble_eq_true rfl) (Nat.le_of_ble_eq_true rfl) ?_
        exact ⟨⟨(by first | exact Or.inl rfl | exact Or.inr rfl | assumption), Or.inl ⟨_, ac_72 hx_22 ht_23 (Or.inl c_38) hx_120 ht_121, hk_122, rfl⟩⟩, rfl, j_109⟩
      · skip
        refine aw_eqi (y := 1) e_131 ?_
        obtain ⟨hb_130a, hb_130b, hb_130c⟩ := hb_130
        refine aw_if_ne (tgt := 76) dX12_readsTwo_71 (by decide) (fun c_134 => ?_) (fun c_134 => ?_)
        rotate_left
        · exact absurd c_134 (by decide)
        refine aw_aload_n dX12_readsTwo_76 rfl ?_
        obtain ⟨ftoldPeople_135, ftoldDoors_135, fwasDoors_135, ffault_135, fopen_135, flines_135, fmeantSet_135, fopenedNow_135, fvainNow_135, flowNow_135, fhighNow_135, fisKept_135, tad_135, pl0_135, le0_135, nu0_135, coy_135, wag_135, say_135, e_135, hntad_135, hnpl0_135, hnle0_135, hnnu0_135, hncoy_135, hnwag_135, hnsay_135⟩ := JR.get j_109 cm_100
        refine aw_get dX12_readsTwo_77 fl_X12_175 e_135 (by omega) rfl ?_
        refine aw_eqi (y := (nI d_125)) ((Eq.symm (congrArg (fun z => fI z 17) e_135)).trans hv_129) ?_
        refine aw_istore (ls' := [some (.ref (b + 100)), some (.int (nI d_21)), some (.int 1), some (.int (nI (a_20 + 1))), some (.int (nI d_125))]) dX12_readsTwo_80 (Nat.le_of_ble_eq_true rfl) rfl ?_
        refine aw_iload_n dX12_readsTwo_82 rfl ?_
        refine aw_iload dX12_readsTwo_83 rfl ?_
        refine aw_icmp_ne (tgt := 96) dX12_readsTwo_85 (by decide) (fun c_136 => ?_) (fun c_136 => ?_)
        · skip
          have nc_136 : ¬ (d_21 = d_125) := fun z => c_136 ((nI_eq (a := d_21) (b := d_125) (by omega) (by omega)).mpr z)
          obtain ⟨g_137, e_137, p_137⟩ := JR.get j_109 cm_104
          refine aw_aload_n dX12_readsTwo_96 rfl ?_
          refine aw_get dX12_readsTwo_97 fl_X12_19 e_135 (by omega) rfl ?_
          refine aw_iload_n dX12_readsTwo_100 rfl ?_
          refine aw_iload_n dX12_readsTwo_101 rfl ?_
          refine aw_if_eq (tgt := 119) dX12_readsTwo_102 (by decide) (fun c_138 => ?_) (fun c_138 => ?_)
          · exact absurd c_138 (by decide)
          refine aw_aload_n dX12_readsTwo_105 rfl ?_
          refine aw_get dX12_readsTwo_106 fl_X12_19 e_135 (by omega) rfl ?_
          refine aw_iload_n dX12_readsTwo_109 rfl ?_
          refine aw_iald (v := (g_137 d_21)) dX12_readsTwo_110 e_137 (by omega) (vp_in_nI (n := d_21) (by omega) (by omega)) (congrArg g_137 (nI_clamp (n := d_21) (by omega))) ?_
          refine aw_iconst (v := 1) dX12_readsTwo_111 (by decide) ?_
          refine aw_iload dX12_readsTwo_112 rfl ?_
          refine aw_ishl dX12_readsTwo_114 ?_
          refine aw_ior dX12_readsTwo_115 ?_
          refine aw_goto (tgt := 132) dX12_readsTwo_116 (by decide) ?_
          refine aw_iast dX12_readsTwo_132 e_137 (by omega) (vp_in_nI (n := d_21) (by omega) (by omega)) ?_
          have np_140 : ∀ j, j < 12 → (fun v => ∃ k : Nat, k < 4096 ∧ v = nI k) ((upd g_137 d_21 ((g_137 d_21) ||| ((1 : Int32) <<< ((nI d_125) &&& 31)))) j) := isP_upd (P := (fun v => ∃ k : Nat, k < 4096 ∧ v = nI k)) p_137 (k4_or (p_137 d_21 (by omega)) (by omega))
          refine aw_upR j_109 cm_104 ⟨_, rfl, by rw [nI_clamp (n := d_21) (by omega)]; exact np_140⟩ (by decide) (WA LM0 (by decide) (by decide)) (fun V_139 j_139 k_139 e_139 => ?_)
          have e_141 : V_139 104 = cI D 12 (upd g_137 d_21 ((g_137 d_21) ||| ((1 : Int32) <<< ((nI d_125) &&& 31)))) := by rw [e_139, nI_clamp (n := d_21) (by omega)]
          refine aw_aload_n dX12_readsTwo_133 rfl ?_
          refine aw_get dX12_readsTwo_134 fl_X12_19 ((k_139 _ (by decide)).trans e_135) (by omega) rfl ?_
          refine aw_iload dX12_readsTwo_137 rfl ?_
          refine aw_iload_n dX12_readsTwo_139 rfl ?_
          refine aw_if_eq (tgt := 157) dX12_readsTwo_140 (by decide) (fun c_142 => ?_) (fun c_142 => ?_)
          · exact absurd c_142 (by decide)
          refine aw_aload_n dX12_readsTwo_143 rfl ?_
          refine aw_get dX12_readsTwo_144 fl_X12_19 ((k_139 _ (by decide)).trans e_135) (by omega) rfl ?_
          refine aw_iload dX12_readsTwo_147 rfl ?_
          refine aw_iald (v := ((upd g_137 d_21 ((g_137 d_21) ||| ((1 : Int32) <<< ((nI d_125) &&& 31)))) d_125)) dX12_readsTwo_149 e_141 (by omega) (vp_in_nI (n := d_125) (by omega) (by omega)) (congrArg (upd g_137 d_21 ((g_137 d_21) ||| ((1 : Int32) <<< ((nI d_125) &&& 31)))) (nI_clamp (n := d_125) (by omega))) ?_
          refine aw_iconst (v := 1) dX12_readsTwo_150 (by decide) ?_
          refine aw_iload_n dX12_readsTwo_151 rfl ?_
          refine aw_ishl dX12_readsTwo_152 ?_
          refine aw_ior dX12_readsTwo_153 ?_
          refine aw_goto (tgt := 170) dX12_readsTwo_154 (by decide) ?_
          refine aw_iast dX12_readsTwo_170 e_141 (by omega) (vp_in_nI (n := d_125) (by omega) (by omega)) ?_
          have np_144 : ∀ j, j < 12 → (fun v => ∃ k : Nat, k < 4096 ∧ v = nI k) ((upd (upd g_137 d_21 ((g_137 d_21) ||| ((1 : Int32) <<< ((nI d_125) &&& 31)))) d_125 (((upd g_137 d_21 ((g_137 d_21) ||| ((1 : Int32) <<< ((nI d_125) &&& 31)))) d_125) ||| ((1 : Int32) <<< ((nI d_21) &&& 31)))) j) := isP_upd (P := (fun v => ∃ k : Nat, k < 4096 ∧ v = nI k)) np_140 (k4_or (np_140 d_125 (by omega)) (by omega))
          refine aw_upR j_139 cm_104 ⟨_, rfl, by rw [nI_clamp (n := d_125) (by omega)]; exact np_144⟩ (by decide) (WA LM0 (by decide) (by decide)) (fun V_143 j_143 k_143 e_143 => ?_)
          have e_145 : V_143 104 = cI D 12 (upd (upd g_137 d_21 ((g_137 d_21) ||| ((1 : Int32) <<< ((nI d_125) &&& 31)))) d_125 (((upd g_137 d_21 ((g_137 d_21) ||| ((1 : Int32) <<< ((nI d_125) &&& 31)))) d_125) ||| ((1 : Int32) <<< ((nI d_21) &&& 31)))) := by rw [e_143, nI_clamp (n := d_125) (by omega)]
          refine aw_iconst (v := 1) dX12_readsTwo_171 (by decide) ?_
          refine aw_zreti dX12_readsTwo_172 rfl (by first | exact Or.inl rfl | exact Or.inr rfl | assumption) (Nat.le_of_ble_eq_true rfl) (Nat.le_of_ble_eq_true rfl) ?_
          exact ⟨⟨(by first | exact Or.inl rfl | exact Or.inr rfl | assumption), Or.inr ⟨_, _, ac_up hx_22 ht_23 c_38 hx_126 ht_127 (by omega), ((congrArg (fun z => fI z 14) (k_143 _ (by omega))).trans ((congrArg (fun z => fI z 14) (k_139 _ (by omega))).trans hk_128)), ((congrArg (fun z => fI z 10) (k_143 _ (by omega))).trans ((congrArg (fun z => fI z 10) (k_139 _ (by omega))).trans ((JR.fI q_106 (by decide) (by decide) (nfc (by omega) (nfc (by omega) (nfc (by omega) nf0)))).trans (KA (s := 14) (x := .int (nI (a_20 + 1))) e_31 rfl (by decide) e_105 k_105 ((JR.fI q_1 (by decide) (by decide) (nfc (by omega) (nfc (by omega) (nfc (by omega) nf0)))).trans hD))))), ((congrArg (fun z => rs (fI z)) e_145).trans ((kup_rs (by omega) (by omega)).trans (congrArg (fun K => kup K d_21 d_125) ((congrArg (fun z => rs (fI z)) e_137).symm.trans ((congrArg (fun z => rs (fI z)) (JR.same q_106 (by decide) (by decide) (fun k => (nfc (by omega) (nfc (by omega) (nfc (by omega) nf0)))))).trans ((congrArg (fun z => rs (fI z)) (k_105 _ (by omega))).trans ((congrArg (fun z => rs (fI z)) (JR.same q_1 (by decide) (by decide) (fun k => (nfc (by omega) (nfc (by omega) (nfc (by omega) nf0)))))).trans hK))))))), ⟨by omega, by omega⟩, rfl⟩⟩, rfl, j_143⟩
        · skip
          have nc_136 : d_21 = d_125 := (nI_eq (a := d_21) (b := d_125) (by omega) (by omega)).mp c_136
          refine aw_aload_n dX12_readsTwo_88 rfl ?_
          refine aw_bipush (v := 6) dX12_readsTwo_89 (by decide) ?_
          refine aw_iload_n dX12_readsTwo_91 rfl ?_
          refine aw_callVi (J' := jX12_wrongAt) (As := [.int 6, .int (nI (a_20 + 1))]) (st := []) dX12_readsTwo_92 tb_1224 ok_X12_wrongAt ⟨_, e_135⟩ (by omega) rfl rfl (r_wrongAtS l D b N V_110 hN cl j_109.1 6 (nI (a_20 + 1))) rfl (Nat.le_of_ble_eq_true rfl) ⟨Nat.le_of_ble_eq_true rfl, Nat.le_of_ble_eq_true rfl, Nat.le_of_ble_eq_true rfl, Nat.le_of_ble_eq_true rfl⟩ (fun r_151 N_152 V_150 q_153 => ?_)
          obtain ⟨⟨z_148, h_147⟩, rfl, q_146⟩ := q_153
          have j_149 := JR.trans j_109 (JR.weak q_146 (Sub.cons (LMs (LMs (LMs LM0))) (by decide) (by decide) (by decide) (Or.inr ⟨by decide, by decide⟩) Sub.nil))
          obtain ⟨rfl, h_147f⟩ := h_147
          refine aw_zreti dX12_readsTwo_95 rfl (by first | exact Or.inl rfl | exact Or.inr rfl | assumption) (Nat.le_of_ble_eq_true rfl) (Nat.le_of_ble_eq_true rfl) ?_
          exact ⟨⟨(by first | exact Or.inl rfl | exact Or.inr rfl | assumption), Or.inl ⟨_, ac_6 hx_22 ht_23 (Or.inl c_38) hx_126 ht_127 (by omega), h_147f, rfl⟩⟩, rfl, j_149⟩

set_option maxHeartbeats 20000000 in
set_option maxRecDepth 100000 in
theorem r_readsDoorS (l : Launch) (D : va_G) (b : Nat) (N : Nat) (V : Wd) (hN : 133 ≤ N) (cl : Nat) (hW : CR D b cl V)  (g : Nat → Int32) (hg : V 110 = cB D 260 g) (n a : Nat) (hna : a ≤ n ∧ n ≤ 240) (hE : fI (V 100) 15 = nI n) (hA : fI (V 100) 14 = nI a) (P : Int32) (hP : fI (V 100) 9 = P) (s : OS) (hD : fI (V 100) 10 = s.1) (hK : rs (fI (V 104)) = s.2) : MI l D b 3 jX12_readsDoor [.ref (b + 100)] N V 0 0 (fun r N9 V9 => ((r = 0 ∨ r = 1) ∧ ((∃ f, lnDr (gb g) n a s = .inl f ∧ fI (V9 100) 16 = f ∧ r = 0) ∨ (∃ a9 s9, lnDr (gb g) n a s = .inr (a9, s9) ∧ fI (V9 100) 14 = nI a9 ∧ fI (V9 100) 10 = s9.1 ∧ rs (fI (V9 104)) = s9.2 ∧ (a < a9 ∧ a9 ≤ n) ∧ r = 1))) ∧ N = N9 ∧ JR D b N cl [(106, 107, 0, 1000000), (100, 100, 17, 17), (100, 100, 14, 14), (100, 100, 16, 16), (100, 100, 10, 10), (101, 101, 192, 207)] V V9) := by
  have hJ0 : JR D b N cl [(106, 107, 0, 1000000), (100, 100, 17, 17), (100, 100, 14, 14), (100, 100, 16, 16), (100, 100, 10, 10), (101, 101, 192, 207)] V V := JR.rf hW
  refine mw_of (by decide) (by simp [Value.category]) (Nat.le_of_ble_eq_true rfl) ?_
  show AW l D b jX12_readsDoor (fx_rm 3 0 0) none (fx_MQ D b 0 0 (fx_qi (fun r N9 V9 => ((r = 0 ∨ r = 1) ∧ ((∃ f, lnDr (gb g) n a s = .inl f ∧ fI (V9 100) 16 = f ∧ r = 0) ∨ (∃ a9 s9, lnDr (gb g) n a s = .inr (a9, s9) ∧ fI (V9 100) 14 = nI a9 ∧ fI (V9 100) 10 = s9.1 ∧ rs (fI (V9 104)) = s9.2 ∧ (a < a9 ∧ a9 ≤ n) ∧ r = 1))) ∧ N = N9 ∧ JR D b N cl [(106, 107, 0, 1000000), (100, 100, 17, 17), (100, 100, 14, 14), (100, 100, 16, 16), (100, 100, 10, 10), (101, 101, 192, 207)] V V9))) 0 [some (.ref (b + 100)), none, none, none] [] N V 0 0
  refine aw_aload_n dX12_readsDoor_0 rfl ?_
  obtain ⟨ftoldPeople_1, ftoldDoors_1, fwasDoors_1, ffault_1, fopen_1, flines_1, fmeantSet_1, fopenedNow_1, fvainNow_1, flowNow_1, fhighNow_1, fisKept_1, tad_1, pl0_1, le0_1, nu0_1, coy_1, wag_1, say_1, e_1, hntad_1, hnpl0_1, hnle0_1, hnnu0_1, hncoy_1, hnwag_1, hnsay_1⟩ := JR.get hJ0 cm_100
  refine aw_get dX12_readsDoor_1 fl_X12_159 e_1 (by omega) rfl ?_
  refine aw_eqi (y := (nI a)) ((Eq.symm (congrArg (fun z => fI z 14) e_1)).trans hA) ?_
  refine aw_istore_n (ls' := [some (.ref (b + 100)), some (.int (nI a)), none, none]) dX12_readsDoor_4 (Nat.le_of_ble_eq_true rfl) rfl ?_
  refine aw_aload_n dX12_readsDoor_5 rfl ?_
  refine aw_callVi (J' := jX12_readsAmount) (As := []) (st := []) dX12_readsDoor_6 tb_1318 ok_X12_readsAmount ⟨_, e_1⟩ (by omega) rfl rfl (r_readsAmountS l D b N V hN cl hJ0.1 g hg n a ⟨by omega, by omega⟩ hE hA) rfl (Nat.le_of_ble_eq_true rfl) ⟨Nat.le_of_ble_eq_true rfl, Nat.le_of_ble_eq_true rfl, Nat.le_of_ble_eq_true rfl, Nat.le_of_ble_eq_true rfl⟩ (fun r_7 N_8 V_6 q_9 => ?_)
  obtain ⟨⟨z_4, h_3⟩, rfl, q_2⟩ := q_9
  have j_5 := JR.trans hJ0 (JR.weak q_2 (Sub.cons (LMs LM0) (by decide) (by decide) (by decide) (Or.inr ⟨by decide, by decide⟩) (Sub.cons (LMs (LMs LM0)) (by decide) (by decide) (by decide) (Or.inr ⟨by decide, by decide⟩) (Sub.cons (LMs (LMs (LMs LM0))) (by decide) (by decide) (by decide) (Or.inr ⟨by decide, by decide⟩) Sub.nil))))
  rcases h_3 with ⟨f_10, hx_11, hk_12, e_13⟩ | ⟨a_14, v_15, hx_16, hk_17, hv_18, hb_19, e_20⟩
  · skip
    refine aw_eqi (y := 0) e_13 ?_
    refine aw_if_ne (tgt := 14) dX12_readsDoor_9 (by decide) (fun c_21 => ?_) (fun c_21 => ?_)
    · exact absurd rfl c_21
    refine aw_iconst (v := 0) dX12_readsDoor_12 (by decide) ?_
    refine aw_zreti dX12_readsDoor_13 rfl (by first | exact Or.inl rfl | exact Or.inr rfl | assumption) (Nat.le_of_ble_eq_true rfl) (Nat.le_of_ble_eq_true rfl) ?_
    exact ⟨⟨(by first | exact Or.inl rfl | exact Or.inr rfl | assumption), Or.inl ⟨_, dr_n hx_11, hk_12, rfl⟩⟩, rfl, j_5⟩
  · skip
    refine aw_eqi (y := 1) e_20 ?_
    obtain ⟨hb_19a, hb_19b, hb_19c⟩ := hb_19
    refine aw_if_ne (tgt := 14) dX12_readsDoor_9 (by decide) (fun c_22 => ?_) (fun c_22 => ?_)
    rotate_left
    · exact absurd c_22 (by decide)
    refine aw_aload_n dX12_readsDoor_14 rfl ?_
    obtain ⟨ftoldPeople_23, ftoldDoors_23, fwasDoors_23, ffault_23, fopen_23, flines_23, fmeantSet_23, fopenedNow_23, fvainNow_23, flowNow_23, fhighNow_23, fisKept_23, tad_23, pl0_23, le0_23, nu0_23, coy_23, wag_23, say_23, e_23, hntad_23, hnpl0_23, hnle0_23, hnnu0_23, hncoy_23, hnwag_23, hnsay_23⟩ := JR.get j_5 cm_100
    refine aw_get dX12_readsDoor_15 fl_X12_175 e_23 (by omega) rfl ?_
    refine aw_eqi (y := (nI v_15)) ((Eq.symm (congrArg (fun z => fI z 17) e_23)).trans hv_18) ?_
    refine aw_istore_n (ls' := [some (.ref (b + 100)), some (.int (nI a)), some (.int (nI v_15)), none]) dX12_readsDoor_18 (Nat.le_of_ble_eq_true rfl) rfl ?_
    refine aw_iload_n dX12_readsDoor_19 rfl ?_
    refine aw_bipush (v := 16) dX12_readsDoor_20 (by decide) ?_
    refine aw_icmp_lt (tgt := 32) dX12_readsDoor_22 (by decide) (fun c_24 => ?_) (fun c_24 => ?_)
    · skip
      have nc_24 : v_15 < 16 := (nI_ltI (a := v_15) (b := 16) (by omega) (by omega)).mp c_24
      refine aw_aload_n dX12_readsDoor_32 rfl ?_
      refine aw_callVi (J' := jX12_here) (As := []) (st := []) dX12_readsDoor_33 tb_1220 ok_X12_here ⟨_, e_23⟩ (by omega) rfl rfl (r_hereS l D b N V_6 hN cl j_5.1 g ((JR.same q_2 (by decide) (by decide) (fun k => (nfc (by omega) (nfc (by omega) (nfc (by omega) nf0))))).trans hg) n a_14 ⟨by omega, by omega⟩ ((JR.fI q_2 (by decide) (by decide) (nfc (by omega) (nfc (by omega) (nfc (by omega) nf0)))).trans hE) hk_17) rfl (Nat.le_of_ble_eq_true rfl) ⟨Nat.le_of_ble_eq_true rfl, Nat.le_of_ble_eq_true rfl, Nat.le_of_ble_eq_true rfl, Nat.le_of_ble_eq_true rfl⟩ (fun r_27 N_28 V_29 q_30 => ?_)
      obtain ⟨h_26, rfl, rfl⟩ := q_30
      refine aw_eqi (y := (hd (gb g) n a_14)) h_26 ?_
      refine aw_bipush (v := 33) dX12_readsDoor_36 (by decide) ?_
      refine aw_icmp_ne (tgt := 94) dX12_readsDoor_38 (by decide) (fun c_31 => ?_) (fun c_31 => ?_)
      · skip
        refine aw_aload_n dX12_readsDoor_94 rfl ?_
        refine aw_bipush (v := 58) dX12_readsDoor_95 (by decide) ?_
        refine aw_callVi (J' := jX12_takes) (As := [.int 58]) (st := []) dX12_readsDoor_97 tb_1291 ok_X12_takes ⟨_, e_23⟩ (by omega) rfl rfl (r_takesS l D b N V_6 hN cl j_5.1 58 g ((JR.same q_2 (by decide) (by decide) (fun k => (nfc (by omega) (nfc (by omega) (nfc (by omega) nf0))))).trans hg) n a_14 ⟨by omega, by omega⟩ ((JR.fI q_2 (by decide) (by decide) (nfc (by omega) (nfc (by omega) (nfc (by omega) nf0)))).trans hE) hk_17 (by decide)) rfl (Nat.le_of_ble_eq_true rfl) ⟨Nat.le_of_ble_eq_true rfl, Nat.le_of_ble_eq_true rfl, Nat.le_of_ble_eq_true rfl, Nat.le_of_ble_eq_true rfl⟩ (fun r_37 N_38 V_36 q_39 => ?_)
        obtain ⟨⟨z_34, h_33⟩, rfl, q_32⟩ := q_39
        have j_35 := JR.trans j_5 (JR.weak q_32 (Sub.cons (LMs (LMs LM0)) (by decide) (by decide) (by decide) (Or.inr ⟨by decide, by decide⟩) (Sub.cons (LMs (LMs (LMs LM0))) (by decide) (by decide) (by decide) (Or.inr ⟨by decide, by decide⟩) Sub.nil)))
        rcases h_33 with ⟨hy_40, hk_41, e_42⟩ | ⟨hn_43, hk_44, e_45⟩
        · skip
          refine aw_eqi (y := 1) e_42 ?_
          have hlhy_40 := hd_lit hy_40 (by decide)
          refine aw_if_ne (tgt := 105) dX12_readsDoor_100 (by decide) (fun c_46 => ?_) (fun c_46 => ?_)
          rotate_left
          · exact absurd c_46 (by decide)
          refine aw_aload_n dX12_readsDoor_105 rfl ?_
          obtain ⟨ftoldPeople_50, ftoldDoors_50, fwasDoors_50, ffault_50, fopen_50, flines_50, fmeantSet_50, fopenedNow_50, fvainNow_50, flowNow_50, fhighNow_50, fisKept_50, tad_50, pl0_50, le0_50, nu0_50, coy_50, wag_50, say_50, e_50, hntad_50, hnpl0_50, hnle0_50, hnnu0_50, hncoy_50, hnwag_50, hnsay_50⟩ := JR.get j_35 cm_100
          refine aw_callVi (J' := jX12_isLetter) (As := []) (st := []) dX12_readsDoor_106 tb_1306 ok_X12_isLetter ⟨_, e_50⟩ (by omega) rfl rfl (r_isLetterS l D b N V_36 hN cl j_35.1 g ((JR.same q_32 (by decide) (by decide) (fun k => (nfc (by omega) (nfc (by omega) nf0)))).trans ((JR.same q_2 (by decide) (by decide) (fun k => (nfc (by omega) (nfc (by omega) (nfc (by omega) nf0))))).trans hg)) n (a_14 + 1) ⟨by omega, by omega⟩ ((JR.fI q_32 (by decide) (by decide) (nfc (by omega) (nfc (by omega) nf0))).trans ((JR.fI q_2 (by decide) (by decide) (nfc (by omega) (nfc (by omega) (nfc (by omega) nf0)))).trans hE)) hk_41) rfl (Nat.le_of_ble_eq_true rfl) ⟨Nat.le_of_ble_eq_true rfl, Nat.le_of_ble_eq_true rfl, Nat.le_of_ble_eq_true rfl, Nat.le_of_ble_eq_true rfl⟩ (fun r_51 N_52 V_53 q_54 => ?_)
          obtain ⟨⟨z_49, h_48⟩, rfl, rfl⟩ := q_54
          rcases h_48 with ⟨hy_55, e_56⟩ | ⟨hn_57, e_58⟩
          · skip
            refine aw_eqi (y := 1) e_56 ?_
            have hlhy_55 := isLt_hd hy_55
            refine aw_if_ne (tgt := 122) dX12_readsDoor_109 (by decide) (fun c_59 => ?_) (fun c_59 => ?_)
            rotate_left
            · exact absurd c_59 (by decide)
            obtain ⟨z_60, hz_60, ez_60⟩ := isLt_nat hy_55
            refine aw_aload_n dX12_readsDoor_122 rfl ?_
            refine aw_callVi (J' := jX12_here) (As := []) (st := []) dX12_readsDoor_123 tb_1220 ok_X12_here ⟨_, e_50⟩ (by omega) rfl rfl (r_hereS l D b N V_36 hN cl j_35.1 g ((JR.same q_32 (by decide) (by decide) (fun k => (nfc (by omega) (nfc (by omega) nf0)))).trans ((JR.same q_2 (by decide) (by decide) (fun k => (nfc (by omega) (nfc (by omega) (nfc (by omega) nf0))))).trans hg)) n (a_14 + 1) ⟨by omega, by omega⟩ ((JR.fI q_32 (by decide) (by decide) (nfc (by omega) (nfc (by omega) nf0))).trans ((JR.fI q_2 (by decide) (by decide) (nfc (by omega) (nfc (by omega) (nfc (by omega) nf0)))).trans hE)) hk_41) rfl (Nat.le_of_ble_eq_true rfl) ⟨Nat.le_of_ble_eq_true rfl, Nat.le_of_ble_eq_true rfl, Nat.le_of_ble_eq_true rfl, Nat.le_of_ble_eq_true rfl⟩ (fun r_63 N_64 V_65 q_66 => ?_)
            obtain ⟨h_62, rfl, rfl⟩ := q_66
            refine aw_eqi (y := nI (97 + z_60)) (h_62.trans ez_60) ?_
            refine aw_bipush (v := 97) dX12_readsDoor_126 (by decide) ?_
            refine aw_isub dX12_readsDoor_128 ?_
            refine aw_eqi (y := (nI z_60)) (sub97 z_60) ?_
            refine aw_istore_n (ls' := [some (.ref (b + 100)), some (.int (nI a)), some (.int (nI v_15)), some (.int (nI z_60))]) dX12_readsDoor_129 (Nat.le_of_ble_eq_true rfl) rfl ?_
            refine aw_aload_n dX12_readsDoor_130 rfl ?_
            refine aw_aload_n dX12_readsDoor_131 rfl ?_
            refine aw_get dX12_readsDoor_132 fl_X12_159 e_50 (by omega) rfl ?_
            refine aw_eqi (y := (nI (a_14 + 1))) ((Eq.symm (congrArg (fun z => fI z 14) e_50)).trans hk_41) ?_
            refine aw_iconst (v := 1) dX12_readsDoor_135 (by decide) ?_
            refine aw_iadd dX12_readsDoor_136 ?_
            refine aw_eqi (y := nI ((a_14 + 1) + 1)) (nI_add _ _) ?_
            refine aw_put dX12_readsDoor_137 fp_X12_159 e_50 (by omega) rfl rfl (Nat.le_of_ble_eq_true rfl) rfl ?_
            refine aw_upR j_35 cm_100 ⟨_, _, _, _, _, _, _, _, _, _, _, _, tad_50, ((a_14 + 1) + 1), le0_50, nu0_50, coy_50, wag_50, say_50, rfl, by omega, by omega, by omega, by omega, by omega, by omega, by omega⟩ (by decide) (WO (s := 14) (x := .int (nI ((a_14 + 1) + 1))) e_50 rfl (LMs (LMs LM0)) (by decide) (by decide) (by decide) (Or.inl (by decide))) (fun V_67 j_67 k_67 e_67 => ?_)
            refine aw_aload_n dX12_readsDoor_140 rfl ?_
            refine aw_callVi (J' := jX12_readsAmount) (As := []) (st := []) dX12_readsDoor_141 tb_1318 ok_X12_readsAmount ⟨_, e_67⟩ (by omega) rfl rfl (r_readsAmountS l D b N V_67 hN cl j_67.1 g ((k_67 _ (by decide)).trans ((JR.same q_32 (by decide) (by decide) (fun k => (nfc (by omega) (nfc (by omega) nf0)))).trans ((JR.same q_2 (by decide) (by decide) (fun k => (nfc (by omega) (nfc (by omega) (nfc (by omega) nf0))))).trans hg))) n ((a_14 + 1) + 1) ⟨by omega, by omega⟩ (KA (s := 14) (x := .int (nI ((a_14 + 1) + 1))) e_50 rfl (by decide) e_67 k_67 ((JR.fI q_32 (by decide) (by decide) (nfc (by omega) (nfc (by omega) nf0))).trans ((JR.fI q_2 (by decide) (by decide) (nfc (by omega) (nfc (by omega) (nfc (by omega) nf0)))).trans hE))) ((congrArg (fun z => fI z 14) e_67).trans rfl)) rfl (Nat.le_of_ble_eq_true rfl) ⟨Nat.le_of_ble_eq_true rfl, Nat.le_of_ble_eq_true rfl, Nat.le_of_ble_eq_true rfl, Nat.le_of_ble_eq_true rfl⟩ (fun r_73 N_74 V_72 q_75 => ?_)
            obtain ⟨⟨z_70, h_69⟩, rfl, q_68⟩ := q_75
            have j_71 := JR.trans j_67 (JR.weak q_68 (Sub.cons (LMs LM0) (by decide) (by decide) (by decide) (Or.inr ⟨by decide, by decide⟩) (Sub.cons (LMs (LMs LM0)) (by decide) (by decide) (by decide) (Or.inr ⟨by decide, by decide⟩) (Sub.cons (LMs (LMs (LMs LM0))) (by decide) (by decide) (by decide) (Or.inr ⟨by decide, by decide⟩) Sub.nil))))
            rcases h_69 with ⟨f_76, hx_77, hk_78, e_79⟩ | ⟨a_80, v_81, hx_82, hk_83, hv_84, hb_85, e_86⟩
            · skip
              refine aw_eqi (y := 0) e_79 ?_
              refine aw_if_ne (tgt := 149) dX12_readsDoor_144 (by decide) (fun c_87 => ?_) (fun c_87 => ?_)
              · exact absurd rfl c_87
              refine aw_iconst (v := 0) dX12_readsDoor_147 (by decide) ?_
              refine aw_zreti dX12_readsDoor_148 rfl (by first | exact Or.inl rfl | exact Or.inr rfl | assumption) (Nat.le_of_ble_eq_true rfl) (Nat.le_of_ble_eq_true rfl) ?_
              exact ⟨⟨(by first | exact Or.inl rfl | exact Or.inr rfl | assumption), Or.inl ⟨_, dr_m hx_16 (by omega) c_31 hy_40 hy_55 hx_77, hk_78, rfl⟩⟩, rfl, j_71⟩
            · skip
              refine aw_eqi (y := 1) e_86 ?_
              obtain ⟨hb_85a, hb_85b, hb_85c⟩ := hb_85
              refine aw_if_ne (tgt := 149) dX12_readsDoor_144 (by decide) (fun c_88 => ?_) (fun c_88 => ?_)
              rotate_left
              · exact absurd c_88 (by decide)
              refine aw_aload_n dX12_readsDoor_149 rfl ?_
              refine aw_aload_n dX12_readsDoor_150 rfl ?_
              obtain ⟨ftoldPeople_89, ftoldDoors_89, fwasDoors_89, ffault_89, fopen_89, flines_89, fmeantSet_89, fopenedNow_89, fvainNow_89, flowNow_89, fhighNow_89, fisKept_89, tad_89, pl0_89, le0_89, nu0_89, coy_89, wag_89, say_89, e_89, hntad_89, hnpl0_89, hnle0_89, hnnu0_89, hncoy_89, hnwag_89, hnsay_89⟩ := JR.get j_71 cm_100
              refine aw_get dX12_readsDoor_151 fl_X12_129 e_89 (by omega) rfl ?_
              refine aw_eqi (y := s.1) ((Eq.symm (congrArg (fun z => fI z 10) e_89)).trans ((JR.fI q_68 (by decide) (by decide) (nfc (by omega) (nfc (by omega) (nfc (by omega) nf0)))).trans (KA (s := 14) (x := .int (nI ((a_14 + 1) + 1))) e_50 rfl (by decide) e_67 k_67 ((JR.fI q_32 (by decide) (by decide) (nfc (by omega) (nfc (by omega) nf0))).trans ((JR.fI q_2 (by decide) (by decide) (nfc (by omega) (nfc (by omega) (nfc (by omega) nf0)))).trans hD))))) ?_
              refine aw_iconst (v := 1) dX12_readsDoor_154 (by decide) ?_
              refine aw_iload_n dX12_readsDoor_155 rfl ?_
              refine aw_ishl dX12_readsDoor_156 ?_
              refine aw_ior dX12_readsDoor_157 ?_
              refine aw_put dX12_readsDoor_158 fp_X12_129 e_89 (by omega) rfl rfl (Nat.le_of_ble_eq_true rfl) rfl ?_
              refine aw_upR j_71 cm_100 ⟨_, _, _, _, _, _, _, _, _, _, _, _, tad_89, pl0_89, le0_89, nu0_89, coy_89, wag_89, say_89, rfl, by omega, by omega, by omega, by omega, by omega, by omega, by omega⟩ (by decide) (WO (s := 10) (x := .int (s.1 ||| ((1 : Int32) <<< ((nI v_15) &&& 31)))) e_89 rfl (LMs (LMs (LMs (LMs LM0)))) (by decide) (by decide) (by decide) (Or.inl (by decide))) (fun V_90 j_90 k_90 e_90 => ?_)
              refine aw_aload_n dX12_readsDoor_161 rfl ?_
              refine aw_get dX12_readsDoor_162 fl_X12_25 e_90 (by omega) rfl ?_
              refine aw_iload_n dX12_readsDoor_165 rfl ?_
              refine aw_iload_n dX12_readsDoor_166 rfl ?_
              obtain ⟨g_91, e_91, p_91⟩ := JR.get j_90 cm_106
              refine aw_iast dX12_readsDoor_167 e_91 (by omega) (vp_in_nI (n := v_15) (by omega) (by omega)) ?_
              refine aw_upR j_90 cm_106 ⟨_, rfl, isP_upd (P := (fun v => ∃ k : Nat, k < 16 ∧ v = nI k)) p_91 ⟨z_60, by omega, rfl⟩⟩ (by decide) (WA LM0 (by decide) (by decide)) (fun V_92 j_92 k_92 e_92 => ?_)
              refine aw_aload_n dX12_readsDoor_168 rfl ?_
              refine aw_get dX12_readsDoor_169 fl_X12_28 ((k_92 _ (by decide)).trans e_90) (by omega) rfl ?_
              refine aw_iload_n dX12_readsDoor_172 rfl ?_
              refine aw_aload_n dX12_readsDoor_173 rfl ?_
              refine aw_get dX12_readsDoor_174 fl_X12_175 ((k_92 _ (by decide)).trans e_90) (by omega) rfl ?_
              refine aw_eqi (y := (nI v_81)) ((Eq.symm (congrArg (fun z => fI z 17) ((k_92 _ (by decide)).trans e_90))).trans ((congrArg (fun z => fI z 17) (k_92 _ (by omega))).trans (KA (s := 10) (x := .int (s.1 ||| ((1 : Int32) <<< ((nI v_15) &&& 31)))) e_89 rfl (by decide) e_90 k_90 hv_84))) ?_
              obtain ⟨g_94, e_94⟩ := JR.get j_92 cm_107
              refine aw_iast dX12_readsDoor_177 e_94 (by omega) (vp_in_nI (n := v_15) (by omega) (by omega)) ?_
              refine aw_upR j_92 cm_107 ⟨_, rfl⟩ (by decide) (WA LM0 (by decide) (by decide)) (fun V_95 j_95 k_95 e_95 => ?_)
              refine aw_aload_n dX12_readsDoor_178 rfl ?_
              refine aw_get dX12_readsDoor_179 fl_X12_7 ((k_95 _ (by decide)).trans ((k_92 _ (by decide)).trans e_90)) (by omega) rfl ?_
              refine aw_sipush (v := 192) dX12_readsDoor_182 (by decide) ?_
              refine aw_iload_n dX12_readsDoor_185 rfl ?_
              refine aw_iadd dX12_readsDoor_186 ?_
              refine aw_eqi (y := nI (192 + v_15)) (nI_add _ _) ?_
              refine aw_iconst (v := 0) dX12_readsDoor_187 (by decide) ?_
              obtain ⟨g_96, e_96⟩ := JR.get j_95 cm_101
              refine aw_iast dX12_readsDoor_188 e_96 (by omega) (vp_in_nI (n := (192 + v_15)) (by omega) (by omega)) ?_
              refine aw_upR j_95 cm_101 ⟨_, rfl⟩ (by decide) (WE e_96 (LMs (LMs (LMs (LMs (LMs LM0))))) (by decide) (by decide) (by rw [nI_clamp (n := (192 + v_15)) (by omega)]; omega) (by rw [nI_clamp (n := (192 + v_15)) (by omega)]; omega)) (fun V_97 j_97 k_97 e_97 => ?_)
              refine aw_iconst (v := 1) dX12_readsDoor_189 (by decide) ?_
              refine aw_zreti dX12_readsDoor_190 rfl (by first | exact Or.inl rfl | exact Or.inr rfl | assumption) (Nat.le_of_ble_eq_true rfl) (Nat.le_of_ble_eq_true rfl) ?_
              exact ⟨⟨(by first | exact Or.inl rfl | exact Or.inr rfl | assumption), Or.inr ⟨_, _, dr_ok hx_16 (by omega) c_31 hy_40 hy_55 hx_82, ((congrArg (fun z => fI z 14) (k_97 _ (by omega))).trans ((congrArg (fun z => fI z 14) (k_95 _ (by omega))).trans ((congrArg (fun z => fI z 14) (k_92 _ (by omega))).trans (KA (s := 10) (x := .int (s.1 ||| ((1 : Int32) <<< ((nI v_15) &&& 31)))) e_89 rfl (by decide) e_90 k_90 hk_83)))), ((congrArg (fun z => fI z 10) (k_97 _ (by omega))).trans ((congrArg (fun z => fI z 10) (k_95 _ (by omega))).trans ((congrArg (fun z => fI z 10) (k_92 _ (by omega))).trans ((congrArg (fun z => fI z 10) e_90).trans rfl)))), ((congrArg (fun z => rs (fI z)) (k_97 _ (by omega))).trans ((congrArg (fun z => rs (fI z)) (k_95 _ (by omega))).trans ((congrArg (fun z => rs (fI z)) (k_92 _ (by omega))).trans ((congrArg (fun z => rs (fI z)) (k_90 _ (by omega))).trans ((congrArg (fun z => rs (fI z)) (JR.same q_68 (by decide) (by decide) (fun k => (nfc (by omega) (nfc (by omega) (nfc (by omega) nf0)))))).trans ((congrArg (fun z => rs (fI z)) (k_67 _ (by omega))).trans ((congrArg (fun z => rs (fI z)) (JR.same q_32 (by decide) (by decide) (fun k => (nfc (by omega) (nfc (by omega) nf0))))).trans ((congrArg (fun z => rs (fI z)) (JR.same q_2 (by decide) (by decide) (fun k => (nfc (by omega) (nfc (by omega) (nfc (by omega) nf0)))))).trans hK)))))))), ⟨by omega, by omega⟩, rfl⟩⟩, rfl, j_97⟩
          · skip
            refine aw_eqi (y := 0) e_58 ?_
            refine aw_if_ne (tgt := 122) dX12_readsDoor_109 (by decide) (fun c_98 => ?_) (fun c_98 => ?_)
            · exact absurd rfl c_98
            refine aw_aload_n dX12_readsDoor_112 rfl ?_
            refine aw_iconst (v := 1) dX12_readsDoor_113 (by decide) ?_
            refine aw_aload_n dX12_readsDoor_114 rfl ?_
            refine aw_get dX12_readsDoor_115 fl_X12_159 e_50 (by omega) rfl ?_
            refine aw_eqi (y := (nI (a_14 + 1))) ((Eq.symm (congrArg (fun z => fI z 14) e_50)).trans hk_41) ?_
            refine aw_callVi (J' := jX12_wrongAt) (As := [.int 1, .int (nI (a_14 + 1))]) (st := []) dX12_readsDoor_118 tb_1224 ok_X12_wrongAt ⟨_, e_50⟩ (by omega) rfl rfl (r_wrongAtS l D b N V_36 hN cl j_35.1 1 (nI (a_14 + 1))) rfl (Nat.le_of_ble_eq_true rfl) ⟨Nat.le_of_ble_eq_true rfl, Nat.le_of_ble_eq_true rfl, Nat.le_of_ble_eq_true rfl, Nat.le_of_ble_eq_true rfl⟩ (fun r_104 N_105 V_103 q_106 => ?_)
            obtain ⟨⟨z_101, h_100⟩, rfl, q_99⟩ := q_106
            have j_102 := JR.trans j_35 (JR.weak q_99 (Sub.cons (LMs (LMs (LMs LM0))) (by decide) (by decide) (by decide) (Or.inr ⟨by decide, by decide⟩) Sub.nil))
            obtain ⟨rfl, h_100f⟩ := h_100
            refine aw_zreti dX12_readsDoor_121 rfl (by first | exact Or.inl rfl | exact Or.inr rfl | assumption) (Nat.le_of_ble_eq_true rfl) (Nat.le_of_ble_eq_true rfl) ?_
            exact ⟨⟨(by first | exact Or.inl rfl | exact Or.inr rfl | assumption), Or.inl ⟨_, dr_l hx_16 (by omega) c_31 hy_40 hn_57, h_100f, rfl⟩⟩, rfl, j_102⟩
        · skip
          refine aw_eqi (y := 0) e_45 ?_
          refine aw_if_ne (tgt := 105) dX12_readsDoor_100 (by decide) (fun c_107 => ?_) (fun c_107 => ?_)
          · exact absurd rfl c_107
          refine aw_iconst (v := 0) dX12_readsDoor_103 (by decide) ?_
          refine aw_zreti dX12_readsDoor_104 rfl (by first | exact Or.inl rfl | exact Or.inr rfl | assumption) (Nat.le_of_ble_eq_true rfl) (Nat.le_of_ble_eq_true rfl) ?_
          exact ⟨⟨(by first | exact Or.inl rfl | exact Or.inr rfl | assumption), Or.inl ⟨_, dr_c hx_16 (by omega) c_31 hn_43, hk_44, rfl⟩⟩, rfl, j_35⟩
      · skip
        refine aw_aload_n dX12_readsDoor_41 rfl ?_
        refine aw_iload_n dX12_readsDoor_42 rfl ?_
        refine aw_callVi (J' := jX12_isDoor) (As := [.int (nI v_15)]) (st := []) dX12_readsDoor_43 tb_1359 ok_X12_isDoor ⟨_, e_23⟩ (by omega) rfl rfl (r_isDoorS l D b N V_6 hN cl j_5.1 (nI v_15) s.1 ((JR.fI q_2 (by decide) (by decide) (nfc (by omega) (nfc (by omega) (nfc (by omega) nf0)))).trans hD)) rfl (Nat.le_of_ble_eq_true rfl) ⟨Nat.le_of_ble_eq_true rfl, Nat.le_of_ble_eq_true rfl, Nat.le_of_ble_eq_true rfl, Nat.le_of_ble_eq_true rfl⟩ (fun r_111 N_112 V_113 q_114 => ?_)
        obtain ⟨⟨z_110, h_109⟩, rfl, rfl⟩ := q_114
        rcases h_109 with ⟨hy_115, e_116⟩ | ⟨hn_117, e_118⟩
        · skip
          refine aw_eqi (y := 1) e_116 ?_
          refine aw_if_ne (tgt := 57) dX12_readsDoor_46 (by decide) (fun c_119 => ?_) (fun c_119 => ?_)
          rotate_left
          · exact absurd c_119 (by decide)
          have hlc_31 := hd_lit c_31 (by decide)
          refine aw_aload_n dX12_readsDoor_57 rfl ?_
          refine aw_aload_n dX12_readsDoor_58 rfl ?_
          refine aw_get dX12_readsDoor_59 fl_X12_159 e_23 (by omega) rfl ?_
          refine aw_eqi (y := (nI a_14)) ((Eq.symm (congrArg (fun z => fI z 14) e_23)).trans hk_17) ?_
          refine aw_iconst (v := 1) dX12_readsDoor_62 (by decide) ?_
          refine aw_iadd dX12_readsDoor_63 ?_
          refine aw_eqi (y := nI (a_14 + 1)) (nI_add _ _) ?_
          refine aw_put dX12_readsDoor_64 fp_X12_159 e_23 (by omega) rfl rfl (Nat.le_of_ble_eq_true rfl) rfl ?_
          refine aw_upR j_5 cm_100 ⟨_, _, _, _, _, _, _, _, _, _, _, _, tad_23, (a_14 + 1), le0_23, nu0_23, coy_23, wag_23, say_23, rfl, by omega, by omega, by omega, by omega, by omega, by omega, by omega⟩ (by decide) (WO (s := 14) (x := .int (nI (a_14 + 1))) e_23 rfl (LMs (LMs LM0)) (by decide) (by decide) (by decide) (Or.inl (by decide))) (fun V_120 j_120 k_120 e_120 => ?_)
          refine aw_aload_n dX12_readsDoor_67 rfl ?_
          refine aw_aload_n dX12_readsDoor_68 rfl ?_
          refine aw_get dX12_readsDoor_69 fl_X12_129 e_120 (by omega) rfl ?_
          refine aw_eqi (y := s.1) ((Eq.symm (congrArg (fun z => fI z 10) e_120)).trans (KA (s := 14) (x := .int (nI (a_14 + 1))) e_23 rfl (by decide) e_120 k_120 ((JR.fI q_2 (by decide) (by decide) (nfc (by omega) (nfc (by omega) (nfc (by omega) nf0)))).trans hD))) ?_
          refine aw_iconst (v := 1) dX12_readsDoor_72 (by decide) ?_
          refine aw_iload_n dX12_readsDoor_73 rfl ?_
          refine aw_ishl dX12_readsDoor_74 ?_
          refine aw_iconst (v := (-1)) dX12_readsDoor_75 (by decide) ?_
          refine aw_ixor dX12_readsDoor_76 ?_
          refine aw_iand dX12_readsDoor_77 ?_
          refine aw_put dX12_readsDoor_78 fp_X12_129 e_120 (by omega) rfl rfl (Nat.le_of_ble_eq_true rfl) rfl ?_
          refine aw_upR j_120 cm_100 ⟨_, _, _, _, _, _, _, _, _, _, _, _, tad_23, (a_14 + 1), le0_23, nu0_23, coy_23, wag_23, say_23, rfl, by omega, by omega, by omega, by omega, by omega, by omega, by omega⟩ (by decide) (WO (s := 10) (x := .int (s.1 &&& (((1 : Int32) <<< ((nI v_15) &&& 31)) ^^^ (-1)))) e_120 rfl (LMs (LMs (LMs (LMs LM0)))) (by decide) (by decide) (by decide) (Or.inl (by decide))) (fun V_121 j_121 k_121 e_121 => ?_)
          refine aw_aload_n dX12_readsDoor_81 rfl ?_
          refine aw_get dX12_readsDoor_82 fl_X12_7 e_121 (by omega) rfl ?_
          refine aw_sipush (v := 192) dX12_readsDoor_85 (by decide) ?_
          refine aw_iload_n dX12_readsDoor_88 rfl ?_
          refine aw_iadd dX12_readsDoor_89 ?_
          refine aw_eqi (y := nI (192 + v_15)) (nI_add _ _) ?_
          refine aw_iconst (v := 0) dX12_readsDoor_90 (by decide) ?_
          obtain ⟨g_122, e_122⟩ := JR.get j_121 cm_101
          refine aw_iast dX12_readsDoor_91 e_122 (by omega) (vp_in_nI (n := (192 + v_15)) (by omega) (by omega)) ?_
          refine aw_upR j_121 cm_101 ⟨_, rfl⟩ (by decide) (WE e_122 (LMs (LMs (LMs (LMs (LMs LM0))))) (by decide) (by decide) (by rw [nI_clamp (n := (192 + v_15)) (by omega)]; omega) (by rw [nI_clamp (n := (192 + v_15)) (by omega)]; omega)) (fun V_123 j_123 k_123 e_123 => ?_)
          refine aw_iconst (v := 1) dX12_readsDoor_92 (by decide) ?_
          refine aw_zreti dX12_readsDoor_93 rfl (by first | exact Or.inl rfl | exact Or.inr rfl | assumption) (Nat.le_of_ble_eq_true rfl) (Nat.le_of_ble_eq_true rfl) ?_
          exact ⟨⟨(by first | exact Or.inl rfl | exact Or.inr rfl | assumption), Or.inr ⟨_, _, dr_drop hx_16 (by omega) c_31 hy_115, ((congrArg (fun z => fI z 14) (k_123 _ (by omega))).trans (KA (s := 10) (x := .int (s.1 &&& (((1 : Int32) <<< ((nI v_15) &&& 31)) ^^^ (-1)))) e_120 rfl (by decide) e_121 k_121 ((congrArg (fun z => fI z 14) e_120).trans rfl))), ((congrArg (fun z => fI z 10) (k_123 _ (by omega))).trans ((congrArg (fun z => fI z 10) e_121).trans rfl)), ((congrArg (fun z => rs (fI z)) (k_123 _ (by omega))).trans ((congrArg (fun z => rs (fI z)) (k_121 _ (by omega))).trans ((congrArg (fun z => rs (fI z)) (k_120 _ (by omega))).trans ((congrArg (fun z => rs (fI z)) (JR.same q_2 (by decide) (by decide) (fun k => (nfc (by omega) (nfc (by omega) (nfc (by omega) nf0)))))).trans hK)))), ⟨by omega, by omega⟩, rfl⟩⟩, rfl, j_123⟩
        · skip
          refine aw_eqi (y := 0) e_118 ?_
          refine aw_if_ne (tgt := 57) dX12_readsDoor_46 (by decide) (fun c_124 => ?_) (fun c_124 => ?_)
          · exact absurd rfl c_124
          refine aw_aload_n dX12_readsDoor_49 rfl ?_
          refine aw_bipush (v := 7) dX12_readsDoor_50 (by decide) ?_
          refine aw_iload_n dX12_readsDoor_52 rfl ?_
          refine aw_callVi (J' := jX12_wrongAt) (As := [.int 7, .int (nI a)]) (st := []) dX12_readsDoor_53 tb_1224 ok_X12_wrongAt ⟨_, e_23⟩ (by omega) rfl rfl (r_wrongAtS l D b N V_6 hN cl j_5.1 7 (nI a)) rfl (Nat.le_of_ble_eq_true rfl) ⟨Nat.le_of_ble_eq_true rfl, Nat.le_of_ble_eq_true rfl, Nat.le_of_ble_eq_true rfl, Nat.le_of_ble_eq_true rfl⟩ (fun r_130 N_131 V_129 q_132 => ?_)
          obtain ⟨⟨z_127, h_126⟩, rfl, q_125⟩ := q_132
          have j_128 := JR.trans j_5 (JR.weak q_125 (Sub.cons (LMs (LMs (LMs LM0))) (by decide) (by decide) (by decide) (Or.inr ⟨by decide, by decide⟩) Sub.nil))
          obtain ⟨rfl, h_126f⟩ := h_126
          refine aw_zreti dX12_readsDoor_56 rfl (by first | exact Or.inl rfl | exact Or.inr rfl | assumption) (Nat.le_of_ble_eq_true rfl) (Nat.le_of_ble_eq_true rfl) ?_
          exact ⟨⟨(by first | exact Or.inl rfl | exact Or.inr rfl | assumption), Or.inl ⟨_, dr_no hx_16 (by omega) c_31 hn_117, h_126f, rfl⟩⟩, rfl, j_128⟩
    · skip
      have nc_24 : ¬ (v_15 < 16) := fun z => c_24 ((nI_ltI (a := v_15) (b := 16) (by omega) (by omega)).mpr z)
      refine aw_aload_n dX12_readsDoor_25 rfl ?_
      refine aw_iconst (v := 3) dX12_readsDoor_26 (by decide) ?_
      refine aw_iload_n dX12_readsDoor_27 rfl ?_
      refine aw_callVi (J' := jX12_wrongAt) (As := [.int 3, .int (nI a)]) (st := []) dX12_readsDoor_28 tb_1224 ok_X12_wrongAt ⟨_, e_23⟩ (by omega) rfl rfl (r_wrongAtS l D b N V_6 hN cl j_5.1 3 (nI a)) rfl (Nat.le_of_ble_eq_true rfl) ⟨Nat.le_of_ble_eq_true rfl, Nat.le_of_ble_eq_true rfl, Nat.le_of_ble_eq_true rfl, Nat.le_of_ble_eq_true rfl⟩ (fun r_138 N_139 V_137 q_140 => ?_)
      obtain ⟨⟨z_135, h_134⟩, rfl, q_133⟩ := q_140
      have j_136 := JR.trans j_5 (JR.weak q_133 (Sub.cons (LMs (LMs (LMs LM0))) (by decide) (by decide) (by decide) (Or.inr ⟨by decide, by decide⟩) Sub.nil))
      obtain ⟨rfl, h_134f⟩ := h_134
      refine aw_zreti dX12_readsDoor_31 rfl (by first | exact Or.inl rfl | exact Or.inr rfl | assumption) (Nat.le_of_ble_eq_true rfl) (Nat.le_of_ble_eq_true rfl) ?_
      exact ⟨⟨(by first | exact Or.inl rfl | exact Or.inr rfl | assumption), Or.inl ⟨_, dr_3 hx_16 (by omega), h_134f, rfl⟩⟩, rfl, j_136⟩

set_option maxHeartbeats 20000000 in
set_option maxRecDepth 100000 in
theorem r_readsOrderS (l : Launch) (D : va_G) (b : Nat) (N : Nat) (V : Wd) (hN : 133 ≤ N) (cl : Nat) (hW : CR D b cl V)  (g : Nat → Int32) (hg : V 110 = cB D 260 g) (n a : Nat) (hna : a ≤ n ∧ n ≤ 240) (hE : fI (V 100) 15 = nI n) (hA : fI (V 100) 14 = nI a) (P : Int32) (hP : fI (V 100) 9 = P) (s : OS) (hD : fI (V 100) 10 = s.1) (hK : rs (fI (V 104)) = s.2) (L : Nat) (hL : fI (V 100) 36 = nI L ∧ L ≤ 16) : MI l D b 5 jX12_readsOrder [.ref (b + 100)] N V 0 0 (fun r N9 V9 => ((r = 0 ∨ r = 1) ∧ ((∃ f, txO (gb g) n P (16 - L) a s = .inl f ∧ fI (V9 100) 16 = f ∧ r = 0) ∨ (∃ a9 s9, stO (hd (gb g) n a) = true ∧ L < 16 ∧ lnO (gb g) n P a s = .inr (a9, s9) ∧ fI (V9 100) 14 = nI a9 ∧ fI (V9 100) 36 = nI (L + 1) ∧ fI (V9 100) 10 = s9.1 ∧ rs (fI (V9 104)) = s9.2 ∧ (a < a9 ∧ a9 ≤ n) ∧ r = 1))) ∧ N = N9 ∧ JR D b N cl [(104, 104, 0, 1000000), (106, 107, 0, 1000000), (100, 100, 36, 36), (100, 100, 14, 14), (100, 100, 17, 17), (100, 100, 16, 16), (100, 100, 10, 10), (101, 101, 192, 207)] V V9) := by
  have hJ0 : JR D b N cl [(104, 104, 0, 1000000), (106, 107, 0, 1000000), (100, 100, 36, 36), (100, 100, 14, 14), (100, 100, 17, 17), (100, 100, 16, 16), (100, 100, 10, 10), (101, 101, 192, 207)] V V := JR.rf hW
  refine mw_of (by decide) (by simp [Value.category]) (Nat.le_of_ble_eq_true rfl) ?_
  show AW l D b jX12_readsOrder (fx_rm 5 0 0) none (fx_MQ D b 0 0 (fx_qi (fun r N9 V9 => ((r = 0 ∨ r = 1) ∧ ((∃ f, txO (gb g) n P (16 - L) a s = .inl f ∧ fI (V9 100) 16 = f ∧ r = 0) ∨ (∃ a9 s9, stO (hd (gb g) n a) = true ∧ L < 16 ∧ lnO (gb g) n P a s = .inr (a9, s9) ∧ fI (V9 100) 14 = nI a9 ∧ fI (V9 100) 36 = nI (L + 1) ∧ fI (V9 100) 10 = s9.1 ∧ rs (fI (V9 104)) = s9.2 ∧ (a < a9 ∧ a9 ≤ n) ∧ r = 1))) ∧ N = N9 ∧ JR D b N cl [(104, 104, 0, 1000000), (106, 107, 0, 1000000), (100, 100, 36, 36), (100, 100, 14, 14), (100, 100, 17, 17), (100, 100, 16, 16), (100, 100, 10, 10), (101, 101, 192, 207)] V V9))) 0 [some (.ref (b + 100))] [] N V 0 0
  obtain ⟨hL1, hL2⟩ := hL
  refine aw_aload_n dX12_readsOrder_0 rfl ?_
  obtain ⟨ftoldPeople_3, ftoldDoors_3, fwasDoors_3, ffault_3, fopen_3, flines_3, fmeantSet_3, fopenedNow_3, fvainNow_3, flowNow_3, fhighNow_3, fisKept_3, tad_3, pl0_3, le0_3, nu0_3, coy_3, wag_3, say_3, e_3, hntad_3, hnpl0_3, hnle0_3, hnnu0_3, hncoy_3, hnwag_3, hnsay_3⟩ := JR.get hJ0 cm_100
  refine aw_callVi (J' := jX12_here) (As := []) (st := []) dX12_readsOrder_1 tb_1220 ok_X12_here ⟨_, e_3⟩ (by omega) rfl rfl (r_hereS l D b N V hN cl hJ0.1 g hg n a ⟨by omega, by omega⟩ hE hA) rfl (Nat.le_of_ble_eq_true rfl) ⟨Nat.le_of_ble_eq_true rfl, Nat.le_of_ble_eq_true rfl, Nat.le_of_ble_eq_true rfl, Nat.le_of_ble_eq_true rfl⟩ (fun r_4 N_5 V_6 q_7 => ?_)
  obtain ⟨h_2, rfl, rfl⟩ := q_7
  refine aw_eqi (y := (hd (gb g) n a)) h_2 ?_
  refine aw_bipush (v := 100) dX12_readsOrder_4 (by decide) ?_
  refine aw_icmp_eq (tgt := 26) dX12_readsOrder_6 (by decide) (fun c_8 => ?_) (fun c_8 => ?_)
  · skip
    refine aw_aload_n dX12_readsOrder_26 rfl ?_
    refine aw_get dX12_readsOrder_27 fl_X12_268 e_3 (by omega) rfl ?_
    refine aw_eqi (y := (nI L)) ((Eq.symm (congrArg (fun z => fI z 36) e_3)).trans hL1) ?_
    refine aw_bipush (v := 16) dX12_readsOrder_30 (by decide) ?_
    refine aw_icmp_ne (tgt := 45) dX12_readsOrder_32 (by decide) (fun c_9 => ?_) (fun c_9 => ?_)
    · skip
      have nc_9 : ¬ (L = 16) := fun z => c_9 ((nI_eq (a := L) (b := 16) (by omega) (by omega)).mpr z)
      refine aw_aload_n dX12_readsOrder_45 rfl ?_
      refine aw_aload_n dX12_readsOrder_46 rfl ?_
      refine aw_get dX12_readsOrder_47 fl_X12_268 e_3 (by omega) rfl ?_
      refine aw_eqi (y := (nI L)) ((Eq.symm (congrArg (fun z => fI z 36) e_3)).trans hL1) ?_
      refine aw_iconst (v := 1) dX12_readsOrder_50 (by decide) ?_
      refine aw_iadd dX12_readsOrder_51 ?_
      refine aw_eqi (y := nI (L + 1)) (nI_add _ _) ?_
      refine aw_put dX12_readsOrder_52 fp_X12_268 e_3 (by omega) rfl rfl (Nat.le_of_ble_eq_true rfl) rfl ?_
      refine aw_upR hJ0 cm_100 ⟨_, _, _, _, _, _, _, _, _, _, _, _, tad_3, pl0_3, le0_3, nu0_3, coy_3, wag_3, say_3, rfl, by omega, by omega, by omega, by omega, by omega, by omega, by omega⟩ (by decide) (WO (s := 36) (x := .int (nI (L + 1))) e_3 rfl (LMs (LMs LM0)) (by decide) (by decide) (by decide) (Or.inl (by decide))) (fun V_10 j_10 k_10 e_10 => ?_)
      refine aw_aload_n dX12_readsOrder_55 rfl ?_
      refine aw_callVi (J' := jX12_here) (As := []) (st := []) dX12_readsOrder_56 tb_1220 ok_X12_here ⟨_, e_10⟩ (by omega) rfl rfl (r_hereS l D b N V_10 hN cl j_10.1 g ((k_10 _ (by decide)).trans hg) n a ⟨by omega, by omega⟩ (KA (s := 36) (x := .int (nI (L + 1))) e_3 rfl (by decide) e_10 k_10 hE) (KA (s := 36) (x := .int (nI (L + 1))) e_3 rfl (by decide) e_10 k_10 hA)) rfl (Nat.le_of_ble_eq_true rfl) ⟨Nat.le_of_ble_eq_true rfl, Nat.le_of_ble_eq_true rfl, Nat.le_of_ble_eq_true rfl, Nat.le_of_ble_eq_true rfl⟩ (fun r_13 N_14 V_15 q_16 => ?_)
      obtain ⟨h_12, rfl, rfl⟩ := q_16
      refine aw_eqi (y := (hd (gb g) n a)) h_12 ?_
      refine aw_bipush (v := 100) dX12_readsOrder_59 (by decide) ?_
      refine aw_icmp_eq (tgt := 69) dX12_readsOrder_61 (by decide) (fun c_17 => ?_) (fun c_17 => ?_)
      rotate_left
      · exact absurd c_8 c_17
      have hlc_17 := hd_lit c_17 (by decide)
      refine aw_aload_n dX12_readsOrder_69 rfl ?_
      refine aw_aload_n dX12_readsOrder_70 rfl ?_
      refine aw_get dX12_readsOrder_71 fl_X12_159 e_10 (by omega) rfl ?_
      refine aw_eqi (y := (nI a)) ((Eq.symm (congrArg (fun z => fI z 14) e_10)).trans (KA (s := 36) (x := .int (nI (L + 1))) e_3 rfl (by decide) e_10 k_10 hA)) ?_
      refine aw_iconst (v := 1) dX12_readsOrder_74 (by decide) ?_
      refine aw_iadd dX12_readsOrder_75 ?_
      refine aw_eqi (y := nI (a + 1)) (nI_add _ _) ?_
      refine aw_put dX12_readsOrder_76 fp_X12_159 e_10 (by omega) rfl rfl (Nat.le_of_ble_eq_true rfl) rfl ?_
      refine aw_upR j_10 cm_100 ⟨_, _, _, _, _, _, _, _, _, _, _, _, tad_3, (a + 1), le0_3, nu0_3, coy_3, wag_3, say_3, rfl, by omega, by omega, by omega, by omega, by omega, by omega, by omega⟩ (by decide) (WO (s := 14) (x := .int (nI (a + 1))) e_10 rfl (LMs (LMs (LMs LM0))) (by decide) (by decide) (by decide) (Or.inl (by decide))) (fun V_18 j_18 k_18 e_18 => ?_)
      refine aw_aload_n dX12_readsOrder_79 rfl ?_
      refine aw_callVi (J' := jX12_readsDoor) (As := []) (st := []) dX12_readsOrder_80 tb_1355 ok_X12_readsDoor ⟨_, e_18⟩ (by omega) rfl rfl (r_readsDoorS l D b N V_18 hN cl j_18.1 g ((k_18 _ (by decide)).trans ((k_10 _ (by decide)).trans hg)) n (a + 1) ⟨by omega, by omega⟩ (KA (s := 14) (x := .int (nI (a + 1))) e_10 rfl (by decide) e_18 k_18 (KA (s := 36) (x := .int (nI (L + 1))) e_3 rfl (by decide) e_10 k_10 hE)) ((congrArg (fun z => fI z 14) e_18).trans rfl) P (KA (s := 14) (x := .int (nI (a + 1))) e_10 rfl (by decide) e_18 k_18 (KA (s := 36) (x := .int (nI (L + 1))) e_3 rfl (by decide) e_10 k_10 hP)) s (KA (s := 14) (x := .int (nI (a + 1))) e_10 rfl (by decide) e_18 k_18 (KA (s := 36) (x := .int (nI (L + 1))) e_3 rfl (by decide) e_10 k_10 hD)) ((congrArg (fun z => rs (fI z)) (k_18 _ (by omega))).trans ((congrArg (fun z => rs (fI z)) (k_10 _ (by omega))).trans hK))) rfl (Nat.le_of_ble_eq_true rfl) ⟨Nat.le_of_ble_eq_true rfl, Nat.le_of_ble_eq_true rfl, Nat.le_of_ble_eq_true rfl, Nat.le_of_ble_eq_true rfl⟩ (fun r_24 N_25 V_23 q_26 => ?_)
      obtain ⟨⟨z_21, h_20⟩, rfl, q_19⟩ := q_26
      have j_22 := JR.trans j_18 (JR.weak q_19 (Sub.cons (LMs LM0) (by decide) (by decide) (by decide) (Or.inl rfl) (Sub.cons (LMs (LMs (LMs (LMs LM0)))) (by decide) (by decide) (by decide) (Or.inr ⟨by decide, by decide⟩) (Sub.cons (LMs (LMs (LMs LM0))) (by decide) (by decide) (by decide) (Or.inr ⟨by decide, by decide⟩) (Sub.cons (LMs (LMs (LMs (LMs (LMs LM0))))) (by decide) (by decide) (by decide) (Or.inr ⟨by decide, by decide⟩) (Sub.cons (LMs (LMs (LMs (LMs (LMs (LMs LM0)))))) (by decide) (by decide) (by decide) (Or.inr ⟨by decide, by decide⟩) (Sub.cons (LMs (LMs (LMs (LMs (LMs (LMs (LMs LM0))))))) (by decide) (by decide) (by decide) (Or.inr ⟨by decide, by decide⟩) Sub.nil)))))))
      rcases h_20 with ⟨f_27, hx_28, hk_29, e_30⟩ | ⟨a_31, s_32, hx_33, hk_34, hd_35, hf_36, hb_37, e_38⟩
      · skip
        refine aw_eqi (y := 0) e_30 ?_
        refine aw_zreti dX12_readsOrder_83 rfl (by first | exact Or.inl rfl | exact Or.inr rfl | assumption) (Nat.le_of_ble_eq_true rfl) (Nat.le_of_ble_eq_true rfl) ?_
        exact ⟨⟨(by first | exact Or.inl rfl | exact Or.inr rfl | assumption), Or.inl ⟨_, tx_bad (stO_100 c_8) ((o_d c_8).trans hx_28) (by omega), hk_29, rfl⟩⟩, rfl, j_22⟩
      · skip
        refine aw_eqi (y := 1) e_38 ?_
        obtain ⟨hb_37a, hb_37b⟩ := hb_37
        refine aw_zreti dX12_readsOrder_83 rfl (by first | exact Or.inl rfl | exact Or.inr rfl | assumption) (Nat.le_of_ble_eq_true rfl) (Nat.le_of_ble_eq_true rfl) ?_
        exact ⟨⟨(by first | exact Or.inl rfl | exact Or.inr rfl | assumption), Or.inr ⟨_, _, (stO_100 c_8), by omega, (o_d c_8).trans hx_33, hk_34, ((JR.fI q_19 (by decide) (by decide) (nfc (by omega) (nfc (by omega) (nfc (by omega) (nfc (by omega) (nfc (by omega) (nfc (by omega) nf0))))))).trans (KA (s := 14) (x := .int (nI (a + 1))) e_10 rfl (by decide) e_18 k_18 ((congrArg (fun z => fI z 36) e_10).trans rfl))), hd_35, hf_36, ⟨by omega, by omega⟩, rfl⟩⟩, rfl, j_22⟩
    · skip
      have nc_9 : L = 16 := (nI_eq (a := L) (b := 16) (by omega) (by omega)).mp c_9
      refine aw_aload_n dX12_readsOrder_35 rfl ?_
      refine aw_iconst (v := 4) dX12_readsOrder_36 (by decide) ?_
      refine aw_aload_n dX12_readsOrder_37 rfl ?_
      refine aw_get dX12_readsOrder_38 fl_X12_159 e_3 (by omega) rfl ?_
      refine aw_eqi (y := (nI a)) ((Eq.symm (congrArg (fun z => fI z 14) e_3)).trans hA) ?_
      refine aw_callVi (J' := jX12_wrongAt) (As := [.int 4, .int (nI a)]) (st := []) dX12_readsOrder_41 tb_1224 ok_X12_wrongAt ⟨_, e_3⟩ (by omega) rfl rfl (r_wrongAtS l D b N V hN cl hJ0.1 4 (nI a)) rfl (Nat.le_of_ble_eq_true rfl) ⟨Nat.le_of_ble_eq_true rfl, Nat.le_of_ble_eq_true rfl, Nat.le_of_ble_eq_true rfl, Nat.le_of_ble_eq_true rfl⟩ (fun r_44 N_45 V_43 q_46 => ?_)
      obtain ⟨⟨z_41, h_40⟩, rfl, q_39⟩ := q_46
      have j_42 := JR.trans hJ0 (JR.weak q_39 (Sub.cons (LMs (LMs (LMs (LMs (LMs LM0))))) (by decide) (by decide) (by decide) (Or.inr ⟨by decide, by decide⟩) Sub.nil))
      obtain ⟨rfl, h_40f⟩ := h_40
      refine aw_zreti dX12_readsOrder_44 rfl (by first | exact Or.inl rfl | exact Or.inr rfl | assumption) (Nat.le_of_ble_eq_true rfl) (Nat.le_of_ble_eq_true rfl) ?_
      exact ⟨⟨(by first | exact Or.inl rfl | exact Or.inr rfl | assumption), Or.inl ⟨_, (congrArg (fun q => txO (gb g) n P q a s) (by omega : 16 - L = 0)).trans (tx_many (stO_100 c_8)), h_40f, rfl⟩⟩, rfl, j_42⟩
  · skip
    refine aw_aload_n dX12_readsOrder_9 rfl ?_
    refine aw_callVi (J' := jX12_isDigit) (As := []) (st := []) dX12_readsOrder_10 tb_1241 ok_X12_isDigit ⟨_, e_3⟩ (by omega) rfl rfl (r_isDigitS l D b N V hN cl hJ0.1 g hg n a ⟨by omega, by omega⟩ hE hA) rfl (Nat.le_of_ble_eq_true rfl) ⟨Nat.le_of_ble_eq_true rfl, Nat.le_of_ble_eq_true rfl, Nat.le_of_ble_eq_true rfl, Nat.le_of_ble_eq_true rfl⟩ (fun r_50 N_51 V_52 q_53 => ?_)
    obtain ⟨⟨z_49, h_48⟩, rfl, rfl⟩ := q_53
    rcases h_48 with ⟨hy_54, e_55⟩ | ⟨hn_56, e_57⟩
    · skip
      refine aw_eqi (y := 1) e_55 ?_
      obtain ⟨z_58, hz_58, ez_58⟩ := isDg_nat hy_54
      have hlz_58 := isDg_hd hy_54
      refine aw_if_ne (tgt := 26) dX12_readsOrder_13 (by decide) (fun c_59 => ?_) (fun c_59 => ?_)
      rotate_left
      · exact absurd c_59 (by decide)
      refine aw_aload_n dX12_readsOrder_26 rfl ?_
      refine aw_get dX12_readsOrder_27 fl_X12_268 e_3 (by omega) rfl ?_
      refine aw_eqi (y := (nI L)) ((Eq.symm (congrArg (fun z => fI z 36) e_3)).trans hL1) ?_
      refine aw_bipush (v := 16) dX12_readsOrder_30 (by decide) ?_
      refine aw_icmp_ne (tgt := 45) dX12_readsOrder_32 (by decide) (fun c_60 => ?_) (fun c_60 => ?_)
      · skip
        have nc_60 : ¬ (L = 16) := fun z => c_60 ((nI_eq (a := L) (b := 16) (by omega) (by omega)).mpr z)
        refine aw_aload_n dX12_readsOrder_45 rfl ?_
        refine aw_aload_n dX12_readsOrder_46 rfl ?_
        refine aw_get dX12_readsOrder_47 fl_X12_268 e_3 (by omega) rfl ?_
        refine aw_eqi (y := (nI L)) ((Eq.symm (congrArg (fun z => fI z 36) e_3)).trans hL1) ?_
        refine aw_iconst (v := 1) dX12_readsOrder_50 (by decide) ?_
        refine aw_iadd dX12_readsOrder_51 ?_
        refine aw_eqi (y := nI (L + 1)) (nI_add _ _) ?_
        refine aw_put dX12_readsOrder_52 fp_X12_268 e_3 (by omega) rfl rfl (Nat.le_of_ble_eq_true rfl) rfl ?_
        refine aw_upR hJ0 cm_100 ⟨_, _, _, _, _, _, _, _, _, _, _, _, tad_3, pl0_3, le0_3, nu0_3, coy_3, wag_3, say_3, rfl, by omega, by omega, by omega, by omega, by omega, by omega, by omega⟩ (by decide) (WO (s := 36) (x := .int (nI (L + 1))) e_3 rfl (LMs (LMs LM0)) (by decide) (by decide) (by decide) (Or.inl (by decide))) (fun V_61 j_61 k_61 e_61 => ?_)
        refine aw_aload_n dX12_readsOrder_55 rfl ?_
        refine aw_callVi (J' := jX12_here) (As := []) (st := []) dX12_readsOrder_56 tb_1220 ok_X12_here ⟨_, e_61⟩ (by omega) rfl rfl (r_hereS l D b N V_61 hN cl j_61.1 g ((k_61 _ (by decide)).trans hg) n a ⟨by omega, by omega⟩ (KA (s := 36) (x := .int (nI (L + 1))) e_3 rfl (by decide) e_61 k_61 hE) (KA (s := 36) (x := .int (nI (L + 1))) e_3 rfl (by decide) e_61 k_61 hA)) rfl (Nat.le_of_ble_eq_true rfl) ⟨Nat.le_of_ble_eq_true rfl, Nat.le_of_ble_eq_true rfl, Nat.le_of_ble_eq_true rfl, Nat.le_of_ble_eq_true rfl⟩ (fun r_64 N_65 V_66 q_67 => ?_)
        obtain ⟨h_63, rfl, rfl⟩ := q_67
        refine aw_eqi (y := nI (48 + z_58)) (h_63.trans ez_58) ?_
        refine aw_bipush (v := 100) dX12_readsOrder_59 (by decide) ?_
        refine aw_icmp_eq (tgt := 69) dX12_readsOrder_61 (by decide) (fun c_68 => ?_) (fun c_68 => ?_)
        · have nc_68 : (48 + z_58) = 100 := (nI_eq (a := (48 + z_58)) (b := 100) (by omega) (by omega)).mp c_68
          omega
        have nc_68 : ¬ ((48 + z_58) = 100) := fun z => c_68 ((nI_eq (a := (48 + z_58)) (b := 100) (by omega) (by omega)).mpr z)
        refine aw_aload_n dX12_readsOrder_64 rfl ?_
        refine aw_callVi (J' := jX12_readsTwo) (As := []) (st := []) dX12_readsOrder_65 tb_1343 ok_X12_readsTwo ⟨_, e_61⟩ (by omega) rfl rfl (r_readsTwoS l D b N V_61 hN cl j_61.1 g ((k_61 _ (by decide)).trans hg) n a ⟨by omega, by omega⟩ (KA (s := 36) (x := .int (nI (L + 1))) e_3 rfl (by decide) e_61 k_61 hE) (KA (s := 36) (x := .int (nI (L + 1))) e_3 rfl (by decide) e_61 k_61 hA) P (KA (s := 36) (x := .int (nI (L + 1))) e_3 rfl (by decide) e_61 k_61 hP) s (KA (s := 36) (x := .int (nI (L + 1))) e_3 rfl (by decide) e_61 k_61 hD) ((congrArg (fun z => rs (fI z)) (k_61 _ (by omega))).trans hK)) rfl (Nat.le_of_ble_eq_true rfl) ⟨Nat.le_of_ble_eq_true rfl, Nat.le_of_ble_eq_true rfl, Nat.le_of_ble_eq_true rfl, Nat.le_of_ble_eq_true rfl⟩ (fun r_74 N_75 V_73 q_76 => ?_)
        obtain ⟨⟨z_71, h_70⟩, rfl, q_69⟩ := q_76
        have j_72 := JR.trans j_61 (JR.weak q_69 (Sub.cons LM0 (by decide) (by decide) (by decide) (Or.inl rfl) (Sub.cons (LMs (LMs (LMs (LMs LM0)))) (by decide) (by decide) (by decide) (Or.inr ⟨by decide, by decide⟩) (Sub.cons (LMs (LMs (LMs LM0))) (by decide) (by decide) (by decide) (Or.inr ⟨by decide, by decide⟩) (Sub.cons (LMs (LMs (LMs (LMs (LMs LM0))))) (by decide) (by decide) (by decide) (Or.inr ⟨by decide, by decide⟩) Sub.nil)))))
        rcases h_70 with ⟨f_77, hx_78, hk_79, e_80⟩ | ⟨a_81, s_82, hx_83, hk_84, hd_85, hf_86, hb_87, e_88⟩
        · skip
          refine aw_eqi (y := 0) e_80 ?_
          refine aw_zreti dX12_readsOrder_68 rfl (by first | exact Or.inl rfl | exact Or.inr rfl | assumption) (Nat.le_of_ble_eq_true rfl) (Nat.le_of_ble_eq_true rfl) ?_
          exact ⟨⟨(by first | exact Or.inl rfl | exact Or.inr rfl | assumption), Or.inl ⟨_, tx_bad ((stO_no c_8).trans hy_54) ((o_a c_8).trans hx_78) (by omega), hk_79, rfl⟩⟩, rfl, j_72⟩
        · skip
          refine aw_eqi (y := 1) e_88 ?_
          obtain ⟨hb_87a, hb_87b⟩ := hb_87
          refine aw_zreti dX12_readsOrder_68 rfl (by first | exact Or.inl rfl | exact Or.inr rfl | assumption) (Nat.le_of_ble_eq_true rfl) (Nat.le_of_ble_eq_true rfl) ?_
          exact ⟨⟨(by first | exact Or.inl rfl | exact Or.inr rfl | assumption), Or.inr ⟨_, _, ((stO_no c_8).trans hy_54), by omega, (o_a c_8).trans hx_83, hk_84, ((JR.fI q_69 (by decide) (by decide) (nfc (by omega) (nfc (by omega) (nfc (by omega) (nfc (by omega) nf0))))).trans ((congrArg (fun z => fI z 36) e_61).trans rfl)), hd_85, hf_86, ⟨by omega, by omega⟩, rfl⟩⟩, rfl, j_72⟩
      · skip
        have nc_60 : L = 16 := (nI_eq (a := L) (b := 16) (by omega) (by omega)).mp c_60
        refine aw_aload_n dX12_readsOrder_35 rfl ?_
        refine aw_iconst (v := 4) dX12_readsOrder_36 (by decide) ?_
        refine aw_aload_n dX12_readsOrder_37 rfl ?_
        refine aw_get dX12_readsOrder_38 fl_X12_159 e_3 (by omega) rfl ?_
        refine aw_eqi (y := (nI a)) ((Eq.symm (congrArg (fun z => fI z 14) e_3)).trans hA) ?_
        refine aw_callVi (J' := jX12_wrongAt) (As := [.int 4, .int (nI a)]) (st := []) dX12_readsOrder_41 tb_1224 ok_X12_wrongAt ⟨_, e_3⟩ (by omega) rfl rfl (r_wrongAtS l D b N V hN cl hJ0.1 4 (nI a)) rfl (Nat.le_of_ble_eq_true rfl) ⟨Nat.le_of_ble_eq_true rfl, Nat.le_of_ble_eq_true rfl, Nat.le_of_ble_eq_true rfl, Nat.le_of_ble_eq_true rfl⟩ (fun r_94 N_95 V_93 q_96 => ?_)
        obtain ⟨⟨z_91, h_90⟩, rfl, q_89⟩ := q_96
        have j_92 := JR.trans hJ0 (JR.weak q_89 (Sub.cons (LMs (LMs (LMs (LMs (LMs LM0))))) (by decide) (by decide) (by decide) (Or.inr ⟨by decide, by decide⟩) Sub.nil))
        obtain ⟨rfl, h_90f⟩ := h_90
        refine aw_zreti dX12_readsOrder_44 rfl (by first | exact Or.inl rfl | exact Or.inr rfl | assumption) (Nat.le_of_ble_eq_true rfl) (Nat.le_of_ble_eq_true rfl) ?_
        exact ⟨⟨(by first | exact Or.inl rfl | exact Or.inr rfl | assumption), Or.inl ⟨_, (congrArg (fun q => txO (gb g) n P q a s) (by omega : 16 - L = 0)).trans (tx_many ((stO_no c_8).trans hy_54)), h_90f, rfl⟩⟩, rfl, j_92⟩
    · skip
      refine aw_eqi (y := 0) e_57 ?_
      refine aw_if_ne (tgt := 26) dX12_readsOrder_13 (by decide) (fun c_97 => ?_) (fun c_97 => ?_)
      · exact absurd rfl c_97
      refine aw_aload_n dX12_readsOrder_16 rfl ?_
      refine aw_iconst (v := 1) dX12_readsOrder_17 (by decide) ?_
      refine aw_aload_n dX12_readsOrder_18 rfl ?_
      refine aw_get dX12_readsOrder_19 fl_X12_159 e_3 (by omega) rfl ?_
      refine aw_eqi (y := (nI a)) ((Eq.symm (congrArg (fun z => fI z 14) e_3)).trans hA) ?_
      refine aw_callVi (J' := jX12_wrongAt) (As := [.int 1, .int (nI a)]) (st := []) dX12_readsOrder_22 tb_1224 ok_X12_wrongAt ⟨_, e_3⟩ (by omega) rfl rfl (r_wrongAtS l D b N V hN cl hJ0.1 1 (nI a)) rfl (Nat.le_of_ble_eq_true rfl) ⟨Nat.le_of_ble_eq_true rfl, Nat.le_of_ble_eq_true rfl, Nat.le_of_ble_eq_true rfl, Nat.le_of_ble_eq_true rfl⟩ (fun r_103 N_104 V_102 q_105 => ?_)
      obtain ⟨⟨z_100, h_99⟩, rfl, q_98⟩ := q_105
      have j_101 := JR.trans hJ0 (JR.weak q_98 (Sub.cons (LMs (LMs (LMs (LMs (LMs LM0))))) (by decide) (by decide) (by decide) (Or.inr ⟨by decide, by decide⟩) Sub.nil))
      obtain ⟨rfl, h_99f⟩ := h_99
      refine aw_zreti dX12_readsOrder_25 rfl (by first | exact Or.inl rfl | exact Or.inr rfl | assumption) (Nat.le_of_ble_eq_true rfl) (Nat.le_of_ble_eq_true rfl) ?_
      exact ⟨⟨(by first | exact Or.inl rfl | exact Or.inr rfl | assumption), Or.inl ⟨_, tx_st ((stO_no c_8).trans hn_56), h_99f, rfl⟩⟩, rfl, j_101⟩

set_option maxHeartbeats 4000000 in
set_option maxRecDepth 100000 in
theorem r_laysAsideS (l : Launch) (D : va_G) (b : Nat) (N : Nat) (V : Wd) (hN : 133 ≤ N) (cl : Nat) (hW : CR D b cl V)   : MV l D b 1 jX12_laysAside [.ref (b + 100)] N V 0 0 (fun N9 V9 => (fI (V9 102) 208 = fI (V 101) 208 ∧ fI (V9 100) 11 = fI (V 100) 10 ∧ rs (fI (V9 105)) = rs (fI (V 104))) ∧ N = N9 ∧ JR D b N cl [(102, 102, 0, 1000000), (105, 105, 0, 1000000), (108, 109, 0, 1000000), (100, 100, 11, 11)] V V9) := by
  have hJ0 : JR D b N cl [(102, 102, 0, 1000000), (105, 105, 0, 1000000), (108, 109, 0, 1000000), (100, 100, 11, 11)] V V := JR.rf hW
  refine mw_of (by decide) (by simp [Value.category]) (Nat.le_of_ble_eq_true rfl) ?_
  show AW l D b jX12_laysAside (fx_rm 1 0 0) none (fx_MQ D b 0 0 (fx_qv (fun N9 V9 => (fI (V9 102) 208 = fI (V 101) 208 ∧ fI (V9 100) 11 = fI (V 100) 10 ∧ rs (fI (V9 105)) = rs (fI (V 104))) ∧ N = N9 ∧ JR D b N cl [(102, 102, 0, 1000000), (105, 105, 0, 1000000), (108, 109, 0, 1000000), (100, 100, 11, 11)] V V9))) 0 [some (.ref (b + 100)), none] [] N V 0 0
  refine aw_aload_n dX12_laysAside_0 rfl ?_
  obtain ⟨ftoldPeople_1, ftoldDoors_1, fwasDoors_1, ffault_1, fopen_1, flines_1, fmeantSet_1, fopenedNow_1, fvainNow_1, flowNow_1, fhighNow_1, fisKept_1, tad_1, pl0_1, le0_1, nu0_1, coy_1, wag_1, say_1, e_1, hntad_1, hnpl0_1, hnle0_1, hnnu0_1, hncoy_1, hnwag_1, hnsay_1⟩ := JR.get hJ0 cm_100
  refine aw_get dX12_laysAside_1 fl_X12_7 e_1 (by omega) rfl ?_
  refine aw_aload_n dX12_laysAside_4 rfl ?_
  refine aw_get dX12_laysAside_5 fl_X12_13 e_1 (by omega) rfl ?_
  refine aw_callSv (J' := jX12_copies) (As := [.ref (b + 101), .ref (b + 102)]) (st := []) dX12_laysAside_8 tb_1299 ok_X12_copies rfl (r_copiesK l D b N V hN cl hJ0.1 101 1 cm_101 102 2 cm_102 (by decide) (by decide)) rfl (Nat.le_of_ble_eq_true rfl) ⟨Nat.le_of_ble_eq_true rfl, Nat.le_of_ble_eq_true rfl, Nat.le_of_ble_eq_true rfl, Nat.le_of_ble_eq_true rfl⟩ (fun  N_6 V_5 q_7 => ?_)
  obtain ⟨h_3, rfl, q_2⟩ := q_7
  have j_4 := JR.trans hJ0 (JR.weak q_2 (Sub.cons LM0 (by decide) (by decide) (by decide) (Or.inl rfl) Sub.nil))
  refine aw_aload_n dX12_laysAside_11 rfl ?_
  refine aw_aload_n dX12_laysAside_12 rfl ?_
  obtain ⟨ftoldPeople_8, ftoldDoors_8, fwasDoors_8, ffault_8, fopen_8, flines_8, fmeantSet_8, fopenedNow_8, fvainNow_8, flowNow_8, fhighNow_8, fisKept_8, tad_8, pl0_8, le0_8, nu0_8, coy_8, wag_8, say_8, e_8, hntad_8, hnpl0_8, hnle0_8, hnnu0_8, hncoy_8, hnwag_8, hnsay_8⟩ := JR.get j_4 cm_100
  refine aw_get dX12_laysAside_13 fl_X12_129 e_8 (by omega) rfl ?_
  refine aw_eqi (y := (fI (V 100) 10)) ((Eq.symm (congrArg (fun z => fI z 10) e_8)).trans ((JR.fI q_2 (by decide) (by decide) (nfc (by omega) nf0)).trans (Eq.refl (fI (V 100) 10)))) ?_
  refine aw_put dX12_laysAside_16 fp_X12_296 e_8 (by omega) rfl rfl (Nat.le_of_ble_eq_true rfl) rfl ?_
  refine aw_upR j_4 cm_100 ⟨_, _, _, _, _, _, _, _, _, _, _, _, tad_8, pl0_8, le0_8, nu0_8, coy_8, wag_8, say_8, rfl, by omega, by omega, by omega, by omega, by omega, by omega, by omega⟩ (by decide) (WO (s := 11) (x := .int (fI (V 100) 10)) e_8 rfl (LMs (LMs (LMs LM0))) (by decide) (by decide) (by decide) (Or.inl (by decide))) (fun V_9 j_9 k_9 e_9 => ?_)
  refine aw_iconst (v := 0) dX12_laysAside_19 (by decide) ?_
  refine aw_istore_n (ls' := [some (.ref (b + 100)), some (.int 0)]) dX12_laysAside_20 (Nat.le_of_ble_eq_true rfl) rfl ?_
  have loop_21_9 : ∀ (g_21 : Nat), ∀ (j21 : Nat)  (V21 : Wd), j21 + g_21 = 12 → (V21 104 = V 104) → (∀ k, k < j21 → fI (V21 105) k = fI (V 104) k) → (JR D b N cl [(102, 102, 0, 1000000), (105, 105, 0, 1000000), (108, 109, 0, 1000000), (100, 100, 11, 11)] V V21) → (fI (V21 101) 208 = (fI (V 101) 208)) → (fI (V21 102) 208 = (fI (V 101) 208)) → (fI (V21 100) 10 = (fI (V 100) 10)) → (fI (V21 100) 11 = (fI (V 100) 10)) → AW l D b jX12_laysAside (fx_rm 1 0 0) none (fx_MQ D b 0 0 (fx_qv (fun N9 V9 => (fI (V9 102) 208 = fI (V 101) 208 ∧ fI (V9 100) 11 = fI (V 100) 10 ∧ rs (fI (V9 105)) = rs (fI (V 104))) ∧ N = N9 ∧ JR D b N cl [(102, 102, 0, 1000000), (105, 105, 0, 1000000), (108, 109, 0, 1000000), (100, 100, 11, 11)] V V9))) 21 [some (.ref (b + 100)), some (.int (nI j21))] [] N V21 0 0 := by
    intro g_21
    induction g_21 with
    | zero =>
      intro j21  V21 hj21 i21_0 i21_1 i21_2 i21_3 i21_4 i21_5 i21_6
      obtain rfl : j21 = 12 := by omega
      refine aw_iload_n dX12_laysAside_21 rfl ?_
      refine aw_bipush (v := 12) dX12_laysAside_22 (by decide) ?_
      refine aw_icmp_ge (tgt := 45) dX12_laysAside_24 (by decide) (fun c_12 => ?_) (fun c_12 => ?_)
      rotate_left
      · exact absurd (nI_le (a := 12) (b := 12) (Nat.le_refl _) (by omega)) c_12
      refine aw_iconst (v := 0) dX12_laysAside_45 (by decide) ?_
      refine aw_istore_n (ls' := [some (.ref (b + 100)), some (.int 0)]) dX12_laysAside_46 (Nat.le_of_ble_eq_true rfl) rfl ?_
      have loop_47_12 : ∀ (g_47 : Nat), ∀ (j47 : Nat)  (V47 : Wd), j47 + g_47 = 16 → (JR D b N cl [(102, 102, 0, 1000000), (105, 105, 0, 1000000), (108, 109, 0, 1000000), (100, 100, 11, 11)] V V47) → (fI (V47 101) 208 = (fI (V 101) 208)) → (fI (V47 102) 208 = (fI (V 101) 208)) → (fI (V47 100) 10 = (fI (V 100) 10)) → (fI (V47 100) 11 = (fI (V 100) 10)) → (rs (fI (V47 105)) = (rs (fI (V 104)))) → AW l D b jX12_laysAside (fx_rm 1 0 0) none (fx_MQ D b 0 0 (fx_qv (fun N9 V9 => (fI (V9 102) 208 = fI (V 101) 208 ∧ fI (V9 100) 11 = fI (V 100) 10 ∧ rs (fI (V9 105)) = rs (fI (V 104))) ∧ N = N9 ∧ JR D b N cl [(102, 102, 0, 1000000), (105, 105, 0, 1000000), (108, 109, 0, 1000000), (100, 100, 11, 11)] V V9))) 47 [some (.ref (b + 100)), some (.int (nI j47))] [] N V47 0 0 := by
        intro g_47
        induction g_47 with
        | zero =>
          intro j47  V47 hj47 i47_0 i47_1 i47_2 i47_3 i47_4 i47_5
          obtain rfl : j47 = 16 := by omega
          refine aw_iload_n dX12_laysAside_47 rfl ?_
          refine aw_bipush (v := 16) dX12_laysAside_48 (by decide) ?_
          refine aw_icmp_ge (tgt := 83) dX12_laysAside_50 (by decide) (fun c_15 => ?_) (fun c_15 => ?_)
          rotate_left
          · exact absurd (nI_le (a := 16) (b := 16) (Nat.le_refl _) (by omega)) c_15
          refine aw_vreti dX12_laysAside_83 rfl (Nat.le_of_ble_eq_true rfl) (Nat.le_of_ble_eq_true rfl) ?_
          exact ⟨⟨i47_2, i47_4, i47_5⟩, rfl, i47_0⟩
        | succ g_47 ih_47_13 =>
          intro j47  V47 hj47 i47_0 i47_1 i47_2 i47_3 i47_4 i47_5
          have hlj47 : j47 < 16 := by omega
          refine aw_iload_n dX12_laysAside_47 rfl ?_
          refine aw_bipush (v := 16) dX12_laysAside_48 (by decide) ?_
          refine aw_icmp_ge (tgt := 83) dX12_laysAside_50 (by decide) (fun c_16 => ?_) (fun c_16 => ?_)
          · exact absurd c_16 (nI_ge (a := j47) (b := 16) (by omega) (by omega))
          refine aw_aload_n dX12_laysAside_53 rfl ?_
          obtain ⟨ftoldPeople_17, ftoldDoors_17, fwasDoors_17, ffault_17, fopen_17, flines_17, fmeantSet_17, fopenedNow_17, fvainNow_17, flowNow_17, fhighNow_17, fisKept_17, tad_17, pl0_17, le0_17, nu0_17, coy_17, wag_17, say_17, e_17, hntad_17, hnpl0_17, hnle0_17, hnnu0_17, hncoy_17, hnwag_17, hnsay_17⟩ := JR.get i47_0 cm_100
          refine aw_get dX12_laysAside_54 fl_X12_31 e_17 (by omega) rfl ?_
          refine aw_iload_n dX12_laysAside_57 rfl ?_
          refine aw_aload_n dX12_laysAside_58 rfl ?_
          refine aw_get dX12_laysAside_59 fl_X12_25 e_17 (by omega) rfl ?_
          refine aw_iload_n dX12_laysAside_62 rfl ?_
          obtain ⟨g_18, e_18, p_18⟩ := JR.get i47_0 cm_106
          refine aw_iald (v := (g_18 j47)) dX12_laysAside_63 e_18 (by omega) (vp_in_nI (n := j47) (by omega) (by omega)) (congrArg g_18 (nI_clamp (n := j47) (by omega))) ?_
          obtain ⟨g_19, e_19, p_19⟩ := JR.get i47_0 cm_108
          refine aw_iast dX12_laysAside_64 e_19 (by omega) (vp_in_nI (n := j47) (by omega) (by omega)) ?_
          refine aw_upR i47_0 cm_108 ⟨_, rfl, isP_upd (P := (fun v => ∃ k : Nat, k < 16 ∧ v = nI k)) p_19 (p_18 _ (by omega))⟩ (by decide) (WA (LMs (LMs LM0)) (by decide) (by decide)) (fun V_20 j_20 k_20 e_20 => ?_)
          refine aw_aload_n dX12_laysAside_65 rfl ?_
          refine aw_get dX12_laysAside_66 fl_X12_34 ((k_20 _ (by decide)).trans e_17) (by omega) rfl ?_
          refine aw_iload_n dX12_laysAside_69 rfl ?_
          refine aw_aload_n dX12_laysAside_70 rfl ?_
          refine aw_get dX12_laysAside_71 fl_X12_28 ((k_20 _ (by decide)).trans e_17) (by omega) rfl ?_
          refine aw_iload_n dX12_laysAside_74 rfl ?_
          obtain ⟨g_22, e_22⟩ := JR.get j_20 cm_107
          refine aw_iald (v := (g_22 j47)) dX12_laysAside_75 e_22 (by omega) (vp_in_nI (n := j47) (by omega) (by omega)) (congrArg g_22 (nI_clamp (n := j47) (by omega))) ?_
          obtain ⟨g_23, e_23⟩ := JR.get j_20 cm_109
          refine aw_iast dX12_laysAside_76 e_23 (by omega) (vp_in_nI (n := j47) (by omega) (by omega)) ?_
          refine aw_upR j_20 cm_109 ⟨_, rfl⟩ (by decide) (WA (LMs (LMs LM0)) (by decide) (by decide)) (fun V_24 j_24 k_24 e_24 => ?_)
          refine aw_iinc (v := (nI (j47 + 1))) (ls' := [some (.ref (b + 100)), some (.int (nI (j47 + 1)))]) dX12_laysAside_77 rfl (fx_up_1 _) (Nat.le_of_ble_eq_true rfl) rfl ?_
          refine aw_goto (tgt := 47) dX12_laysAside_80 (by decide) ?_
          refine aw_le ?_ (ih_47_13 (j47 + 1)  V_24 (by omega) (j_24) (((congrArg (fun z => fI z 208) (k_24 _ (by omega))).trans ((congrArg (fun z => fI z 208) (k_20 _ (by omega))).trans i47_1))) (((congrArg (fun z => fI z 208) (k_24 _ (by omega))).trans ((congrArg (fun z => fI z 208) (k_20 _ (by omega))).trans i47_2))) (((congrArg (fun z => fI z 10) (k_24 _ (by omega))).trans ((congrArg (fun z => fI z 10) (k_20 _ (by omega))).trans i47_3))) (((congrArg (fun z => fI z 11) (k_24 _ (by omega))).trans ((congrArg (fun z => fI z 11) (k_20 _ (by omega))).trans i47_4))) (((congrArg (fun z => rs (fI z)) (k_24 _ (by omega))).trans ((congrArg (fun z => rs (fI z)) (k_20 _ (by omega))).trans i47_5))))
          exact ⟨rfl, ⟨rfl, trivial⟩⟩
      refine aw_le ?_ (loop_47_12 16 0  V21 (by omega) (i21_2) (i21_3) (i21_4) (i21_5) (i21_6) ((rs_of i21_1)))
      exact ⟨rfl, ⟨rfl, trivial⟩⟩
    | succ g_21 ih_21_10 =>
      intro j21  V21 hj21 i21_0 i21_1 i21_2 i21_3 i21_4 i21_5 i21_6
      have hlj21 : j21 < 12 := by omega
      refine aw_iload_n dX12_laysAside_21 rfl ?_
      refine aw_bipush (v := 12) dX12_laysAside_22 (by decide) ?_
      refine aw_icmp_ge (tgt := 45) dX12_laysAside_24 (by decide) (fun c_25 => ?_) (fun c_25 => ?_)
      · exact absurd c_25 (nI_ge (a := j21) (b := 12) (by omega) (by omega))
      refine aw_aload_n dX12_laysAside_27 rfl ?_
      obtain ⟨ftoldPeople_26, ftoldDoors_26, fwasDoors_26, ffault_26, fopen_26, flines_26, fmeantSet_26, fopenedNow_26, fvainNow_26, flowNow_26, fhighNow_26, fisKept_26, tad_26, pl0_26, le0_26, nu0_26, coy_26, wag_26, say_26, e_26, hntad_26, hnpl0_26, hnle0_26, hnnu0_26, hncoy_26, hnwag_26, hnsay_26⟩ := JR.get i21_2 cm_100
      refine aw_get dX12_laysAside_28 fl_X12_22 e_26 (by omega) rfl ?_
      refine aw_iload_n dX12_laysAside_31 rfl ?_
      refine aw_aload_n dX12_laysAside_32 rfl ?_
      refine aw_get dX12_laysAside_33 fl_X12_19 e_26 (by omega) rfl ?_
      refine aw_iload_n dX12_laysAside_36 rfl ?_
      obtain ⟨g_27, e_27, p_27⟩ := JR.get i21_2 cm_104
      refine aw_iald (v := (g_27 j21)) dX12_laysAside_37 e_27 (by omega) (vp_in_nI (n := j21) (by omega) (by omega)) (congrArg g_27 (nI_clamp (n := j21) (by omega))) ?_
      obtain ⟨g_28, e_28, p_28⟩ := JR.get i21_2 cm_105
      refine aw_iast dX12_laysAside_38 e_28 (by omega) (vp_in_nI (n := j21) (by omega) (by omega)) ?_
      refine aw_upR i21_2 cm_105 ⟨_, rfl, isP_upd (P := (fun v => ∃ k : Nat, k < 4096 ∧ v = nI k)) p_28 (p_27 _ (by omega))⟩ (by decide) (WA (LMs LM0) (by decide) (by decide)) (fun V_29 j_29 k_29 e_29 => ?_)
      refine aw_iinc (v := (nI (j21 + 1))) (ls' := [some (.ref (b + 100)), some (.int (nI (j21 + 1)))]) dX12_laysAside_39 rfl (fx_up_1 _) (Nat.le_of_ble_eq_true rfl) rfl ?_
      refine aw_goto (tgt := 21) dX12_laysAside_42 (by decide) ?_
      refine aw_le ?_ (ih_21_10 (j21 + 1)  V_29 (by omega) (((k_29 _ (by decide)).trans i21_0)) ((cp_step e_27 i21_0 e_28 e_29 (nI_clamp (n := j21) (by omega)) i21_1)) (j_29) (((congrArg (fun z => fI z 208) (k_29 _ (by omega))).trans i21_3)) (((congrArg (fun z => fI z 208) (k_29 _ (by omega))).trans i21_4)) (((congrArg (fun z => fI z 10) (k_29 _ (by omega))).trans i21_5)) (((congrArg (fun z => fI z 11) (k_29 _ (by omega))).trans i21_6)))
      exact ⟨rfl, ⟨rfl, trivial⟩⟩
  refine aw_le ?_ (loop_21_9 12 0  V_9 (by omega) ((JR.same j_9 (by decide) (by decide) (fun k => (nfc (by omega) (nfc (by omega) (nfc (by omega) (nfc (by omega) nf0))))))) (fun k h => absurd h (Nat.not_lt_zero k)) (j_9) ((KA (s := 11) (x := .int (fI (V 100) 10)) e_8 rfl (by decide) e_9 k_9 ((JR.fI q_2 (by decide) (by decide) (nfc (by omega) nf0)).trans (Eq.refl (fI (V 101) 208))))) ((KA (s := 11) (x := .int (fI (V 100) 10)) e_8 rfl (by decide) e_9 k_9 ((h_3 208 (by decide)).trans (Eq.refl (fI (V 101) 208))))) ((KA (s := 11) (x := .int (fI (V 100) 10)) e_8 rfl (by decide) e_9 k_9 ((JR.fI q_2 (by decide) (by decide) (nfc (by omega) nf0)).trans (Eq.refl (fI (V 100) 10))))) (((congrArg (fun z => fI z 11) e_9).trans rfl)))
  exact ⟨rfl, ⟨rfl, trivial⟩⟩

set_option maxHeartbeats 4000000 in
set_option maxRecDepth 100000 in
theorem r_putsBackS (l : Launch) (D : va_G) (b : Nat) (N : Nat) (V : Wd) (hN : 133 ≤ N) (cl : Nat) (hW : CR D b cl V)   : MV l D b 1 jX12_putsBack [.ref (b + 100)] N V 0 0 (fun N9 V9 => (fI (V9 101) 208 = fI (V 102) 208 ∧ fI (V9 100) 10 = fI (V 100) 11 ∧ rs (fI (V9 104)) = rs (fI (V 105))) ∧ N = N9 ∧ JR D b N cl [(101, 101, 0, 1000000), (104, 104, 0, 1000000), (106, 107, 0, 1000000), (100, 100, 10, 10)] V V9) := by
  have hJ0 : JR D b N cl [(101, 101, 0, 1000000), (104, 104, 0, 1000000), (106, 107, 0, 1000000), (100, 100, 10, 10)] V V := JR.rf hW
  refine mw_of (by decide) (by simp [Value.category]) (Nat.le_of_ble_eq_true rfl) ?_
  show AW l D b jX12_putsBack (fx_rm 1 0 0) none (fx_MQ D b 0 0 (fx_qv (fun N9 V9 => (fI (V9 101) 208 = fI (V 102) 208 ∧ fI (V9 100) 10 = fI (V 100) 11 ∧ rs (fI (V9 104)) = rs (fI (V 105))) ∧ N = N9 ∧ JR D b N cl [(101, 101, 0, 1000000), (104, 104, 0, 1000000), (106, 107, 0, 1000000), (100, 100, 10, 10)] V V9))) 0 [some (.ref (b + 100)), none] [] N V 0 0
  refine aw_aload_n dX12_putsBack_0 rfl ?_
  obtain ⟨ftoldPeople_1, ftoldDoors_1, fwasDoors_1, ffault_1, fopen_1, flines_1, fmeantSet_1, fopenedNow_1, fvainNow_1, flowNow_1, fhighNow_1, fisKept_1, tad_1, pl0_1, le0_1, nu0_1, coy_1, wag_1, say_1, e_1, hntad_1, hnpl0_1, hnle0_1, hnnu0_1, hncoy_1, hnwag_1, hnsay_1⟩ := JR.get hJ0 cm_100
  refine aw_get dX12_putsBack_1 fl_X12_13 e_1 (by omega) rfl ?_
  refine aw_aload_n dX12_putsBack_4 rfl ?_
  refine aw_get dX12_putsBack_5 fl_X12_7 e_1 (by omega) rfl ?_
  refine aw_callSv (J' := jX12_copies) (As := [.ref (b + 102), .ref (b + 101)]) (st := []) dX12_putsBack_8 tb_1299 ok_X12_copies rfl (r_copiesK l D b N V hN cl hJ0.1 102 2 cm_102 101 1 cm_101 (by decide) (by decide)) rfl (Nat.le_of_ble_eq_true rfl) ⟨Nat.le_of_ble_eq_true rfl, Nat.le_of_ble_eq_true rfl, Nat.le_of_ble_eq_true rfl, Nat.le_of_ble_eq_true rfl⟩ (fun  N_6 V_5 q_7 => ?_)
  obtain ⟨h_3, rfl, q_2⟩ := q_7
  have j_4 := JR.trans hJ0 (JR.weak q_2 (Sub.cons LM0 (by decide) (by decide) (by decide) (Or.inl rfl) Sub.nil))
  refine aw_aload_n dX12_putsBack_11 rfl ?_
  refine aw_aload_n dX12_putsBack_12 rfl ?_
  obtain ⟨ftoldPeople_8, ftoldDoors_8, fwasDoors_8, ffault_8, fopen_8, flines_8, fmeantSet_8, fopenedNow_8, fvainNow_8, flowNow_8, fhighNow_8, fisKept_8, tad_8, pl0_8, le0_8, nu0_8, coy_8, wag_8, say_8, e_8, hntad_8, hnpl0_8, hnle0_8, hnnu0_8, hncoy_8, hnwag_8, hnsay_8⟩ := JR.get j_4 cm_100
  refine aw_get dX12_putsBack_13 fl_X12_296 e_8 (by omega) rfl ?_
  refine aw_eqi (y := (fI (V 100) 11)) ((Eq.symm (congrArg (fun z => fI z 11) e_8)).trans ((JR.fI q_2 (by decide) (by decide) (nfc (by omega) nf0)).trans (Eq.refl (fI (V 100) 11)))) ?_
  refine aw_put dX12_putsBack_16 fp_X12_129 e_8 (by omega) rfl rfl (Nat.le_of_ble_eq_true rfl) rfl ?_
  refine aw_upR j_4 cm_100 ⟨_, _, _, _, _, _, _, _, _, _, _, _, tad_8, pl0_8, le0_8, nu0_8, coy_8, wag_8, say_8, rfl, by omega, by omega, by omega, by omega, by omega, by omega, by omega⟩ (by decide) (WO (s := 10) (x := .int (fI (V 100) 11)) e_8 rfl (LMs (LMs (LMs LM0))) (by decide) (by decide) (by decide) (Or.inl (by decide))) (fun V_9 j_9 k_9 e_9 => ?_)
  refine aw_iconst (v := 0) dX12_putsBack_19 (by decide) ?_
  refine aw_istore_n (ls' := [some (.ref (b + 100)), some (.int 0)]) dX12_putsBack_20 (Nat.le_of_ble_eq_true rfl) rfl ?_
  have loop_21_9 : ∀ (g_21 : Nat), ∀ (j21 : Nat)  (V21 : Wd), j21 + g_21 = 12 → (V21 105 = V 105) → (∀ k, k < j21 → fI (V21 104) k = fI (V 105) k) → (JR D b N cl [(101, 101, 0, 1000000), (104, 104, 0, 1000000), (106, 107, 0, 1000000), (100, 100, 10, 10)] V V21) → (fI (V21 101) 208 = (fI (V 102) 208)) → (fI (V21 102) 208 = (fI (V 102) 208)) → (fI (V21 100) 10 = (fI (V 100) 11)) → (fI (V21 100) 11 = (fI (V 100) 11)) → AW l D b jX12_putsBack (fx_rm 1 0 0) none (fx_MQ D b 0 0 (fx_qv (fun N9 V9 => (fI (V9 101) 208 = fI (V 102) 208 ∧ fI (V9 100) 10 = fI (V 100) 11 ∧ rs (fI (V9 104)) = rs (fI (V 105))) ∧ N = N9 ∧ JR D b N cl [(101, 101, 0, 1000000), (104, 104, 0, 1000000), (106, 107, 0, 1000000), (100, 100, 10, 10)] V V9))) 21 [some (.ref (b + 100)), some (.int (nI j21))] [] N V21 0 0 := by
    intro g_21
    induction g_21 with
    | zero =>
      intro j21  V21 hj21 i21_0 i21_1 i21_2 i21_3 i21_4 i21_5 i21_6
      obtain rfl : j21 = 12 := by omega
      refine aw_iload_n dX12_putsBack_21 rfl ?_
      refine aw_bipush (v := 12) dX12_putsBack_22 (by decide) ?_
      refine aw_icmp_ge (tgt := 45) dX12_putsBack_24 (by decide) (fun c_12 => ?_) (fun c_12 => ?_)
      rotate_left
      · exact absurd (nI_le (a := 12) (b := 12) (Nat.le_refl _) (by omega)) c_12
      refine aw_iconst (v := 0) dX12_putsBack_45 (by decide) ?_
      refine aw_istore_n (ls' := [some (.ref (b + 100)), some (.int 0)]) dX12_putsBack_46 (Nat.le_of_ble_eq_true rfl) rfl ?_
      have loop_47_12 : ∀ (g_47 : Nat), ∀ (j47 : Nat)  (V47 : Wd), j47 + g_47 = 16 → (JR D b N cl [(101, 101, 0, 1000000), (104, 104, 0, 1000000), (106, 107, 0, 1000000), (100, 100, 10, 10)] V V47) → (fI (V47 101) 208 = (fI (V 102) 208)) → (fI (V47 102) 208 = (fI (V 102) 208)) → (fI (V47 100) 10 = (fI (V 100) 11)) → (fI (V47 100) 11 = (fI (V 100) 11)) → (rs (fI (V47 104)) = (rs (fI (V 105)))) → AW l D b jX12_putsBack (fx_rm 1 0 0) none (fx_MQ D b 0 0 (fx_qv (fun N9 V9 => (fI (V9 101) 208 = fI (V 102) 208 ∧ fI (V9 100) 10 = fI (V 100) 11 ∧ rs (fI (V9 104)) = rs (fI (V 105))) ∧ N = N9 ∧ JR D b N cl [(101, 101, 0, 1000000), (104, 104, 0, 1000000), (106, 107, 0, 1000000), (100, 100, 10, 10)] V V9))) 47 [some (.ref (b + 100)), some (.int (nI j47))] [] N V47 0 0 := by
        intro g_47
        induction g_47 with
        | zero =>
          intro j47  V47 hj47 i47_0 i47_1 i47_2 i47_3 i47_4 i47_5
          obtain rfl : j47 = 16 := by omega
          refine aw_iload_n dX12_putsBack_47 rfl ?_
          refine aw_bipush (v := 16) dX12_putsBack_48 (by decide) ?_
          refine aw_icmp_ge (tgt := 83) dX12_putsBack_50 (by decide) (fun c_15 => ?_) (fun c_15 => ?_)
          rotate_left
          · exact absurd (nI_le (a := 16) (b := 16) (Nat.le_refl _) (by omega)) c_15
          refine aw_vreti dX12_putsBack_83 rfl (Nat.le_of_ble_eq_true rfl) (Nat.le_of_ble_eq_true rfl) ?_
          exact ⟨⟨i47_1, i47_3, i47_5⟩, rfl, i47_0⟩
        | succ g_47 ih_47_13 =>
          intro j47  V47 hj47 i47_0 i47_1 i47_2 i47_3 i47_4 i47_5
          have hlj47 : j47 < 16 := by omega
          refine aw_iload_n dX12_putsBack_47 rfl ?_
          refine aw_bipush (v := 16) dX12_putsBack_48 (by decide) ?_
          refine aw_icmp_ge (tgt := 83) dX12_putsBack_50 (by decide) (fun c_16 => ?_) (fun c_16 => ?_)
          · exact absurd c_16 (nI_ge (a := j47) (b := 16) (by omega) (by omega))
          refine aw_aload_n dX12_putsBack_53 rfl ?_
          obtain ⟨ftoldPeople_17, ftoldDoors_17, fwasDoors_17, ffault_17, fopen_17, flines_17, fmeantSet_17, fopenedNow_17, fvainNow_17, flowNow_17, fhighNow_17, fisKept_17, tad_17, pl0_17, le0_17, nu0_17, coy_17, wag_17, say_17, e_17, hntad_17, hnpl0_17, hnle0_17, hnnu0_17, hncoy_17, hnwag_17, hnsay_17⟩ := JR.get i47_0 cm_100
          refine aw_get dX12_putsBack_54 fl_X12_25 e_17 (by omega) rfl ?_
          refine aw_iload_n dX12_putsBack_57 rfl ?_
          refine aw_aload_n dX12_putsBack_58 rfl ?_
          refine aw_get dX12_putsBack_59 fl_X12_31 e_17 (by omega) rfl ?_
          refine aw_iload_n dX12_putsBack_62 rfl ?_
          obtain ⟨g_18, e_18, p_18⟩ := JR.get i47_0 cm_108
          refine aw_iald (v := (g_18 j47)) dX12_putsBack_63 e_18 (by omega) (vp_in_nI (n := j47) (by omega) (by omega)) (congrArg g_18 (nI_clamp (n := j47) (by omega))) ?_
          obtain ⟨g_19, e_19, p_19⟩ := JR.get i47_0 cm_106
          refine aw_iast dX12_putsBack_64 e_19 (by omega) (vp_in_nI (n := j47) (by omega) (by omega)) ?_
          refine aw_upR i47_0 cm_106 ⟨_, rfl, isP_upd (P := (fun v => ∃ k : Nat, k < 16 ∧ v = nI k)) p_19 (p_18 _ (by omega))⟩ (by decide) (WA (LMs (LMs LM0)) (by decide) (by decide)) (fun V_20 j_20 k_20 e_20 => ?_)
          refine aw_aload_n dX12_putsBack_65 rfl ?_
          refine aw_get dX12_putsBack_66 fl_X12_28 ((k_20 _ (by decide)).trans e_17) (by omega) rfl ?_
          refine aw_iload_n dX12_putsBack_69 rfl ?_
          refine aw_aload_n dX12_putsBack_70 rfl ?_
          refine aw_get dX12_putsBack_71 fl_X12_34 ((k_20 _ (by decide)).trans e_17) (by omega) rfl ?_
          refine aw_iload_n dX12_putsBack_74 rfl ?_
          obtain ⟨g_22, e_22⟩ := JR.get j_20 cm_109
          refine aw_iald (v := (g_22 j47)) dX12_putsBack_75 e_22 (by omega) (vp_in_nI (n := j47) (by omega) (by omega)) (congrArg g_22 (nI_clamp (n := j47) (by omega))) ?_
          obtain ⟨g_23, e_23⟩ := JR.get j_20 cm_107
          refine aw_iast dX12_putsBack_76 e_23 (by omega) (vp_in_nI (n := j47) (by omega) (by omega)) ?_
          refine aw_upR j_20 cm_107 ⟨_, rfl⟩ (by decide) (WA (LMs (LMs LM0)) (by decide) (by decide)) (fun V_24 j_24 k_24 e_24 => ?_)
          refine aw_iinc (v := (nI (j47 + 1))) (ls' := [some (.ref (b + 100)), some (.int (nI (j47 + 1)))]) dX12_putsBack_77 rfl (fx_up_1 _) (Nat.le_of_ble_eq_true rfl) rfl ?_
          refine aw_goto (tgt := 47) dX12_putsBack_80 (by decide) ?_
          refine aw_le ?_ (ih_47_13 (j47 + 1)  V_24 (by omega) (j_24) (((congrArg (fun z => fI z 208) (k_24 _ (by omega))).trans ((congrArg (fun z => fI z 208) (k_20 _ (by omega))).trans i47_1))) (((congrArg (fun z => fI z 208) (k_24 _ (by omega))).trans ((congrArg (fun z => fI z 208) (k_20 _ (by omega))).trans i47_2))) (((congrArg (fun z => fI z 10) (k_24 _ (by omega))).trans ((congrArg (fun z => fI z 10) (k_20 _ (by omega))).trans i47_3))) (((congrArg (fun z => fI z 11) (k_24 _ (by omega))).trans ((congrArg (fun z => fI z 11) (k_20 _ (by omega))).trans i47_4))) (((congrArg (fun z => rs (fI z)) (k_24 _ (by omega))).trans ((congrArg (fun z => rs (fI z)) (k_20 _ (by omega))).trans i47_5))))
          exact ⟨rfl, ⟨rfl, trivial⟩⟩
      refine aw_le ?_ (loop_47_12 16 0  V21 (by omega) (i21_2) (i21_3) (i21_4) (i21_5) (i21_6) ((rs_of i21_1)))
      exact ⟨rfl, ⟨rfl, trivial⟩⟩
    | succ g_21 ih_21_10 =>
      intro j21  V21 hj21 i21_0 i21_1 i21_2 i21_3 i21_4 i21_5 i21_6
      have hlj21 : j21 < 12 := by omega
      refine aw_iload_n dX12_putsBack_21 rfl ?_
      refine aw_bipush (v := 12) dX12_putsBack_22 (by decide) ?_
      refine aw_icmp_ge (tgt := 45) dX12_putsBack_24 (by decide) (fun c_25 => ?_) (fun c_25 => ?_)
      · exact absurd c_25 (nI_ge (a := j21) (b := 12) (by omega) (by omega))
      refine aw_aload_n dX12_putsBack_27 rfl ?_
      obtain ⟨ftoldPeople_26, ftoldDoors_26, fwasDoors_26, ffault_26, fopen_26, flines_26, fmeantSet_26, fopenedNow_26, fvainNow_26, flowNow_26, fhighNow_26, fisKept_26, tad_26, pl0_26, le0_26, nu0_26, coy_26, wag_26, say_26, e_26, hntad_26, hnpl0_26, hnle0_26, hnnu0_26, hncoy_26, hnwag_26, hnsay_26⟩ := JR.get i21_2 cm_100
      refine aw_get dX12_putsBack_28 fl_X12_19 e_26 (by omega) rfl ?_
      refine aw_iload_n dX12_putsBack_31 rfl ?_
      refine aw_aload_n dX12_putsBack_32 rfl ?_
      refine aw_get dX12_putsBack_33 fl_X12_22 e_26 (by omega) rfl ?_
      refine aw_iload_n dX12_putsBack_36 rfl ?_
      obtain ⟨g_27, e_27, p_27⟩ := JR.get i21_2 cm_105
      refine aw_iald (v := (g_27 j21)) dX12_putsBack_37 e_27 (by omega) (vp_in_nI (n := j21) (by omega) (by omega)) (congrArg g_27 (nI_clamp (n := j21) (by omega))) ?_
      obtain ⟨g_28, e_28, p_28⟩ := JR.get i21_2 cm_104
      refine aw_iast dX12_putsBack_38 e_28 (by omega) (vp_in_nI (n := j21) (by omega) (by omega)) ?_
      refine aw_upR i21_2 cm_104 ⟨_, rfl, isP_upd (P := (fun v => ∃ k : Nat, k < 4096 ∧ v = nI k)) p_28 (p_27 _ (by omega))⟩ (by decide) (WA (LMs LM0) (by decide) (by decide)) (fun V_29 j_29 k_29 e_29 => ?_)
      refine aw_iinc (v := (nI (j21 + 1))) (ls' := [some (.ref (b + 100)), some (.int (nI (j21 + 1)))]) dX12_putsBack_39 rfl (fx_up_1 _) (Nat.le_of_ble_eq_true rfl) rfl ?_
      refine aw_goto (tgt := 21) dX12_putsBack_42 (by decide) ?_
      refine aw_le ?_ (ih_21_10 (j21 + 1)  V_29 (by omega) (((k_29 _ (by decide)).trans i21_0)) ((cp_step e_27 i21_0 e_28 e_29 (nI_clamp (n := j21) (by omega)) i21_1)) (j_29) (((congrArg (fun z => fI z 208) (k_29 _ (by omega))).trans i21_3)) (((congrArg (fun z => fI z 208) (k_29 _ (by omega))).trans i21_4)) (((congrArg (fun z => fI z 10) (k_29 _ (by omega))).trans i21_5)) (((congrArg (fun z => fI z 11) (k_29 _ (by omega))).trans i21_6)))
      exact ⟨rfl, ⟨rfl, trivial⟩⟩
  refine aw_le ?_ (loop_21_9 12 0  V_9 (by omega) ((JR.same j_9 (by decide) (by decide) (fun k => (nfc (by omega) (nfc (by omega) (nfc (by omega) (nfc (by omega) nf0))))))) (fun k h => absurd h (Nat.not_lt_zero k)) (j_9) ((KA (s := 10) (x := .int (fI (V 100) 11)) e_8 rfl (by decide) e_9 k_9 ((h_3 208 (by decide)).trans (Eq.refl (fI (V 102) 208))))) ((KA (s := 10) (x := .int (fI (V 100) 11)) e_8 rfl (by decide) e_9 k_9 ((JR.fI q_2 (by decide) (by decide) (nfc (by omega) nf0)).trans (Eq.refl (fI (V 102) 208))))) (((congrArg (fun z => fI z 10) e_9).trans rfl)) ((KA (s := 10) (x := .int (fI (V 100) 11)) e_8 rfl (by decide) e_9 k_9 ((JR.fI q_2 (by decide) (by decide) (nfc (by omega) nf0)).trans (Eq.refl (fI (V 100) 11))))))
  exact ⟨rfl, ⟨rfl, trivial⟩⟩

set_option maxHeartbeats 100000000 in
set_option maxRecDepth 100000 in
theorem r_dreadsS2 (l : Launch) (D : va_G) (b : Nat) (N : Nat) (V : Wd) (hN : 133 ≤ N) (cl : Nat) (hW : CR D b cl V) (n0 : Int32) (n1 : Int32) (m0 : Int32) (m1 : Int32) (hm : m0 = n0 ∧ m1 = n1) : MI l D b 4 jX12_dreads [.ref (b + 100), .int n0, .int n1] N V 0 0 (fun r N9 V9 => (ANS (cDr m0 m1 (fI (V 100) 13)) r (cod (dX (gb (fI (V 110))) m1)) ∧ TKS (cDr m0 m1 (fI (V 100) 13)) (fI (V 100) 13) (fI (V9 100) 13) ∧ fI (V9 101) 208 = fI (V 101) 208 ∧ UPD (cDr m0 m1 (fI (V 100) 13)) (fI (V9 100) 9) (fI (V 100) 9) (pplD (dX (gb (fI (V 110))) m1) (fI (V 100) 9) m0) ∧ fI (V9 100) 10 = fI (V 100) 10 ∧ rs (fI (V9 104)) = rs (fI (V 104))) ∧ N = N9 ∧ JR D b N cl [(101, 102, 0, 1000000), (100, 100, 14, 14), (100, 100, 15, 15), (100, 100, 19, 19), (100, 100, 21, 21), (100, 100, 36, 36), (100, 100, 37, 37), (100, 100, 16, 16), (100, 100, 17, 17), (100, 100, 13, 13), (100, 100, 9, 9)] V V9) := by
  have hJ0 : JR D b N cl [(101, 102, 0, 1000000), (100, 100, 14, 14), (100, 100, 15, 15), (100, 100, 19, 19), (100, 100, 21, 21), (100, 100, 36, 36), (100, 100, 37, 37), (100, 100, 16, 16), (100, 100, 17, 17), (100, 100, 13, 13), (100, 100, 9, 9)] V V := JR.rf hW
  refine mw_of (by decide) (by simp [Value.category]) (Nat.le_of_ble_eq_true rfl) ?_
  show AW l D b jX12_dreads (fx_rm 4 0 0) none (fx_MQ D b 0 0 (fx_qi (fun r N9 V9 => (ANS (cDr m0 m1 (fI (V 100) 13)) r (cod (dX (gb (fI (V 110))) m1)) ∧ TKS (cDr m0 m1 (fI (V 100) 13)) (fI (V 100) 13) (fI (V9 100) 13) ∧ fI (V9 101) 208 = fI (V 101) 208 ∧ UPD (cDr m0 m1 (fI (V 100) 13)) (fI (V9 100) 9) (fI (V 100) 9) (pplD (dX (gb (fI (V 110))) m1) (fI (V 100) 9) m0) ∧ fI (V9 100) 10 = fI (V 100) 10 ∧ rs (fI (V9 104)) = rs (fI (V 104))) ∧ N = N9 ∧ JR D b N cl [(101, 102, 0, 1000000), (100, 100, 14, 14), (100, 100, 15, 15), (100, 100, 19, 19), (100, 100, 21, 21), (100, 100, 36, 36), (100, 100, 37, 37), (100, 100, 16, 16), (100, 100, 17, 17), (100, 100, 13, 13), (100, 100, 9, 9)] V V9))) 0 [some (.ref (b + 100)), some (.int n0), some (.int n1), none] [] N V 0 0
  obtain ⟨ftoldPeople_1, ftoldDoors_1, fwasDoors_1, ffault_1, fopen_1, flines_1, fmeantSet_1, fopenedNow_1, fvainNow_1, flowNow_1, fhighNow_1, fisKept_1, tad_1, pl0_1, le0_1, nu0_1, coy_1, wag_1, say_1, e_1, hntad_1, hnpl0_1, hnle0_1, hnnu0_1, hncoy_1, hnwag_1, hnsay_1⟩ := JR.get hJ0 cm_100
  have hta0 : fI (V 100) 13 = nI tad_1 := ((congrArg (fun z => fI z 13) e_1).trans rfl)
  obtain ⟨g_2, e_2⟩ := JR.get hJ0 cm_110
  refine aw_iload_n dX12_dreads_0 rfl ?_
  refine aw_iconst (v := 0) dX12_dreads_1 (by decide) ?_
  refine aw_bipush (v := 11) dX12_dreads_2 (by decide) ?_
  refine aw_callSi (J' := jX12_in) (As := [.int n0, .int 0, .int 11]) (st := []) dX12_dreads_4 tb_1209 ok_X12_in rfl (r_inK l D b N V hN cl hJ0.1 n0 0 11) rfl (Nat.le_of_ble_eq_true rfl) ⟨Nat.le_of_ble_eq_true rfl, Nat.le_of_ble_eq_true rfl, Nat.le_of_ble_eq_true rfl, Nat.le_of_ble_eq_true rfl⟩ (fun r_8 N_9 V_10 q_11 => ?_)
  obtain ⟨⟨z_5, h_4⟩, rfl, rfl⟩ := q_11
  obtain ⟨hi_6, hi_7⟩ := h_4
  refine aw_if_eq (tgt := 28) dX12_dreads_7 (by decide) (fun c_12 => ?_) (fun c_12 => ?_)
  · skip
    refine aw_iconst (v := (-1)) dX12_dreads_28 (by decide) ?_
    refine aw_ireti dX12_dreads_29 rfl (Nat.le_of_ble_eq_true rfl) (Nat.le_of_ble_eq_true rfl) ?_
    exact ⟨⟨Or.inr ⟨(by have zhi_7 := hi_7 c_12; have zt := fx_nIt (n := tad_1) (by omega); have e0 : (0 : Int32).toInt = 0 := (by decide); have e1 : (1 : Int32).toInt = 1 := (by decide); have e11 : (11 : Int32).toInt = 11 := (by decide); have e120 : (120 : Int32).toInt = 120 := (by decide); have q0 := zhi_7; have q1 := hm.1; have q2 := hm.2; have q3 := hta0; simp only [cDr, ← Int32.toInt_inj, Int32.le_iff_toInt_le, Int32.lt_iff_toInt_lt] at q0 q1 q2 q3 ⊢; omega), rfl⟩, Or.inr ⟨(by have zhi_7 := hi_7 c_12; have zt := fx_nIt (n := tad_1) (by omega); have e0 : (0 : Int32).toInt = 0 := (by decide); have e1 : (1 : Int32).toInt = 1 := (by decide); have e11 : (11 : Int32).toInt = 11 := (by decide); have e120 : (120 : Int32).toInt = 120 := (by decide); have q0 := zhi_7; have q1 := hm.1; have q2 := hm.2; have q3 := hta0; simp only [cDr, ← Int32.toInt_inj, Int32.le_iff_toInt_le, Int32.lt_iff_toInt_lt] at q0 q1 q2 q3 ⊢; omega), hta0.trans hta0.symm⟩, (Eq.refl (fI (V 101) 208)), Or.inr ⟨(by have zhi_7 := hi_7 c_12; have zt := fx_nIt (n := tad_1) (by omega); have e0 : (0 : Int32).toInt = 0 := (by decide); have e1 : (1 : Int32).toInt = 1 := (by decide); have e11 : (11 : Int32).toInt = 11 := (by decide); have e120 : (120 : Int32).toInt = 120 := (by decide); have q0 := zhi_7; have q1 := hm.1; have q2 := hm.2; have q3 := hta0; simp only [cDr, ← Int32.toInt_inj, Int32.le_iff_toInt_le, Int32.lt_iff_toInt_lt] at q0 q1 q2 q3 ⊢; omega), (Eq.refl (fI (V 100) 9))⟩, (Eq.refl (fI (V 100) 10)), (Eq.refl (rs (fI (V 104))))⟩, rfl, hJ0⟩
  · skip
    obtain ⟨zn0, h0zn0, hzn0, rfl⟩ := in_nat (a := 0) (b := 11) (by decide) (hi_6.resolve_left c_12)
    refine aw_iload_n dX12_dreads_10 rfl ?_
    refine aw_iconst (v := 1) dX12_dreads_11 (by decide) ?_
    refine aw_bipush (v := 120) dX12_dreads_12 (by decide) ?_
    refine aw_callSi (J' := jX12_in) (As := [.int n1, .int 1, .int 120]) (st := []) dX12_dreads_14 tb_1209 ok_X12_in rfl (r_inK l D b N V hN cl hJ0.1 n1 1 120) rfl (Nat.le_of_ble_eq_true rfl) ⟨Nat.le_of_ble_eq_true rfl, Nat.le_of_ble_eq_true rfl, Nat.le_of_ble_eq_true rfl, Nat.le_of_ble_eq_true rfl⟩ (fun r_18 N_19 V_20 q_21 => ?_)
    obtain ⟨⟨z_15, h_14⟩, rfl, rfl⟩ := q_21
    obtain ⟨hi_16, hi_17⟩ := h_14
    refine aw_if_eq (tgt := 28) dX12_dreads_17 (by decide) (fun c_22 => ?_) (fun c_22 => ?_)
    · skip
      refine aw_iconst (v := (-1)) dX12_dreads_28 (by decide) ?_
      refine aw_ireti dX12_dreads_29 rfl (Nat.le_of_ble_eq_true rfl) (Nat.le_of_ble_eq_true rfl) ?_
      exact ⟨⟨Or.inr ⟨(by have zhi_17 := hi_17 c_22; have zhi_6 := hi_6.resolve_left c_12; have zzzn0 := fx_nIt (n := zn0) (by omega); have zt := fx_nIt (n := tad_1) (by omega); have e0 : (0 : Int32).toInt = 0 := (by decide); have e1 : (1 : Int32).toInt = 1 := (by decide); have e11 : (11 : Int32).toInt = 11 := (by decide); have e120 : (120 : Int32).toInt = 120 := (by decide); have q0 := zhi_17; have q1 := zhi_6; have q2 := hm.1; have q3 := hm.2; have q4 := hta0; simp only [cDr, ← Int32.toInt_inj, Int32.le_iff_toInt_le, Int32.lt_iff_toInt_lt] at q0 q1 q2 q3 q4 ⊢; omega), rfl⟩, Or.inr ⟨(by have zhi_17 := hi_17 c_22; have zhi_6 := hi_6.resolve_left c_12; have zzzn0 := fx_nIt (n := zn0) (by omega); have zt := fx_nIt (n := tad_1) (by omega); have e0 : (0 : Int32).toInt = 0 := (by decide); have e1 : (1 : Int32).toInt = 1 := (by decide); have e11 : (11 : Int32).toInt = 11 := (by decide); have e120 : (120 : Int32).toInt = 120 := (by decide); have q0 := zhi_17; have q1 := zhi_6; have q2 := hm.1; have q3 := hm.2; have q4 := hta0; simp only [cDr, ← Int32.toInt_inj, Int32.le_iff_toInt_le, Int32.lt_iff_toInt_lt] at q0 q1 q2 q3 q4 ⊢; omega), hta0.trans hta0.symm⟩, (Eq.refl (fI (V 101) 208)), Or.inr ⟨(by have zhi_17 := hi_17 c_22; have zhi_6 := hi_6.resolve_left c_12; have zzzn0 := fx_nIt (n := zn0) (by omega); have zt := fx_nIt (n := tad_1) (by omega); have e0 : (0 : Int32).toInt = 0 := (by decide); have e1 : (1 : Int32).toInt = 1 := (by decide); have e11 : (11 : Int32).toInt = 11 := (by decide); have e120 : (120 : Int32).toInt = 120 := (by decide); have q0 := zhi_17; have q1 := zhi_6; have q2 := hm.1; have q3 := hm.2; have q4 := hta0; simp only [cDr, ← Int32.toInt_inj, Int32.le_iff_toInt_le, Int32.lt_iff_toInt_lt] at q0 q1 q2 q3 q4 ⊢; omega), (Eq.refl (fI (V 100) 9))⟩, (Eq.refl (fI (V 100) 10)), (Eq.refl (rs (fI (V 104))))⟩, rfl, hJ0⟩
    · skip
      obtain ⟨zn1, h0zn1, hzn1, rfl⟩ := in_nat (a := 1) (b := 120) (by decide) (hi_16.resolve_left c_22)
      refine aw_iload_n dX12_dreads_20 rfl ?_
      refine aw_aload_n dX12_dreads_21 rfl ?_
      refine aw_get dX12_dreads_22 fl_X12_152 e_1 (by omega) rfl ?_
      refine aw_icmp_le (tgt := 30) dX12_dreads_25 (by decide) (fun c_23 => ?_) (fun c_23 => ?_)
      · skip
        have nc_23 : zn1 ≤ tad_1 := (nI_leI (a := zn1) (b := tad_1) (by omega) (by omega)).mp c_23
        refine aw_aload_n dX12_dreads_30 rfl ?_
        refine aw_iload_n dX12_dreads_31 rfl ?_
        refine aw_callVv (J' := jX12_beginsText) (As := [.int (nI zn1)]) (st := []) dX12_dreads_32 tb_1212 ok_X12_beginsText ⟨_, e_1⟩ (by omega) rfl rfl (r_beginsTextS l D b N V hN cl hJ0.1 (nI zn1) ⟨zn1, by omega, rfl⟩) rfl (Nat.le_of_ble_eq_true rfl) ⟨Nat.le_of_ble_eq_true rfl, Nat.le_of_ble_eq_true rfl, Nat.le_of_ble_eq_true rfl, Nat.le_of_ble_eq_true rfl⟩ (fun  N_29 V_27 q_30 => ?_)
        obtain ⟨h_25, rfl, q_24⟩ := q_30
        have j_26 := JR.trans hJ0 (JR.weak q_24 (Sub.cons (LMs LM0) (by decide) (by decide) (by decide) (Or.inr ⟨by decide, by decide⟩) (Sub.cons (LMs (LMs LM0)) (by decide) (by decide) (by decide) (Or.inr ⟨by decide, by decide⟩) (Sub.cons (LMs (LMs (LMs LM0))) (by decide) (by decide) (by decide) (Or.inr ⟨by decide, by decide⟩) (Sub.cons (LMs (LMs (LMs (LMs LM0)))) (by decide) (by decide) (by decide) (Or.inr ⟨by decide, by decide⟩) Sub.nil)))))
        obtain ⟨hb_28a, hb_28b⟩ := h_25
        refine aw_aload_n dX12_dreads_35 rfl ?_
        refine aw_iconst (v := 0) dX12_dreads_36 (by decide) ?_
        obtain ⟨ftoldPeople_31, ftoldDoors_31, fwasDoors_31, ffault_31, fopen_31, flines_31, fmeantSet_31, fopenedNow_31, fvainNow_31, flowNow_31, fhighNow_31, fisKept_31, tad_31, pl0_31, le0_31, nu0_31, coy_31, wag_31, say_31, e_31, hntad_31, hnpl0_31, hnle0_31, hnnu0_31, hncoy_31, hnwag_31, hnsay_31⟩ := JR.get j_26 cm_100
        refine aw_put dX12_dreads_37 fp_X12_268 e_31 (by omega) rfl rfl (Nat.le_of_ble_eq_true rfl) rfl ?_
        refine aw_upR j_26 cm_100 ⟨_, _, _, _, _, _, _, _, _, _, _, _, tad_31, pl0_31, le0_31, nu0_31, coy_31, wag_31, say_31, rfl, by omega, by omega, by omega, by omega, by omega, by omega, by omega⟩ (by decide) (WO (s := 36) (x := .int 0) e_31 rfl (LMs (LMs (LMs (LMs (LMs LM0))))) (by decide) (by decide) (by decide) (Or.inl (by decide))) (fun V_32 j_32 k_32 e_32 => ?_)
        refine aw_aload_n dX12_dreads_40 rfl ?_
        refine aw_get dX12_dreads_41 fl_X12_7 e_32 (by omega) rfl ?_
        refine aw_aload_n dX12_dreads_44 rfl ?_
        refine aw_get dX12_dreads_45 fl_X12_13 e_32 (by omega) rfl ?_
        refine aw_callSv (J' := jX12_copies) (As := [.ref (b + 101), .ref (b + 102)]) (st := []) dX12_dreads_48 tb_1299 ok_X12_copies rfl (r_copiesK l D b N V_32 hN cl j_32.1 101 1 cm_101 102 2 cm_102 (by decide) (by decide)) rfl (Nat.le_of_ble_eq_true rfl) ⟨Nat.le_of_ble_eq_true rfl, Nat.le_of_ble_eq_true rfl, Nat.le_of_ble_eq_true rfl, Nat.le_of_ble_eq_true rfl⟩ (fun  N_37 V_36 q_38 => ?_)
        obtain ⟨h_34, rfl, q_33⟩ := q_38
        have j_35 := JR.trans j_32 (JR.weak q_33 (Sub.cons LM0 (by decide) (by decide) (by decide) (Or.inl rfl) Sub.nil))
        refine aw_aload_n dX12_dreads_51 rfl ?_
        refine aw_iload_n dX12_dreads_52 rfl ?_
        obtain ⟨ftoldPeople_44, ftoldDoors_44, fwasDoors_44, ffault_44, fopen_44, flines_44, fmeantSet_44, fopenedNow_44, fvainNow_44, flowNow_44, fhighNow_44, fisKept_44, tad_44, pl0_44, le0_44, nu0_44, coy_44, wag_44, say_44, e_44, hntad_44, hnpl0_44, hnle0_44, hnnu0_44, hncoy_44, hnwag_44, hnsay_44⟩ := JR.get j_35 cm_100
        refine aw_callVi (J' := jX12_readsDread) (As := [.int (nI zn0)]) (st := []) dX12_dreads_53 tb_1302 ok_X12_readsDread ⟨_, e_44⟩ (by omega) rfl rfl (r_readsDreadS l D b N V_36 hN cl j_35.1 (nI zn0) ⟨zn0, by omega, rfl⟩ g_2 ((JR.same q_33 (by decide) (by decide) (fun k => (nfc (by omega) nf0))).trans ((k_32 _ (by decide)).trans ((JR.same q_24 (by decide) (by decide) (fun k => (nfc (by omega) (nfc (by omega) (nfc (by omega) (nfc (by omega) nf0)))))).trans e_2))) zn1 0 ⟨by omega, by omega⟩ ((JR.fI q_33 (by decide) (by decide) (nfc (by omega) nf0)).trans (KA (s := 36) (x := .int 0) e_31 rfl (by decide) e_32 k_32 hb_28b)) ((JR.fI q_33 (by decide) (by decide) (nfc (by omega) nf0)).trans (KA (s := 36) (x := .int 0) e_31 rfl (by decide) e_32 k_32 hb_28a)) 0 ⟨((JR.fI q_33 (by decide) (by decide) (nfc (by omega) nf0)).trans ((congrArg (fun z => fI z 36) e_32).trans rfl)), by omega⟩) rfl (Nat.le_of_ble_eq_true rfl) ⟨Nat.le_of_ble_eq_true rfl, Nat.le_of_ble_eq_true rfl, Nat.le_of_ble_eq_true rfl, Nat.le_of_ble_eq_true rfl⟩ (fun r_45 N_46 V_43 q_47 => ?_)
        obtain ⟨⟨z_41, h_40⟩, rfl, q_39⟩ := q_47
        have j_42 := JR.trans j_35 (JR.weak q_39 (Sub.cons (LMs (LMs (LMs (LMs (LMs LM0))))) (by decide) (by decide) (by decide) (Or.inr ⟨by decide, by decide⟩) (Sub.cons (LMs (LMs (LMs (LMs (LMs (LMs LM0)))))) (by decide) (by decide) (by decide) (Or.inr ⟨by decide, by decide⟩) (Sub.cons (LMs (LMs (LMs (LMs (LMs (LMs (LMs LM0))))))) (by decide) (by decide) (by decide) (Or.inr ⟨by decide, by decide⟩) (Sub.cons (LMs LM0) (by decide) (by decide) (by decide) (Or.inr ⟨by decide, by decide⟩) (Sub.cons (LMs (LMs (LMs (LMs (LMs (LMs (LMs (LMs LM0)))))))) (by decide) (by decide) (by decide) (Or.inr ⟨by decide, by decide⟩) (Sub.cons LM0 (by decide) (by decide) (by decide) (Or.inl rfl) Sub.nil)))))))
        rcases h_40 with ⟨f_48, hx_49, hk_50, e_51⟩ | ⟨a_52, hst_53, hl_54, hx_55, hk_56, hL_57, hb_58, e_59⟩
        · skip
          refine aw_eqi (y := 0) e_51 ?_
          refine aw_istore_n (ls' := [some (.ref (b + 100)), some (.int (nI zn0)), some (.int (nI zn1)), some (.int 0)]) dX12_dreads_56 (Nat.le_of_ble_eq_true rfl) rfl ?_
          have ml_57_60 : ∀ (m : Nat) (a57 : Nat) (L57 : Nat) (v57_3 : Int32) (V57 : Wd), m = 2 * (240 - a57) + (if v57_3 = 0 then 0 else 1) → (JR D b N cl [(101, 102, 0, 1000000), (100, 100, 14, 14), (100, 100, 15, 15), (100, 100, 19, 19), (100, 100, 21, 21), (100, 100, 36, 36), (100, 100, 37, 37), (100, 100, 16, 16), (100, 100, 17, 17), (100, 100, 13, 13), (100, 100, 9, 9)] V V57) → (fI (V57 100) 15 = nI zn1) → (V57 110 = cB D 260 g_2) → ((v57_3 = 0 ∧ txD (gb g_2) zn1 20 0 = .inl (fI (V57 100) 16)) ∨ (v57_3 = 1 ∧ fI (V57 100) 14 = nI a57 ∧ fI (V57 100) 36 = nI L57 ∧ (1 ≤ L57 ∧ L57 ≤ 20 ∧ a57 ≤ zn1) ∧ afD (gb g_2) zn1 (20 - L57) a57 = txD (gb g_2) zn1 20 0)) → (a57 ≤ 240) → (fI (V57 100) 9 = (fI (V 100) 9)) → (fI (V57 101) 208 = (fI (V 101) 208)) → (fI (V57 102) 208 = (fI (V 101) 208)) → (fI (V57 100) 10 = (fI (V 100) 10)) → (rs (fI (V57 104)) = (rs (fI (V 104)))) → AW l D b jX12_dreads (fx_rm 4 0 0) none (fx_MQ D b 0 0 (fx_qi (fun r N9 V9 => (ANS (cDr m0 m1 (fI (V 100) 13)) r (cod (dX (gb (fI (V 110))) m1)) ∧ TKS (cDr m0 m1 (fI (V 100) 13)) (fI (V 100) 13) (fI (V9 100) 13) ∧ fI (V9 101) 208 = fI (V 101) 208 ∧ UPD (cDr m0 m1 (fI (V 100) 13)) (fI (V9 100) 9) (fI (V 100) 9) (pplD (dX (gb (fI (V 110))) m1) (fI (V 100) 9) m0) ∧ fI (V9 100) 10 = fI (V 100) 10 ∧ rs (fI (V9 104)) = rs (fI (V 104))) ∧ N = N9 ∧ JR D b N cl [(101, 102, 0, 1000000), (100, 100, 14, 14), (100, 100, 15, 15), (100, 100, 19, 19), (100, 100, 21, 21), (100, 100, 36, 36), (100, 100, 37, 37), (100, 100, 16, 16), (100, 100, 17, 17), (100, 100, 13, 13), (100, 100, 9, 9)] V V9))) 57 [some (.ref (b + 100)), some (.int (nI zn0)), some (.int (nI zn1)), some (.int v57_3)] [] N V57 0 0 := by
            intro m; refine Nat.strongRecOn m ?_
            intro m mih_57_60 a57 L57 v57_3 V57 hm57 i57_0 i57_1 i57_2 i57_3 i57_4 i57_5 i57_6 i57_7 i57_8 i57_9
            refine aw_iload_n dX12_dreads_57 rfl ?_
            refine aw_if_eq (tgt := 98) dX12_dreads_58 (by decide) (fun c_61 => ?_) (fun c_61 => ?_)
            · skip
              refine aw_aload_n dX12_dreads_98 rfl ?_
              refine aw_iconst (v := 0) dX12_dreads_99 (by decide) ?_
              obtain ⟨ftoldPeople_62, ftoldDoors_62, fwasDoors_62, ffault_62, fopen_62, flines_62, fmeantSet_62, fopenedNow_62, fvainNow_62, flowNow_62, fhighNow_62, fisKept_62, tad_62, pl0_62, le0_62, nu0_62, coy_62, wag_62, say_62, e_62, hntad_62, hnpl0_62, hnle0_62, hnnu0_62, hncoy_62, hnwag_62, hnsay_62⟩ := JR.get i57_0 cm_100
              refine aw_put dX12_dreads_100 fp_X12_152 e_62 (by omega) rfl rfl (Nat.le_of_ble_eq_true rfl) rfl ?_
              refine aw_upR i57_0 cm_100 ⟨_, _, _, _, _, _, _, _, _, _, _, _, 0, pl0_62, le0_62, nu0_62, coy_62, wag_62, say_62, rfl, by omega, by omega, by omega, by omega, by omega, by omega, by omega⟩ (by decide) (WO (s := 13) (x := .int 0) e_62 rfl (LMs (LMs (LMs (LMs (LMs (LMs (LMs (LMs (LMs LM0))))))))) (by decide) (by decide) (by decide) (Or.inl (by decide))) (fun V_63 j_63 k_63 e_63 => ?_)
              refine aw_iload_n dX12_dreads_103 rfl ?_
              refine aw_if_ne (tgt := 123) dX12_dreads_104 (by decide) (fun c_64 => ?_) (fun c_64 => ?_)
              · first | exact absurd c_64 c_61 | exact absurd c_61 c_64 | exact absurd c_64 (Int32.not_lt.mpr c_61) | exact absurd c_61 (Int32.not_lt.mpr c_64) | exact c_61 (Int32.not_lt.mp c_64) | exact c_61 (Int32.not_le.mp c_64)
              refine aw_aload_n dX12_dreads_107 rfl ?_
              refine aw_get dX12_dreads_108 fl_X12_13 e_63 (by omega) rfl ?_
              refine aw_aload_n dX12_dreads_111 rfl ?_
              refine aw_get dX12_dreads_112 fl_X12_7 e_63 (by omega) rfl ?_
              refine aw_callSv (J' := jX12_copies) (As := [.ref (b + 102), .ref (b + 101)]) (st := []) dX12_dreads_115 tb_1299 ok_X12_copies rfl (r_copiesK l D b N V_63 hN cl j_63.1 102 2 cm_102 101 1 cm_101 (by decide) (by decide)) rfl (Nat.le_of_ble_eq_true rfl) ⟨Nat.le_of_ble_eq_true rfl, Nat.le_of_ble_eq_true rfl, Nat.le_of_ble_eq_true rfl, Nat.le_of_ble_eq_true rfl⟩ (fun  N_69 V_68 q_70 => ?_)
              obtain ⟨h_66, rfl, q_65⟩ := q_70
              have j_67 := JR.trans j_63 (JR.weak q_65 (Sub.cons LM0 (by decide) (by decide) (by decide) (Or.inl rfl) Sub.nil))
              refine aw_aload_n dX12_dreads_118 rfl ?_
              obtain ⟨ftoldPeople_71, ftoldDoors_71, fwasDoors_71, ffault_71, fopen_71, flines_71, fmeantSet_71, fopenedNow_71, fvainNow_71, flowNow_71, fhighNow_71, fisKept_71, tad_71, pl0_71, le0_71, nu0_71, coy_71, wag_71, say_71, e_71, hntad_71, hnpl0_71, hnle0_71, hnnu0_71, hncoy_71, hnwag_71, hnsay_71⟩ := JR.get j_67 cm_100
              refine aw_get dX12_dreads_119 fl_X12_169 e_71 (by omega) rfl ?_
              refine aw_eqi (y := (fI (V57 100) 16)) ((Eq.symm (congrArg (fun z => fI z 16) e_71)).trans ((JR.fI q_65 (by decide) (by decide) (nfc (by omega) nf0)).trans (KA (s := 13) (x := .int 0) e_62 rfl (by decide) e_63 k_63 (Eq.refl (fI (V57 100) 16))))) ?_
              refine aw_ireti dX12_dreads_122 rfl (Nat.le_of_ble_eq_true rfl) (Nat.le_of_ble_eq_true rfl) ?_
              exact ⟨⟨Or.inl ⟨(by have zhi_6 := hi_6.resolve_left c_12; have zhi_16 := hi_16.resolve_left c_22; have zzzn0 := fx_nIt (n := zn0) (by omega); have zzzn1 := fx_nIt (n := zn1) (by omega); have zt := fx_nIt (n := tad_1) (by omega); have e0 : (0 : Int32).toInt = 0 := (by decide); have e1 : (1 : Int32).toInt = 1 := (by decide); have e11 : (11 : Int32).toInt = 11 := (by decide); have e120 : (120 : Int32).toInt = 120 := (by decide); have q0 := zhi_6; have q1 := zhi_16; have q2 := hm.1; have q3 := hm.2; have q4 := hta0; simp only [cDr, ← Int32.toInt_inj, Int32.le_iff_toInt_le, Int32.lt_iff_toInt_lt] at q0 q1 q2 q3 q4 ⊢; omega), (congrArg cod ((dX_ofm e_2 hm.2 (by omega)).trans (i57_3.resolve_right (fun z => absurd ((c_61).symm.trans z.1) (by decide))).2)).symm⟩, Or.inl ⟨(by have zhi_6 := hi_6.resolve_left c_12; have zhi_16 := hi_16.resolve_left c_22; have zzzn0 := fx_nIt (n := zn0) (by omega); have zzzn1 := fx_nIt (n := zn1) (by omega); have zt := fx_nIt (n := tad_1) (by omega); have e0 : (0 : Int32).toInt = 0 := (by decide); have e1 : (1 : Int32).toInt = 1 := (by decide); have e11 : (11 : Int32).toInt = 11 := (by decide); have e120 : (120 : Int32).toInt = 120 := (by decide); have q0 := zhi_6; have q1 := zhi_16; have q2 := hm.1; have q3 := hm.2; have q4 := hta0; simp only [cDr, ← Int32.toInt_inj, Int32.le_iff_toInt_le, Int32.lt_iff_toInt_lt] at q0 q1 q2 q3 q4 ⊢; omega), ((JR.fI q_65 (by decide) (by decide) (nfc (by omega) nf0)).trans ((congrArg (fun z => fI z 13) e_63).trans rfl))⟩, ((h_66 208 (by decide)).trans (KA (s := 13) (x := .int 0) e_62 rfl (by decide) e_63 k_63 i57_7)), Or.inl ⟨(by have zhi_6 := hi_6.resolve_left c_12; have zhi_16 := hi_16.resolve_left c_22; have zzzn0 := fx_nIt (n := zn0) (by omega); have zzzn1 := fx_nIt (n := zn1) (by omega); have zt := fx_nIt (n := tad_1) (by omega); have e0 : (0 : Int32).toInt = 0 := (by decide); have e1 : (1 : Int32).toInt = 1 := (by decide); have e11 : (11 : Int32).toInt = 11 := (by decide); have e120 : (120 : Int32).toInt = 120 := (by decide); have q0 := zhi_6; have q1 := zhi_16; have q2 := hm.1; have q3 := hm.2; have q4 := hta0; simp only [cDr, ← Int32.toInt_inj, Int32.le_iff_toInt_le, Int32.lt_iff_toInt_lt] at q0 q1 q2 q3 q4 ⊢; omega), (((JR.fI q_65 (by decide) (by decide) (nfc (by omega) nf0)).trans (KA (s := 13) (x := .int 0) e_62 rfl (by decide) e_63 k_63 i57_5))).trans (pplD_l ((dX_ofm e_2 hm.2 (by omega)).trans (i57_3.resolve_right (fun z => absurd ((c_61).symm.trans z.1) (by decide))).2)).symm⟩, ((JR.fI q_65 (by decide) (by decide) (nfc (by omega) nf0)).trans (KA (s := 13) (x := .int 0) e_62 rfl (by decide) e_63 k_63 i57_8)), ((congrArg (fun z => rs (fI z)) (JR.same q_65 (by decide) (by decide) (fun k => (nfc (by omega) nf0)))).trans ((congrArg (fun z => rs (fI z)) (k_63 _ (by omega))).trans i57_9))⟩, rfl, j_67⟩
            · skip
              obtain ⟨hgd57, hA57, hL57, ⟨b157, b257, b357⟩, hX57⟩ := i57_3.resolve_left (fun z => c_61 z.1)
              refine aw_aload_n dX12_dreads_61 rfl ?_
              obtain ⟨ftoldPeople_72, ftoldDoors_72, fwasDoors_72, ffault_72, fopen_72, flines_72, fmeantSet_72, fopenedNow_72, fvainNow_72, flowNow_72, fhighNow_72, fisKept_72, tad_72, pl0_72, le0_72, nu0_72, coy_72, wag_72, say_72, e_72, hntad_72, hnpl0_72, hnle0_72, hnnu0_72, hncoy_72, hnwag_72, hnsay_72⟩ := JR.get i57_0 cm_100
              refine aw_get dX12_dreads_62 fl_X12_159 e_72 (by omega) rfl ?_
              refine aw_eqi (y := (nI a57)) ((Eq.symm (congrArg (fun z => fI z 14) e_72)).trans hA57) ?_
              refine aw_aload_n dX12_dreads_65 rfl ?_
              refine aw_get dX12_dreads_66 fl_X12_162 e_72 (by omega) rfl ?_
              refine aw_eqi (y := (nI zn1)) ((Eq.symm (congrArg (fun z => fI z 15) e_72)).trans i57_1) ?_
              refine aw_icmp_ge (tgt := 98) dX12_dreads_69 (by decide) (fun c_73 => ?_) (fun c_73 => ?_)
              · skip
                have nc_73 : zn1 ≤ a57 := (nI_leI (a := zn1) (b := a57) (by omega) (by omega)).mp c_73
                refine aw_aload_n dX12_dreads_98 rfl ?_
                refine aw_iconst (v := 0) dX12_dreads_99 (by decide) ?_
                refine aw_put dX12_dreads_100 fp_X12_152 e_72 (by omega) rfl rfl (Nat.le_of_ble_eq_true rfl) rfl ?_
                refine aw_upR i57_0 cm_100 ⟨_, _, _, _, _, _, _, _, _, _, _, _, 0, pl0_72, le0_72, nu0_72, coy_72, wag_72, say_72, rfl, by omega, by omega, by omega, by omega, by omega, by omega, by omega⟩ (by decide) (WO (s := 13) (x := .int 0) e_72 rfl (LMs (LMs (LMs (LMs (LMs (LMs (LMs (LMs (LMs LM0))))))))) (by decide) (by decide) (by decide) (Or.inl (by decide))) (fun V_74 j_74 k_74 e_74 => ?_)
                refine aw_iload_n dX12_dreads_103 rfl ?_
                refine aw_if_ne (tgt := 123) dX12_dreads_104 (by decide) (fun c_75 => ?_) (fun c_75 => ?_)
                rotate_left
                · first | exact absurd c_61 c_75 | exact absurd c_75 c_61
                refine aw_aload_n dX12_dreads_123 rfl ?_
                refine aw_aload_n dX12_dreads_124 rfl ?_
                refine aw_get dX12_dreads_125 fl_X12_121 e_74 (by omega) rfl ?_
                refine aw_eqi (y := (fI (V 100) 9)) ((Eq.symm (congrArg (fun z => fI z 9) e_74)).trans (KA (s := 13) (x := .int 0) e_72 rfl (by decide) e_74 k_74 i57_5)) ?_
                refine aw_iconst (v := 1) dX12_dreads_128 (by decide) ?_
                refine aw_iload_n dX12_dreads_129 rfl ?_
                refine aw_ishl dX12_dreads_130 ?_
                refine aw_ior dX12_dreads_131 ?_
                refine aw_put dX12_dreads_132 fp_X12_121 e_74 (by omega) rfl rfl (Nat.le_of_ble_eq_true rfl) rfl ?_
                refine aw_upR j_74 cm_100 ⟨_, _, _, _, _, _, _, _, _, _, _, _, 0, pl0_72, le0_72, nu0_72, coy_72, wag_72, say_72, rfl, by omega, by omega, by omega, by omega, by omega, by omega, by omega⟩ (by decide) (WO (s := 9) (x := .int ((fI (V 100) 9) ||| ((1 : Int32) <<< ((nI zn0) &&& 31)))) e_74 rfl (LMs (LMs (LMs (LMs (LMs (LMs (LMs (LMs (LMs (LMs LM0)))))))))) (by decide) (by decide) (by decide) (Or.inl (by decide))) (fun V_76 j_76 k_76 e_76 => ?_)
                refine aw_aload_n dX12_dreads_135 rfl ?_
                refine aw_get dX12_dreads_136 fl_X12_268 e_76 (by omega) rfl ?_
                refine aw_eqi (y := (nI L57)) ((Eq.symm (congrArg (fun z => fI z 36) e_76)).trans (KA (s := 9) (x := .int ((fI (V 100) 9) ||| ((1 : Int32) <<< ((nI zn0) &&& 31)))) e_74 rfl (by decide) e_76 k_76 (KA (s := 13) (x := .int 0) e_72 rfl (by decide) e_74 k_74 hL57))) ?_
                refine aw_ireti dX12_dreads_139 rfl (Nat.le_of_ble_eq_true rfl) (Nat.le_of_ble_eq_true rfl) ?_
                exact ⟨⟨Or.inl ⟨(by have zhi_6 := hi_6.resolve_left c_12; have zhi_16 := hi_16.resolve_left c_22; have zzzn0 := fx_nIt (n := zn0) (by omega); have zzzn1 := fx_nIt (n := zn1) (by omega); have zt := fx_nIt (n := tad_1) (by omega); have e0 : (0 : Int32).toInt = 0 := (by decide); have e1 : (1 : Int32).toInt = 1 := (by decide); have e11 : (11 : Int32).toInt = 11 := (by decide); have e120 : (120 : Int32).toInt = 120 := (by decide); have q0 := zhi_6; have q1 := zhi_16; have q2 := hm.1; have q3 := hm.2; have q4 := hta0; simp only [cDr, ← Int32.toInt_inj, Int32.le_iff_toInt_le, Int32.lt_iff_toInt_lt] at q0 q1 q2 q3 q4 ⊢; omega), (congrArg nI (by omega : L57 = 20 - (20 - L57))).trans (congrArg cod ((dX_ofm e_2 hm.2 (by omega)).trans (hX57.symm.trans (af_end (by omega))))).symm⟩, Or.inl ⟨(by have zhi_6 := hi_6.resolve_left c_12; have zhi_16 := hi_16.resolve_left c_22; have zzzn0 := fx_nIt (n := zn0) (by omega); have zzzn1 := fx_nIt (n := zn1) (by omega); have zt := fx_nIt (n := tad_1) (by omega); have e0 : (0 : Int32).toInt = 0 := (by decide); have e1 : (1 : Int32).toInt = 1 := (by decide); have e11 : (11 : Int32).toInt = 11 := (by decide); have e120 : (120 : Int32).toInt = 120 := (by decide); have q0 := zhi_6; have q1 := zhi_16; have q2 := hm.1; have q3 := hm.2; have q4 := hta0; simp only [cDr, ← Int32.toInt_inj, Int32.le_iff_toInt_le, Int32.lt_iff_toInt_lt] at q0 q1 q2 q3 q4 ⊢; omega), (KA (s := 9) (x := .int ((fI (V 100) 9) ||| ((1 : Int32) <<< ((nI zn0) &&& 31)))) e_74 rfl (by decide) e_76 k_76 ((congrArg (fun z => fI z 13) e_74).trans rfl))⟩, (KA (s := 9) (x := .int ((fI (V 100) 9) ||| ((1 : Int32) <<< ((nI zn0) &&& 31)))) e_74 rfl (by decide) e_76 k_76 (KA (s := 13) (x := .int 0) e_72 rfl (by decide) e_74 k_74 i57_6)), Or.inl ⟨(by have zhi_6 := hi_6.resolve_left c_12; have zhi_16 := hi_16.resolve_left c_22; have zzzn0 := fx_nIt (n := zn0) (by omega); have zzzn1 := fx_nIt (n := zn1) (by omega); have zt := fx_nIt (n := tad_1) (by omega); have e0 : (0 : Int32).toInt = 0 := (by decide); have e1 : (1 : Int32).toInt = 1 := (by decide); have e11 : (11 : Int32).toInt = 11 := (by decide); have e120 : (120 : Int32).toInt = 120 := (by decide); have q0 := zhi_6; have q1 := zhi_16; have q2 := hm.1; have q3 := hm.2; have q4 := hta0; simp only [cDr, ← Int32.toInt_inj, Int32.le_iff_toInt_le, Int32.lt_iff_toInt_lt] at q0 q1 q2 q3 q4 ⊢; omega), ((((congrArg (fun z => fI z 9) e_76).trans rfl)).trans (congrArg (fun q => fI (V 100) 9 ||| (1 : Int32) <<< (q &&& 31)) hm.1.symm)).trans (pplD_r ((dX_ofm e_2 hm.2 (by omega)).trans (hX57.symm.trans (af_end (by omega))))).symm⟩, (KA (s := 9) (x := .int ((fI (V 100) 9) ||| ((1 : Int32) <<< ((nI zn0) &&& 31)))) e_74 rfl (by decide) e_76 k_76 (KA (s := 13) (x := .int 0) e_72 rfl (by decide) e_74 k_74 i57_8)), ((congrArg (fun z => rs (fI z)) (k_76 _ (by omega))).trans ((congrArg (fun z => rs (fI z)) (k_74 _ (by omega))).trans i57_9))⟩, rfl, j_76⟩
              · skip
                have nc_73 : ¬ (zn1 ≤ a57) := fun z => c_73 ((nI_leI (a := zn1) (b := a57) (by omega) (by omega)).mpr z)
                refine aw_aload_n dX12_dreads_72 rfl ?_
                refine aw_bipush (v := 59) dX12_dreads_73 (by decide) ?_
                refine aw_callVi (J' := jX12_takes) (As := [.int 59]) (st := []) dX12_dreads_75 tb_1291 ok_X12_takes ⟨_, e_72⟩ (by omega) rfl rfl (r_takesS l D b N V57 hN cl i57_0.1 59 g_2 i57_2 zn1 a57 ⟨by omega, by omega⟩ i57_1 hA57 (by decide)) rfl (Nat.le_of_ble_eq_true rfl) ⟨Nat.le_of_ble_eq_true rfl, Nat.le_of_ble_eq_true rfl, Nat.le_of_ble_eq_true rfl, Nat.le_of_ble_eq_true rfl⟩ (fun r_82 N_83 V_81 q_84 => ?_)
                obtain ⟨⟨z_79, h_78⟩, rfl, q_77⟩ := q_84
                have j_80 := JR.trans i57_0 (JR.weak q_77 (Sub.cons (LMs LM0) (by decide) (by decide) (by decide) (Or.inr ⟨by decide, by decide⟩) (Sub.cons (LMs (LMs (LMs (LMs (LMs (LMs (LMs LM0))))))) (by decide) (by decide) (by decide) (Or.inr ⟨by decide, by decide⟩) Sub.nil)))
                rcases h_78 with ⟨hy_85, hk_86, e_87⟩ | ⟨hn_88, hk_89, e_90⟩
                · skip
                  refine aw_eqi (y := 1) e_87 ?_
                  have hlhy_85 := hd_lit hy_85 (by decide)
                  refine aw_if_eq (tgt := 93) dX12_dreads_78 (by decide) (fun c_91 => ?_) (fun c_91 => ?_)
                  · exact absurd c_91 (by decide)
                  refine aw_aload_n dX12_dreads_81 rfl ?_
                  refine aw_iload_n dX12_dreads_82 rfl ?_
                  obtain ⟨ftoldPeople_97, ftoldDoors_97, fwasDoors_97, ffault_97, fopen_97, flines_97, fmeantSet_97, fopenedNow_97, fvainNow_97, flowNow_97, fhighNow_97, fisKept_97, tad_97, pl0_97, le0_97, nu0_97, coy_97, wag_97, say_97, e_97, hntad_97, hnpl0_97, hnle0_97, hnnu0_97, hncoy_97, hnwag_97, hnsay_97⟩ := JR.get j_80 cm_100
                  refine aw_callVi (J' := jX12_readsDread) (As := [.int (nI zn0)]) (st := []) dX12_dreads_83 tb_1302 ok_X12_readsDread ⟨_, e_97⟩ (by omega) rfl rfl (r_readsDreadS l D b N V_81 hN cl j_80.1 (nI zn0) ⟨zn0, by omega, rfl⟩ g_2 ((JR.same q_77 (by decide) (by decide) (fun k => (nfc (by omega) (nfc (by omega) nf0)))).trans i57_2) zn1 (a57 + 1) ⟨by omega, by omega⟩ ((JR.fI q_77 (by decide) (by decide) (nfc (by omega) (nfc (by omega) nf0))).trans i57_1) hk_86 L57 ⟨((JR.fI q_77 (by decide) (by decide) (nfc (by omega) (nfc (by omega) nf0))).trans hL57), by omega⟩) rfl (Nat.le_of_ble_eq_true rfl) ⟨Nat.le_of_ble_eq_true rfl, Nat.le_of_ble_eq_true rfl, Nat.le_of_ble_eq_true rfl, Nat.le_of_ble_eq_true rfl⟩ (fun r_98 N_99 V_96 q_100 => ?_)
                  obtain ⟨⟨z_94, h_93⟩, rfl, q_92⟩ := q_100
                  have j_95 := JR.trans j_80 (JR.weak q_92 (Sub.cons (LMs (LMs (LMs (LMs (LMs LM0))))) (by decide) (by decide) (by decide) (Or.inr ⟨by decide, by decide⟩) (Sub.cons (LMs (LMs (LMs (LMs (LMs (LMs LM0)))))) (by decide) (by decide) (by decide) (Or.inr ⟨by decide, by decide⟩) (Sub.cons (LMs (LMs (LMs (LMs (LMs (LMs (LMs LM0))))))) (by decide) (by decide) (by decide) (Or.inr ⟨by decide, by decide⟩) (Sub.cons (LMs LM0) (by decide) (by decide) (by decide) (Or.inr ⟨by decide, by decide⟩) (Sub.cons (LMs (LMs (LMs (LMs (LMs (LMs (LMs (LMs LM0)))))))) (by decide) (by decide) (by decide) (Or.inr ⟨by decide, by decide⟩) (Sub.cons LM0 (by decide) (by decide) (by decide) (Or.inl rfl) Sub.nil)))))))
                  rcases h_93 with ⟨f_101, hx_102, hk_103, e_104⟩ | ⟨a_105, hst_106, hl_107, hx_108, hk_109, hL_110, hb_111, e_112⟩
                  · skip
                    refine aw_eqi (y := 0) e_104 ?_
                    refine aw_if_eq (tgt := 93) dX12_dreads_86 (by decide) (fun c_113 => ?_) (fun c_113 => ?_)
                    rotate_left
                    · exact absurd (by decide) c_113
                    refine aw_iconst (v := 0) dX12_dreads_93 (by decide) ?_
                    refine aw_istore_n (ls' := [some (.ref (b + 100)), some (.int (nI zn0)), some (.int (nI zn1)), some (.int 0)]) dX12_dreads_94 (Nat.le_of_ble_eq_true rfl) rfl ?_
                    refine aw_goto (tgt := 57) dX12_dreads_95 (by decide) ?_
                    refine aw_le ?_ (mih_57_60 _ (by rw [hm57]; exact tl_dec c_61 (by omega) (Or.inl rfl) (by omega)) a57 L57 0 V_96 rfl (j_95) (((JR.fI q_92 (by decide) (by decide) (nfc (by omega) (nfc (by omega) (nfc (by omega) (nfc (by omega) (nfc (by omega) (nfc (by omega) nf0))))))).trans ((JR.fI q_77 (by decide) (by decide) (nfc (by omega) (nfc (by omega) nf0))).trans i57_1))) (((JR.same q_92 (by decide) (by decide) (fun k => (nfc (by omega) (nfc (by omega) (nfc (by omega) (nfc (by omega) (nfc (by omega) (nfc (by omega) nf0)))))))).trans ((JR.same q_77 (by decide) (by decide) (fun k => (nfc (by omega) (nfc (by omega) nf0)))).trans i57_2))) (Or.inl ⟨rfl, hX57.symm.trans ((af_go hy_85).trans (hx_102.trans (congrArg Sum.inl hk_103.symm)))⟩) (by omega) (((JR.fI q_92 (by decide) (by decide) (nfc (by omega) (nfc (by omega) (nfc (by omega) (nfc (by omega) (nfc (by omega) (nfc (by omega) nf0))))))).trans ((JR.fI q_77 (by decide) (by decide) (nfc (by omega) (nfc (by omega) nf0))).trans i57_5))) (((JR.fI q_92 (by decide) (by decide) (nfc (by omega) (nfc (by omega) (nfc (by omega) (nfc (by omega) (nfc (by omega) (nfc (by omega) nf0))))))).trans ((JR.fI q_77 (by decide) (by decide) (nfc (by omega) (nfc (by omega) nf0))).trans i57_6))) (((JR.fI q_92 (by decide) (by decide) (nfc (by omega) (nfc (by omega) (nfc (by omega) (nfc (by omega) (nfc (by omega) (nfc (by omega) nf0))))))).trans ((JR.fI q_77 (by decide) (by decide) (nfc (by omega) (nfc (by omega) nf0))).trans i57_7))) (((JR.fI q_92 (by decide) (by decide) (nfc (by omega) (nfc (by omega) (nfc (by omega) (nfc (by omega) (nfc (by omega) (nfc (by omega) nf0))))))).trans ((JR.fI q_77 (by decide) (by decide) (nfc (by omega) (nfc (by omega) nf0))).trans i57_8))) (((congrArg (fun z => rs (fI z)) (JR.same q_92 (by decide) (by decide) (fun k => (nfc (by omega) (nfc (by omega) (nfc (by omega) (nfc (by omega) (nfc (by omega) (nfc (by omega) nf0))))))))).trans ((congrArg (fun z => rs (fI z)) (JR.same q_77 (by decide) (by decide) (fun k => (nfc (by omega) (nfc (by omega) nf0))))).trans i57_9))))
                    exact ⟨rfl, ⟨rfl, ⟨rfl, ⟨rfl, trivial⟩⟩⟩⟩
                  · skip
                    refine aw_eqi (y := 1) e_112 ?_
                    obtain ⟨hb_111a, hb_111b⟩ := hb_111
                    refine aw_if_eq (tgt := 93) dX12_dreads_86 (by decide) (fun c_114 => ?_) (fun c_114 => ?_)
                    · exact absurd c_114 (by decide)
                    refine aw_iconst (v := 1) dX12_dreads_89 (by decide) ?_
                    refine aw_goto (tgt := 94) dX12_dreads_90 (by decide) ?_
                    refine aw_istore_n (ls' := [some (.ref (b + 100)), some (.int (nI zn0)), some (.int (nI zn1)), some (.int 1)]) dX12_dreads_94 (Nat.le_of_ble_eq_true rfl) rfl ?_
                    refine aw_goto (tgt := 57) dX12_dreads_95 (by decide) ?_
                    refine aw_le ?_ (mih_57_60 _ (by rw [hm57]; exact tl_dec c_61 (by omega) (Or.inr (by omega)) (by omega)) a_105 (L57 + 1) 1 V_96 rfl (j_95) (((JR.fI q_92 (by decide) (by decide) (nfc (by omega) (nfc (by omega) (nfc (by omega) (nfc (by omega) (nfc (by omega) (nfc (by omega) nf0))))))).trans ((JR.fI q_77 (by decide) (by decide) (nfc (by omega) (nfc (by omega) nf0))).trans i57_1))) (((JR.same q_92 (by decide) (by decide) (fun k => (nfc (by omega) (nfc (by omega) (nfc (by omega) (nfc (by omega) (nfc (by omega) (nfc (by omega) nf0)))))))).trans ((JR.same q_77 (by decide) (by decide) (fun k => (nfc (by omega) (nfc (by omega) nf0)))).trans i57_2))) (Or.inr ⟨rfl, hk_109, hL_110, ⟨by omega, by omega, by omega⟩, (by have q := (tx_go (M := 20) (ln := (fun a _ => lnD (gb g_2) zn1 a)) hst_106 hx_108 (by omega)).symm.trans ((af_go hy_85).symm.trans hX57); rw [show 20 - L57 - 1 = 20 - (L57 + 1) by omega] at q; exact q)⟩) (by omega) (((JR.fI q_92 (by decide) (by decide) (nfc (by omega) (nfc (by omega) (nfc (by omega) (nfc (by omega) (nfc (by omega) (nfc (by omega) nf0))))))).trans ((JR.fI q_77 (by decide) (by decide) (nfc (by omega) (nfc (by omega) nf0))).trans i57_5))) (((JR.fI q_92 (by decide) (by decide) (nfc (by omega) (nfc (by omega) (nfc (by omega) (nfc (by omega) (nfc (by omega) (nfc (by omega) nf0))))))).trans ((JR.fI q_77 (by decide) (by decide) (nfc (by omega) (nfc (by omega) nf0))).trans i57_6))) (((JR.fI q_92 (by decide) (by decide) (nfc (by omega) (nfc (by omega) (nfc (by omega) (nfc (by omega) (nfc (by omega) (nfc (by omega) nf0))))))).trans ((JR.fI q_77 (by decide) (by decide) (nfc (by omega) (nfc (by omega) nf0))).trans i57_7))) (((JR.fI q_92 (by decide) (by decide) (nfc (by omega) (nfc (by omega) (nfc (by omega) (nfc (by omega) (nfc (by omega) (nfc (by omega) nf0))))))).trans ((JR.fI q_77 (by decide) (by decide) (nfc (by omega) (nfc (by omega) nf0))).trans i57_8))) (((congrArg (fun z => rs (fI z)) (JR.same q_92 (by decide) (by decide) (fun k => (nfc (by omega) (nfc (by omega) (nfc (by omega) (nfc (by omega) (nfc (by omega) (nfc (by omega) nf0))))))))).trans ((congrArg (fun z => rs (fI z)) (JR.same q_77 (by decide) (by decide) (fun k => (nfc (by omega) (nfc (by omega) nf0))))).trans i57_9))))
                    exact ⟨rfl, ⟨rfl, ⟨rfl, ⟨rfl, trivial⟩⟩⟩⟩
                · skip
                  refine aw_eqi (y := 0) e_90 ?_
                  refine aw_if_eq (tgt := 93) dX12_dreads_78 (by decide) (fun c_115 => ?_) (fun c_115 => ?_)
                  rotate_left
                  · exact absurd (by decide) c_115
                  refine aw_iconst (v := 0) dX12_dreads_93 (by decide) ?_
                  refine aw_istore_n (ls' := [some (.ref (b + 100)), some (.int (nI zn0)), some (.int (nI zn1)), some (.int 0)]) dX12_dreads_94 (Nat.le_of_ble_eq_true rfl) rfl ?_
                  refine aw_goto (tgt := 57) dX12_dreads_95 (by decide) ?_
                  refine aw_le ?_ (mih_57_60 _ (by rw [hm57]; exact tl_dec c_61 (by omega) (Or.inl rfl) (by omega)) a57 L57 0 V_81 rfl (j_80) (((JR.fI q_77 (by decide) (by decide) (nfc (by omega) (nfc (by omega) nf0))).trans i57_1)) (((JR.same q_77 (by decide) (by decide) (fun k => (nfc (by omega) (nfc (by omega) nf0)))).trans i57_2)) (Or.inl ⟨rfl, hX57.symm.trans ((af_no (by omega) hn_88).trans (congrArg Sum.inl hk_89.symm))⟩) (by omega) (((JR.fI q_77 (by decide) (by decide) (nfc (by omega) (nfc (by omega) nf0))).trans i57_5)) (((JR.fI q_77 (by decide) (by decide) (nfc (by omega) (nfc (by omega) nf0))).trans i57_6)) (((JR.fI q_77 (by decide) (by decide) (nfc (by omega) (nfc (by omega) nf0))).trans i57_7)) (((JR.fI q_77 (by decide) (by decide) (nfc (by omega) (nfc (by omega) nf0))).trans i57_8)) (((congrArg (fun z => rs (fI z)) (JR.same q_77 (by decide) (by decide) (fun k => (nfc (by omega) (nfc (by omega) nf0))))).trans i57_9)))
                  exact ⟨rfl, ⟨rfl, ⟨rfl, ⟨rfl, trivial⟩⟩⟩⟩
          refine aw_le ?_ (ml_57_60 _ 0 0 0 V_43 rfl (j_42) (((JR.fI q_39 (by decide) (by decide) (nfc (by omega) (nfc (by omega) (nfc (by omega) (nfc (by omega) (nfc (by omega) (nfc (by omega) nf0))))))).trans ((JR.fI q_33 (by decide) (by decide) (nfc (by omega) nf0)).trans (KA (s := 36) (x := .int 0) e_31 rfl (by decide) e_32 k_32 hb_28b)))) (((JR.same q_39 (by decide) (by decide) (fun k => (nfc (by omega) (nfc (by omega) (nfc (by omega) (nfc (by omega) (nfc (by omega) (nfc (by omega) nf0)))))))).trans ((JR.same q_33 (by decide) (by decide) (fun k => (nfc (by omega) nf0))).trans ((k_32 _ (by decide)).trans ((JR.same q_24 (by decide) (by decide) (fun k => (nfc (by omega) (nfc (by omega) (nfc (by omega) (nfc (by omega) nf0)))))).trans e_2))))) (Or.inl ⟨rfl, hx_49.trans (congrArg Sum.inl hk_50.symm)⟩) (by omega) (((JR.fI q_39 (by decide) (by decide) (nfc (by omega) (nfc (by omega) (nfc (by omega) (nfc (by omega) (nfc (by omega) (nfc (by omega) nf0))))))).trans ((JR.fI q_33 (by decide) (by decide) (nfc (by omega) nf0)).trans (KA (s := 36) (x := .int 0) e_31 rfl (by decide) e_32 k_32 ((JR.fI q_24 (by decide) (by decide) (nfc (by omega) (nfc (by omega) (nfc (by omega) (nfc (by omega) nf0))))).trans (Eq.refl (fI (V 100) 9))))))) (((JR.fI q_39 (by decide) (by decide) (nfc (by omega) (nfc (by omega) (nfc (by omega) (nfc (by omega) (nfc (by omega) (nfc (by omega) nf0))))))).trans ((JR.fI q_33 (by decide) (by decide) (nfc (by omega) nf0)).trans (KA (s := 36) (x := .int 0) e_31 rfl (by decide) e_32 k_32 ((JR.fI q_24 (by decide) (by decide) (nfc (by omega) (nfc (by omega) (nfc (by omega) (nfc (by omega) nf0))))).trans (Eq.refl (fI (V 101) 208))))))) (((JR.fI q_39 (by decide) (by decide) (nfc (by omega) (nfc (by omega) (nfc (by omega) (nfc (by omega) (nfc (by omega) (nfc (by omega) nf0))))))).trans ((h_34 208 (by decide)).trans (KA (s := 36) (x := .int 0) e_31 rfl (by decide) e_32 k_32 ((JR.fI q_24 (by decide) (by decide) (nfc (by omega) (nfc (by omega) (nfc (by omega) (nfc (by omega) nf0))))).trans (Eq.refl (fI (V 101) 208))))))) (((JR.fI q_39 (by decide) (by decide) (nfc (by omega) (nfc (by omega) (nfc (by omega) (nfc (by omega) (nfc (by omega) (nfc (by omega) nf0))))))).trans ((JR.fI q_33 (by decide) (by decide) (nfc (by omega) nf0)).trans (KA (s := 36) (x := .int 0) e_31 rfl (by decide) e_32 k_32 ((JR.fI q_24 (by decide) (by decide) (nfc (by omega) (nfc (by omega) (nfc (by omega) (nfc (by omega) nf0))))).trans (Eq.refl (fI (V 100) 10))))))) (((congrArg (fun z => rs (fI z)) (JR.same q_39 (by decide) (by decide) (fun k => (nfc (by omega) (nfc (by omega) (nfc (by omega) (nfc (by omega) (nfc (by omega) (nfc (by omega) nf0))))))))).trans ((congrArg (fun z => rs (fI z)) (JR.same q_33 (by decide) (by decide) (fun k => (nfc (by omega) nf0)))).trans ((congrArg (fun z => rs (fI z)) (k_32 _ (by omega))).trans ((congrArg (fun z => rs (fI z)) (JR.same q_24 (by decide) (by decide) (fun k => (nfc (by omega) (nfc (by omega) (nfc (by omega) (nfc (by omega) nf0))))))).trans (Eq.refl (rs (fI (V 104))))))))))
          exact ⟨rfl, ⟨rfl, ⟨rfl, ⟨rfl, trivial⟩⟩⟩⟩
        · skip
          refine aw_eqi (y := 1) e_59 ?_
          obtain ⟨hb_58a, hb_58b⟩ := hb_58
          refine aw_istore_n (ls' := [some (.ref (b + 100)), some (.int (nI zn0)), some (.int (nI zn1)), some (.int 1)]) dX12_dreads_56 (Nat.le_of_ble_eq_true rfl) rfl ?_
          have ml_57_116 : ∀ (m : Nat) (a57 : Nat) (L57 : Nat) (v57_3 : Int32) (V57 : Wd), m = 2 * (240 - a57) + (if v57_3 = 0 then 0 else 1) → (JR D b N cl [(101, 102, 0, 1000000), (100, 100, 14, 14), (100, 100, 15, 15), (100, 100, 19, 19), (100, 100, 21, 21), (100, 100, 36, 36), (100, 100, 37, 37), (100, 100, 16, 16), (100, 100, 17, 17), (100, 100, 13, 13), (100, 100, 9, 9)] V V57) → (fI (V57 100) 15 = nI zn1) → (V57 110 = cB D 260 g_2) → ((v57_3 = 0 ∧ txD (gb g_2) zn1 20 0 = .inl (fI (V57 100) 16)) ∨ (v57_3 = 1 ∧ fI (V57 100) 14 = nI a57 ∧ fI (V57 100) 36 = nI L57 ∧ (1 ≤ L57 ∧ L57 ≤ 20 ∧ a57 ≤ zn1) ∧ afD (gb g_2) zn1 (20 - L57) a57 = txD (gb g_2) zn1 20 0)) → (a57 ≤ 240) → (fI (V57 100) 9 = (fI (V 100) 9)) → (fI (V57 101) 208 = (fI (V 101) 208)) → (fI (V57 102) 208 = (fI (V 101) 208)) → (fI (V57 100) 10 = (fI (V 100) 10)) → (rs (fI (V57 104)) = (rs (fI (V 104)))) → AW l D b jX12_dreads (fx_rm 4 0 0) none (fx_MQ D b 0 0 (fx_qi (fun r N9 V9 => (ANS (cDr m0 m1 (fI (V 100) 13)) r (cod (dX (gb (fI (V 110))) m1)) ∧ TKS (cDr m0 m1 (fI (V 100) 13)) (fI (V 100) 13) (fI (V9 100) 13) ∧ fI (V9 101) 208 = fI (V 101) 208 ∧ UPD (cDr m0 m1 (fI (V 100) 13)) (fI (V9 100) 9) (fI (V 100) 9) (pplD (dX (gb (fI (V 110))) m1) (fI (V 100) 9) m0) ∧ fI (V9 100) 10 = fI (V 100) 10 ∧ rs (fI (V9 104)) = rs (fI (V 104))) ∧ N = N9 ∧ JR D b N cl [(101, 102, 0, 1000000), (100, 100, 14, 14), (100, 100, 15, 15), (100, 100, 19, 19), (100, 100, 21, 21), (100, 100, 36, 36), (100, 100, 37, 37), (100, 100, 16, 16), (100, 100, 17, 17), (100, 100, 13, 13), (100, 100, 9, 9)] V V9))) 57 [some (.ref (b + 100)), some (.int (nI zn0)), some (.int (nI zn1)), some (.int v57_3)] [] N V57 0 0 := by
            intro m; refine Nat.strongRecOn m ?_
            intro m mih_57_116 a57 L57 v57_3 V57 hm57 i57_0 i57_1 i57_2 i57_3 i57_4 i57_5 i57_6 i57_7 i57_8 i57_9
            refine aw_iload_n dX12_dreads_57 rfl ?_
            refine aw_if_eq (tgt := 98) dX12_dreads_58 (by decide) (fun c_117 => ?_) (fun c_117 => ?_)
            · skip
              refine aw_aload_n dX12_dreads_98 rfl ?_
              refine aw_iconst (v := 0) dX12_dreads_99 (by decide) ?_
              obtain ⟨ftoldPeople_118, ftoldDoors_118, fwasDoors_118, ffault_118, fopen_118, flines_118, fmeantSet_118, fopenedNow_118, fvainNow_118, flowNow_118, fhighNow_118, fisKept_118, tad_118, pl0_118, le0_118, nu0_118, coy_118, wag_118, say_118, e_118, hntad_118, hnpl0_118, hnle0_118, hnnu0_118, hncoy_118, hnwag_118, hnsay_118⟩ := JR.get i57_0 cm_100
              refine aw_put dX12_dreads_100 fp_X12_152 e_118 (by omega) rfl rfl (Nat.le_of_ble_eq_true rfl) rfl ?_
              refine aw_upR i57_0 cm_100 ⟨_, _, _, _, _, _, _, _, _, _, _, _, 0, pl0_118, le0_118, nu0_118, coy_118, wag_118, say_118, rfl, by omega, by omega, by omega, by omega, by omega, by omega, by omega⟩ (by decide) (WO (s := 13) (x := .int 0) e_118 rfl (LMs (LMs (LMs (LMs (LMs (LMs (LMs (LMs (LMs LM0))))))))) (by decide) (by decide) (by decide) (Or.inl (by decide))) (fun V_119 j_119 k_119 e_119 => ?_)
              refine aw_iload_n dX12_dreads_103 rfl ?_
              refine aw_if_ne (tgt := 123) dX12_dreads_104 (by decide) (fun c_120 => ?_) (fun c_120 => ?_)
              · first | exact absurd c_120 c_117 | exact absurd c_117 c_120 | exact absurd c_120 (Int32.not_lt.mpr c_117) | exact absurd c_117 (Int32.not_lt.mpr c_120) | exact c_117 (Int32.not_lt.mp c_120) | exact c_117 (Int32.not_le.mp c_120)
              refine aw_aload_n dX12_dreads_107 rfl ?_
              refine aw_get dX12_dreads_108 fl_X12_13 e_119 (by omega) rfl ?_
              refine aw_aload_n dX12_dreads_111 rfl ?_
              refine aw_get dX12_dreads_112 fl_X12_7 e_119 (by omega) rfl ?_
              refine aw_callSv (J' := jX12_copies) (As := [.ref (b + 102), .ref (b + 101)]) (st := []) dX12_dreads_115 tb_1299 ok_X12_copies rfl (r_copiesK l D b N V_119 hN cl j_119.1 102 2 cm_102 101 1 cm_101 (by decide) (by decide)) rfl (Nat.le_of_ble_eq_true rfl) ⟨Nat.le_of_ble_eq_true rfl, Nat.le_of_ble_eq_true rfl, Nat.le_of_ble_eq_true rfl, Nat.le_of_ble_eq_true rfl⟩ (fun  N_125 V_124 q_126 => ?_)
              obtain ⟨h_122, rfl, q_121⟩ := q_126
              have j_123 := JR.trans j_119 (JR.weak q_121 (Sub.cons LM0 (by decide) (by decide) (by decide) (Or.inl rfl) Sub.nil))
              refine aw_aload_n dX12_dreads_118 rfl ?_
              obtain ⟨ftoldPeople_127, ftoldDoors_127, fwasDoors_127, ffault_127, fopen_127, flines_127, fmeantSet_127, fopenedNow_127, fvainNow_127, flowNow_127, fhighNow_127, fisKept_127, tad_127, pl0_127, le0_127, nu0_127, coy_127, wag_127, say_127, e_127, hntad_127, hnpl0_127, hnle0_127, hnnu0_127, hncoy_127, hnwag_127, hnsay_127⟩ := JR.get j_123 cm_100
              refine aw_get dX12_dreads_119 fl_X12_169 e_127 (by omega) rfl ?_
              refine aw_eqi (y := (fI (V57 100) 16)) ((Eq.symm (congrArg (fun z => fI z 16) e_127)).trans ((JR.fI q_121 (by decide) (by decide) (nfc (by omega) nf0)).trans (KA (s := 13) (x := .int 0) e_118 rfl (by decide) e_119 k_119 (Eq.refl (fI (V57 100) 16))))) ?_
              refine aw_ireti dX12_dreads_122 rfl (Nat.le_of_ble_eq_true rfl) (Nat.le_of_ble_eq_true rfl) ?_
              exact ⟨⟨Or.inl ⟨(by have zhi_6 := hi_6.resolve_left c_12; have zhi_16 := hi_16.resolve_left c_22; have zzzn0 := fx_nIt (n := zn0) (by omega); have zzzn1 := fx_nIt (n := zn1) (by omega); have zt := fx_nIt (n := tad_1) (by omega); have e0 : (0 : Int32).toInt = 0 := (by decide); have e1 : (1 : Int32).toInt = 1 := (by decide); have e11 : (11 : Int32).toInt = 11 := (by decide); have e120 : (120 : Int32).toInt = 120 := (by decide); have q0 := zhi_6; have q1 := zhi_16; have q2 := hm.1; have q3 := hm.2; have q4 := hta0; simp only [cDr, ← Int32.toInt_inj, Int32.le_iff_toInt_le, Int32.lt_iff_toInt_lt] at q0 q1 q2 q3 q4 ⊢; omega), (congrArg cod ((dX_ofm e_2 hm.2 (by omega)).trans (i57_3.resolve_right (fun z => absurd ((c_117).symm.trans z.1) (by decide))).2)).symm⟩, Or.inl ⟨(by have zhi_6 := hi_6.resolve_left c_12; have zhi_16 := hi_16.resolve_left c_22; have zzzn0 := fx_nIt (n := zn0) (by omega); have zzzn1 := fx_nIt (n := zn1) (by omega); have zt := fx_nIt (n := tad_1) (by omega); have e0 : (0 : Int32).toInt = 0 := (by decide); have e1 : (1 : Int32).toInt = 1 := (by decide); have e11 : (11 : Int32).toInt = 11 := (by decide); have e120 : (120 : Int32).toInt = 120 := (by decide); have q0 := zhi_6; have q1 := zhi_16; have q2 := hm.1; have q3 := hm.2; have q4 := hta0; simp only [cDr, ← Int32.toInt_inj, Int32.le_iff_toInt_le, Int32.lt_iff_toInt_lt] at q0 q1 q2 q3 q4 ⊢; omega), ((JR.fI q_121 (by decide) (by decide) (nfc (by omega) nf0)).trans ((congrArg (fun z => fI z 13) e_119).trans rfl))⟩, ((h_122 208 (by decide)).trans (KA (s := 13) (x := .int 0) e_118 rfl (by decide) e_119 k_119 i57_7)), Or.inl ⟨(by have zhi_6 := hi_6.resolve_left c_12; have zhi_16 := hi_16.resolve_left c_22; have zzzn0 := fx_nIt (n := zn0) (by omega); have zzzn1 := fx_nIt (n := zn1) (by omega); have zt := fx_nIt (n := tad_1) (by omega); have e0 : (0 : Int32).toInt = 0 := (by decide); have e1 : (1 : Int32).toInt = 1 := (by decide); have e11 : (11 : Int32).toInt = 11 := (by decide); have e120 : (120 : Int32).toInt = 120 := (by decide); have q0 := zhi_6; have q1 := zhi_16; have q2 := hm.1; have q3 := hm.2; have q4 := hta0; simp only [cDr, ← Int32.toInt_inj, Int32.le_iff_toInt_le, Int32.lt_iff_toInt_lt] at q0 q1 q2 q3 q4 ⊢; omega), (((JR.fI q_121 (by decide) (by decide) (nfc (by omega) nf0)).trans (KA (s := 13) (x := .int 0) e_118 rfl (by decide) e_119 k_119 i57_5))).trans (pplD_l ((dX_ofm e_2 hm.2 (by omega)).trans (i57_3.resolve_right (fun z => absurd ((c_117).symm.trans z.1) (by decide))).2)).symm⟩, ((JR.fI q_121 (by decide) (by decide) (nfc (by omega) nf0)).trans (KA (s := 13) (x := .int 0) e_118 rfl (by decide) e_119 k_119 i57_8)), ((congrArg (fun z => rs (fI z)) (JR.same q_121 (by decide) (by decide) (fun k => (nfc (by omega) nf0)))).trans ((congrArg (fun z => rs (fI z)) (k_119 _ (by omega))).trans i57_9))⟩, rfl, j_123⟩
            · skip
              obtain ⟨hgd57, hA57, hL57, ⟨b157, b257, b357⟩, hX57⟩ := i57_3.resolve_left (fun z => c_117 z.1)
              refine aw_aload_n dX12_dreads_61 rfl ?_
              obtain ⟨ftoldPeople_128, ftoldDoors_128, fwasDoors_128, ffault_128, fopen_128, flines_128, fmeantSet_128, fopenedNow_128, fvainNow_128, flowNow_128, fhighNow_128, fisKept_128, tad_128, pl0_128, le0_128, nu0_128, coy_128, wag_128, say_128, e_128, hntad_128, hnpl0_128, hnle0_128, hnnu0_128, hncoy_128, hnwag_128, hnsay_128⟩ := JR.get i57_0 cm_100
              refine aw_get dX12_dreads_62 fl_X12_159 e_128 (by omega) rfl ?_
              refine aw_eqi (y := (nI a57)) ((Eq.symm (congrArg (fun z => fI z 14) e_128)).trans hA57) ?_
              refine aw_aload_n dX12_dreads_65 rfl ?_
              refine aw_get dX12_dreads_66 fl_X12_162 e_128 (by omega) rfl ?_
              refine aw_eqi (y := (nI zn1)) ((Eq.symm (congrArg (fun z => fI z 15) e_128)).trans i57_1) ?_
              refine aw_icmp_ge (tgt := 98) dX12_dreads_69 (by decide) (fun c_129 => ?_) (fun c_129 => ?_)
              · skip
                have nc_129 : zn1 ≤ a57 := (nI_leI (a := zn1) (b := a57) (by omega) (by omega)).mp c_129
                refine aw_aload_n dX12_dreads_98 rfl ?_
                refine aw_iconst (v := 0) dX12_dreads_99 (by decide) ?_
                refine aw_put dX12_dreads_100 fp_X12_152 e_128 (by omega) rfl rfl (Nat.le_of_ble_eq_true rfl) rfl ?_
                refine aw_upR i57_0 cm_100 ⟨_, _, _, _, _, _, _, _, _, _, _, _, 0, pl0_128, le0_128, nu0_128, coy_128, wag_128, say_128, rfl, by omega, by omega, by omega, by omega, by omega, by omega, by omega⟩ (by decide) (WO (s := 13) (x := .int 0) e_128 rfl (LMs (LMs (LMs (LMs (LMs (LMs (LMs (LMs (LMs LM0))))))))) (by decide) (by decide) (by decide) (Or.inl (by decide))) (fun V_130 j_130 k_130 e_130 => ?_)
                refine aw_iload_n dX12_dreads_103 rfl ?_
                refine aw_if_ne (tgt := 123) dX12_dreads_104 (by decide) (fun c_131 => ?_) (fun c_131 => ?_)
                rotate_left
                · first | exact absurd c_117 c_131 | exact absurd c_131 c_117
                refine aw_aload_n dX12_dreads_123 rfl ?_
                refine aw_aload_n dX12_dreads_124 rfl ?_
                refine aw_get dX12_dreads_125 fl_X12_121 e_130 (by omega) rfl ?_
                refine aw_eqi (y := (fI (V 100) 9)) ((Eq.symm (congrArg (fun z => fI z 9) e_130)).trans (KA (s := 13) (x := .int 0) e_128 rfl (by decide) e_130 k_130 i57_5)) ?_
                refine aw_iconst (v := 1) dX12_dreads_128 (by decide) ?_
                refine aw_iload_n dX12_dreads_129 rfl ?_
                refine aw_ishl dX12_dreads_130 ?_
                refine aw_ior dX12_dreads_131 ?_
                refine aw_put dX12_dreads_132 fp_X12_121 e_130 (by omega) rfl rfl (Nat.le_of_ble_eq_true rfl) rfl ?_
                refine aw_upR j_130 cm_100 ⟨_, _, _, _, _, _, _, _, _, _, _, _, 0, pl0_128, le0_128, nu0_128, coy_128, wag_128, say_128, rfl, by omega, by omega, by omega, by omega, by omega, by omega, by omega⟩ (by decide) (WO (s := 9) (x := .int ((fI (V 100) 9) ||| ((1 : Int32) <<< ((nI zn0) &&& 31)))) e_130 rfl (LMs (LMs (LMs (LMs (LMs (LMs (LMs (LMs (LMs (LMs LM0)))))))))) (by decide) (by decide) (by decide) (Or.inl (by decide))) (fun V_132 j_132 k_132 e_132 => ?_)
                refine aw_aload_n dX12_dreads_135 rfl ?_
                refine aw_get dX12_dreads_136 fl_X12_268 e_132 (by omega) rfl ?_
                refine aw_eqi (y := (nI L57)) ((Eq.symm (congrArg (fun z => fI z 36) e_132)).trans (KA (s := 9) (x := .int ((fI (V 100) 9) ||| ((1 : Int32) <<< ((nI zn0) &&& 31)))) e_130 rfl (by decide) e_132 k_132 (KA (s := 13) (x := .int 0) e_128 rfl (by decide) e_130 k_130 hL57))) ?_
                refine aw_ireti dX12_dreads_139 rfl (Nat.le_of_ble_eq_true rfl) (Nat.le_of_ble_eq_true rfl) ?_
                exact ⟨⟨Or.inl ⟨(by have zhi_6 := hi_6.resolve_left c_12; have zhi_16 := hi_16.resolve_left c_22; have zzzn0 := fx_nIt (n := zn0) (by omega); have zzzn1 := fx_nIt (n := zn1) (by omega); have zt := fx_nIt (n := tad_1) (by omega); have e0 : (0 : Int32).toInt = 0 := (by decide); have e1 : (1 : Int32).toInt = 1 := (by decide); have e11 : (11 : Int32).toInt = 11 := (by decide); have e120 : (120 : Int32).toInt = 120 := (by decide); have q0 := zhi_6; have q1 := zhi_16; have q2 := hm.1; have q3 := hm.2; have q4 := hta0; simp only [cDr, ← Int32.toInt_inj, Int32.le_iff_toInt_le, Int32.lt_iff_toInt_lt] at q0 q1 q2 q3 q4 ⊢; omega), (congrArg nI (by omega : L57 = 20 - (20 - L57))).trans (congrArg cod ((dX_ofm e_2 hm.2 (by omega)).trans (hX57.symm.trans (af_end (by omega))))).symm⟩, Or.inl ⟨(by have zhi_6 := hi_6.resolve_left c_12; have zhi_16 := hi_16.resolve_left c_22; have zzzn0 := fx_nIt (n := zn0) (by omega); have zzzn1 := fx_nIt (n := zn1) (by omega); have zt := fx_nIt (n := tad_1) (by omega); have e0 : (0 : Int32).toInt = 0 := (by decide); have e1 : (1 : Int32).toInt = 1 := (by decide); have e11 : (11 : Int32).toInt = 11 := (by decide); have e120 : (120 : Int32).toInt = 120 := (by decide); have q0 := zhi_6; have q1 := zhi_16; have q2 := hm.1; have q3 := hm.2; have q4 := hta0; simp only [cDr, ← Int32.toInt_inj, Int32.le_iff_toInt_le, Int32.lt_iff_toInt_lt] at q0 q1 q2 q3 q4 ⊢; omega), (KA (s := 9) (x := .int ((fI (V 100) 9) ||| ((1 : Int32) <<< ((nI zn0) &&& 31)))) e_130 rfl (by decide) e_132 k_132 ((congrArg (fun z => fI z 13) e_130).trans rfl))⟩, (KA (s := 9) (x := .int ((fI (V 100) 9) ||| ((1 : Int32) <<< ((nI zn0) &&& 31)))) e_130 rfl (by decide) e_132 k_132 (KA (s := 13) (x := .int 0) e_128 rfl (by decide) e_130 k_130 i57_6)), Or.inl ⟨(by have zhi_6 := hi_6.resolve_left c_12; have zhi_16 := hi_16.resolve_left c_22; have zzzn0 := fx_nIt (n := zn0) (by omega); have zzzn1 := fx_nIt (n := zn1) (by omega); have zt := fx_nIt (n := tad_1) (by omega); have e0 : (0 : Int32).toInt = 0 := (by decide); have e1 : (1 : Int32).toInt = 1 := (by decide); have e11 : (11 : Int32).toInt = 11 := (by decide); have e120 : (120 : Int32).toInt = 120 := (by decide); have q0 := zhi_6; have q1 := zhi_16; have q2 := hm.1; have q3 := hm.2; have q4 := hta0; simp only [cDr, ← Int32.toInt_inj, Int32.le_iff_toInt_le, Int32.lt_iff_toInt_lt] at q0 q1 q2 q3 q4 ⊢; omega), ((((congrArg (fun z => fI z 9) e_132).trans rfl)).trans (congrArg (fun q => fI (V 100) 9 ||| (1 : Int32) <<< (q &&& 31)) hm.1.symm)).trans (pplD_r ((dX_ofm e_2 hm.2 (by omega)).trans (hX57.symm.trans (af_end (by omega))))).symm⟩, (KA (s := 9) (x := .int ((fI (V 100) 9) ||| ((1 : Int32) <<< ((nI zn0) &&& 31)))) e_130 rfl (by decide) e_132 k_132 (KA (s := 13) (x := .int 0) e_128 rfl (by decide) e_130 k_130 i57_8)), ((congrArg (fun z => rs (fI z)) (k_132 _ (by omega))).trans ((congrArg (fun z => rs (fI z)) (k_130 _ (by omega))).trans i57_9))⟩, rfl, j_132⟩
              · skip
                have nc_129 : ¬ (zn1 ≤ a57) := fun z => c_129 ((nI_leI (a := zn1) (b := a57) (by omega) (by omega)).mpr z)
                refine aw_aload_n dX12_dreads_72 rfl ?_
                refine aw_bipush (v := 59) dX12_dreads_73 (by decide) ?_
                refine aw_callVi (J' := jX12_takes) (As := [.int 59]) (st := []) dX12_dreads_75 tb_1291 ok_X12_takes ⟨_, e_128⟩ (by omega) rfl rfl (r_takesS l D b N V57 hN cl i57_0.1 59 g_2 i57_2 zn1 a57 ⟨by omega, by omega⟩ i57_1 hA57 (by decide)) rfl (Nat.le_of_ble_eq_true rfl) ⟨Nat.le_of_ble_eq_true rfl, Nat.le_of_ble_eq_true rfl, Nat.le_of_ble_eq_true rfl, Nat.le_of_ble_eq_true rfl⟩ (fun r_138 N_139 V_137 q_140 => ?_)
                obtain ⟨⟨z_135, h_134⟩, rfl, q_133⟩ := q_140
                have j_136 := JR.trans i57_0 (JR.weak q_133 (Sub.cons (LMs LM0) (by decide) (by decide) (by decide) (Or.inr ⟨by decide, by decide⟩) (Sub.cons (LMs (LMs (LMs (LMs (LMs (LMs (LMs LM0))))))) (by decide) (by decide) (by decide) (Or.inr ⟨by decide, by decide⟩) Sub.nil)))
                rcases h_134 with ⟨hy_141, hk_142, e_143⟩ | ⟨hn_144, hk_145, e_146⟩
                · skip
                  refine aw_eqi (y := 1) e_143 ?_
                  have hlhy_141 := hd_lit hy_141 (by decide)
                  refine aw_if_eq (tgt := 93) dX12_dreads_78 (by decide) (fun c_147 => ?_) (fun c_147 => ?_)
                  · exact absurd c_147 (by decide)
                  refine aw_aload_n dX12_dreads_81 rfl ?_
                  refine aw_iload_n dX12_dreads_82 rfl ?_
                  obtain ⟨ftoldPeople_153, ftoldDoors_153, fwasDoors_153, ffault_153, fopen_153, flines_153, fmeantSet_153, fopenedNow_153, fvainNow_153, flowNow_153, fhighNow_153, fisKept_153, tad_153, pl0_153, le0_153, nu0_153, coy_153, wag_153, say_153, e_153, hntad_153, hnpl0_153, hnle0_153, hnnu0_153, hncoy_153, hnwag_153, hnsay_153⟩ := JR.get j_136 cm_100
                  refine aw_callVi (J' := jX12_readsDread) (As := [.int (nI zn0)]) (st := []) dX12_dreads_83 tb_1302 ok_X12_readsDread ⟨_, e_153⟩ (by omega) rfl rfl (r_readsDreadS l D b N V_137 hN cl j_136.1 (nI zn0) ⟨zn0, by omega, rfl⟩ g_2 ((JR.same q_133 (by decide) (by decide) (fun k => (nfc (by omega) (nfc (by omega) nf0)))).trans i57_2) zn1 (a57 + 1) ⟨by omega, by omega⟩ ((JR.fI q_133 (by decide) (by decide) (nfc (by omega) (nfc (by omega) nf0))).trans i57_1) hk_142 L57 ⟨((JR.fI q_133 (by decide) (by decide) (nfc (by omega) (nfc (by omega) nf0))).trans hL57), by omega⟩) rfl (Nat.le_of_ble_eq_true rfl) ⟨Nat.le_of_ble_eq_true rfl, Nat.le_of_ble_eq_true rfl, Nat.le_of_ble_eq_true rfl, Nat.le_of_ble_eq_true rfl⟩ (fun r_154 N_155 V_152 q_156 => ?_)
                  obtain ⟨⟨z_150, h_149⟩, rfl, q_148⟩ := q_156
                  have j_151 := JR.trans j_136 (JR.weak q_148 (Sub.cons (LMs (LMs (LMs (LMs (LMs LM0))))) (by decide) (by decide) (by decide) (Or.inr ⟨by decide, by decide⟩) (Sub.cons (LMs (LMs (LMs (LMs (LMs (LMs LM0)))))) (by decide) (by decide) (by decide) (Or.inr ⟨by decide, by decide⟩) (Sub.cons (LMs (LMs (LMs (LMs (LMs (LMs (LMs LM0))))))) (by decide) (by decide) (by decide) (Or.inr ⟨by decide, by decide⟩) (Sub.cons (LMs LM0) (by decide) (by decide) (by decide) (Or.inr ⟨by decide, by decide⟩) (Sub.cons (LMs (LMs (LMs (LMs (LMs (LMs (LMs (LMs LM0)))))))) (by decide) (by decide) (by decide) (Or.inr ⟨by decide, by decide⟩) (Sub.cons LM0 (by decide) (by decide) (by decide) (Or.inl rfl) Sub.nil)))))))
                  rcases h_149 with ⟨f_157, hx_158, hk_159, e_160⟩ | ⟨a_161, hst_162, hl_163, hx_164, hk_165, hL_166, hb_167, e_168⟩
                  · skip
                    refine aw_eqi (y := 0) e_160 ?_
                    refine aw_if_eq (tgt := 93) dX12_dreads_86 (by decide) (fun c_169 => ?_) (fun c_169 => ?_)
                    rotate_left
                    · exact absurd (by decide) c_169
                    refine aw_iconst (v := 0) dX12_dreads_93 (by decide) ?_
                    refine aw_istore_n (ls' := [some (.ref (b + 100)), some (.int (nI zn0)), some (.int (nI zn1)), some (.int 0)]) dX12_dreads_94 (Nat.le_of_ble_eq_true rfl) rfl ?_
                    refine aw_goto (tgt := 57) dX12_dreads_95 (by decide) ?_
                    refine aw_le ?_ (mih_57_116 _ (by rw [hm57]; exact tl_dec c_117 (by omega) (Or.inl rfl) (by omega)) a57 L57 0 V_152 rfl (j_151) (((JR.fI q_148 (by decide) (by decide) (nfc (by omega) (nfc (by omega) (nfc (by omega) (nfc (by omega) (nfc (by omega) (nfc (by omega) nf0))))))).trans ((JR.fI q_133 (by decide) (by decide) (nfc (by omega) (nfc (by omega) nf0))).trans i57_1))) (((JR.same q_148 (by decide) (by decide) (fun k => (nfc (by omega) (nfc (by omega) (nfc (by omega) (nfc (by omega) (nfc (by omega) (nfc (by omega) nf0)))))))).trans ((JR.same q_133 (by decide) (by decide) (fun k => (nfc (by omega) (nfc (by omega) nf0)))).trans i57_2))) (Or.inl ⟨rfl, hX57.symm.trans ((af_go hy_141).trans (hx_158.trans (congrArg Sum.inl hk_159.symm)))⟩) (by omega) (((JR.fI q_148 (by decide) (by decide) (nfc (by omega) (nfc (by omega) (nfc (by omega) (nfc (by omega) (nfc (by omega) (nfc (by omega) nf0))))))).trans ((JR.fI q_133 (by decide) (by decide) (nfc (by omega) (nfc (by omega) nf0))).trans i57_5))) (((JR.fI q_148 (by decide) (by decide) (nfc (by omega) (nfc (by omega) (nfc (by omega) (nfc (by omega) (nfc (by omega) (nfc (by omega) nf0))))))).trans ((JR.fI q_133 (by decide) (by decide) (nfc (by omega) (nfc (by omega) nf0))).trans i57_6))) (((JR.fI q_148 (by decide) (by decide) (nfc (by omega) (nfc (by omega) (nfc (by omega) (nfc (by omega) (nfc (by omega) (nfc (by omega) nf0))))))).trans ((JR.fI q_133 (by decide) (by decide) (nfc (by omega) (nfc (by omega) nf0))).trans i57_7))) (((JR.fI q_148 (by decide) (by decide) (nfc (by omega) (nfc (by omega) (nfc (by omega) (nfc (by omega) (nfc (by omega) (nfc (by omega) nf0))))))).trans ((JR.fI q_133 (by decide) (by decide) (nfc (by omega) (nfc (by omega) nf0))).trans i57_8))) (((congrArg (fun z => rs (fI z)) (JR.same q_148 (by decide) (by decide) (fun k => (nfc (by omega) (nfc (by omega) (nfc (by omega) (nfc (by omega) (nfc (by omega) (nfc (by omega) nf0))))))))).trans ((congrArg (fun z => rs (fI z)) (JR.same q_133 (by decide) (by decide) (fun k => (nfc (by omega) (nfc (by omega) nf0))))).trans i57_9))))
                    exact ⟨rfl, ⟨rfl, ⟨rfl, ⟨rfl, trivial⟩⟩⟩⟩
                  · skip
                    refine aw_eqi (y := 1) e_168 ?_
                    obtain ⟨hb_167a, hb_167b⟩ := hb_167
                    refine aw_if_eq (tgt := 93) dX12_dreads_86 (by decide) (fun c_170 => ?_) (fun c_170 => ?_)
                    · exact absurd c_170 (by decide)
                    refine aw_iconst (v := 1) dX12_dreads_89 (by decide) ?_
                    refine aw_goto (tgt := 94) dX12_dreads_90 (by decide) ?_
                    refine aw_istore_n (ls' := [some (.ref (b + 100)), some (.int (nI zn0)), some (.int (nI zn1)), some (.int 1)]) dX12_dreads_94 (Nat.le_of_ble_eq_true rfl) rfl ?_
                    refine aw_goto (tgt := 57) dX12_dreads_95 (by decide) ?_
                    refine aw_le ?_ (mih_57_116 _ (by rw [hm57]; exact tl_dec c_117 (by omega) (Or.inr (by omega)) (by omega)) a_161 (L57 + 1) 1 V_152 rfl (j_151) (((JR.fI q_148 (by decide) (by decide) (nfc (by omega) (nfc (by omega) (nfc (by omega) (nfc (by omega) (nfc (by omega) (nfc (by omega) nf0))))))).trans ((JR.fI q_133 (by decide) (by decide) (nfc (by omega) (nfc (by omega) nf0))).trans i57_1))) (((JR.same q_148 (by decide) (by decide) (fun k => (nfc (by omega) (nfc (by omega) (nfc (by omega) (nfc (by omega) (nfc (by omega) (nfc (by omega) nf0)))))))).trans ((JR.same q_133 (by decide) (by decide) (fun k => (nfc (by omega) (nfc (by omega) nf0)))).trans i57_2))) (Or.inr ⟨rfl, hk_165, hL_166, ⟨by omega, by omega, by omega⟩, (by have q := (tx_go (M := 20) (ln := (fun a _ => lnD (gb g_2) zn1 a)) hst_162 hx_164 (by omega)).symm.trans ((af_go hy_141).symm.trans hX57); rw [show 20 - L57 - 1 = 20 - (L57 + 1) by omega] at q; exact q)⟩) (by omega) (((JR.fI q_148 (by decide) (by decide) (nfc (by omega) (nfc (by omega) (nfc (by omega) (nfc (by omega) (nfc (by omega) (nfc (by omega) nf0))))))).trans ((JR.fI q_133 (by decide) (by decide) (nfc (by omega) (nfc (by omega) nf0))).trans i57_5))) (((JR.fI q_148 (by decide) (by decide) (nfc (by omega) (nfc (by omega) (nfc (by omega) (nfc (by omega) (nfc (by omega) (nfc (by omega) nf0))))))).trans ((JR.fI q_133 (by decide) (by decide) (nfc (by omega) (nfc (by omega) nf0))).trans i57_6))) (((JR.fI q_148 (by decide) (by decide) (nfc (by omega) (nfc (by omega) (nfc (by omega) (nfc (by omega) (nfc (by omega) (nfc (by omega) nf0))))))).trans ((JR.fI q_133 (by decide) (by decide) (nfc (by omega) (nfc (by omega) nf0))).trans i57_7))) (((JR.fI q_148 (by decide) (by decide) (nfc (by omega) (nfc (by omega) (nfc (by omega) (nfc (by omega) (nfc (by omega) (nfc (by omega) nf0))))))).trans ((JR.fI q_133 (by decide) (by decide) (nfc (by omega) (nfc (by omega) nf0))).trans i57_8))) (((congrArg (fun z => rs (fI z)) (JR.same q_148 (by decide) (by decide) (fun k => (nfc (by omega) (nfc (by omega) (nfc (by omega) (nfc (by omega) (nfc (by omega) (nfc (by omega) nf0))))))))).trans ((congrArg (fun z => rs (fI z)) (JR.same q_133 (by decide) (by decide) (fun k => (nfc (by omega) (nfc (by omega) nf0))))).trans i57_9))))
                    exact ⟨rfl, ⟨rfl, ⟨rfl, ⟨rfl, trivial⟩⟩⟩⟩
                · skip
                  refine aw_eqi (y := 0) e_146 ?_
                  refine aw_if_eq (tgt := 93) dX12_dreads_78 (by decide) (fun c_171 => ?_) (fun c_171 => ?_)
                  rotate_left
                  · exact absurd (by decide) c_171
                  refine aw_iconst (v := 0) dX12_dreads_93 (by decide) ?_
                  refine aw_istore_n (ls' := [some (.ref (b + 100)), some (.int (nI zn0)), some (.int (nI zn1)), some (.int 0)]) dX12_dreads_94 (Nat.le_of_ble_eq_true rfl) rfl ?_
                  refine aw_goto (tgt := 57) dX12_dreads_95 (by decide) ?_
                  refine aw_le ?_ (mih_57_116 _ (by rw [hm57]; exact tl_dec c_117 (by omega) (Or.inl rfl) (by omega)) a57 L57 0 V_137 rfl (j_136) (((JR.fI q_133 (by decide) (by decide) (nfc (by omega) (nfc (by omega) nf0))).trans i57_1)) (((JR.same q_133 (by decide) (by decide) (fun k => (nfc (by omega) (nfc (by omega) nf0)))).trans i57_2)) (Or.inl ⟨rfl, hX57.symm.trans ((af_no (by omega) hn_144).trans (congrArg Sum.inl hk_145.symm))⟩) (by omega) (((JR.fI q_133 (by decide) (by decide) (nfc (by omega) (nfc (by omega) nf0))).trans i57_5)) (((JR.fI q_133 (by decide) (by decide) (nfc (by omega) (nfc (by omega) nf0))).trans i57_6)) (((JR.fI q_133 (by decide) (by decide) (nfc (by omega) (nfc (by omega) nf0))).trans i57_7)) (((JR.fI q_133 (by decide) (by decide) (nfc (by omega) (nfc (by omega) nf0))).trans i57_8)) (((congrArg (fun z => rs (fI z)) (JR.same q_133 (by decide) (by decide) (fun k => (nfc (by omega) (nfc (by omega) nf0))))).trans i57_9)))
                  exact ⟨rfl, ⟨rfl, ⟨rfl, ⟨rfl, trivial⟩⟩⟩⟩
          refine aw_le ?_ (ml_57_116 _ a_52 (0 + 1) 1 V_43 rfl (j_42) (((JR.fI q_39 (by decide) (by decide) (nfc (by omega) (nfc (by omega) (nfc (by omega) (nfc (by omega) (nfc (by omega) (nfc (by omega) nf0))))))).trans ((JR.fI q_33 (by decide) (by decide) (nfc (by omega) nf0)).trans (KA (s := 36) (x := .int 0) e_31 rfl (by decide) e_32 k_32 hb_28b)))) (((JR.same q_39 (by decide) (by decide) (fun k => (nfc (by omega) (nfc (by omega) (nfc (by omega) (nfc (by omega) (nfc (by omega) (nfc (by omega) nf0)))))))).trans ((JR.same q_33 (by decide) (by decide) (fun k => (nfc (by omega) nf0))).trans ((k_32 _ (by decide)).trans ((JR.same q_24 (by decide) (by decide) (fun k => (nfc (by omega) (nfc (by omega) (nfc (by omega) (nfc (by omega) nf0)))))).trans e_2))))) (Or.inr ⟨rfl, hk_56, hL_57, ⟨by omega, by omega, by omega⟩, (tx_go (M := 20) (ln := (fun a _ => lnD (gb g_2) zn1 a)) hst_53 hx_55 (by decide)).symm⟩) (by omega) (((JR.fI q_39 (by decide) (by decide) (nfc (by omega) (nfc (by omega) (nfc (by omega) (nfc (by omega) (nfc (by omega) (nfc (by omega) nf0))))))).trans ((JR.fI q_33 (by decide) (by decide) (nfc (by omega) nf0)).trans (KA (s := 36) (x := .int 0) e_31 rfl (by decide) e_32 k_32 ((JR.fI q_24 (by decide) (by decide) (nfc (by omega) (nfc (by omega) (nfc (by omega) (nfc (by omega) nf0))))).trans (Eq.refl (fI (V 100) 9))))))) (((JR.fI q_39 (by decide) (by decide) (nfc (by omega) (nfc (by omega) (nfc (by omega) (nfc (by omega) (nfc (by omega) (nfc (by omega) nf0))))))).trans ((JR.fI q_33 (by decide) (by decide) (nfc (by omega) nf0)).trans (KA (s := 36) (x := .int 0) e_31 rfl (by decide) e_32 k_32 ((JR.fI q_24 (by decide) (by decide) (nfc (by omega) (nfc (by omega) (nfc (by omega) (nfc (by omega) nf0))))).trans (Eq.refl (fI (V 101) 208))))))) (((JR.fI q_39 (by decide) (by decide) (nfc (by omega) (nfc (by omega) (nfc (by omega) (nfc (by omega) (nfc (by omega) (nfc (by omega) nf0))))))).trans ((h_34 208 (by decide)).trans (KA (s := 36) (x := .int 0) e_31 rfl (by decide) e_32 k_32 ((JR.fI q_24 (by decide) (by decide) (nfc (by omega) (nfc (by omega) (nfc (by omega) (nfc (by omega) nf0))))).trans (Eq.refl (fI (V 101) 208))))))) (((JR.fI q_39 (by decide) (by decide) (nfc (by omega) (nfc (by omega) (nfc (by omega) (nfc (by omega) (nfc (by omega) (nfc (by omega) nf0))))))).trans ((JR.fI q_33 (by decide) (by decide) (nfc (by omega) nf0)).trans (KA (s := 36) (x := .int 0) e_31 rfl (by decide) e_32 k_32 ((JR.fI q_24 (by decide) (by decide) (nfc (by omega) (nfc (by omega) (nfc (by omega) (nfc (by omega) nf0))))).trans (Eq.refl (fI (V 100) 10))))))) (((congrArg (fun z => rs (fI z)) (JR.same q_39 (by decide) (by decide) (fun k => (nfc (by omega) (nfc (by omega) (nfc (by omega) (nfc (by omega) (nfc (by omega) (nfc (by omega) nf0))))))))).trans ((congrArg (fun z => rs (fI z)) (JR.same q_33 (by decide) (by decide) (fun k => (nfc (by omega) nf0)))).trans ((congrArg (fun z => rs (fI z)) (k_32 _ (by omega))).trans ((congrArg (fun z => rs (fI z)) (JR.same q_24 (by decide) (by decide) (fun k => (nfc (by omega) (nfc (by omega) (nfc (by omega) (nfc (by omega) nf0))))))).trans (Eq.refl (rs (fI (V 104))))))))))
          exact ⟨rfl, ⟨rfl, ⟨rfl, ⟨rfl, trivial⟩⟩⟩⟩
      · skip
        have nc_23 : ¬ (zn1 ≤ tad_1) := fun z => c_23 ((nI_leI (a := zn1) (b := tad_1) (by omega) (by omega)).mpr z)
        refine aw_iconst (v := (-1)) dX12_dreads_28 (by decide) ?_
        refine aw_ireti dX12_dreads_29 rfl (Nat.le_of_ble_eq_true rfl) (Nat.le_of_ble_eq_true rfl) ?_
        exact ⟨⟨Or.inr ⟨(by have zhi_6 := hi_6.resolve_left c_12; have zhi_16 := hi_16.resolve_left c_22; have zzzn0 := fx_nIt (n := zn0) (by omega); have zzzn1 := fx_nIt (n := zn1) (by omega); have zt := fx_nIt (n := tad_1) (by omega); have e0 : (0 : Int32).toInt = 0 := (by decide); have e1 : (1 : Int32).toInt = 1 := (by decide); have e11 : (11 : Int32).toInt = 11 := (by decide); have e120 : (120 : Int32).toInt = 120 := (by decide); have q0 := zhi_6; have q1 := zhi_16; have q2 := hm.1; have q3 := hm.2; have q4 := hta0; simp only [cDr, ← Int32.toInt_inj, Int32.le_iff_toInt_le, Int32.lt_iff_toInt_lt] at q0 q1 q2 q3 q4 ⊢; omega), rfl⟩, Or.inr ⟨(by have zhi_6 := hi_6.resolve_left c_12; have zhi_16 := hi_16.resolve_left c_22; have zzzn0 := fx_nIt (n := zn0) (by omega); have zzzn1 := fx_nIt (n := zn1) (by omega); have zt := fx_nIt (n := tad_1) (by omega); have e0 : (0 : Int32).toInt = 0 := (by decide); have e1 : (1 : Int32).toInt = 1 := (by decide); have e11 : (11 : Int32).toInt = 11 := (by decide); have e120 : (120 : Int32).toInt = 120 := (by decide); have q0 := zhi_6; have q1 := zhi_16; have q2 := hm.1; have q3 := hm.2; have q4 := hta0; simp only [cDr, ← Int32.toInt_inj, Int32.le_iff_toInt_le, Int32.lt_iff_toInt_lt] at q0 q1 q2 q3 q4 ⊢; omega), hta0.trans hta0.symm⟩, (Eq.refl (fI (V 101) 208)), Or.inr ⟨(by have zhi_6 := hi_6.resolve_left c_12; have zhi_16 := hi_16.resolve_left c_22; have zzzn0 := fx_nIt (n := zn0) (by omega); have zzzn1 := fx_nIt (n := zn1) (by omega); have zt := fx_nIt (n := tad_1) (by omega); have e0 : (0 : Int32).toInt = 0 := (by decide); have e1 : (1 : Int32).toInt = 1 := (by decide); have e11 : (11 : Int32).toInt = 11 := (by decide); have e120 : (120 : Int32).toInt = 120 := (by decide); have q0 := zhi_6; have q1 := zhi_16; have q2 := hm.1; have q3 := hm.2; have q4 := hta0; simp only [cDr, ← Int32.toInt_inj, Int32.le_iff_toInt_le, Int32.lt_iff_toInt_lt] at q0 q1 q2 q3 q4 ⊢; omega), (Eq.refl (fI (V 100) 9))⟩, (Eq.refl (fI (V 100) 10)), (Eq.refl (rs (fI (V 104))))⟩, rfl, hJ0⟩

set_option maxHeartbeats 100000000 in
set_option maxRecDepth 100000 in
theorem r_ordersS2 (l : Launch) (D : va_G) (b : Nat) (N : Nat) (V : Wd) (hN : 133 ≤ N) (cl : Nat) (hW : CR D b cl V) (n0 : Int32) (m0 : Int32) (hm : m0 = n0) : MI l D b 6 jX12_orders [.ref (b + 100), .int n0] N V 0 0 (fun r N9 V9 => (ANS (cIn m0 1 120 (fI (V 100) 13)) r (cod (ordX (gb (fI (V 110))) m0 (fI (V 100) 9) ((fI (V 100) 10), (rs (fI (V 104)))))) ∧ TKS (cIn m0 1 120 (fI (V 100) 13)) (fI (V 100) 13) (fI (V9 100) 13) ∧ fI (V9 101) 208 = fI (V 101) 208 ∧ fI (V9 100) 9 = fI (V 100) 9 ∧ UPD (cIn m0 1 120 (fI (V 100) 13)) (fI (V9 100) 10) (fI (V 100) 10) (ostD (ordX (gb (fI (V 110))) m0 (fI (V 100) 9) ((fI (V 100) 10), (rs (fI (V 104))))) (fI (V 100) 10)) ∧ UPD (cIn m0 1 120 (fI (V 100) 13)) (rs (fI (V9 104))) (rs (fI (V 104))) (ostK (ordX (gb (fI (V 110))) m0 (fI (V 100) 9) ((fI (V 100) 10), (rs (fI (V 104))))) (rs (fI (V 104))))) ∧ N = N9 ∧ JR D b N cl [(101, 102, 0, 1000000), (104, 109, 0, 1000000), (100, 100, 14, 14), (100, 100, 15, 15), (100, 100, 19, 19), (100, 100, 21, 21), (100, 100, 36, 36), (100, 100, 11, 11), (100, 100, 17, 17), (100, 100, 16, 16), (100, 100, 10, 10), (100, 100, 13, 13)] V V9) := by
  have hJ0 : JR D b N cl [(101, 102, 0, 1000000), (104, 109, 0, 1000000), (100, 100, 14, 14), (100, 100, 15, 15), (100, 100, 19, 19), (100, 100, 21, 21), (100, 100, 36, 36), (100, 100, 11, 11), (100, 100, 17, 17), (100, 100, 16, 16), (100, 100, 10, 10), (100, 100, 13, 13)] V V := JR.rf hW
  refine mw_of (by decide) (by simp [Value.category]) (Nat.le_of_ble_eq_true rfl) ?_
  show AW l D b jX12_orders (fx_rm 6 0 0) none (fx_MQ D b 0 0 (fx_qi (fun r N9 V9 => (ANS (cIn m0 1 120 (fI (V 100) 13)) r (cod (ordX (gb (fI (V 110))) m0 (fI (V 100) 9) ((fI (V 100) 10), (rs (fI (V 104)))))) ∧ TKS (cIn m0 1 120 (fI (V 100) 13)) (fI (V 100) 13) (fI (V9 100) 13) ∧ fI (V9 101) 208 = fI (V 101) 208 ∧ fI (V9 100) 9 = fI (V 100) 9 ∧ UPD (cIn m0 1 120 (fI (V 100) 13)) (fI (V9 100) 10) (fI (V 100) 10) (ostD (ordX (gb (fI (V 110))) m0 (fI (V 100) 9) ((fI (V 100) 10), (rs (fI (V 104))))) (fI (V 100) 10)) ∧ UPD (cIn m0 1 120 (fI (V 100) 13)) (rs (fI (V9 104))) (rs (fI (V 104))) (ostK (ordX (gb (fI (V 110))) m0 (fI (V 100) 9) ((fI (V 100) 10), (rs (fI (V 104))))) (rs (fI (V 104))))) ∧ N = N9 ∧ JR D b N cl [(101, 102, 0, 1000000), (104, 109, 0, 1000000), (100, 100, 14, 14), (100, 100, 15, 15), (100, 100, 19, 19), (100, 100, 21, 21), (100, 100, 36, 36), (100, 100, 11, 11), (100, 100, 17, 17), (100, 100, 16, 16), (100, 100, 10, 10), (100, 100, 13, 13)] V V9))) 0 [some (.ref (b + 100)), some (.int n0), none] [] N V 0 0
  obtain ⟨ftoldPeople_1, ftoldDoors_1, fwasDoors_1, ffault_1, fopen_1, flines_1, fmeantSet_1, fopenedNow_1, fvainNow_1, flowNow_1, fhighNow_1, fisKept_1, tad_1, pl0_1, le0_1, nu0_1, coy_1, wag_1, say_1, e_1, hntad_1, hnpl0_1, hnle0_1, hnnu0_1, hncoy_1, hnwag_1, hnsay_1⟩ := JR.get hJ0 cm_100
  have hta0 : fI (V 100) 13 = nI tad_1 := ((congrArg (fun z => fI z 13) e_1).trans rfl)
  obtain ⟨g_2, e_2⟩ := JR.get hJ0 cm_110
  refine aw_iload_n dX12_orders_0 rfl ?_
  refine aw_iconst (v := 1) dX12_orders_1 (by decide) ?_
  refine aw_bipush (v := 120) dX12_orders_2 (by decide) ?_
  refine aw_callSi (J' := jX12_in) (As := [.int n0, .int 1, .int 120]) (st := []) dX12_orders_4 tb_1209 ok_X12_in rfl (r_inK l D b N V hN cl hJ0.1 n0 1 120) rfl (Nat.le_of_ble_eq_true rfl) ⟨Nat.le_of_ble_eq_true rfl, Nat.le_of_ble_eq_true rfl, Nat.le_of_ble_eq_true rfl, Nat.le_of_ble_eq_true rfl⟩ (fun r_8 N_9 V_10 q_11 => ?_)
  obtain ⟨⟨z_5, h_4⟩, rfl, rfl⟩ := q_11
  obtain ⟨hi_6, hi_7⟩ := h_4
  refine aw_if_eq (tgt := 18) dX12_orders_7 (by decide) (fun c_12 => ?_) (fun c_12 => ?_)
  · skip
    refine aw_iconst (v := (-1)) dX12_orders_18 (by decide) ?_
    refine aw_ireti dX12_orders_19 rfl (Nat.le_of_ble_eq_true rfl) (Nat.le_of_ble_eq_true rfl) ?_
    exact ⟨⟨Or.inr ⟨(by have zhi_7 := hi_7 c_12; have zt := fx_nIt (n := tad_1) (by omega); have e0 : (0 : Int32).toInt = 0 := (by decide); have e1 : (1 : Int32).toInt = 1 := (by decide); have e120 : (120 : Int32).toInt = 120 := (by decide); have q0 := zhi_7; have q1 := hm; have q2 := hta0; simp only [cIn, ← Int32.toInt_inj, Int32.le_iff_toInt_le, Int32.lt_iff_toInt_lt] at q0 q1 q2 ⊢; omega), rfl⟩, Or.inr ⟨(by have zhi_7 := hi_7 c_12; have zt := fx_nIt (n := tad_1) (by omega); have e0 : (0 : Int32).toInt = 0 := (by decide); have e1 : (1 : Int32).toInt = 1 := (by decide); have e120 : (120 : Int32).toInt = 120 := (by decide); have q0 := zhi_7; have q1 := hm; have q2 := hta0; simp only [cIn, ← Int32.toInt_inj, Int32.le_iff_toInt_le, Int32.lt_iff_toInt_lt] at q0 q1 q2 ⊢; omega), hta0.trans hta0.symm⟩, (Eq.refl (fI (V 101) 208)), (Eq.refl (fI (V 100) 9)), Or.inr ⟨(by have zhi_7 := hi_7 c_12; have zt := fx_nIt (n := tad_1) (by omega); have e0 : (0 : Int32).toInt = 0 := (by decide); have e1 : (1 : Int32).toInt = 1 := (by decide); have e120 : (120 : Int32).toInt = 120 := (by decide); have q0 := zhi_7; have q1 := hm; have q2 := hta0; simp only [cIn, ← Int32.toInt_inj, Int32.le_iff_toInt_le, Int32.lt_iff_toInt_lt] at q0 q1 q2 ⊢; omega), (Eq.refl (fI (V 100) 10))⟩, Or.inr ⟨(by have zhi_7 := hi_7 c_12; have zt := fx_nIt (n := tad_1) (by omega); have e0 : (0 : Int32).toInt = 0 := (by decide); have e1 : (1 : Int32).toInt = 1 := (by decide); have e120 : (120 : Int32).toInt = 120 := (by decide); have q0 := zhi_7; have q1 := hm; have q2 := hta0; simp only [cIn, ← Int32.toInt_inj, Int32.le_iff_toInt_le, Int32.lt_iff_toInt_lt] at q0 q1 q2 ⊢; omega), (Eq.refl (rs (fI (V 104))))⟩⟩, rfl, hJ0⟩
  · skip
    obtain ⟨zn0, h0zn0, hzn0, rfl⟩ := in_nat (a := 1) (b := 120) (by decide) (hi_6.resolve_left c_12)
    refine aw_iload_n dX12_orders_10 rfl ?_
    refine aw_aload_n dX12_orders_11 rfl ?_
    refine aw_get dX12_orders_12 fl_X12_152 e_1 (by omega) rfl ?_
    refine aw_icmp_le (tgt := 20) dX12_orders_15 (by decide) (fun c_13 => ?_) (fun c_13 => ?_)
    · skip
      have nc_13 : zn0 ≤ tad_1 := (nI_leI (a := zn0) (b := tad_1) (by omega) (by omega)).mp c_13
      refine aw_aload_n dX12_orders_20 rfl ?_
      refine aw_iload_n dX12_orders_21 rfl ?_
      refine aw_callVv (J' := jX12_beginsText) (As := [.int (nI zn0)]) (st := []) dX12_orders_22 tb_1212 ok_X12_beginsText ⟨_, e_1⟩ (by omega) rfl rfl (r_beginsTextS l D b N V hN cl hJ0.1 (nI zn0) ⟨zn0, by omega, rfl⟩) rfl (Nat.le_of_ble_eq_true rfl) ⟨Nat.le_of_ble_eq_true rfl, Nat.le_of_ble_eq_true rfl, Nat.le_of_ble_eq_true rfl, Nat.le_of_ble_eq_true rfl⟩ (fun  N_19 V_17 q_20 => ?_)
      obtain ⟨h_15, rfl, q_14⟩ := q_20
      have j_16 := JR.trans hJ0 (JR.weak q_14 (Sub.cons (LMs (LMs LM0)) (by decide) (by decide) (by decide) (Or.inr ⟨by decide, by decide⟩) (Sub.cons (LMs (LMs (LMs LM0))) (by decide) (by decide) (by decide) (Or.inr ⟨by decide, by decide⟩) (Sub.cons (LMs (LMs (LMs (LMs LM0)))) (by decide) (by decide) (by decide) (Or.inr ⟨by decide, by decide⟩) (Sub.cons (LMs (LMs (LMs (LMs (LMs LM0))))) (by decide) (by decide) (by decide) (Or.inr ⟨by decide, by decide⟩) Sub.nil)))))
      obtain ⟨hb_18a, hb_18b⟩ := h_15
      refine aw_aload_n dX12_orders_25 rfl ?_
      refine aw_iconst (v := 0) dX12_orders_26 (by decide) ?_
      obtain ⟨ftoldPeople_21, ftoldDoors_21, fwasDoors_21, ffault_21, fopen_21, flines_21, fmeantSet_21, fopenedNow_21, fvainNow_21, flowNow_21, fhighNow_21, fisKept_21, tad_21, pl0_21, le0_21, nu0_21, coy_21, wag_21, say_21, e_21, hntad_21, hnpl0_21, hnle0_21, hnnu0_21, hncoy_21, hnwag_21, hnsay_21⟩ := JR.get j_16 cm_100
      refine aw_put dX12_orders_27 fp_X12_268 e_21 (by omega) rfl rfl (Nat.le_of_ble_eq_true rfl) rfl ?_
      refine aw_upR j_16 cm_100 ⟨_, _, _, _, _, _, _, _, _, _, _, _, tad_21, pl0_21, le0_21, nu0_21, coy_21, wag_21, say_21, rfl, by omega, by omega, by omega, by omega, by omega, by omega, by omega⟩ (by decide) (WO (s := 36) (x := .int 0) e_21 rfl (LMs (LMs (LMs (LMs (LMs (LMs LM0)))))) (by decide) (by decide) (by decide) (Or.inl (by decide))) (fun V_22 j_22 k_22 e_22 => ?_)
      refine aw_aload_n dX12_orders_30 rfl ?_
      refine aw_callVv (J' := jX12_laysAside) (As := []) (st := []) dX12_orders_31 tb_1335 ok_X12_laysAside ⟨_, e_22⟩ (by omega) rfl rfl (r_laysAsideS l D b N V_22 hN cl j_22.1) rfl (Nat.le_of_ble_eq_true rfl) ⟨Nat.le_of_ble_eq_true rfl, Nat.le_of_ble_eq_true rfl, Nat.le_of_ble_eq_true rfl, Nat.le_of_ble_eq_true rfl⟩ (fun  N_27 V_26 q_28 => ?_)
      obtain ⟨h_24, rfl, q_23⟩ := q_28
      have j_25 := JR.trans j_22 (JR.weak q_23 (Sub.cons LM0 (by decide) (by decide) (by decide) (Or.inl rfl) (Sub.cons (LMs LM0) (by decide) (by decide) (by decide) (Or.inl rfl) (Sub.cons (LMs LM0) (by decide) (by decide) (by decide) (Or.inl rfl) (Sub.cons (LMs (LMs (LMs (LMs (LMs (LMs (LMs LM0))))))) (by decide) (by decide) (by decide) (Or.inr ⟨by decide, by decide⟩) Sub.nil)))))
      refine aw_aload_n dX12_orders_34 rfl ?_
      obtain ⟨ftoldPeople_34, ftoldDoors_34, fwasDoors_34, ffault_34, fopen_34, flines_34, fmeantSet_34, fopenedNow_34, fvainNow_34, flowNow_34, fhighNow_34, fisKept_34, tad_34, pl0_34, le0_34, nu0_34, coy_34, wag_34, say_34, e_34, hntad_34, hnpl0_34, hnle0_34, hnnu0_34, hncoy_34, hnwag_34, hnsay_34⟩ := JR.get j_25 cm_100
      refine aw_callVi (J' := jX12_readsOrder) (As := []) (st := []) dX12_orders_35 tb_1339 ok_X12_readsOrder ⟨_, e_34⟩ (by omega) rfl rfl (r_readsOrderS l D b N V_26 hN cl j_25.1 g_2 ((JR.same q_23 (by decide) (by decide) (fun k => (nfc (by omega) (nfc (by omega) (nfc (by omega) (nfc (by omega) nf0)))))).trans ((k_22 _ (by decide)).trans ((JR.same q_14 (by decide) (by decide) (fun k => (nfc (by omega) (nfc (by omega) (nfc (by omega) (nfc (by omega) nf0)))))).trans e_2))) zn0 0 ⟨by omega, by omega⟩ ((JR.fI q_23 (by decide) (by decide) (nfc (by omega) (nfc (by omega) (nfc (by omega) (nfc (by omega) nf0))))).trans (KA (s := 36) (x := .int 0) e_21 rfl (by decide) e_22 k_22 hb_18b)) ((JR.fI q_23 (by decide) (by decide) (nfc (by omega) (nfc (by omega) (nfc (by omega) (nfc (by omega) nf0))))).trans (KA (s := 36) (x := .int 0) e_21 rfl (by decide) e_22 k_22 hb_18a)) (fI (V 100) 9) ((JR.fI q_23 (by decide) (by decide) (nfc (by omega) (nfc (by omega) (nfc (by omega) (nfc (by omega) nf0))))).trans (KA (s := 36) (x := .int 0) e_21 rfl (by decide) e_22 k_22 ((JR.fI q_14 (by decide) (by decide) (nfc (by omega) (nfc (by omega) (nfc (by omega) (nfc (by omega) nf0))))).trans (Eq.refl (fI (V 100) 9))))) ((fI (V 100) 10), (rs (fI (V 104)))) ((JR.fI q_23 (by decide) (by decide) (nfc (by omega) (nfc (by omega) (nfc (by omega) (nfc (by omega) nf0))))).trans (KA (s := 36) (x := .int 0) e_21 rfl (by decide) e_22 k_22 ((JR.fI q_14 (by decide) (by decide) (nfc (by omega) (nfc (by omega) (nfc (by omega) (nfc (by omega) nf0))))).trans (Eq.refl (fI (V 100) 10))))) ((congrArg (fun z => rs (fI z)) (JR.same q_23 (by decide) (by decide) (fun k => (nfc (by omega) (nfc (by omega) (nfc (by omega) (nfc (by omega) nf0))))))).trans ((congrArg (fun z => rs (fI z)) (k_22 _ (by omega))).trans ((congrArg (fun z => rs (fI z)) (JR.same q_14 (by decide) (by decide) (fun k => (nfc (by omega) (nfc (by omega) (nfc (by omega) (nfc (by omega) nf0))))))).trans (Eq.refl (rs (fI (V 104))))))) 0 ⟨((JR.fI q_23 (by decide) (by decide) (nfc (by omega) (nfc (by omega) (nfc (by omega) (nfc (by omega) nf0))))).trans ((congrArg (fun z => fI z 36) e_22).trans rfl)), by omega⟩) rfl (Nat.le_of_ble_eq_true rfl) ⟨Nat.le_of_ble_eq_true rfl, Nat.le_of_ble_eq_true rfl, Nat.le_of_ble_eq_true rfl, Nat.le_of_ble_eq_true rfl⟩ (fun r_35 N_36 V_33 q_37 => ?_)
      obtain ⟨⟨z_31, h_30⟩, rfl, q_29⟩ := q_37
      have j_32 := JR.trans j_25 (JR.weak q_29 (Sub.cons (LMs LM0) (by decide) (by decide) (by decide) (Or.inl rfl) (Sub.cons (LMs LM0) (by decide) (by decide) (by decide) (Or.inl rfl) (Sub.cons (LMs (LMs (LMs (LMs (LMs (LMs LM0)))))) (by decide) (by decide) (by decide) (Or.inr ⟨by decide, by decide⟩) (Sub.cons (LMs (LMs LM0)) (by decide) (by decide) (by decide) (Or.inr ⟨by decide, by decide⟩) (Sub.cons (LMs (LMs (LMs (LMs (LMs (LMs (LMs (LMs LM0)))))))) (by decide) (by decide) (by decide) (Or.inr ⟨by decide, by decide⟩) (Sub.cons (LMs (LMs (LMs (LMs (LMs (LMs (LMs (LMs (LMs LM0))))))))) (by decide) (by decide) (by decide) (Or.inr ⟨by decide, by decide⟩) (Sub.cons (LMs (LMs (LMs (LMs (LMs (LMs (LMs (LMs (LMs (LMs LM0)))))))))) (by decide) (by decide) (by decide) (Or.inr ⟨by decide, by decide⟩) (Sub.cons LM0 (by decide) (by decide) (by decide) (Or.inl rfl) Sub.nil)))))))))
      rcases h_30 with ⟨f_38, hx_39, hk_40, e_41⟩ | ⟨a_42, s_43, hst_44, hl_45, hx_46, hk_47, hL_48, hd_49, hf_50, hb_51, e_52⟩
      · skip
        refine aw_eqi (y := 0) e_41 ?_
        refine aw_istore_n (ls' := [some (.ref (b + 100)), some (.int (nI zn0)), some (.int 0)]) dX12_orders_38 (Nat.le_of_ble_eq_true rfl) rfl ?_
        have ml_39_53 : ∀ (m : Nat) (a39 : Nat) (L39 : Nat) (S39 : OS) (v39_2 : Int32) (V39 : Wd), m = 2 * (240 - a39) + (if v39_2 = 0 then 0 else 1) → (JR D b N cl [(101, 102, 0, 1000000), (104, 109, 0, 1000000), (100, 100, 14, 14), (100, 100, 15, 15), (100, 100, 19, 19), (100, 100, 21, 21), (100, 100, 36, 36), (100, 100, 11, 11), (100, 100, 17, 17), (100, 100, 16, 16), (100, 100, 10, 10), (100, 100, 13, 13)] V V39) → (fI (V39 100) 15 = nI zn0) → (V39 110 = cB D 260 g_2) → ((v39_2 = 0 ∧ txO (gb g_2) zn0 (fI (V 100) 9) 16 0 ((fI (V 100) 10), (rs (fI (V 104)))) = .inl (fI (V39 100) 16)) ∨ (v39_2 = 1 ∧ fI (V39 100) 14 = nI a39 ∧ fI (V39 100) 36 = nI L39 ∧ (1 ≤ L39 ∧ L39 ≤ 16 ∧ a39 ≤ zn0) ∧ afO (gb g_2) zn0 (fI (V 100) 9) (16 - L39) a39 S39 = txO (gb g_2) zn0 (fI (V 100) 9) 16 0 ((fI (V 100) 10), (rs (fI (V 104)))) ∧ fI (V39 100) 10 = S39.1 ∧ rs (fI (V39 104)) = S39.2)) → (a39 ≤ 240) → (fI (V39 100) 9 = (fI (V 100) 9)) → (fI (V39 101) 208 = (fI (V 101) 208)) → (fI (V39 102) 208 = (fI (V 101) 208)) → (fI (V39 100) 11 = (fI (V 100) 10)) → (rs (fI (V39 105)) = (rs (fI (V 104)))) → AW l D b jX12_orders (fx_rm 6 0 0) none (fx_MQ D b 0 0 (fx_qi (fun r N9 V9 => (ANS (cIn m0 1 120 (fI (V 100) 13)) r (cod (ordX (gb (fI (V 110))) m0 (fI (V 100) 9) ((fI (V 100) 10), (rs (fI (V 104)))))) ∧ TKS (cIn m0 1 120 (fI (V 100) 13)) (fI (V 100) 13) (fI (V9 100) 13) ∧ fI (V9 101) 208 = fI (V 101) 208 ∧ fI (V9 100) 9 = fI (V 100) 9 ∧ UPD (cIn m0 1 120 (fI (V 100) 13)) (fI (V9 100) 10) (fI (V 100) 10) (ostD (ordX (gb (fI (V 110))) m0 (fI (V 100) 9) ((fI (V 100) 10), (rs (fI (V 104))))) (fI (V 100) 10)) ∧ UPD (cIn m0 1 120 (fI (V 100) 13)) (rs (fI (V9 104))) (rs (fI (V 104))) (ostK (ordX (gb (fI (V 110))) m0 (fI (V 100) 9) ((fI (V 100) 10), (rs (fI (V 104))))) (rs (fI (V 104))))) ∧ N = N9 ∧ JR D b N cl [(101, 102, 0, 1000000), (104, 109, 0, 1000000), (100, 100, 14, 14), (100, 100, 15, 15), (100, 100, 19, 19), (100, 100, 21, 21), (100, 100, 36, 36), (100, 100, 11, 11), (100, 100, 17, 17), (100, 100, 16, 16), (100, 100, 10, 10), (100, 100, 13, 13)] V V9))) 39 [some (.ref (b + 100)), some (.int (nI zn0)), some (.int v39_2)] [] N V39 0 0 := by
          intro m; refine Nat.strongRecOn m ?_
          intro m mih_39_53 a39 L39 S39 v39_2 V39 hm39 i39_0 i39_1 i39_2 i39_3 i39_4 i39_5 i39_6 i39_7 i39_8 i39_9
          refine aw_iload_n dX12_orders_39 rfl ?_
          refine aw_if_eq (tgt := 79) dX12_orders_40 (by decide) (fun c_54 => ?_) (fun c_54 => ?_)
          · skip
            refine aw_aload_n dX12_orders_79 rfl ?_
            refine aw_iconst (v := 0) dX12_orders_80 (by decide) ?_
            obtain ⟨ftoldPeople_55, ftoldDoors_55, fwasDoors_55, ffault_55, fopen_55, flines_55, fmeantSet_55, fopenedNow_55, fvainNow_55, flowNow_55, fhighNow_55, fisKept_55, tad_55, pl0_55, le0_55, nu0_55, coy_55, wag_55, say_55, e_55, hntad_55, hnpl0_55, hnle0_55, hnnu0_55, hncoy_55, hnwag_55, hnsay_55⟩ := JR.get i39_0 cm_100
            refine aw_put dX12_orders_81 fp_X12_152 e_55 (by omega) rfl rfl (Nat.le_of_ble_eq_true rfl) rfl ?_
            refine aw_upR i39_0 cm_100 ⟨_, _, _, _, _, _, _, _, _, _, _, _, 0, pl0_55, le0_55, nu0_55, coy_55, wag_55, say_55, rfl, by omega, by omega, by omega, by omega, by omega, by omega, by omega⟩ (by decide) (WO (s := 13) (x := .int 0) e_55 rfl (LMs (LMs (LMs (LMs (LMs (LMs (LMs (LMs (LMs (LMs (LMs LM0))))))))))) (by decide) (by decide) (by decide) (Or.inl (by decide))) (fun V_56 j_56 k_56 e_56 => ?_)
            refine aw_iload_n dX12_orders_84 rfl ?_
            refine aw_if_eq (tgt := 93) dX12_orders_85 (by decide) (fun c_57 => ?_) (fun c_57 => ?_)
            rotate_left
            · exact absurd c_54 c_57
            refine aw_aload_n dX12_orders_93 rfl ?_
            refine aw_callVv (J' := jX12_putsBack) (As := []) (st := []) dX12_orders_94 tb_1363 ok_X12_putsBack ⟨_, e_56⟩ (by omega) rfl rfl (r_putsBackS l D b N V_56 hN cl j_56.1) rfl (Nat.le_of_ble_eq_true rfl) ⟨Nat.le_of_ble_eq_true rfl, Nat.le_of_ble_eq_true rfl, Nat.le_of_ble_eq_true rfl, Nat.le_of_ble_eq_true rfl⟩ (fun  N_62 V_61 q_63 => ?_)
            obtain ⟨h_59, rfl, q_58⟩ := q_63
            have j_60 := JR.trans j_56 (JR.weak q_58 (Sub.cons LM0 (by decide) (by decide) (by decide) (Or.inl rfl) (Sub.cons (LMs LM0) (by decide) (by decide) (by decide) (Or.inl rfl) (Sub.cons (LMs LM0) (by decide) (by decide) (by decide) (Or.inl rfl) (Sub.cons (LMs (LMs (LMs (LMs (LMs (LMs (LMs (LMs (LMs (LMs LM0)))))))))) (by decide) (by decide) (by decide) (Or.inr ⟨by decide, by decide⟩) Sub.nil)))))
            refine aw_aload_n dX12_orders_97 rfl ?_
            obtain ⟨ftoldPeople_64, ftoldDoors_64, fwasDoors_64, ffault_64, fopen_64, flines_64, fmeantSet_64, fopenedNow_64, fvainNow_64, flowNow_64, fhighNow_64, fisKept_64, tad_64, pl0_64, le0_64, nu0_64, coy_64, wag_64, say_64, e_64, hntad_64, hnpl0_64, hnle0_64, hnnu0_64, hncoy_64, hnwag_64, hnsay_64⟩ := JR.get j_60 cm_100
            refine aw_get dX12_orders_98 fl_X12_169 e_64 (by omega) rfl ?_
            refine aw_eqi (y := (fI (V39 100) 16)) ((Eq.symm (congrArg (fun z => fI z 16) e_64)).trans ((JR.fI q_58 (by decide) (by decide) (nfc (by omega) (nfc (by omega) (nfc (by omega) (nfc (by omega) nf0))))).trans (KA (s := 13) (x := .int 0) e_55 rfl (by decide) e_56 k_56 (Eq.refl (fI (V39 100) 16))))) ?_
            refine aw_ireti dX12_orders_101 rfl (Nat.le_of_ble_eq_true rfl) (Nat.le_of_ble_eq_true rfl) ?_
            exact ⟨⟨Or.inl ⟨(by have zhi_6 := hi_6.resolve_left c_12; have zzzn0 := fx_nIt (n := zn0) (by omega); have zt := fx_nIt (n := tad_1) (by omega); have e0 : (0 : Int32).toInt = 0 := (by decide); have e1 : (1 : Int32).toInt = 1 := (by decide); have e120 : (120 : Int32).toInt = 120 := (by decide); have q0 := zhi_6; have q1 := hm; have q2 := hta0; simp only [cIn, ← Int32.toInt_inj, Int32.le_iff_toInt_le, Int32.lt_iff_toInt_lt] at q0 q1 q2 ⊢; omega), (congrArg cod ((ordX_ofm e_2 hm (by omega)).trans (i39_3.resolve_right (fun z => absurd ((c_54).symm.trans z.1) (by decide))).2)).symm⟩, Or.inl ⟨(by have zhi_6 := hi_6.resolve_left c_12; have zzzn0 := fx_nIt (n := zn0) (by omega); have zt := fx_nIt (n := tad_1) (by omega); have e0 : (0 : Int32).toInt = 0 := (by decide); have e1 : (1 : Int32).toInt = 1 := (by decide); have e120 : (120 : Int32).toInt = 120 := (by decide); have q0 := zhi_6; have q1 := hm; have q2 := hta0; simp only [cIn, ← Int32.toInt_inj, Int32.le_iff_toInt_le, Int32.lt_iff_toInt_lt] at q0 q1 q2 ⊢; omega), ((JR.fI q_58 (by decide) (by decide) (nfc (by omega) (nfc (by omega) (nfc (by omega) (nfc (by omega) nf0))))).trans ((congrArg (fun z => fI z 13) e_56).trans rfl))⟩, (h_59.1.trans (KA (s := 13) (x := .int 0) e_55 rfl (by decide) e_56 k_56 i39_7)), ((JR.fI q_58 (by decide) (by decide) (nfc (by omega) (nfc (by omega) (nfc (by omega) (nfc (by omega) nf0))))).trans (KA (s := 13) (x := .int 0) e_55 rfl (by decide) e_56 k_56 i39_5)), Or.inl ⟨(by have zhi_6 := hi_6.resolve_left c_12; have zzzn0 := fx_nIt (n := zn0) (by omega); have zt := fx_nIt (n := tad_1) (by omega); have e0 : (0 : Int32).toInt = 0 := (by decide); have e1 : (1 : Int32).toInt = 1 := (by decide); have e120 : (120 : Int32).toInt = 120 := (by decide); have q0 := zhi_6; have q1 := hm; have q2 := hta0; simp only [cIn, ← Int32.toInt_inj, Int32.le_iff_toInt_le, Int32.lt_iff_toInt_lt] at q0 q1 q2 ⊢; omega), ((h_59.2.1.trans (KA (s := 13) (x := .int 0) e_55 rfl (by decide) e_56 k_56 i39_8))).trans (ostD_l ((ordX_ofm e_2 hm (by omega)).trans (i39_3.resolve_right (fun z => absurd ((c_54).symm.trans z.1) (by decide))).2)).symm⟩, Or.inl ⟨(by have zhi_6 := hi_6.resolve_left c_12; have zzzn0 := fx_nIt (n := zn0) (by omega); have zt := fx_nIt (n := tad_1) (by omega); have e0 : (0 : Int32).toInt = 0 := (by decide); have e1 : (1 : Int32).toInt = 1 := (by decide); have e120 : (120 : Int32).toInt = 120 := (by decide); have q0 := zhi_6; have q1 := hm; have q2 := hta0; simp only [cIn, ← Int32.toInt_inj, Int32.le_iff_toInt_le, Int32.lt_iff_toInt_lt] at q0 q1 q2 ⊢; omega), ((h_59.2.2.trans ((congrArg (fun z => rs (fI z)) (k_56 _ (by omega))).trans i39_9))).trans (ostK_l ((ordX_ofm e_2 hm (by omega)).trans (i39_3.resolve_right (fun z => absurd ((c_54).symm.trans z.1) (by decide))).2)).symm⟩⟩, rfl, j_60⟩
          · skip
            obtain ⟨hgd39, hA39, hL39, ⟨b139, b239, b339⟩, hX39, hD39, hK39⟩ := i39_3.resolve_left (fun z => c_54 z.1)
            refine aw_aload_n dX12_orders_43 rfl ?_
            obtain ⟨ftoldPeople_65, ftoldDoors_65, fwasDoors_65, ffault_65, fopen_65, flines_65, fmeantSet_65, fopenedNow_65, fvainNow_65, flowNow_65, fhighNow_65, fisKept_65, tad_65, pl0_65, le0_65, nu0_65, coy_65, wag_65, say_65, e_65, hntad_65, hnpl0_65, hnle0_65, hnnu0_65, hncoy_65, hnwag_65, hnsay_65⟩ := JR.get i39_0 cm_100
            refine aw_get dX12_orders_44 fl_X12_159 e_65 (by omega) rfl ?_
            refine aw_eqi (y := (nI a39)) ((Eq.symm (congrArg (fun z => fI z 14) e_65)).trans hA39) ?_
            refine aw_aload_n dX12_orders_47 rfl ?_
            refine aw_get dX12_orders_48 fl_X12_162 e_65 (by omega) rfl ?_
            refine aw_eqi (y := (nI zn0)) ((Eq.symm (congrArg (fun z => fI z 15) e_65)).trans i39_1) ?_
            refine aw_icmp_ge (tgt := 79) dX12_orders_51 (by decide) (fun c_66 => ?_) (fun c_66 => ?_)
            · skip
              have nc_66 : zn0 ≤ a39 := (nI_leI (a := zn0) (b := a39) (by omega) (by omega)).mp c_66
              refine aw_aload_n dX12_orders_79 rfl ?_
              refine aw_iconst (v := 0) dX12_orders_80 (by decide) ?_
              refine aw_put dX12_orders_81 fp_X12_152 e_65 (by omega) rfl rfl (Nat.le_of_ble_eq_true rfl) rfl ?_
              refine aw_upR i39_0 cm_100 ⟨_, _, _, _, _, _, _, _, _, _, _, _, 0, pl0_65, le0_65, nu0_65, coy_65, wag_65, say_65, rfl, by omega, by omega, by omega, by omega, by omega, by omega, by omega⟩ (by decide) (WO (s := 13) (x := .int 0) e_65 rfl (LMs (LMs (LMs (LMs (LMs (LMs (LMs (LMs (LMs (LMs (LMs LM0))))))))))) (by decide) (by decide) (by decide) (Or.inl (by decide))) (fun V_67 j_67 k_67 e_67 => ?_)
              refine aw_iload_n dX12_orders_84 rfl ?_
              refine aw_if_eq (tgt := 93) dX12_orders_85 (by decide) (fun c_68 => ?_) (fun c_68 => ?_)
              · first | exact absurd c_68 c_54 | exact absurd c_54 c_68 | exact absurd c_68 (Int32.not_lt.mpr c_54) | exact absurd c_54 (Int32.not_lt.mpr c_68) | exact c_54 (Int32.not_lt.mp c_68) | exact c_54 (Int32.not_le.mp c_68)
              refine aw_aload_n dX12_orders_88 rfl ?_
              refine aw_get dX12_orders_89 fl_X12_268 e_67 (by omega) rfl ?_
              refine aw_eqi (y := (nI L39)) ((Eq.symm (congrArg (fun z => fI z 36) e_67)).trans (KA (s := 13) (x := .int 0) e_65 rfl (by decide) e_67 k_67 hL39)) ?_
              refine aw_ireti dX12_orders_92 rfl (Nat.le_of_ble_eq_true rfl) (Nat.le_of_ble_eq_true rfl) ?_
              exact ⟨⟨Or.inl ⟨(by have zhi_6 := hi_6.resolve_left c_12; have zzzn0 := fx_nIt (n := zn0) (by omega); have zt := fx_nIt (n := tad_1) (by omega); have e0 : (0 : Int32).toInt = 0 := (by decide); have e1 : (1 : Int32).toInt = 1 := (by decide); have e120 : (120 : Int32).toInt = 120 := (by decide); have q0 := zhi_6; have q1 := hm; have q2 := hta0; simp only [cIn, ← Int32.toInt_inj, Int32.le_iff_toInt_le, Int32.lt_iff_toInt_lt] at q0 q1 q2 ⊢; omega), (congrArg nI (by omega : L39 = 16 - (16 - L39))).trans (congrArg cod ((ordX_ofm e_2 hm (by omega)).trans (hX39.symm.trans (af_end (by omega))))).symm⟩, Or.inl ⟨(by have zhi_6 := hi_6.resolve_left c_12; have zzzn0 := fx_nIt (n := zn0) (by omega); have zt := fx_nIt (n := tad_1) (by omega); have e0 : (0 : Int32).toInt = 0 := (by decide); have e1 : (1 : Int32).toInt = 1 := (by decide); have e120 : (120 : Int32).toInt = 120 := (by decide); have q0 := zhi_6; have q1 := hm; have q2 := hta0; simp only [cIn, ← Int32.toInt_inj, Int32.le_iff_toInt_le, Int32.lt_iff_toInt_lt] at q0 q1 q2 ⊢; omega), ((congrArg (fun z => fI z 13) e_67).trans rfl)⟩, (KA (s := 13) (x := .int 0) e_65 rfl (by decide) e_67 k_67 i39_6), (KA (s := 13) (x := .int 0) e_65 rfl (by decide) e_67 k_67 i39_5), Or.inl ⟨(by have zhi_6 := hi_6.resolve_left c_12; have zzzn0 := fx_nIt (n := zn0) (by omega); have zt := fx_nIt (n := tad_1) (by omega); have e0 : (0 : Int32).toInt = 0 := (by decide); have e1 : (1 : Int32).toInt = 1 := (by decide); have e120 : (120 : Int32).toInt = 120 := (by decide); have q0 := zhi_6; have q1 := hm; have q2 := hta0; simp only [cIn, ← Int32.toInt_inj, Int32.le_iff_toInt_le, Int32.lt_iff_toInt_lt] at q0 q1 q2 ⊢; omega), ((KA (s := 13) (x := .int 0) e_65 rfl (by decide) e_67 k_67 hD39)).trans (ostD_r ((ordX_ofm e_2 hm (by omega)).trans (hX39.symm.trans (af_end (by omega))))).symm⟩, Or.inl ⟨(by have zhi_6 := hi_6.resolve_left c_12; have zzzn0 := fx_nIt (n := zn0) (by omega); have zt := fx_nIt (n := tad_1) (by omega); have e0 : (0 : Int32).toInt = 0 := (by decide); have e1 : (1 : Int32).toInt = 1 := (by decide); have e120 : (120 : Int32).toInt = 120 := (by decide); have q0 := zhi_6; have q1 := hm; have q2 := hta0; simp only [cIn, ← Int32.toInt_inj, Int32.le_iff_toInt_le, Int32.lt_iff_toInt_lt] at q0 q1 q2 ⊢; omega), (((congrArg (fun z => rs (fI z)) (k_67 _ (by omega))).trans hK39)).trans (ostK_r ((ordX_ofm e_2 hm (by omega)).trans (hX39.symm.trans (af_end (by omega))))).symm⟩⟩, rfl, j_67⟩
            · skip
              have nc_66 : ¬ (zn0 ≤ a39) := fun z => c_66 ((nI_leI (a := zn0) (b := a39) (by omega) (by omega)).mpr z)
              refine aw_aload_n dX12_orders_54 rfl ?_
              refine aw_bipush (v := 59) dX12_orders_55 (by decide) ?_
              refine aw_callVi (J' := jX12_takes) (As := [.int 59]) (st := []) dX12_orders_57 tb_1291 ok_X12_takes ⟨_, e_65⟩ (by omega) rfl rfl (r_takesS l D b N V39 hN cl i39_0.1 59 g_2 i39_2 zn0 a39 ⟨by omega, by omega⟩ i39_1 hA39 (by decide)) rfl (Nat.le_of_ble_eq_true rfl) ⟨Nat.le_of_ble_eq_true rfl, Nat.le_of_ble_eq_true rfl, Nat.le_of_ble_eq_true rfl, Nat.le_of_ble_eq_true rfl⟩ (fun r_74 N_75 V_73 q_76 => ?_)
              obtain ⟨⟨z_71, h_70⟩, rfl, q_69⟩ := q_76
              have j_72 := JR.trans i39_0 (JR.weak q_69 (Sub.cons (LMs (LMs LM0)) (by decide) (by decide) (by decide) (Or.inr ⟨by decide, by decide⟩) (Sub.cons (LMs (LMs (LMs (LMs (LMs (LMs (LMs (LMs (LMs LM0))))))))) (by decide) (by decide) (by decide) (Or.inr ⟨by decide, by decide⟩) Sub.nil)))
              rcases h_70 with ⟨hy_77, hk_78, e_79⟩ | ⟨hn_80, hk_81, e_82⟩
              · skip
                refine aw_eqi (y := 1) e_79 ?_
                have hlhy_77 := hd_lit hy_77 (by decide)
                refine aw_if_eq (tgt := 74) dX12_orders_60 (by decide) (fun c_83 => ?_) (fun c_83 => ?_)
                · exact absurd c_83 (by decide)
                refine aw_aload_n dX12_orders_63 rfl ?_
                obtain ⟨ftoldPeople_89, ftoldDoors_89, fwasDoors_89, ffault_89, fopen_89, flines_89, fmeantSet_89, fopenedNow_89, fvainNow_89, flowNow_89, fhighNow_89, fisKept_89, tad_89, pl0_89, le0_89, nu0_89, coy_89, wag_89, say_89, e_89, hntad_89, hnpl0_89, hnle0_89, hnnu0_89, hncoy_89, hnwag_89, hnsay_89⟩ := JR.get j_72 cm_100
                refine aw_callVi (J' := jX12_readsOrder) (As := []) (st := []) dX12_orders_64 tb_1339 ok_X12_readsOrder ⟨_, e_89⟩ (by omega) rfl rfl (r_readsOrderS l D b N V_73 hN cl j_72.1 g_2 ((JR.same q_69 (by decide) (by decide) (fun k => (nfc (by omega) (nfc (by omega) nf0)))).trans i39_2) zn0 (a39 + 1) ⟨by omega, by omega⟩ ((JR.fI q_69 (by decide) (by decide) (nfc (by omega) (nfc (by omega) nf0))).trans i39_1) hk_78 (fI (V 100) 9) ((JR.fI q_69 (by decide) (by decide) (nfc (by omega) (nfc (by omega) nf0))).trans i39_5) S39 ((JR.fI q_69 (by decide) (by decide) (nfc (by omega) (nfc (by omega) nf0))).trans hD39) ((congrArg (fun z => rs (fI z)) (JR.same q_69 (by decide) (by decide) (fun k => (nfc (by omega) (nfc (by omega) nf0))))).trans hK39) L39 ⟨((JR.fI q_69 (by decide) (by decide) (nfc (by omega) (nfc (by omega) nf0))).trans hL39), by omega⟩) rfl (Nat.le_of_ble_eq_true rfl) ⟨Nat.le_of_ble_eq_true rfl, Nat.le_of_ble_eq_true rfl, Nat.le_of_ble_eq_true rfl, Nat.le_of_ble_eq_true rfl⟩ (fun r_90 N_91 V_88 q_92 => ?_)
                obtain ⟨⟨z_86, h_85⟩, rfl, q_84⟩ := q_92
                have j_87 := JR.trans j_72 (JR.weak q_84 (Sub.cons (LMs LM0) (by decide) (by decide) (by decide) (Or.inl rfl) (Sub.cons (LMs LM0) (by decide) (by decide) (by decide) (Or.inl rfl) (Sub.cons (LMs (LMs (LMs (LMs (LMs (LMs LM0)))))) (by decide) (by decide) (by decide) (Or.inr ⟨by decide, by decide⟩) (Sub.cons (LMs (LMs LM0)) (by decide) (by decide) (by decide) (Or.inr ⟨by decide, by decide⟩) (Sub.cons (LMs (LMs (LMs (LMs (LMs (LMs (LMs (LMs LM0)))))))) (by decide) (by decide) (by decide) (Or.inr ⟨by decide, by decide⟩) (Sub.cons (LMs (LMs (LMs (LMs (LMs (LMs (LMs (LMs (LMs LM0))))))))) (by decide) (by decide) (by decide) (Or.inr ⟨by decide, by decide⟩) (Sub.cons (LMs (LMs (LMs (LMs (LMs (LMs (LMs (LMs (LMs (LMs LM0)))))))))) (by decide) (by decide) (by decide) (Or.inr ⟨by decide, by decide⟩) (Sub.cons LM0 (by decide) (by decide) (by decide) (Or.inl rfl) Sub.nil)))))))))
                rcases h_85 with ⟨f_93, hx_94, hk_95, e_96⟩ | ⟨a_97, s_98, hst_99, hl_100, hx_101, hk_102, hL_103, hd_104, hf_105, hb_106, e_107⟩
                · skip
                  refine aw_eqi (y := 0) e_96 ?_
                  refine aw_if_eq (tgt := 74) dX12_orders_67 (by decide) (fun c_108 => ?_) (fun c_108 => ?_)
                  rotate_left
                  · exact absurd (by decide) c_108
                  refine aw_iconst (v := 0) dX12_orders_74 (by decide) ?_
                  refine aw_istore_n (ls' := [some (.ref (b + 100)), some (.int (nI zn0)), some (.int 0)]) dX12_orders_75 (Nat.le_of_ble_eq_true rfl) rfl ?_
                  refine aw_goto (tgt := 39) dX12_orders_76 (by decide) ?_
                  refine aw_le ?_ (mih_39_53 _ (by rw [hm39]; exact tl_dec c_54 (by omega) (Or.inl rfl) (by omega)) a39 L39 S39 0 V_88 rfl (j_87) (((JR.fI q_84 (by decide) (by decide) (nfc (by omega) (nfc (by omega) (nfc (by omega) (nfc (by omega) (nfc (by omega) (nfc (by omega) (nfc (by omega) (nfc (by omega) nf0))))))))).trans ((JR.fI q_69 (by decide) (by decide) (nfc (by omega) (nfc (by omega) nf0))).trans i39_1))) (((JR.same q_84 (by decide) (by decide) (fun k => (nfc (by omega) (nfc (by omega) (nfc (by omega) (nfc (by omega) (nfc (by omega) (nfc (by omega) (nfc (by omega) (nfc (by omega) nf0)))))))))).trans ((JR.same q_69 (by decide) (by decide) (fun k => (nfc (by omega) (nfc (by omega) nf0)))).trans i39_2))) (Or.inl ⟨rfl, hX39.symm.trans ((af_go hy_77).trans (hx_94.trans (congrArg Sum.inl hk_95.symm)))⟩) (by omega) (((JR.fI q_84 (by decide) (by decide) (nfc (by omega) (nfc (by omega) (nfc (by omega) (nfc (by omega) (nfc (by omega) (nfc (by omega) (nfc (by omega) (nfc (by omega) nf0))))))))).trans ((JR.fI q_69 (by decide) (by decide) (nfc (by omega) (nfc (by omega) nf0))).trans i39_5))) (((JR.fI q_84 (by decide) (by decide) (nfc (by omega) (nfc (by omega) (nfc (by omega) (nfc (by omega) (nfc (by omega) (nfc (by omega) (nfc (by omega) (nfc (by omega) nf0))))))))).trans ((JR.fI q_69 (by decide) (by decide) (nfc (by omega) (nfc (by omega) nf0))).trans i39_6))) (((JR.fI q_84 (by decide) (by decide) (nfc (by omega) (nfc (by omega) (nfc (by omega) (nfc (by omega) (nfc (by omega) (nfc (by omega) (nfc (by omega) (nfc (by omega) nf0))))))))).trans ((JR.fI q_69 (by decide) (by decide) (nfc (by omega) (nfc (by omega) nf0))).trans i39_7))) (((JR.fI q_84 (by decide) (by decide) (nfc (by omega) (nfc (by omega) (nfc (by omega) (nfc (by omega) (nfc (by omega) (nfc (by omega) (nfc (by omega) (nfc (by omega) nf0))))))))).trans ((JR.fI q_69 (by decide) (by decide) (nfc (by omega) (nfc (by omega) nf0))).trans i39_8))) (((congrArg (fun z => rs (fI z)) (JR.same q_84 (by decide) (by decide) (fun k => (nfc (by omega) (nfc (by omega) (nfc (by omega) (nfc (by omega) (nfc (by omega) (nfc (by omega) (nfc (by omega) (nfc (by omega) nf0))))))))))).trans ((congrArg (fun z => rs (fI z)) (JR.same q_69 (by decide) (by decide) (fun k => (nfc (by omega) (nfc (by omega) nf0))))).trans i39_9))))
                  exact ⟨rfl, ⟨rfl, ⟨rfl, trivial⟩⟩⟩
                · skip
                  refine aw_eqi (y := 1) e_107 ?_
                  obtain ⟨hb_106a, hb_106b⟩ := hb_106
                  refine aw_if_eq (tgt := 74) dX12_orders_67 (by decide) (fun c_109 => ?_) (fun c_109 => ?_)
                  · exact absurd c_109 (by decide)
                  refine aw_iconst (v := 1) dX12_orders_70 (by decide) ?_
                  refine aw_goto (tgt := 75) dX12_orders_71 (by decide) ?_
                  refine aw_istore_n (ls' := [some (.ref (b + 100)), some (.int (nI zn0)), some (.int 1)]) dX12_orders_75 (Nat.le_of_ble_eq_true rfl) rfl ?_
                  refine aw_goto (tgt := 39) dX12_orders_76 (by decide) ?_
                  refine aw_le ?_ (mih_39_53 _ (by rw [hm39]; exact tl_dec c_54 (by omega) (Or.inr (by omega)) (by omega)) a_97 (L39 + 1) s_98 1 V_88 rfl (j_87) (((JR.fI q_84 (by decide) (by decide) (nfc (by omega) (nfc (by omega) (nfc (by omega) (nfc (by omega) (nfc (by omega) (nfc (by omega) (nfc (by omega) (nfc (by omega) nf0))))))))).trans ((JR.fI q_69 (by decide) (by decide) (nfc (by omega) (nfc (by omega) nf0))).trans i39_1))) (((JR.same q_84 (by decide) (by decide) (fun k => (nfc (by omega) (nfc (by omega) (nfc (by omega) (nfc (by omega) (nfc (by omega) (nfc (by omega) (nfc (by omega) (nfc (by omega) nf0)))))))))).trans ((JR.same q_69 (by decide) (by decide) (fun k => (nfc (by omega) (nfc (by omega) nf0)))).trans i39_2))) (Or.inr ⟨rfl, hk_102, hL_103, ⟨by omega, by omega, by omega⟩, (by have q := (tx_go (M := 16) (ln := (fun a s => lnO (gb g_2) zn0 (fI (V 100) 9) a s)) hst_99 hx_101 (by omega)).symm.trans ((af_go hy_77).symm.trans hX39); rw [show 16 - L39 - 1 = 16 - (L39 + 1) by omega] at q; exact q), hd_104, hf_105⟩) (by omega) (((JR.fI q_84 (by decide) (by decide) (nfc (by omega) (nfc (by omega) (nfc (by omega) (nfc (by omega) (nfc (by omega) (nfc (by omega) (nfc (by omega) (nfc (by omega) nf0))))))))).trans ((JR.fI q_69 (by decide) (by decide) (nfc (by omega) (nfc (by omega) nf0))).trans i39_5))) (((JR.fI q_84 (by decide) (by decide) (nfc (by omega) (nfc (by omega) (nfc (by omega) (nfc (by omega) (nfc (by omega) (nfc (by omega) (nfc (by omega) (nfc (by omega) nf0))))))))).trans ((JR.fI q_69 (by decide) (by decide) (nfc (by omega) (nfc (by omega) nf0))).trans i39_6))) (((JR.fI q_84 (by decide) (by decide) (nfc (by omega) (nfc (by omega) (nfc (by omega) (nfc (by omega) (nfc (by omega) (nfc (by omega) (nfc (by omega) (nfc (by omega) nf0))))))))).trans ((JR.fI q_69 (by decide) (by decide) (nfc (by omega) (nfc (by omega) nf0))).trans i39_7))) (((JR.fI q_84 (by decide) (by decide) (nfc (by omega) (nfc (by omega) (nfc (by omega) (nfc (by omega) (nfc (by omega) (nfc (by omega) (nfc (by omega) (nfc (by omega) nf0))))))))).trans ((JR.fI q_69 (by decide) (by decide) (nfc (by omega) (nfc (by omega) nf0))).trans i39_8))) (((congrArg (fun z => rs (fI z)) (JR.same q_84 (by decide) (by decide) (fun k => (nfc (by omega) (nfc (by omega) (nfc (by omega) (nfc (by omega) (nfc (by omega) (nfc (by omega) (nfc (by omega) (nfc (by omega) nf0))))))))))).trans ((congrArg (fun z => rs (fI z)) (JR.same q_69 (by decide) (by decide) (fun k => (nfc (by omega) (nfc (by omega) nf0))))).trans i39_9))))
                  exact ⟨rfl, ⟨rfl, ⟨rfl, trivial⟩⟩⟩
              · skip
                refine aw_eqi (y := 0) e_82 ?_
                refine aw_if_eq (tgt := 74) dX12_orders_60 (by decide) (fun c_110 => ?_) (fun c_110 => ?_)
                rotate_left
                · exact absurd (by decide) c_110
                refine aw_iconst (v := 0) dX12_orders_74 (by decide) ?_
                refine aw_istore_n (ls' := [some (.ref (b + 100)), some (.int (nI zn0)), some (.int 0)]) dX12_orders_75 (Nat.le_of_ble_eq_true rfl) rfl ?_
                refine aw_goto (tgt := 39) dX12_orders_76 (by decide) ?_
                refine aw_le ?_ (mih_39_53 _ (by rw [hm39]; exact tl_dec c_54 (by omega) (Or.inl rfl) (by omega)) a39 L39 S39 0 V_73 rfl (j_72) (((JR.fI q_69 (by decide) (by decide) (nfc (by omega) (nfc (by omega) nf0))).trans i39_1)) (((JR.same q_69 (by decide) (by decide) (fun k => (nfc (by omega) (nfc (by omega) nf0)))).trans i39_2)) (Or.inl ⟨rfl, hX39.symm.trans ((af_no (by omega) hn_80).trans (congrArg Sum.inl hk_81.symm))⟩) (by omega) (((JR.fI q_69 (by decide) (by decide) (nfc (by omega) (nfc (by omega) nf0))).trans i39_5)) (((JR.fI q_69 (by decide) (by decide) (nfc (by omega) (nfc (by omega) nf0))).trans i39_6)) (((JR.fI q_69 (by decide) (by decide) (nfc (by omega) (nfc (by omega) nf0))).trans i39_7)) (((JR.fI q_69 (by decide) (by decide) (nfc (by omega) (nfc (by omega) nf0))).trans i39_8)) (((congrArg (fun z => rs (fI z)) (JR.same q_69 (by decide) (by decide) (fun k => (nfc (by omega) (nfc (by omega) nf0))))).trans i39_9)))
                exact ⟨rfl, ⟨rfl, ⟨rfl, trivial⟩⟩⟩
        refine aw_le ?_ (ml_39_53 _ 0 0 ((fI (V 100) 10), (rs (fI (V 104)))) 0 V_33 rfl (j_32) (((JR.fI q_29 (by decide) (by decide) (nfc (by omega) (nfc (by omega) (nfc (by omega) (nfc (by omega) (nfc (by omega) (nfc (by omega) (nfc (by omega) (nfc (by omega) nf0))))))))).trans ((JR.fI q_23 (by decide) (by decide) (nfc (by omega) (nfc (by omega) (nfc (by omega) (nfc (by omega) nf0))))).trans (KA (s := 36) (x := .int 0) e_21 rfl (by decide) e_22 k_22 hb_18b)))) (((JR.same q_29 (by decide) (by decide) (fun k => (nfc (by omega) (nfc (by omega) (nfc (by omega) (nfc (by omega) (nfc (by omega) (nfc (by omega) (nfc (by omega) (nfc (by omega) nf0)))))))))).trans ((JR.same q_23 (by decide) (by decide) (fun k => (nfc (by omega) (nfc (by omega) (nfc (by omega) (nfc (by omega) nf0)))))).trans ((k_22 _ (by decide)).trans ((JR.same q_14 (by decide) (by decide) (fun k => (nfc (by omega) (nfc (by omega) (nfc (by omega) (nfc (by omega) nf0)))))).trans e_2))))) (Or.inl ⟨rfl, hx_39.trans (congrArg Sum.inl hk_40.symm)⟩) (by omega) (((JR.fI q_29 (by decide) (by decide) (nfc (by omega) (nfc (by omega) (nfc (by omega) (nfc (by omega) (nfc (by omega) (nfc (by omega) (nfc (by omega) (nfc (by omega) nf0))))))))).trans ((JR.fI q_23 (by decide) (by decide) (nfc (by omega) (nfc (by omega) (nfc (by omega) (nfc (by omega) nf0))))).trans (KA (s := 36) (x := .int 0) e_21 rfl (by decide) e_22 k_22 ((JR.fI q_14 (by decide) (by decide) (nfc (by omega) (nfc (by omega) (nfc (by omega) (nfc (by omega) nf0))))).trans (Eq.refl (fI (V 100) 9))))))) (((JR.fI q_29 (by decide) (by decide) (nfc (by omega) (nfc (by omega) (nfc (by omega) (nfc (by omega) (nfc (by omega) (nfc (by omega) (nfc (by omega) (nfc (by omega) nf0))))))))).trans ((JR.fI q_23 (by decide) (by decide) (nfc (by omega) (nfc (by omega) (nfc (by omega) (nfc (by omega) nf0))))).trans (KA (s := 36) (x := .int 0) e_21 rfl (by decide) e_22 k_22 ((JR.fI q_14 (by decide) (by decide) (nfc (by omega) (nfc (by omega) (nfc (by omega) (nfc (by omega) nf0))))).trans (Eq.refl (fI (V 101) 208))))))) (((JR.fI q_29 (by decide) (by decide) (nfc (by omega) (nfc (by omega) (nfc (by omega) (nfc (by omega) (nfc (by omega) (nfc (by omega) (nfc (by omega) (nfc (by omega) nf0))))))))).trans (h_24.1.trans (KA (s := 36) (x := .int 0) e_21 rfl (by decide) e_22 k_22 ((JR.fI q_14 (by decide) (by decide) (nfc (by omega) (nfc (by omega) (nfc (by omega) (nfc (by omega) nf0))))).trans (Eq.refl (fI (V 101) 208))))))) (((JR.fI q_29 (by decide) (by decide) (nfc (by omega) (nfc (by omega) (nfc (by omega) (nfc (by omega) (nfc (by omega) (nfc (by omega) (nfc (by omega) (nfc (by omega) nf0))))))))).trans (h_24.2.1.trans (KA (s := 36) (x := .int 0) e_21 rfl (by decide) e_22 k_22 ((JR.fI q_14 (by decide) (by decide) (nfc (by omega) (nfc (by omega) (nfc (by omega) (nfc (by omega) nf0))))).trans (Eq.refl (fI (V 100) 10))))))) (((congrArg (fun z => rs (fI z)) (JR.same q_29 (by decide) (by decide) (fun k => (nfc (by omega) (nfc (by omega) (nfc (by omega) (nfc (by omega) (nfc (by omega) (nfc (by omega) (nfc (by omega) (nfc (by omega) nf0))))))))))).trans (h_24.2.2.trans ((congrArg (fun z => rs (fI z)) (k_22 _ (by omega))).trans ((congrArg (fun z => rs (fI z)) (JR.same q_14 (by decide) (by decide) (fun k => (nfc (by omega) (nfc (by omega) (nfc (by omega) (nfc (by omega) nf0))))))).trans (Eq.refl (rs (fI (V 104))))))))))
        exact ⟨rfl, ⟨rfl, ⟨rfl, trivial⟩⟩⟩
      · skip
        refine aw_eqi (y := 1) e_52 ?_
        obtain ⟨hb_51a, hb_51b⟩ := hb_51
        refine aw_istore_n (ls' := [some (.ref (b + 100)), some (.int (nI zn0)), some (.int 1)]) dX12_orders_38 (Nat.le_of_ble_eq_true rfl) rfl ?_
        have ml_39_111 : ∀ (m : Nat) (a39 : Nat) (L39 : Nat) (S39 : OS) (v39_2 : Int32) (V39 : Wd), m = 2 * (240 - a39) + (if v39_2 = 0 then 0 else 1) → (JR D b N cl [(101, 102, 0, 1000000), (104, 109, 0, 1000000), (100, 100, 14, 14), (100, 100, 15, 15), (100, 100, 19, 19), (100, 100, 21, 21), (100, 100, 36, 36), (100, 100, 11, 11), (100, 100, 17, 17), (100, 100, 16, 16), (100, 100, 10, 10), (100, 100, 13, 13)] V V39) → (fI (V39 100) 15 = nI zn0) → (V39 110 = cB D 260 g_2) → ((v39_2 = 0 ∧ txO (gb g_2) zn0 (fI (V 100) 9) 16 0 ((fI (V 100) 10), (rs (fI (V 104)))) = .inl (fI (V39 100) 16)) ∨ (v39_2 = 1 ∧ fI (V39 100) 14 = nI a39 ∧ fI (V39 100) 36 = nI L39 ∧ (1 ≤ L39 ∧ L39 ≤ 16 ∧ a39 ≤ zn0) ∧ afO (gb g_2) zn0 (fI (V 100) 9) (16 - L39) a39 S39 = txO (gb g_2) zn0 (fI (V 100) 9) 16 0 ((fI (V 100) 10), (rs (fI (V 104)))) ∧ fI (V39 100) 10 = S39.1 ∧ rs (fI (V39 104)) = S39.2)) → (a39 ≤ 240) → (fI (V39 100) 9 = (fI (V 100) 9)) → (fI (V39 101) 208 = (fI (V 101) 208)) → (fI (V39 102) 208 = (fI (V 101) 208)) → (fI (V39 100) 11 = (fI (V 100) 10)) → (rs (fI (V39 105)) = (rs (fI (V 104)))) → AW l D b jX12_orders (fx_rm 6 0 0) none (fx_MQ D b 0 0 (fx_qi (fun r N9 V9 => (ANS (cIn m0 1 120 (fI (V 100) 13)) r (cod (ordX (gb (fI (V 110))) m0 (fI (V 100) 9) ((fI (V 100) 10), (rs (fI (V 104)))))) ∧ TKS (cIn m0 1 120 (fI (V 100) 13)) (fI (V 100) 13) (fI (V9 100) 13) ∧ fI (V9 101) 208 = fI (V 101) 208 ∧ fI (V9 100) 9 = fI (V 100) 9 ∧ UPD (cIn m0 1 120 (fI (V 100) 13)) (fI (V9 100) 10) (fI (V 100) 10) (ostD (ordX (gb (fI (V 110))) m0 (fI (V 100) 9) ((fI (V 100) 10), (rs (fI (V 104))))) (fI (V 100) 10)) ∧ UPD (cIn m0 1 120 (fI (V 100) 13)) (rs (fI (V9 104))) (rs (fI (V 104))) (ostK (ordX (gb (fI (V 110))) m0 (fI (V 100) 9) ((fI (V 100) 10), (rs (fI (V 104))))) (rs (fI (V 104))))) ∧ N = N9 ∧ JR D b N cl [(101, 102, 0, 1000000), (104, 109, 0, 1000000), (100, 100, 14, 14), (100, 100, 15, 15), (100, 100, 19, 19), (100, 100, 21, 21), (100, 100, 36, 36), (100, 100, 11, 11), (100, 100, 17, 17), (100, 100, 16, 16), (100, 100, 10, 10), (100, 100, 13, 13)] V V9))) 39 [some (.ref (b + 100)), some (.int (nI zn0)), some (.int v39_2)] [] N V39 0 0 := by
          intro m; refine Nat.strongRecOn m ?_
          intro m mih_39_111 a39 L39 S39 v39_2 V39 hm39 i39_0 i39_1 i39_2 i39_3 i39_4 i39_5 i39_6 i39_7 i39_8 i39_9
          refine aw_iload_n dX12_orders_39 rfl ?_
          refine aw_if_eq (tgt := 79) dX12_orders_40 (by decide) (fun c_112 => ?_) (fun c_112 => ?_)
          · skip
            refine aw_aload_n dX12_orders_79 rfl ?_
            refine aw_iconst (v := 0) dX12_orders_80 (by decide) ?_
            obtain ⟨ftoldPeople_113, ftoldDoors_113, fwasDoors_113, ffault_113, fopen_113, flines_113, fmeantSet_113, fopenedNow_113, fvainNow_113, flowNow_113, fhighNow_113, fisKept_113, tad_113, pl0_113, le0_113, nu0_113, coy_113, wag_113, say_113, e_113, hntad_113, hnpl0_113, hnle0_113, hnnu0_113, hncoy_113, hnwag_113, hnsay_113⟩ := JR.get i39_0 cm_100
            refine aw_put dX12_orders_81 fp_X12_152 e_113 (by omega) rfl rfl (Nat.le_of_ble_eq_true rfl) rfl ?_
            refine aw_upR i39_0 cm_100 ⟨_, _, _, _, _, _, _, _, _, _, _, _, 0, pl0_113, le0_113, nu0_113, coy_113, wag_113, say_113, rfl, by omega, by omega, by omega, by omega, by omega, by omega, by omega⟩ (by decide) (WO (s := 13) (x := .int 0) e_113 rfl (LMs (LMs (LMs (LMs (LMs (LMs (LMs (LMs (LMs (LMs (LMs LM0))))))))))) (by decide) (by decide) (by decide) (Or.inl (by decide))) (fun V_114 j_114 k_114 e_114 => ?_)
            refine aw_iload_n dX12_orders_84 rfl ?_
            refine aw_if_eq (tgt := 93) dX12_orders_85 (by decide) (fun c_115 => ?_) (fun c_115 => ?_)
            rotate_left
            · exact absurd c_112 c_115
            refine aw_aload_n dX12_orders_93 rfl ?_
            refine aw_callVv (J' := jX12_putsBack) (As := []) (st := []) dX12_orders_94 tb_1363 ok_X12_putsBack ⟨_, e_114⟩ (by omega) rfl rfl (r_putsBackS l D b N V_114 hN cl j_114.1) rfl (Nat.le_of_ble_eq_true rfl) ⟨Nat.le_of_ble_eq_true rfl, Nat.le_of_ble_eq_true rfl, Nat.le_of_ble_eq_true rfl, Nat.le_of_ble_eq_true rfl⟩ (fun  N_120 V_119 q_121 => ?_)
            obtain ⟨h_117, rfl, q_116⟩ := q_121
            have j_118 := JR.trans j_114 (JR.weak q_116 (Sub.cons LM0 (by decide) (by decide) (by decide) (Or.inl rfl) (Sub.cons (LMs LM0) (by decide) (by decide) (by decide) (Or.inl rfl) (Sub.cons (LMs LM0) (by decide) (by decide) (by decide) (Or.inl rfl) (Sub.cons (LMs (LMs (LMs (LMs (LMs (LMs (LMs (LMs (LMs (LMs LM0)))))))))) (by decide) (by decide) (by decide) (Or.inr ⟨by decide, by decide⟩) Sub.nil)))))
            refine aw_aload_n dX12_orders_97 rfl ?_
            obtain ⟨ftoldPeople_122, ftoldDoors_122, fwasDoors_122, ffault_122, fopen_122, flines_122, fmeantSet_122, fopenedNow_122, fvainNow_122, flowNow_122, fhighNow_122, fisKept_122, tad_122, pl0_122, le0_122, nu0_122, coy_122, wag_122, say_122, e_122, hntad_122, hnpl0_122, hnle0_122, hnnu0_122, hncoy_122, hnwag_122, hnsay_122⟩ := JR.get j_118 cm_100
            refine aw_get dX12_orders_98 fl_X12_169 e_122 (by omega) rfl ?_
            refine aw_eqi (y := (fI (V39 100) 16)) ((Eq.symm (congrArg (fun z => fI z 16) e_122)).trans ((JR.fI q_116 (by decide) (by decide) (nfc (by omega) (nfc (by omega) (nfc (by omega) (nfc (by omega) nf0))))).trans (KA (s := 13) (x := .int 0) e_113 rfl (by decide) e_114 k_114 (Eq.refl (fI (V39 100) 16))))) ?_
            refine aw_ireti dX12_orders_101 rfl (Nat.le_of_ble_eq_true rfl) (Nat.le_of_ble_eq_true rfl) ?_
            exact ⟨⟨Or.inl ⟨(by have zhi_6 := hi_6.resolve_left c_12; have zzzn0 := fx_nIt (n := zn0) (by omega); have zt := fx_nIt (n := tad_1) (by omega); have e0 : (0 : Int32).toInt = 0 := (by decide); have e1 : (1 : Int32).toInt = 1 := (by decide); have e120 : (120 : Int32).toInt = 120 := (by decide); have q0 := zhi_6; have q1 := hm; have q2 := hta0; simp only [cIn, ← Int32.toInt_inj, Int32.le_iff_toInt_le, Int32.lt_iff_toInt_lt] at q0 q1 q2 ⊢; omega), (congrArg cod ((ordX_ofm e_2 hm (by omega)).trans (i39_3.resolve_right (fun z => absurd ((c_112).symm.trans z.1) (by decide))).2)).symm⟩, Or.inl ⟨(by have zhi_6 := hi_6.resolve_left c_12; have zzzn0 := fx_nIt (n := zn0) (by omega); have zt := fx_nIt (n := tad_1) (by omega); have e0 : (0 : Int32).toInt = 0 := (by decide); have e1 : (1 : Int32).toInt = 1 := (by decide); have e120 : (120 : Int32).toInt = 120 := (by decide); have q0 := zhi_6; have q1 := hm; have q2 := hta0; simp only [cIn, ← Int32.toInt_inj, Int32.le_iff_toInt_le, Int32.lt_iff_toInt_lt] at q0 q1 q2 ⊢; omega), ((JR.fI q_116 (by decide) (by decide) (nfc (by omega) (nfc (by omega) (nfc (by omega) (nfc (by omega) nf0))))).trans ((congrArg (fun z => fI z 13) e_114).trans rfl))⟩, (h_117.1.trans (KA (s := 13) (x := .int 0) e_113 rfl (by decide) e_114 k_114 i39_7)), ((JR.fI q_116 (by decide) (by decide) (nfc (by omega) (nfc (by omega) (nfc (by omega) (nfc (by omega) nf0))))).trans (KA (s := 13) (x := .int 0) e_113 rfl (by decide) e_114 k_114 i39_5)), Or.inl ⟨(by have zhi_6 := hi_6.resolve_left c_12; have zzzn0 := fx_nIt (n := zn0) (by omega); have zt := fx_nIt (n := tad_1) (by omega); have e0 : (0 : Int32).toInt = 0 := (by decide); have e1 : (1 : Int32).toInt = 1 := (by decide); have e120 : (120 : Int32).toInt = 120 := (by decide); have q0 := zhi_6; have q1 := hm; have q2 := hta0; simp only [cIn, ← Int32.toInt_inj, Int32.le_iff_toInt_le, Int32.lt_iff_toInt_lt] at q0 q1 q2 ⊢; omega), ((h_117.2.1.trans (KA (s := 13) (x := .int 0) e_113 rfl (by decide) e_114 k_114 i39_8))).trans (ostD_l ((ordX_ofm e_2 hm (by omega)).trans (i39_3.resolve_right (fun z => absurd ((c_112).symm.trans z.1) (by decide))).2)).symm⟩, Or.inl ⟨(by have zhi_6 := hi_6.resolve_left c_12; have zzzn0 := fx_nIt (n := zn0) (by omega); have zt := fx_nIt (n := tad_1) (by omega); have e0 : (0 : Int32).toInt = 0 := (by decide); have e1 : (1 : Int32).toInt = 1 := (by decide); have e120 : (120 : Int32).toInt = 120 := (by decide); have q0 := zhi_6; have q1 := hm; have q2 := hta0; simp only [cIn, ← Int32.toInt_inj, Int32.le_iff_toInt_le, Int32.lt_iff_toInt_lt] at q0 q1 q2 ⊢; omega), ((h_117.2.2.trans ((congrArg (fun z => rs (fI z)) (k_114 _ (by omega))).trans i39_9))).trans (ostK_l ((ordX_ofm e_2 hm (by omega)).trans (i39_3.resolve_right (fun z => absurd ((c_112).symm.trans z.1) (by decide))).2)).symm⟩⟩, rfl, j_118⟩
          · skip
            obtain ⟨hgd39, hA39, hL39, ⟨b139, b239, b339⟩, hX39, hD39, hK39⟩ := i39_3.resolve_left (fun z => c_112 z.1)
            refine aw_aload_n dX12_orders_43 rfl ?_
            obtain ⟨ftoldPeople_123, ftoldDoors_123, fwasDoors_123, ffault_123, fopen_123, flines_123, fmeantSet_123, fopenedNow_123, fvainNow_123, flowNow_123, fhighNow_123, fisKept_123, tad_123, pl0_123, le0_123, nu0_123, coy_123, wag_123, say_123, e_123, hntad_123, hnpl0_123, hnle0_123, hnnu0_123, hncoy_123, hnwag_123, hnsay_123⟩ := JR.get i39_0 cm_100
            refine aw_get dX12_orders_44 fl_X12_159 e_123 (by omega) rfl ?_
            refine aw_eqi (y := (nI a39)) ((Eq.symm (congrArg (fun z => fI z 14) e_123)).trans hA39) ?_
            refine aw_aload_n dX12_orders_47 rfl ?_
            refine aw_get dX12_orders_48 fl_X12_162 e_123 (by omega) rfl ?_
            refine aw_eqi (y := (nI zn0)) ((Eq.symm (congrArg (fun z => fI z 15) e_123)).trans i39_1) ?_
            refine aw_icmp_ge (tgt := 79) dX12_orders_51 (by decide) (fun c_124 => ?_) (fun c_124 => ?_)
            · skip
              have nc_124 : zn0 ≤ a39 := (nI_leI (a := zn0) (b := a39) (by omega) (by omega)).mp c_124
              refine aw_aload_n dX12_orders_79 rfl ?_
              refine aw_iconst (v := 0) dX12_orders_80 (by decide) ?_
              refine aw_put dX12_orders_81 fp_X12_152 e_123 (by omega) rfl rfl (Nat.le_of_ble_eq_true rfl) rfl ?_
              refine aw_upR i39_0 cm_100 ⟨_, _, _, _, _, _, _, _, _, _, _, _, 0, pl0_123, le0_123, nu0_123, coy_123, wag_123, say_123, rfl, by omega, by omega, by omega, by omega, by omega, by omega, by omega⟩ (by decide) (WO (s := 13) (x := .int 0) e_123 rfl (LMs (LMs (LMs (LMs (LMs (LMs (LMs (LMs (LMs (LMs (LMs LM0))))))))))) (by decide) (by decide) (by decide) (Or.inl (by decide))) (fun V_125 j_125 k_125 e_125 => ?_)
              refine aw_iload_n dX12_orders_84 rfl ?_
              refine aw_if_eq (tgt := 93) dX12_orders_85 (by decide) (fun c_126 => ?_) (fun c_126 => ?_)
              · first | exact absurd c_126 c_112 | exact absurd c_112 c_126 | exact absurd c_126 (Int32.not_lt.mpr c_112) | exact absurd c_112 (Int32.not_lt.mpr c_126) | exact c_112 (Int32.not_lt.mp c_126) | exact c_112 (Int32.not_le.mp c_126)
              refine aw_aload_n dX12_orders_88 rfl ?_
              refine aw_get dX12_orders_89 fl_X12_268 e_125 (by omega) rfl ?_
              refine aw_eqi (y := (nI L39)) ((Eq.symm (congrArg (fun z => fI z 36) e_125)).trans (KA (s := 13) (x := .int 0) e_123 rfl (by decide) e_125 k_125 hL39)) ?_
              refine aw_ireti dX12_orders_92 rfl (Nat.le_of_ble_eq_true rfl) (Nat.le_of_ble_eq_true rfl) ?_
              exact ⟨⟨Or.inl ⟨(by have zhi_6 := hi_6.resolve_left c_12; have zzzn0 := fx_nIt (n := zn0) (by omega); have zt := fx_nIt (n := tad_1) (by omega); have e0 : (0 : Int32).toInt = 0 := (by decide); have e1 : (1 : Int32).toInt = 1 := (by decide); have e120 : (120 : Int32).toInt = 120 := (by decide); have q0 := zhi_6; have q1 := hm; have q2 := hta0; simp only [cIn, ← Int32.toInt_inj, Int32.le_iff_toInt_le, Int32.lt_iff_toInt_lt] at q0 q1 q2 ⊢; omega), (congrArg nI (by omega : L39 = 16 - (16 - L39))).trans (congrArg cod ((ordX_ofm e_2 hm (by omega)).trans (hX39.symm.trans (af_end (by omega))))).symm⟩, Or.inl ⟨(by have zhi_6 := hi_6.resolve_left c_12; have zzzn0 := fx_nIt (n := zn0) (by omega); have zt := fx_nIt (n := tad_1) (by omega); have e0 : (0 : Int32).toInt = 0 := (by decide); have e1 : (1 : Int32).toInt = 1 := (by decide); have e120 : (120 : Int32).toInt = 120 := (by decide); have q0 := zhi_6; have q1 := hm; have q2 := hta0; simp only [cIn, ← Int32.toInt_inj, Int32.le_iff_toInt_le, Int32.lt_iff_toInt_lt] at q0 q1 q2 ⊢; omega), ((congrArg (fun z => fI z 13) e_125).trans rfl)⟩, (KA (s := 13) (x := .int 0) e_123 rfl (by decide) e_125 k_125 i39_6), (KA (s := 13) (x := .int 0) e_123 rfl (by decide) e_125 k_125 i39_5), Or.inl ⟨(by have zhi_6 := hi_6.resolve_left c_12; have zzzn0 := fx_nIt (n := zn0) (by omega); have zt := fx_nIt (n := tad_1) (by omega); have e0 : (0 : Int32).toInt = 0 := (by decide); have e1 : (1 : Int32).toInt = 1 := (by decide); have e120 : (120 : Int32).toInt = 120 := (by decide); have q0 := zhi_6; have q1 := hm; have q2 := hta0; simp only [cIn, ← Int32.toInt_inj, Int32.le_iff_toInt_le, Int32.lt_iff_toInt_lt] at q0 q1 q2 ⊢; omega), ((KA (s := 13) (x := .int 0) e_123 rfl (by decide) e_125 k_125 hD39)).trans (ostD_r ((ordX_ofm e_2 hm (by omega)).trans (hX39.symm.trans (af_end (by omega))))).symm⟩, Or.inl ⟨(by have zhi_6 := hi_6.resolve_left c_12; have zzzn0 := fx_nIt (n := zn0) (by omega); have zt := fx_nIt (n := tad_1) (by omega); have e0 : (0 : Int32).toInt = 0 := (by decide); have e1 : (1 : Int32).toInt = 1 := (by decide); have e120 : (120 : Int32).toInt = 120 := (by decide); have q0 := zhi_6; have q1 := hm; have q2 := hta0; simp only [cIn, ← Int32.toInt_inj, Int32.le_iff_toInt_le, Int32.lt_iff_toInt_lt] at q0 q1 q2 ⊢; omega), (((congrArg (fun z => rs (fI z)) (k_125 _ (by omega))).trans hK39)).trans (ostK_r ((ordX_ofm e_2 hm (by omega)).trans (hX39.symm.trans (af_end (by omega))))).symm⟩⟩, rfl, j_125⟩
            · skip
              have nc_124 : ¬ (zn0 ≤ a39) := fun z => c_124 ((nI_leI (a := zn0) (b := a39) (by omega) (by omega)).mpr z)
              refine aw_aload_n dX12_orders_54 rfl ?_
              refine aw_bipush (v := 59) dX12_orders_55 (by decide) ?_
              refine aw_callVi (J' := jX12_takes) (As := [.int 59]) (st := []) dX12_orders_57 tb_1291 ok_X12_takes ⟨_, e_123⟩ (by omega) rfl rfl (r_takesS l D b N V39 hN cl i39_0.1 59 g_2 i39_2 zn0 a39 ⟨by omega, by omega⟩ i39_1 hA39 (by decide)) rfl (Nat.le_of_ble_eq_true rfl) ⟨Nat.le_of_ble_eq_true rfl, Nat.le_of_ble_eq_true rfl, Nat.le_of_ble_eq_true rfl, Nat.le_of_ble_eq_true rfl⟩ (fun r_132 N_133 V_131 q_134 => ?_)
              obtain ⟨⟨z_129, h_128⟩, rfl, q_127⟩ := q_134
              have j_130 := JR.trans i39_0 (JR.weak q_127 (Sub.cons (LMs (LMs LM0)) (by decide) (by decide) (by decide) (Or.inr ⟨by decide, by decide⟩) (Sub.cons (LMs (LMs (LMs (LMs (LMs (LMs (LMs (LMs (LMs LM0))))))))) (by decide) (by decide) (by decide) (Or.inr ⟨by decide, by decide⟩) Sub.nil)))
              rcases h_128 with ⟨hy_135, hk_136, e_137⟩ | ⟨hn_138, hk_139, e_140⟩
              · skip
                refine aw_eqi (y := 1) e_137 ?_
                have hlhy_135 := hd_lit hy_135 (by decide)
                refine aw_if_eq (tgt := 74) dX12_orders_60 (by decide) (fun c_141 => ?_) (fun c_141 => ?_)
                · exact absurd c_141 (by decide)
                refine aw_aload_n dX12_orders_63 rfl ?_
                obtain ⟨ftoldPeople_147, ftoldDoors_147, fwasDoors_147, ffault_147, fopen_147, flines_147, fmeantSet_147, fopenedNow_147, fvainNow_147, flowNow_147, fhighNow_147, fisKept_147, tad_147, pl0_147, le0_147, nu0_147, coy_147, wag_147, say_147, e_147, hntad_147, hnpl0_147, hnle0_147, hnnu0_147, hncoy_147, hnwag_147, hnsay_147⟩ := JR.get j_130 cm_100
                refine aw_callVi (J' := jX12_readsOrder) (As := []) (st := []) dX12_orders_64 tb_1339 ok_X12_readsOrder ⟨_, e_147⟩ (by omega) rfl rfl (r_readsOrderS l D b N V_131 hN cl j_130.1 g_2 ((JR.same q_127 (by decide) (by decide) (fun k => (nfc (by omega) (nfc (by omega) nf0)))).trans i39_2) zn0 (a39 + 1) ⟨by omega, by omega⟩ ((JR.fI q_127 (by decide) (by decide) (nfc (by omega) (nfc (by omega) nf0))).trans i39_1) hk_136 (fI (V 100) 9) ((JR.fI q_127 (by decide) (by decide) (nfc (by omega) (nfc (by omega) nf0))).trans i39_5) S39 ((JR.fI q_127 (by decide) (by decide) (nfc (by omega) (nfc (by omega) nf0))).trans hD39) ((congrArg (fun z => rs (fI z)) (JR.same q_127 (by decide) (by decide) (fun k => (nfc (by omega) (nfc (by omega) nf0))))).trans hK39) L39 ⟨((JR.fI q_127 (by decide) (by decide) (nfc (by omega) (nfc (by omega) nf0))).trans hL39), by omega⟩) rfl (Nat.le_of_ble_eq_true rfl) ⟨Nat.le_of_ble_eq_true rfl, Nat.le_of_ble_eq_true rfl, Nat.le_of_ble_eq_true rfl, Nat.le_of_ble_eq_true rfl⟩ (fun r_148 N_149 V_146 q_150 => ?_)
                obtain ⟨⟨z_144, h_143⟩, rfl, q_142⟩ := q_150
                have j_145 := JR.trans j_130 (JR.weak q_142 (Sub.cons (LMs LM0) (by decide) (by decide) (by decide) (Or.inl rfl) (Sub.cons (LMs LM0) (by decide) (by decide) (by decide) (Or.inl rfl) (Sub.cons (LMs (LMs (LMs (LMs (LMs (LMs LM0)))))) (by decide) (by decide) (by decide) (Or.inr ⟨by decide, by decide⟩) (Sub.cons (LMs (LMs LM0)) (by decide) (by decide) (by decide) (Or.inr ⟨by decide, by decide⟩) (Sub.cons (LMs (LMs (LMs (LMs (LMs (LMs (LMs (LMs LM0)))))))) (by decide) (by decide) (by decide) (Or.inr ⟨by decide, by decide⟩) (Sub.cons (LMs (LMs (LMs (LMs (LMs (LMs (LMs (LMs (LMs LM0))))))))) (by decide) (by decide) (by decide) (Or.inr ⟨by decide, by decide⟩) (Sub.cons (LMs (LMs (LMs (LMs (LMs (LMs (LMs (LMs (LMs (LMs LM0)))))))))) (by decide) (by decide) (by decide) (Or.inr ⟨by decide, by decide⟩) (Sub.cons LM0 (by decide) (by decide) (by decide) (Or.inl rfl) Sub.nil)))))))))
                rcases h_143 with ⟨f_151, hx_152, hk_153, e_154⟩ | ⟨a_155, s_156, hst_157, hl_158, hx_159, hk_160, hL_161, hd_162, hf_163, hb_164, e_165⟩
                · skip
                  refine aw_eqi (y := 0) e_154 ?_
                  refine aw_if_eq (tgt := 74) dX12_orders_67 (by decide) (fun c_166 => ?_) (fun c_166 => ?_)
                  rotate_left
                  · exact absurd (by decide) c_166
                  refine aw_iconst (v := 0) dX12_orders_74 (by decide) ?_
                  refine aw_istore_n (ls' := [some (.ref (b + 100)), some (.int (nI zn0)), some (.int 0)]) dX12_orders_75 (Nat.le_of_ble_eq_true rfl) rfl ?_
                  refine aw_goto (tgt := 39) dX12_orders_76 (by decide) ?_
                  refine aw_le ?_ (mih_39_111 _ (by rw [hm39]; exact tl_dec c_112 (by omega) (Or.inl rfl) (by omega)) a39 L39 S39 0 V_146 rfl (j_145) (((JR.fI q_142 (by decide) (by decide) (nfc (by omega) (nfc (by omega) (nfc (by omega) (nfc (by omega) (nfc (by omega) (nfc (by omega) (nfc (by omega) (nfc (by omega) nf0))))))))).trans ((JR.fI q_127 (by decide) (by decide) (nfc (by omega) (nfc (by omega) nf0))).trans i39_1))) (((JR.same q_142 (by decide) (by decide) (fun k => (nfc (by omega) (nfc (by omega) (nfc (by omega) (nfc (by omega) (nfc (by omega) (nfc (by omega) (nfc (by omega) (nfc (by omega) nf0)))))))))).trans ((JR.same q_127 (by decide) (by decide) (fun k => (nfc (by omega) (nfc (by omega) nf0)))).trans i39_2))) (Or.inl ⟨rfl, hX39.symm.trans ((af_go hy_135).trans (hx_152.trans (congrArg Sum.inl hk_153.symm)))⟩) (by omega) (((JR.fI q_142 (by decide) (by decide) (nfc (by omega) (nfc (by omega) (nfc (by omega) (nfc (by omega) (nfc (by omega) (nfc (by omega) (nfc (by omega) (nfc (by omega) nf0))))))))).trans ((JR.fI q_127 (by decide) (by decide) (nfc (by omega) (nfc (by omega) nf0))).trans i39_5))) (((JR.fI q_142 (by decide) (by decide) (nfc (by omega) (nfc (by omega) (nfc (by omega) (nfc (by omega) (nfc (by omega) (nfc (by omega) (nfc (by omega) (nfc (by omega) nf0))))))))).trans ((JR.fI q_127 (by decide) (by decide) (nfc (by omega) (nfc (by omega) nf0))).trans i39_6))) (((JR.fI q_142 (by decide) (by decide) (nfc (by omega) (nfc (by omega) (nfc (by omega) (nfc (by omega) (nfc (by omega) (nfc (by omega) (nfc (by omega) (nfc (by omega) nf0))))))))).trans ((JR.fI q_127 (by decide) (by decide) (nfc (by omega) (nfc (by omega) nf0))).trans i39_7))) (((JR.fI q_142 (by decide) (by decide) (nfc (by omega) (nfc (by omega) (nfc (by omega) (nfc (by omega) (nfc (by omega) (nfc (by omega) (nfc (by omega) (nfc (by omega) nf0))))))))).trans ((JR.fI q_127 (by decide) (by decide) (nfc (by omega) (nfc (by omega) nf0))).trans i39_8))) (((congrArg (fun z => rs (fI z)) (JR.same q_142 (by decide) (by decide) (fun k => (nfc (by omega) (nfc (by omega) (nfc (by omega) (nfc (by omega) (nfc (by omega) (nfc (by omega) (nfc (by omega) (nfc (by omega) nf0))))))))))).trans ((congrArg (fun z => rs (fI z)) (JR.same q_127 (by decide) (by decide) (fun k => (nfc (by omega) (nfc (by omega) nf0))))).trans i39_9))))
                  exact ⟨rfl, ⟨rfl, ⟨rfl, trivial⟩⟩⟩
                · skip
                  refine aw_eqi (y := 1) e_165 ?_
                  obtain ⟨hb_164a, hb_164b⟩ := hb_164
                  refine aw_if_eq (tgt := 74) dX12_orders_67 (by decide) (fun c_167 => ?_) (fun c_167 => ?_)
                  · exact absurd c_167 (by decide)
                  refine aw_iconst (v := 1) dX12_orders_70 (by decide) ?_
                  refine aw_goto (tgt := 75) dX12_orders_71 (by decide) ?_
                  refine aw_istore_n (ls' := [some (.ref (b + 100)), some (.int (nI zn0)), some (.int 1)]) dX12_orders_75 (Nat.le_of_ble_eq_true rfl) rfl ?_
                  refine aw_goto (tgt := 39) dX12_orders_76 (by decide) ?_
                  refine aw_le ?_ (mih_39_111 _ (by rw [hm39]; exact tl_dec c_112 (by omega) (Or.inr (by omega)) (by omega)) a_155 (L39 + 1) s_156 1 V_146 rfl (j_145) (((JR.fI q_142 (by decide) (by decide) (nfc (by omega) (nfc (by omega) (nfc (by omega) (nfc (by omega) (nfc (by omega) (nfc (by omega) (nfc (by omega) (nfc (by omega) nf0))))))))).trans ((JR.fI q_127 (by decide) (by decide) (nfc (by omega) (nfc (by omega) nf0))).trans i39_1))) (((JR.same q_142 (by decide) (by decide) (fun k => (nfc (by omega) (nfc (by omega) (nfc (by omega) (nfc (by omega) (nfc (by omega) (nfc (by omega) (nfc (by omega) (nfc (by omega) nf0)))))))))).trans ((JR.same q_127 (by decide) (by decide) (fun k => (nfc (by omega) (nfc (by omega) nf0)))).trans i39_2))) (Or.inr ⟨rfl, hk_160, hL_161, ⟨by omega, by omega, by omega⟩, (by have q := (tx_go (M := 16) (ln := (fun a s => lnO (gb g_2) zn0 (fI (V 100) 9) a s)) hst_157 hx_159 (by omega)).symm.trans ((af_go hy_135).symm.trans hX39); rw [show 16 - L39 - 1 = 16 - (L39 + 1) by omega] at q; exact q), hd_162, hf_163⟩) (by omega) (((JR.fI q_142 (by decide) (by decide) (nfc (by omega) (nfc (by omega) (nfc (by omega) (nfc (by omega) (nfc (by omega) (nfc (by omega) (nfc (by omega) (nfc (by omega) nf0))))))))).trans ((JR.fI q_127 (by decide) (by decide) (nfc (by omega) (nfc (by omega) nf0))).trans i39_5))) (((JR.fI q_142 (by decide) (by decide) (nfc (by omega) (nfc (by omega) (nfc (by omega) (nfc (by omega) (nfc (by omega) (nfc (by omega) (nfc (by omega) (nfc (by omega) nf0))))))))).trans ((JR.fI q_127 (by decide) (by decide) (nfc (by omega) (nfc (by omega) nf0))).trans i39_6))) (((JR.fI q_142 (by decide) (by decide) (nfc (by omega) (nfc (by omega) (nfc (by omega) (nfc (by omega) (nfc (by omega) (nfc (by omega) (nfc (by omega) (nfc (by omega) nf0))))))))).trans ((JR.fI q_127 (by decide) (by decide) (nfc (by omega) (nfc (by omega) nf0))).trans i39_7))) (((JR.fI q_142 (by decide) (by decide) (nfc (by omega) (nfc (by omega) (nfc (by omega) (nfc (by omega) (nfc (by omega) (nfc (by omega) (nfc (by omega) (nfc (by omega) nf0))))))))).trans ((JR.fI q_127 (by decide) (by decide) (nfc (by omega) (nfc (by omega) nf0))).trans i39_8))) (((congrArg (fun z => rs (fI z)) (JR.same q_142 (by decide) (by decide) (fun k => (nfc (by omega) (nfc (by omega) (nfc (by omega) (nfc (by omega) (nfc (by omega) (nfc (by omega) (nfc (by omega) (nfc (by omega) nf0))))))))))).trans ((congrArg (fun z => rs (fI z)) (JR.same q_127 (by decide) (by decide) (fun k => (nfc (by omega) (nfc (by omega) nf0))))).trans i39_9))))
                  exact ⟨rfl, ⟨rfl, ⟨rfl, trivial⟩⟩⟩
              · skip
                refine aw_eqi (y := 0) e_140 ?_
                refine aw_if_eq (tgt := 74) dX12_orders_60 (by decide) (fun c_168 => ?_) (fun c_168 => ?_)
                rotate_left
                · exact absurd (by decide) c_168
                refine aw_iconst (v := 0) dX12_orders_74 (by decide) ?_
                refine aw_istore_n (ls' := [some (.ref (b + 100)), some (.int (nI zn0)), some (.int 0)]) dX12_orders_75 (Nat.le_of_ble_eq_true rfl) rfl ?_
                refine aw_goto (tgt := 39) dX12_orders_76 (by decide) ?_
                refine aw_le ?_ (mih_39_111 _ (by rw [hm39]; exact tl_dec c_112 (by omega) (Or.inl rfl) (by omega)) a39 L39 S39 0 V_131 rfl (j_130) (((JR.fI q_127 (by decide) (by decide) (nfc (by omega) (nfc (by omega) nf0))).trans i39_1)) (((JR.same q_127 (by decide) (by decide) (fun k => (nfc (by omega) (nfc (by omega) nf0)))).trans i39_2)) (Or.inl ⟨rfl, hX39.symm.trans ((af_no (by omega) hn_138).trans (congrArg Sum.inl hk_139.symm))⟩) (by omega) (((JR.fI q_127 (by decide) (by decide) (nfc (by omega) (nfc (by omega) nf0))).trans i39_5)) (((JR.fI q_127 (by decide) (by decide) (nfc (by omega) (nfc (by omega) nf0))).trans i39_6)) (((JR.fI q_127 (by decide) (by decide) (nfc (by omega) (nfc (by omega) nf0))).trans i39_7)) (((JR.fI q_127 (by decide) (by decide) (nfc (by omega) (nfc (by omega) nf0))).trans i39_8)) (((congrArg (fun z => rs (fI z)) (JR.same q_127 (by decide) (by decide) (fun k => (nfc (by omega) (nfc (by omega) nf0))))).trans i39_9)))
                exact ⟨rfl, ⟨rfl, ⟨rfl, trivial⟩⟩⟩
        refine aw_le ?_ (ml_39_111 _ a_42 (0 + 1) s_43 1 V_33 rfl (j_32) (((JR.fI q_29 (by decide) (by decide) (nfc (by omega) (nfc (by omega) (nfc (by omega) (nfc (by omega) (nfc (by omega) (nfc (by omega) (nfc (by omega) (nfc (by omega) nf0))))))))).trans ((JR.fI q_23 (by decide) (by decide) (nfc (by omega) (nfc (by omega) (nfc (by omega) (nfc (by omega) nf0))))).trans (KA (s := 36) (x := .int 0) e_21 rfl (by decide) e_22 k_22 hb_18b)))) (((JR.same q_29 (by decide) (by decide) (fun k => (nfc (by omega) (nfc (by omega) (nfc (by omega) (nfc (by omega) (nfc (by omega) (nfc (by omega) (nfc (by omega) (nfc (by omega) nf0)))))))))).trans ((JR.same q_23 (by decide) (by decide) (fun k => (nfc (by omega) (nfc (by omega) (nfc (by omega) (nfc (by omega) nf0)))))).trans ((k_22 _ (by decide)).trans ((JR.same q_14 (by decide) (by decide) (fun k => (nfc (by omega) (nfc (by omega) (nfc (by omega) (nfc (by omega) nf0)))))).trans e_2))))) (Or.inr ⟨rfl, hk_47, hL_48, ⟨by omega, by omega, by omega⟩, (tx_go (M := 16) (ln := (fun a s => lnO (gb g_2) zn0 (fI (V 100) 9) a s)) hst_44 hx_46 (by decide)).symm, hd_49, hf_50⟩) (by omega) (((JR.fI q_29 (by decide) (by decide) (nfc (by omega) (nfc (by omega) (nfc (by omega) (nfc (by omega) (nfc (by omega) (nfc (by omega) (nfc (by omega) (nfc (by omega) nf0))))))))).trans ((JR.fI q_23 (by decide) (by decide) (nfc (by omega) (nfc (by omega) (nfc (by omega) (nfc (by omega) nf0))))).trans (KA (s := 36) (x := .int 0) e_21 rfl (by decide) e_22 k_22 ((JR.fI q_14 (by decide) (by decide) (nfc (by omega) (nfc (by omega) (nfc (by omega) (nfc (by omega) nf0))))).trans (Eq.refl (fI (V 100) 9))))))) (((JR.fI q_29 (by decide) (by decide) (nfc (by omega) (nfc (by omega) (nfc (by omega) (nfc (by omega) (nfc (by omega) (nfc (by omega) (nfc (by omega) (nfc (by omega) nf0))))))))).trans ((JR.fI q_23 (by decide) (by decide) (nfc (by omega) (nfc (by omega) (nfc (by omega) (nfc (by omega) nf0))))).trans (KA (s := 36) (x := .int 0) e_21 rfl (by decide) e_22 k_22 ((JR.fI q_14 (by decide) (by decide) (nfc (by omega) (nfc (by omega) (nfc (by omega) (nfc (by omega) nf0))))).trans (Eq.refl (fI (V 101) 208))))))) (((JR.fI q_29 (by decide) (by decide) (nfc (by omega) (nfc (by omega) (nfc (by omega) (nfc (by omega) (nfc (by omega) (nfc (by omega) (nfc (by omega) (nfc (by omega) nf0))))))))).trans (h_24.1.trans (KA (s := 36) (x := .int 0) e_21 rfl (by decide) e_22 k_22 ((JR.fI q_14 (by decide) (by decide) (nfc (by omega) (nfc (by omega) (nfc (by omega) (nfc (by omega) nf0))))).trans (Eq.refl (fI (V 101) 208))))))) (((JR.fI q_29 (by decide) (by decide) (nfc (by omega) (nfc (by omega) (nfc (by omega) (nfc (by omega) (nfc (by omega) (nfc (by omega) (nfc (by omega) (nfc (by omega) nf0))))))))).trans (h_24.2.1.trans (KA (s := 36) (x := .int 0) e_21 rfl (by decide) e_22 k_22 ((JR.fI q_14 (by decide) (by decide) (nfc (by omega) (nfc (by omega) (nfc (by omega) (nfc (by omega) nf0))))).trans (Eq.refl (fI (V 100) 10))))))) (((congrArg (fun z => rs (fI z)) (JR.same q_29 (by decide) (by decide) (fun k => (nfc (by omega) (nfc (by omega) (nfc (by omega) (nfc (by omega) (nfc (by omega) (nfc (by omega) (nfc (by omega) (nfc (by omega) nf0))))))))))).trans (h_24.2.2.trans ((congrArg (fun z => rs (fI z)) (k_22 _ (by omega))).trans ((congrArg (fun z => rs (fI z)) (JR.same q_14 (by decide) (by decide) (fun k => (nfc (by omega) (nfc (by omega) (nfc (by omega) (nfc (by omega) nf0))))))).trans (Eq.refl (rs (fI (V 104))))))))))
        exact ⟨rfl, ⟨rfl, ⟨rfl, trivial⟩⟩⟩
    · skip
      have nc_13 : ¬ (zn0 ≤ tad_1) := fun z => c_13 ((nI_leI (a := zn0) (b := tad_1) (by omega) (by omega)).mpr z)
      refine aw_iconst (v := (-1)) dX12_orders_18 (by decide) ?_
      refine aw_ireti dX12_orders_19 rfl (Nat.le_of_ble_eq_true rfl) (Nat.le_of_ble_eq_true rfl) ?_
      exact ⟨⟨Or.inr ⟨(by have zhi_6 := hi_6.resolve_left c_12; have zzzn0 := fx_nIt (n := zn0) (by omega); have zt := fx_nIt (n := tad_1) (by omega); have e0 : (0 : Int32).toInt = 0 := (by decide); have e1 : (1 : Int32).toInt = 1 := (by decide); have e120 : (120 : Int32).toInt = 120 := (by decide); have q0 := zhi_6; have q1 := hm; have q2 := hta0; simp only [cIn, ← Int32.toInt_inj, Int32.le_iff_toInt_le, Int32.lt_iff_toInt_lt] at q0 q1 q2 ⊢; omega), rfl⟩, Or.inr ⟨(by have zhi_6 := hi_6.resolve_left c_12; have zzzn0 := fx_nIt (n := zn0) (by omega); have zt := fx_nIt (n := tad_1) (by omega); have e0 : (0 : Int32).toInt = 0 := (by decide); have e1 : (1 : Int32).toInt = 1 := (by decide); have e120 : (120 : Int32).toInt = 120 := (by decide); have q0 := zhi_6; have q1 := hm; have q2 := hta0; simp only [cIn, ← Int32.toInt_inj, Int32.le_iff_toInt_le, Int32.lt_iff_toInt_lt] at q0 q1 q2 ⊢; omega), hta0.trans hta0.symm⟩, (Eq.refl (fI (V 101) 208)), (Eq.refl (fI (V 100) 9)), Or.inr ⟨(by have zhi_6 := hi_6.resolve_left c_12; have zzzn0 := fx_nIt (n := zn0) (by omega); have zt := fx_nIt (n := tad_1) (by omega); have e0 : (0 : Int32).toInt = 0 := (by decide); have e1 : (1 : Int32).toInt = 1 := (by decide); have e120 : (120 : Int32).toInt = 120 := (by decide); have q0 := zhi_6; have q1 := hm; have q2 := hta0; simp only [cIn, ← Int32.toInt_inj, Int32.le_iff_toInt_le, Int32.lt_iff_toInt_lt] at q0 q1 q2 ⊢; omega), (Eq.refl (fI (V 100) 10))⟩, Or.inr ⟨(by have zhi_6 := hi_6.resolve_left c_12; have zzzn0 := fx_nIt (n := zn0) (by omega); have zt := fx_nIt (n := tad_1) (by omega); have e0 : (0 : Int32).toInt = 0 := (by decide); have e1 : (1 : Int32).toInt = 1 := (by decide); have e120 : (120 : Int32).toInt = 120 := (by decide); have q0 := zhi_6; have q1 := hm; have q2 := hta0; simp only [cIn, ← Int32.toInt_inj, Int32.le_iff_toInt_le, Int32.lt_iff_toInt_lt] at q0 q1 q2 ⊢; omega), (Eq.refl (rs (fI (V 104))))⟩⟩, rfl, hJ0⟩
