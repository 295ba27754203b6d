set_option maxHeartbeats 4000000 in
set_option maxRecDepth 100000 in
theorem g_X11_has (l : Launch) (D : va_G) (b : Nat) (N : Nat) (V : Wd) (hN : 100 ≤ N) (hW : CW D b V) (n0 : Int32) (n1 : Int32)  : MI l D b 0 jX11_has [.int n0, .int n1] N V 0 0 (fun r N9 V9 => (r = 0 ∨ r = 1) ∧ N = N9 ∧ V = V9) := by
  have hJ0 : JW D b N [] V V := JW.rf hW
  refine mw_of (by decide) (by simp [Value.category]) (Nat.le_of_ble_eq_true rfl) ?_
  show AW l D b jX11_has (fx_rm 0 0 0) none (fx_MQ D b 0 0 (fx_qi (fun r N9 V9 => (r = 0 ∨ r = 1) ∧ N = N9 ∧ V = V9))) 0 [some (.int n0), some (.int n1)] [] N V 0 0
  refine aw_iload_n dX11_has_0 rfl ?_
  refine aw_if_lt (tgt := 22) dX11_has_1 (by decide) (fun c_1 => ?_) (fun c_1 => ?_)
  · skip
    refine aw_iconst (v := 0) dX11_has_22 (by decide) ?_
    refine aw_zreti dX11_has_23 rfl (by first | exact Or.inl rfl | exact Or.inr rfl | assumption) (Nat.le_of_ble_eq_true rfl) (Nat.le_of_ble_eq_true rfl) ?_
    exact ⟨(by first | exact Or.inl rfl | exact Or.inr rfl | assumption), rfl, rfl⟩
  · skip
    refine aw_iload_n dX11_has_4 rfl ?_
    refine aw_bipush (v := 32) dX11_has_5 (by decide) ?_
    refine aw_icmp_ge (tgt := 22) dX11_has_7 (by decide) (fun c_2 => ?_) (fun c_2 => ?_)
    · skip
      refine aw_iconst (v := 0) dX11_has_22 (by decide) ?_
      refine aw_zreti dX11_has_23 rfl (by first | exact Or.inl rfl | exact Or.inr rfl | assumption) (Nat.le_of_ble_eq_true rfl) (Nat.le_of_ble_eq_true rfl) ?_
      exact ⟨(by first | exact Or.inl rfl | exact Or.inr rfl | assumption), rfl, rfl⟩
    · skip
      refine aw_iload_n dX11_has_10 rfl ?_
      refine aw_iload_n dX11_has_11 rfl ?_
      refine aw_ishr dX11_has_12 ?_
      refine aw_iconst (v := 1) dX11_has_13 (by decide) ?_
      refine aw_iand dX11_has_14 ?_
      refine aw_if_eq (tgt := 22) dX11_has_15 (by decide) (fun c_3 => ?_) (fun c_3 => ?_)
      · skip
        refine aw_iconst (v := 0) dX11_has_22 (by decide) ?_
        refine aw_zreti dX11_has_23 rfl (by first | exact Or.inl rfl | exact Or.inr rfl | assumption) (Nat.le_of_ble_eq_true rfl) (Nat.le_of_ble_eq_true rfl) ?_
        exact ⟨(by first | exact Or.inl rfl | exact Or.inr rfl | assumption), rfl, rfl⟩
      · skip
        refine aw_iconst (v := 1) dX11_has_18 (by decide) ?_
        refine aw_goto (tgt := 23) dX11_has_19 (by decide) ?_
        refine aw_zreti dX11_has_23 rfl (by first | exact Or.inl rfl | exact Or.inr rfl | assumption) (Nat.le_of_ble_eq_true rfl) (Nat.le_of_ble_eq_true rfl) ?_
        exact ⟨(by first | exact Or.inl rfl | exact Or.inr rfl | assumption), rfl, rfl⟩

set_option maxHeartbeats 4000000 in
set_option maxRecDepth 100000 in
theorem g_X11_bounded (l : Launch) (D : va_G) (b : Nat) (N : Nat) (V : Wd) (hN : 100 ≤ N) (hW : CW D b V) (n0 : Int32) (n1 : Int32) (n2 : Int32)  : MI l D b 0 jX11_bounded [.int n0, .int n1, .int n2] N V 0 0 (fun r N9 V9 => N = N9 ∧ V = V9) := by
  have hJ0 : JW D b N [] V V := JW.rf hW
  refine mw_of (by decide) (by simp [Value.category]) (Nat.le_of_ble_eq_true rfl) ?_
  show AW l D b jX11_bounded (fx_rm 0 0 0) none (fx_MQ D b 0 0 (fx_qi (fun r N9 V9 => N = N9 ∧ V = V9))) 0 [some (.int n0), some (.int n1), some (.int n2)] [] N V 0 0
  refine aw_iload_n dX11_bounded_0 rfl ?_
  refine aw_iload_n dX11_bounded_1 rfl ?_
  refine aw_iload_n dX11_bounded_2 rfl ?_
  refine aw_mmin dX11_bounded_3 tb_381 tb_382 tb_13 tb_383 ⟨Nat.le_of_ble_eq_true rfl, Nat.le_of_ble_eq_true rfl, Nat.le_of_ble_eq_true rfl, Nat.le_of_ble_eq_true rfl⟩ ?_
  refine aw_mmax dX11_bounded_6 tb_384 tb_385 tb_13 tb_386 ⟨Nat.le_of_ble_eq_true rfl, Nat.le_of_ble_eq_true rfl, Nat.le_of_ble_eq_true rfl, Nat.le_of_ble_eq_true rfl⟩ ?_
  refine aw_ireti dX11_bounded_9 rfl (Nat.le_of_ble_eq_true rfl) (Nat.le_of_ble_eq_true rfl) ?_
  exact ⟨rfl, rfl⟩

set_option maxHeartbeats 4000000 in
set_option maxRecDepth 100000 in
theorem g_X0_isPerson (l : Launch) (D : va_G) (b : Nat) (N : Nat) (V : Wd) (hN : 100 ≤ N) (hW : CW D b V) (c : Nat) (hc : c = 3 ∨ c = 21 ∨ c = 39 ∨ c = 74) (n0 : Int32)  : MI l D b 1 jX0_isPerson [.ref (b + c), .int n0] N V 0 0 (fun r N9 V9 => ((r = 0 ∨ r = 1) ∧ (r = 0 ∨ ∃ j : Nat, j < 12 ∧ n0 = nI j)) ∧ N = N9 ∧ V = V9) := by
  have hJ0 : JW D b N [] V V := JW.rf hW
  refine mw_of (by decide) (by simp [Value.category]) (Nat.le_of_ble_eq_true rfl) ?_
  show AW l D b jX0_isPerson (fx_rm 1 0 0) none (fx_MQ D b 0 0 (fx_qi (fun r N9 V9 => ((r = 0 ∨ r = 1) ∧ (r = 0 ∨ ∃ j : Nat, j < 12 ∧ n0 = nI j)) ∧ N = N9 ∧ V = V9))) 0 [some (.ref (b + c)), some (.int n0)] [] N V 0 0
  refine aw_iload_n dX0_isPerson_0 rfl ?_
  refine aw_if_lt (tgt := 25) dX0_isPerson_1 (by decide) (fun c_1 => ?_) (fun c_1 => ?_)
  · skip
    refine aw_iconst (v := 0) dX0_isPerson_25 (by decide) ?_
    refine aw_zreti dX0_isPerson_26 rfl (by first | exact Or.inl rfl | exact Or.inr rfl | assumption) (Nat.le_of_ble_eq_true rfl) (Nat.le_of_ble_eq_true rfl) ?_
    exact ⟨⟨(by first | exact Or.inl rfl | exact Or.inr rfl | assumption), Or.inl rfl⟩, rfl, rfl⟩
  · skip
    refine aw_iload_n dX0_isPerson_4 rfl ?_
    refine aw_bipush (v := 12) dX0_isPerson_5 (by decide) ?_
    refine aw_icmp_ge (tgt := 25) dX0_isPerson_7 (by decide) (fun c_2 => ?_) (fun c_2 => ?_)
    · skip
      refine aw_iconst (v := 0) dX0_isPerson_25 (by decide) ?_
      refine aw_zreti dX0_isPerson_26 rfl (by first | exact Or.inl rfl | exact Or.inr rfl | assumption) (Nat.le_of_ble_eq_true rfl) (Nat.le_of_ble_eq_true rfl) ?_
      exact ⟨⟨(by first | exact Or.inl rfl | exact Or.inr rfl | assumption), Or.inl rfl⟩, rfl, rfl⟩
    · skip
      refine aw_aload_n dX0_isPerson_10 rfl ?_
      obtain ⟨pe_3, dd_3, ni_3, xx_3, e_3⟩ := JW.get hJ0 (ctc_0 hc)
      refine aw_get dX0_isPerson_11 fl_X0_29 e_3 (by omega) rfl ?_
      refine aw_iload_n dX0_isPerson_14 rfl ?_
      refine aw_callSNi (J' := jX11_has) (As := [.int pe_3, .int n0]) (st := []) dX0_isPerson_15 tb_545 ok_X11_has rfl (g_X11_has l D b N V hN hJ0.1 pe_3 n0) rfl (Nat.le_of_ble_eq_true rfl) ⟨Nat.le_of_ble_eq_true rfl, Nat.le_of_ble_eq_true rfl, Nat.le_of_ble_eq_true rfl, Nat.le_of_ble_eq_true rfl⟩ (fun r_6 N_7 V_8 q_9 => ?_)
      obtain ⟨h_5, rfl, rfl⟩ := q_9
      refine aw_if_eq (tgt := 25) dX0_isPerson_18 (by decide) (fun c_10 => ?_) (fun c_10 => ?_)
      · skip
        refine aw_iconst (v := 0) dX0_isPerson_25 (by decide) ?_
        refine aw_zreti dX0_isPerson_26 rfl (by first | exact Or.inl rfl | exact Or.inr rfl | assumption) (Nat.le_of_ble_eq_true rfl) (Nat.le_of_ble_eq_true rfl) ?_
        exact ⟨⟨(by first | exact Or.inl rfl | exact Or.inr rfl | assumption), Or.inl rfl⟩, rfl, rfl⟩
      · skip
        refine aw_iconst (v := 1) dX0_isPerson_21 (by decide) ?_
        refine aw_goto (tgt := 26) dX0_isPerson_22 (by decide) ?_
        refine aw_zreti dX0_isPerson_26 rfl (by first | exact Or.inl rfl | exact Or.inr rfl | assumption) (Nat.le_of_ble_eq_true rfl) (Nat.le_of_ble_eq_true rfl) ?_
        exact ⟨⟨(by first | exact Or.inl rfl | exact Or.inr rfl | assumption), Or.inr (fx_ix (n := 12) (by decide) c_1 c_2)⟩, rfl, rfl⟩

set_option maxHeartbeats 4000000 in
set_option maxRecDepth 100000 in
theorem g_X0_isDoor (l : Launch) (D : va_G) (b : Nat) (N : Nat) (V : Wd) (hN : 100 ≤ N) (hW : CW D b V) (c : Nat) (hc : c = 3 ∨ c = 21 ∨ c = 39 ∨ c = 74) (n0 : Int32)  : MI l D b 1 jX0_isDoor [.ref (b + c), .int n0] N V 0 0 (fun r N9 V9 => ((r = 0 ∨ r = 1) ∧ (r = 0 ∨ ∃ j : Nat, j < 16 ∧ n0 = nI j)) ∧ N = N9 ∧ V = V9) := by
  have hJ0 : JW D b N [] V V := JW.rf hW
  refine mw_of (by decide) (by simp [Value.category]) (Nat.le_of_ble_eq_true rfl) ?_
  show AW l D b jX0_isDoor (fx_rm 1 0 0) none (fx_MQ D b 0 0 (fx_qi (fun r N9 V9 => ((r = 0 ∨ r = 1) ∧ (r = 0 ∨ ∃ j : Nat, j < 16 ∧ n0 = nI j)) ∧ N = N9 ∧ V = V9))) 0 [some (.ref (b + c)), some (.int n0)] [] N V 0 0
  refine aw_iload_n dX0_isDoor_0 rfl ?_
  refine aw_if_lt (tgt := 25) dX0_isDoor_1 (by decide) (fun c_1 => ?_) (fun c_1 => ?_)
  · skip
    refine aw_iconst (v := 0) dX0_isDoor_25 (by decide) ?_
    refine aw_zreti dX0_isDoor_26 rfl (by first | exact Or.inl rfl | exact Or.inr rfl | assumption) (Nat.le_of_ble_eq_true rfl) (Nat.le_of_ble_eq_true rfl) ?_
    exact ⟨⟨(by first | exact Or.inl rfl | exact Or.inr rfl | assumption), Or.inl rfl⟩, rfl, rfl⟩
  · skip
    refine aw_iload_n dX0_isDoor_4 rfl ?_
    refine aw_bipush (v := 16) dX0_isDoor_5 (by decide) ?_
    refine aw_icmp_ge (tgt := 25) dX0_isDoor_7 (by decide) (fun c_2 => ?_) (fun c_2 => ?_)
    · skip
      refine aw_iconst (v := 0) dX0_isDoor_25 (by decide) ?_
      refine aw_zreti dX0_isDoor_26 rfl (by first | exact Or.inl rfl | exact Or.inr rfl | assumption) (Nat.le_of_ble_eq_true rfl) (Nat.le_of_ble_eq_true rfl) ?_
      exact ⟨⟨(by first | exact Or.inl rfl | exact Or.inr rfl | assumption), Or.inl rfl⟩, rfl, rfl⟩
    · skip
      refine aw_aload_n dX0_isDoor_10 rfl ?_
      obtain ⟨pe_3, dd_3, ni_3, xx_3, e_3⟩ := JW.get hJ0 (ctc_0 hc)
      refine aw_get dX0_isDoor_11 fl_X0_33 e_3 (by omega) rfl ?_
      refine aw_iload_n dX0_isDoor_14 rfl ?_
      refine aw_callSNi (J' := jX11_has) (As := [.int dd_3, .int n0]) (st := []) dX0_isDoor_15 tb_545 ok_X11_has rfl (g_X11_has l D b N V hN hJ0.1 dd_3 n0) rfl (Nat.le_of_ble_eq_true rfl) ⟨Nat.le_of_ble_eq_true rfl, Nat.le_of_ble_eq_true rfl, Nat.le_of_ble_eq_true rfl, Nat.le_of_ble_eq_true rfl⟩ (fun r_6 N_7 V_8 q_9 => ?_)
      obtain ⟨h_5, rfl, rfl⟩ := q_9
      refine aw_if_eq (tgt := 25) dX0_isDoor_18 (by decide) (fun c_10 => ?_) (fun c_10 => ?_)
      · skip
        refine aw_iconst (v := 0) dX0_isDoor_25 (by decide) ?_
        refine aw_zreti dX0_isDoor_26 rfl (by first | exact Or.inl rfl | exact Or.inr rfl | assumption) (Nat.le_of_ble_eq_true rfl) (Nat.le_of_ble_eq_true rfl) ?_
        exact ⟨⟨(by first | exact Or.inl rfl | exact Or.inr rfl | assumption), Or.inl rfl⟩, rfl, rfl⟩
      · skip
        refine aw_iconst (v := 1) dX0_isDoor_21 (by decide) ?_
        refine aw_goto (tgt := 26) dX0_isDoor_22 (by decide) ?_
        refine aw_zreti dX0_isDoor_26 rfl (by first | exact Or.inl rfl | exact Or.inr rfl | assumption) (Nat.le_of_ble_eq_true rfl) (Nat.le_of_ble_eq_true rfl) ?_
        exact ⟨⟨(by first | exact Or.inl rfl | exact Or.inr rfl | assumption), Or.inr (fx_ix (n := 16) (by decide) c_1 c_2)⟩, rfl, rfl⟩

set_option maxHeartbeats 4000000 in
set_option maxRecDepth 100000 in
theorem g_X0_dreadOf (l : Launch) (D : va_G) (b : Nat) (N : Nat) (V : Wd) (hN : 100 ≤ N) (hW : CW D b V) (c : Nat) (hc : c = 3 ∨ c = 21 ∨ c = 39 ∨ c = 74) (n0 : Int32) (n1 : Int32)  : MI l D b 0 jX0_dreadOf [.ref (b + c), .int n0, .int n1] N V 0 0 (fun r N9 V9 => N = N9 ∧ V = V9) := by
  have hJ0 : JW D b N [] V V := JW.rf hW
  refine mw_of (by decide) (by simp [Value.category]) (Nat.le_of_ble_eq_true rfl) ?_
  show AW l D b jX0_dreadOf (fx_rm 0 0 0) none (fx_MQ D b 0 0 (fx_qi (fun r N9 V9 => N = N9 ∧ V = V9))) 0 [some (.ref (b + c)), some (.int n0), some (.int n1)] [] N V 0 0
  refine aw_iload_n dX0_dreadOf_0 rfl ?_
  refine aw_if_lt (tgt := 20) dX0_dreadOf_1 (by decide) (fun c_1 => ?_) (fun c_1 => ?_)
  · skip
    refine aw_iconst (v := 0) dX0_dreadOf_20 (by decide) ?_
    refine aw_ireti dX0_dreadOf_21 rfl (Nat.le_of_ble_eq_true rfl) (Nat.le_of_ble_eq_true rfl) ?_
    exact ⟨rfl, rfl⟩
  · skip
    refine aw_iload_n dX0_dreadOf_4 rfl ?_
    refine aw_bipush (v := 12) dX0_dreadOf_5 (by decide) ?_
    refine aw_icmp_ge (tgt := 20) dX0_dreadOf_7 (by decide) (fun c_2 => ?_) (fun c_2 => ?_)
    · skip
      refine aw_iconst (v := 0) dX0_dreadOf_20 (by decide) ?_
      refine aw_ireti dX0_dreadOf_21 rfl (Nat.le_of_ble_eq_true rfl) (Nat.le_of_ble_eq_true rfl) ?_
      exact ⟨rfl, rfl⟩
    · skip
      refine aw_iload_n dX0_dreadOf_10 rfl ?_
      refine aw_if_lt (tgt := 20) dX0_dreadOf_11 (by decide) (fun c_3 => ?_) (fun c_3 => ?_)
      · skip
        refine aw_iconst (v := 0) dX0_dreadOf_20 (by decide) ?_
        refine aw_ireti dX0_dreadOf_21 rfl (Nat.le_of_ble_eq_true rfl) (Nat.le_of_ble_eq_true rfl) ?_
        exact ⟨rfl, rfl⟩
      · skip
        refine aw_iload_n dX0_dreadOf_14 rfl ?_
        refine aw_bipush (v := 16) dX0_dreadOf_15 (by decide) ?_
        refine aw_icmp_lt (tgt := 22) dX0_dreadOf_17 (by decide) (fun c_4 => ?_) (fun c_4 => ?_)
        · skip
          refine aw_aload_n dX0_dreadOf_22 rfl ?_
          obtain ⟨pe_5, dd_5, ni_5, xx_5, e_5⟩ := JW.get hJ0 (ctc_0 hc)
          refine aw_get dX0_dreadOf_23 fl_X0_11 e_5 (by omega) rfl ?_
          refine aw_iload_n dX0_dreadOf_26 rfl ?_
          have e_6 := JW.get hJ0 (ctc_1 hc)
          obtain ⟨i_7, hi_7, ei_7⟩ := vi_nat (vi_in (Int32.not_lt.mp c_1) (vi_lt (n := 12) (Int32.not_le.mp c_2) (by decide)) (by decide)) (by decide)
          refine aw_aald dX0_dreadOf_27 e_6 (by omega) (vi_in (Int32.not_lt.mp c_1) (vi_lt (n := 12) (Int32.not_le.mp c_2) (by decide)) (by decide)) (rr_i ei_7 hi_7) ?_
          refine aw_iload_n dX0_dreadOf_28 rfl ?_
          obtain ⟨g_8, e_8⟩ := JW.get hJ0 (ctc_row hc (by omega))
          refine aw_iald (v := (g_8 (Int32.toNatClampNeg n1))) dX0_dreadOf_29 e_8 (by omega) (vi_in (Int32.not_lt.mp c_3) (vi_lt (n := 16) c_4 (by decide)) (by decide)) rfl ?_
          refine aw_ireti dX0_dreadOf_30 rfl (Nat.le_of_ble_eq_true rfl) (Nat.le_of_ble_eq_true rfl) ?_
          exact ⟨rfl, rfl⟩
        · skip
          refine aw_iconst (v := 0) dX0_dreadOf_20 (by decide) ?_
          refine aw_ireti dX0_dreadOf_21 rfl (Nat.le_of_ble_eq_true rfl) (Nat.le_of_ble_eq_true rfl) ?_
          exact ⟨rfl, rfl⟩

set_option maxHeartbeats 4000000 in
set_option maxRecDepth 100000 in
theorem g_X0_setDread (l : Launch) (D : va_G) (b : Nat) (N : Nat) (V : Wd) (hN : 100 ≤ N) (hW : CW D b V) (c : Nat) (hc : c = 3 ∨ c = 21 ∨ c = 39 ∨ c = 74) (n0 : Int32) (n1 : Int32) (n2 : Int32)  : MV l D b 1 jX0_setDread [.ref (b + c), .int n0, .int n1, .int n2] N V 0 0 (fun N9 V9 => N = N9 ∧ JW D b N [(c + 2, c + 13, 0, 1000000)] V V9) := by
  have hJ0 : JW D b N [(c + 2, c + 13, 0, 1000000)] V V := JW.rf hW
  refine mw_of (by decide) (by simp [Value.category]) (Nat.le_of_ble_eq_true rfl) ?_
  show AW l D b jX0_setDread (fx_rm 1 0 0) none (fx_MQ D b 0 0 (fx_qv (fun N9 V9 => N = N9 ∧ JW D b N [(c + 2, c + 13, 0, 1000000)] V V9))) 0 [some (.ref (b + c)), some (.int n0), some (.int n1), some (.int n2)] [] N V 0 0
  refine aw_iload_n dX0_setDread_0 rfl ?_
  refine aw_if_lt (tgt := 35) dX0_setDread_1 (by decide) (fun c_1 => ?_) (fun c_1 => ?_)
  · skip
    refine aw_vreti dX0_setDread_35 rfl (Nat.le_of_ble_eq_true rfl) (Nat.le_of_ble_eq_true rfl) ?_
    exact ⟨rfl, hJ0⟩
  · skip
    refine aw_iload_n dX0_setDread_4 rfl ?_
    refine aw_bipush (v := 12) dX0_setDread_5 (by decide) ?_
    refine aw_icmp_ge (tgt := 35) dX0_setDread_7 (by decide) (fun c_2 => ?_) (fun c_2 => ?_)
    · skip
      refine aw_vreti dX0_setDread_35 rfl (Nat.le_of_ble_eq_true rfl) (Nat.le_of_ble_eq_true rfl) ?_
      exact ⟨rfl, hJ0⟩
    · skip
      refine aw_iload_n dX0_setDread_10 rfl ?_
      refine aw_if_lt (tgt := 35) dX0_setDread_11 (by decide) (fun c_3 => ?_) (fun c_3 => ?_)
      · skip
        refine aw_vreti dX0_setDread_35 rfl (Nat.le_of_ble_eq_true rfl) (Nat.le_of_ble_eq_true rfl) ?_
        exact ⟨rfl, hJ0⟩
      · skip
        refine aw_iload_n dX0_setDread_14 rfl ?_
        refine aw_bipush (v := 16) dX0_setDread_15 (by decide) ?_
        refine aw_icmp_ge (tgt := 35) dX0_setDread_17 (by decide) (fun c_4 => ?_) (fun c_4 => ?_)
        · skip
          refine aw_vreti dX0_setDread_35 rfl (Nat.le_of_ble_eq_true rfl) (Nat.le_of_ble_eq_true rfl) ?_
          exact ⟨rfl, hJ0⟩
        · skip
          refine aw_aload_n dX0_setDread_20 rfl ?_
          obtain ⟨pe_5, dd_5, ni_5, xx_5, e_5⟩ := JW.get hJ0 (ctc_0 hc)
          refine aw_get dX0_setDread_21 fl_X0_11 e_5 (by omega) rfl ?_
          refine aw_iload_n dX0_setDread_24 rfl ?_
          have e_6 := JW.get hJ0 (ctc_1 hc)
          obtain ⟨i_7, hi_7, ei_7⟩ := vi_nat (vi_in (Int32.not_lt.mp c_1) (vi_lt (n := 12) (Int32.not_le.mp c_2) (by decide)) (by decide)) (by decide)
          refine aw_aald dX0_setDread_25 e_6 (by omega) (vi_in (Int32.not_lt.mp c_1) (vi_lt (n := 12) (Int32.not_le.mp c_2) (by decide)) (by decide)) (rr_i ei_7 hi_7) ?_
          refine aw_iload_n dX0_setDread_26 rfl ?_
          refine aw_iload_n dX0_setDread_27 rfl ?_
          refine aw_iconst (v := 0) dX0_setDread_28 (by decide) ?_
          refine aw_bipush (v := 99) dX0_setDread_29 (by decide) ?_
          refine aw_callSNi (J' := jX11_bounded) (As := [.int n2, .int 0, .int 99]) (st := [.int n1, .ref (b + (c + 1 + 1 + i_7))]) dX0_setDread_31 tb_378 ok_X11_bounded rfl (g_X11_bounded l D b N V hN hJ0.1 n2 0 99) rfl (Nat.le_of_ble_eq_true rfl) ⟨Nat.le_of_ble_eq_true rfl, Nat.le_of_ble_eq_true rfl, Nat.le_of_ble_eq_true rfl, Nat.le_of_ble_eq_true rfl⟩ (fun r_9 N_10 V_11 q_12 => ?_)
          obtain ⟨rfl, rfl⟩ := q_12
          obtain ⟨g_13, e_13⟩ := JW.get hJ0 (ctc_row hc (by omega))
          refine aw_iast dX0_setDread_34 e_13 (by omega) (vi_in (Int32.not_lt.mp c_3) (vi_lt (n := 16) (Int32.not_le.mp c_4) (by decide)) (by decide)) ?_
          refine aw_up hJ0 (ctc_row hc (by omega)) ⟨_, rfl⟩ (WA LM0 (by omega) (by omega)) (fun V_14 j_14 k_14 e_14 => ?_)
          refine aw_vreti dX0_setDread_35 rfl (Nat.le_of_ble_eq_true rfl) (Nat.le_of_ble_eq_true rfl) ?_
          exact ⟨rfl, j_14⟩

set_option maxHeartbeats 4000000 in
set_option maxRecDepth 100000 in
theorem g_X0_greatestDread (l : Launch) (D : va_G) (b : Nat) (N : Nat) (V : Wd) (hN : 100 ≤ N) (hW : CW D b V) (c : Nat) (hc : c = 3 ∨ c = 21 ∨ c = 39 ∨ c = 74) (n0 : Int32)  : MI l D b 1 jX0_greatestDread [.ref (b + c), .int n0] N V 0 0 (fun r N9 V9 => N = N9 ∧ V = V9) := by
  have hJ0 : JW D b N [] V V := JW.rf hW
  refine mw_of (by decide) (by simp [Value.category]) (Nat.le_of_ble_eq_true rfl) ?_
  show AW l D b jX0_greatestDread (fx_rm 1 0 0) none (fx_MQ D b 0 0 (fx_qi (fun r N9 V9 => N = N9 ∧ V = V9))) 0 [some (.ref (b + c)), some (.int n0), none, none] [] N V 0 0
  refine aw_iconst (v := 0) dX0_greatestDread_0 (by decide) ?_
  refine aw_istore_n (ls' := [some (.ref (b + c)), some (.int n0), some (.int 0), none]) dX0_greatestDread_1 (Nat.le_of_ble_eq_true rfl) rfl ?_
  refine aw_iconst (v := 0) dX0_greatestDread_2 (by decide) ?_
  refine aw_istore_n (ls' := [some (.ref (b + c)), some (.int n0), some (.int 0), some (.int 0)]) dX0_greatestDread_3 (Nat.le_of_ble_eq_true rfl) rfl ?_
  have loop_4_0 : ∀ (g_4 : Nat), ∀ (j4 : Nat) (v4_2 : Int32), j4 + g_4 = 16 → AW l D b jX0_greatestDread (fx_rm 1 0 0) none (fx_MQ D b 0 0 (fx_qi (fun r N9 V9 => N = N9 ∧ V = V9))) 4 [some (.ref (b + c)), some (.int n0), some (.int v4_2), some (.int (nI j4))] [] N V 0 0 := by
    intro g_4
    induction g_4 with
    | zero =>
      intro j4 v4_2 hj4
      obtain rfl : j4 = 16 := by omega
      refine aw_iload_n dX0_greatestDread_4 rfl ?_
      refine aw_bipush (v := 16) dX0_greatestDread_5 (by decide) ?_
      refine aw_icmp_ge (tgt := 27) dX0_greatestDread_7 (by decide) (fun c_3 => ?_) (fun c_3 => ?_)
      rotate_left
      · exact absurd (nI_le (a := 16) (b := 16) (Nat.le_refl _) (by omega)) c_3
      refine aw_iload_n dX0_greatestDread_27 rfl ?_
      refine aw_ireti dX0_greatestDread_28 rfl (Nat.le_of_ble_eq_true rfl) (Nat.le_of_ble_eq_true rfl) ?_
      exact ⟨rfl, rfl⟩
    | succ g_4 ih_4_1 =>
      intro j4 v4_2 hj4
      have hlj4 : j4 < 16 := by omega
      refine aw_iload_n dX0_greatestDread_4 rfl ?_
      refine aw_bipush (v := 16) dX0_greatestDread_5 (by decide) ?_
      refine aw_icmp_ge (tgt := 27) dX0_greatestDread_7 (by decide) (fun c_4 => ?_) (fun c_4 => ?_)
      · exact absurd c_4 (nI_ge (a := j4) (b := 16) (by omega) (by omega))
      refine aw_iload_n dX0_greatestDread_10 rfl ?_
      refine aw_aload_n dX0_greatestDread_11 rfl ?_
      refine aw_iload_n dX0_greatestDread_12 rfl ?_
      refine aw_iload_n dX0_greatestDread_13 rfl ?_
      obtain ⟨pe_6, dd_6, ni_6, xx_6, e_6⟩ := JW.get hJ0 (ctc_0 hc)
      refine aw_callVi (J' := jX0_dreadOf) (As := [.int n0, .int (nI j4)]) (st := [.int v4_2]) dX0_greatestDread_14 tb_639 ok_X0_dreadOf ⟨_, e_6⟩ (by omega) rfl rfl (g_X0_dreadOf l D b N V hN hJ0.1 c hc n0 (nI j4)) rfl (Nat.le_of_ble_eq_true rfl) ⟨Nat.le_of_ble_eq_true rfl, Nat.le_of_ble_eq_true rfl, Nat.le_of_ble_eq_true rfl, Nat.le_of_ble_eq_true rfl⟩ (fun r_7 N_8 V_9 q_10 => ?_)
      obtain ⟨rfl, rfl⟩ := q_10
      refine aw_mmax dX0_greatestDread_17 tb_640 tb_385 tb_13 tb_386 ⟨Nat.le_of_ble_eq_true rfl, Nat.le_of_ble_eq_true rfl, Nat.le_of_ble_eq_true rfl, Nat.le_of_ble_eq_true rfl⟩ ?_
      refine aw_istore_n (ls' := [some (.ref (b + c)), some (.int n0), some (.int (if v4_2 < r_7 then r_7 else v4_2)), some (.int (nI j4))]) dX0_greatestDread_20 (Nat.le_of_ble_eq_true rfl) rfl ?_
      refine aw_iinc (v := (nI (j4 + 1))) (ls' := [some (.ref (b + c)), some (.int n0), some (.int (if v4_2 < r_7 then r_7 else v4_2)), some (.int (nI (j4 + 1)))]) dX0_greatestDread_21 rfl (fx_up_1 _) (Nat.le_of_ble_eq_true rfl) rfl ?_
      refine aw_goto (tgt := 4) dX0_greatestDread_24 (by decide) ?_
      refine aw_le ?_ (ih_4_1 (j4 + 1) (if v4_2 < r_7 then r_7 else v4_2)  (by omega))
      exact ⟨rfl, ⟨rfl, ⟨rfl, ⟨rfl, trivial⟩⟩⟩⟩
  refine aw_le ?_ (loop_4_0 16 0 0  (by omega))
  exact ⟨rfl, ⟨rfl, ⟨rfl, ⟨rfl, trivial⟩⟩⟩⟩

set_option maxHeartbeats 4000000 in
set_option maxRecDepth 100000 in
theorem g_X0_dreadInAll (l : Launch) (D : va_G) (b : Nat) (N : Nat) (V : Wd) (hN : 100 ≤ N) (hW : CW D b V) (c : Nat) (hc : c = 3 ∨ c = 21 ∨ c = 39 ∨ c = 74) (n0 : Int32)  : MI l D b 1 jX0_dreadInAll [.ref (b + c), .int n0] N V 0 0 (fun r N9 V9 => N = N9 ∧ V = V9) := by
  have hJ0 : JW D b N [] V V := JW.rf hW
  refine mw_of (by decide) (by simp [Value.category]) (Nat.le_of_ble_eq_true rfl) ?_
  show AW l D b jX0_dreadInAll (fx_rm 1 0 0) none (fx_MQ D b 0 0 (fx_qi (fun r N9 V9 => N = N9 ∧ V = V9))) 0 [some (.ref (b + c)), some (.int n0), none, none] [] N V 0 0
  refine aw_iconst (v := 0) dX0_dreadInAll_0 (by decide) ?_
  refine aw_istore_n (ls' := [some (.ref (b + c)), some (.int n0), some (.int 0), none]) dX0_dreadInAll_1 (Nat.le_of_ble_eq_true rfl) rfl ?_
  refine aw_iconst (v := 0) dX0_dreadInAll_2 (by decide) ?_
  refine aw_istore_n (ls' := [some (.ref (b + c)), some (.int n0), some (.int 0), some (.int 0)]) dX0_dreadInAll_3 (Nat.le_of_ble_eq_true rfl) rfl ?_
  have loop_4_0 : ∀ (g_4 : Nat), ∀ (j4 : Nat) (v4_2 : Int32), j4 + g_4 = 16 → AW l D b jX0_dreadInAll (fx_rm 1 0 0) none (fx_MQ D b 0 0 (fx_qi (fun r N9 V9 => N = N9 ∧ V = V9))) 4 [some (.ref (b + c)), some (.int n0), some (.int v4_2), some (.int (nI j4))] [] N V 0 0 := by
    intro g_4
    induction g_4 with
    | zero =>
      intro j4 v4_2 hj4
      obtain rfl : j4 = 16 := by omega
      refine aw_iload_n dX0_dreadInAll_4 rfl ?_
      refine aw_bipush (v := 16) dX0_dreadInAll_5 (by decide) ?_
      refine aw_icmp_ge (tgt := 25) dX0_dreadInAll_7 (by decide) (fun c_3 => ?_) (fun c_3 => ?_)
      rotate_left
      · exact absurd (nI_le (a := 16) (b := 16) (Nat.le_refl _) (by omega)) c_3
      refine aw_iload_n dX0_dreadInAll_25 rfl ?_
      refine aw_ireti dX0_dreadInAll_26 rfl (Nat.le_of_ble_eq_true rfl) (Nat.le_of_ble_eq_true rfl) ?_
      exact ⟨rfl, rfl⟩
    | succ g_4 ih_4_1 =>
      intro j4 v4_2 hj4
      have hlj4 : j4 < 16 := by omega
      refine aw_iload_n dX0_dreadInAll_4 rfl ?_
      refine aw_bipush (v := 16) dX0_dreadInAll_5 (by decide) ?_
      refine aw_icmp_ge (tgt := 25) dX0_dreadInAll_7 (by decide) (fun c_4 => ?_) (fun c_4 => ?_)
      · exact absurd c_4 (nI_ge (a := j4) (b := 16) (by omega) (by omega))
      refine aw_iload_n dX0_dreadInAll_10 rfl ?_
      refine aw_aload_n dX0_dreadInAll_11 rfl ?_
      refine aw_iload_n dX0_dreadInAll_12 rfl ?_
      refine aw_iload_n dX0_dreadInAll_13 rfl ?_
      obtain ⟨pe_6, dd_6, ni_6, xx_6, e_6⟩ := JW.get hJ0 (ctc_0 hc)
      refine aw_callVi (J' := jX0_dreadOf) (As := [.int n0, .int (nI j4)]) (st := [.int v4_2]) dX0_dreadInAll_14 tb_639 ok_X0_dreadOf ⟨_, e_6⟩ (by omega) rfl rfl (g_X0_dreadOf l D b N V hN hJ0.1 c hc n0 (nI j4)) rfl (Nat.le_of_ble_eq_true rfl) ⟨Nat.le_of_ble_eq_true rfl, Nat.le_of_ble_eq_true rfl, Nat.le_of_ble_eq_true rfl, Nat.le_of_ble_eq_true rfl⟩ (fun r_7 N_8 V_9 q_10 => ?_)
      obtain ⟨rfl, rfl⟩ := q_10
      refine aw_iadd dX0_dreadInAll_17 ?_
      refine aw_istore_n (ls' := [some (.ref (b + c)), some (.int n0), some (.int (v4_2 + r_7)), some (.int (nI j4))]) dX0_dreadInAll_18 (Nat.le_of_ble_eq_true rfl) rfl ?_
      refine aw_iinc (v := (nI (j4 + 1))) (ls' := [some (.ref (b + c)), some (.int n0), some (.int (v4_2 + r_7)), some (.int (nI (j4 + 1)))]) dX0_dreadInAll_19 rfl (fx_up_1 _) (Nat.le_of_ble_eq_true rfl) rfl ?_
      refine aw_goto (tgt := 4) dX0_dreadInAll_22 (by decide) ?_
      refine aw_le ?_ (ih_4_1 (j4 + 1) (v4_2 + r_7)  (by omega))
      exact ⟨rfl, ⟨rfl, ⟨rfl, ⟨rfl, trivial⟩⟩⟩⟩
  refine aw_le ?_ (loop_4_0 16 0 0  (by omega))
  exact ⟨rfl, ⟨rfl, ⟨rfl, ⟨rfl, trivial⟩⟩⟩⟩

set_option maxHeartbeats 4000000 in
set_option maxRecDepth 100000 in
theorem g_X0_fearOf (l : Launch) (D : va_G) (b : Nat) (N : Nat) (V : Wd) (hN : 100 ≤ N) (hW : CW D b V) (c : Nat) (hc : c = 3 ∨ c = 21 ∨ c = 39 ∨ c = 74) (n0 : Int32)  : MI l D b 2 jX0_fearOf [.ref (b + c), .int n0] N V 0 0 (fun r N9 V9 => N = N9 ∧ V = V9) := by
  have hJ0 : JW D b N [] V V := JW.rf hW
  refine mw_of (by decide) (by simp [Value.category]) (Nat.le_of_ble_eq_true rfl) ?_
  show AW l D b jX0_fearOf (fx_rm 2 0 0) none (fx_MQ D b 0 0 (fx_qi (fun r N9 V9 => N = N9 ∧ V = V9))) 0 [some (.ref (b + c)), some (.int n0), none, none, none] [] N V 0 0
  refine aw_aload_n dX0_fearOf_0 rfl ?_
  refine aw_iload_n dX0_fearOf_1 rfl ?_
  obtain ⟨pe_2, dd_2, ni_2, xx_2, e_2⟩ := JW.get hJ0 (ctc_0 hc)
  refine aw_callVi (J' := jX0_greatestDread) (As := [.int n0]) (st := []) dX0_fearOf_2 tb_723 ok_X0_greatestDread ⟨_, e_2⟩ (by omega) rfl rfl (g_X0_greatestDread l D b N V hN hJ0.1 c hc n0) rfl (Nat.le_of_ble_eq_true rfl) ⟨Nat.le_of_ble_eq_true rfl, Nat.le_of_ble_eq_true rfl, Nat.le_of_ble_eq_true rfl, Nat.le_of_ble_eq_true rfl⟩ (fun r_3 N_4 V_5 q_6 => ?_)
  obtain ⟨rfl, rfl⟩ := q_6
  refine aw_istore_n (ls' := [some (.ref (b + c)), some (.int n0), some (.int r_3), none, none]) dX0_fearOf_5 (Nat.le_of_ble_eq_true rfl) rfl ?_
  refine aw_iload_n dX0_fearOf_6 rfl ?_
  refine aw_if_ne (tgt := 13) dX0_fearOf_7 (by decide) (fun c_7 => ?_) (fun c_7 => ?_)
  · skip
    refine aw_bipush (v := (-2)) dX0_fearOf_13 (by decide) ?_
    refine aw_istore_n (ls' := [some (.ref (b + c)), some (.int n0), some (.int r_3), some (.int (-2)), none]) dX0_fearOf_15 (Nat.le_of_ble_eq_true rfl) rfl ?_
    refine aw_iconst (v := 0) dX0_fearOf_16 (by decide) ?_
    refine aw_istore (ls' := [some (.ref (b + c)), some (.int n0), some (.int r_3), some (.int (-2)), some (.int 0)]) dX0_fearOf_17 (Nat.le_of_ble_eq_true rfl) rfl ?_
    have loop_19_7 : ∀ (g_19 : Nat), ∀ (j19 : Nat) (v19_3 : Int32), j19 + g_19 = 16 → AW l D b jX0_fearOf (fx_rm 2 0 0) none (fx_MQ D b 0 0 (fx_qi (fun r N9 V9 => N = N9 ∧ V = V9))) 19 [some (.ref (b + c)), some (.int n0), some (.int r_3), some (.int v19_3), some (.int (nI j19))] [] N V 0 0 := by
      intro g_19
      induction g_19 with
      | zero =>
        intro j19 v19_3 hj19
        obtain rfl : j19 = 16 := by omega
        refine aw_iload dX0_fearOf_19 rfl ?_
        refine aw_bipush (v := 16) dX0_fearOf_21 (by decide) ?_
        refine aw_icmp_ge (tgt := 53) dX0_fearOf_23 (by decide) (fun c_10 => ?_) (fun c_10 => ?_)
        rotate_left
        · exact absurd (nI_le (a := 16) (b := 16) (Nat.le_refl _) (by omega)) c_10
        refine aw_iload_n dX0_fearOf_53 rfl ?_
        refine aw_ireti dX0_fearOf_54 rfl (Nat.le_of_ble_eq_true rfl) (Nat.le_of_ble_eq_true rfl) ?_
        exact ⟨rfl, rfl⟩
      | succ g_19 ih_19_8 =>
        intro j19 v19_3 hj19
        have hlj19 : j19 < 16 := by omega
        refine aw_iload dX0_fearOf_19 rfl ?_
        refine aw_bipush (v := 16) dX0_fearOf_21 (by decide) ?_
        refine aw_icmp_ge (tgt := 53) dX0_fearOf_23 (by decide) (fun c_11 => ?_) (fun c_11 => ?_)
        · exact absurd c_11 (nI_ge (a := j19) (b := 16) (by omega) (by omega))
        refine aw_aload_n dX0_fearOf_26 rfl ?_
        refine aw_iload_n dX0_fearOf_27 rfl ?_
        refine aw_iload dX0_fearOf_28 rfl ?_
        refine aw_callVi (J' := jX0_dreadOf) (As := [.int n0, .int (nI j19)]) (st := []) dX0_fearOf_30 tb_639 ok_X0_dreadOf ⟨_, e_2⟩ (by omega) rfl rfl (g_X0_dreadOf l D b N V hN hJ0.1 c hc n0 (nI j19)) rfl (Nat.le_of_ble_eq_true rfl) ⟨Nat.le_of_ble_eq_true rfl, Nat.le_of_ble_eq_true rfl, Nat.le_of_ble_eq_true rfl, Nat.le_of_ble_eq_true rfl⟩ (fun r_13 N_14 V_15 q_16 => ?_)
        obtain ⟨rfl, rfl⟩ := q_16
        refine aw_iload_n dX0_fearOf_33 rfl ?_
        refine aw_icmp_ne (tgt := 47) dX0_fearOf_34 (by decide) (fun c_17 => ?_) (fun c_17 => ?_)
        · skip
          refine aw_iinc (v := (nI (j19 + 1))) (ls' := [some (.ref (b + c)), some (.int n0), some (.int r_3), some (.int v19_3), some (.int (nI (j19 + 1)))]) dX0_fearOf_47 rfl (fx_up_1 _) (Nat.le_of_ble_eq_true rfl) rfl ?_
          refine aw_goto (tgt := 19) dX0_fearOf_50 (by decide) ?_
          refine aw_le ?_ (ih_19_8 (j19 + 1) v19_3  (by omega))
          exact ⟨rfl, ⟨rfl, ⟨rfl, ⟨rfl, ⟨rfl, trivial⟩⟩⟩⟩⟩
        · skip
          refine aw_iload_n dX0_fearOf_37 rfl ?_
          refine aw_if_lt (tgt := 44) dX0_fearOf_38 (by decide) (fun c_18 => ?_) (fun c_18 => ?_)
          · skip
            refine aw_iload dX0_fearOf_44 rfl ?_
            refine aw_istore_n (ls' := [some (.ref (b + c)), some (.int n0), some (.int r_3), some (.int (nI j19)), some (.int (nI j19))]) dX0_fearOf_46 (Nat.le_of_ble_eq_true rfl) rfl ?_
            refine aw_iinc (v := (nI (j19 + 1))) (ls' := [some (.ref (b + c)), some (.int n0), some (.int r_3), some (.int (nI j19)), some (.int (nI (j19 + 1)))]) dX0_fearOf_47 rfl (fx_up_1 _) (Nat.le_of_ble_eq_true rfl) rfl ?_
            refine aw_goto (tgt := 19) dX0_fearOf_50 (by decide) ?_
            refine aw_le ?_ (ih_19_8 (j19 + 1) (nI j19)  (by omega))
            exact ⟨rfl, ⟨rfl, ⟨rfl, ⟨rfl, ⟨rfl, trivial⟩⟩⟩⟩⟩
          · skip
            refine aw_bipush (v := (-2)) dX0_fearOf_41 (by decide) ?_
            refine aw_ireti dX0_fearOf_43 rfl (Nat.le_of_ble_eq_true rfl) (Nat.le_of_ble_eq_true rfl) ?_
            exact ⟨rfl, rfl⟩
    refine aw_le ?_ (loop_19_7 16 0 (-2)  (by omega))
    exact ⟨rfl, ⟨rfl, ⟨rfl, ⟨rfl, ⟨rfl, trivial⟩⟩⟩⟩⟩
  · skip
    refine aw_bipush (v := (-2)) dX0_fearOf_10 (by decide) ?_
    refine aw_ireti dX0_fearOf_12 rfl (Nat.le_of_ble_eq_true rfl) (Nat.le_of_ble_eq_true rfl) ?_
    exact ⟨rfl, rfl⟩

set_option maxHeartbeats 4000000 in
set_option maxRecDepth 100000 in
theorem g_X0_havingFear (l : Launch) (D : va_G) (b : Nat) (N : Nat) (V : Wd) (hN : 100 ≤ N) (hW : CW D b V) (c : Nat) (hc : c = 3 ∨ c = 21 ∨ c = 39 ∨ c = 74) (n0 : Int32)  : MI l D b 3 jX0_havingFear [.ref (b + c), .int n0] N V 0 0 (fun r N9 V9 => N = N9 ∧ V = V9) := by
  have hJ0 : JW D b N [] V V := JW.rf hW
  refine mw_of (by decide) (by simp [Value.category]) (Nat.le_of_ble_eq_true rfl) ?_
  show AW l D b jX0_havingFear (fx_rm 3 0 0) none (fx_MQ D b 0 0 (fx_qi (fun r N9 V9 => N = N9 ∧ V = V9))) 0 [some (.ref (b + c)), some (.int n0), none, none] [] N V 0 0
  refine aw_iconst (v := 0) dX0_havingFear_0 (by decide) ?_
  refine aw_istore_n (ls' := [some (.ref (b + c)), some (.int n0), some (.int 0), none]) dX0_havingFear_1 (Nat.le_of_ble_eq_true rfl) rfl ?_
  refine aw_iconst (v := 0) dX0_havingFear_2 (by decide) ?_
  refine aw_istore_n (ls' := [some (.ref (b + c)), some (.int n0), some (.int 0), some (.int 0)]) dX0_havingFear_3 (Nat.le_of_ble_eq_true rfl) rfl ?_
  have loop_4_0 : ∀ (g_4 : Nat), ∀ (j4 : Nat) (v4_2 : Int32), j4 + g_4 = 12 → AW l D b jX0_havingFear (fx_rm 3 0 0) none (fx_MQ D b 0 0 (fx_qi (fun r N9 V9 => N = N9 ∧ V = V9))) 4 [some (.ref (b + c)), some (.int n0), some (.int v4_2), some (.int (nI j4))] [] N V 0 0 := by
    intro g_4
    induction g_4 with
    | zero =>
      intro j4 v4_2 hj4
      obtain rfl : j4 = 12 := by omega
      refine aw_iload_n dX0_havingFear_4 rfl ?_
      refine aw_bipush (v := 12) dX0_havingFear_5 (by decide) ?_
      refine aw_icmp_ge (tgt := 31) dX0_havingFear_7 (by decide) (fun c_3 => ?_) (fun c_3 => ?_)
      rotate_left
      · exact absurd (nI_le (a := 12) (b := 12) (Nat.le_refl _) (by omega)) c_3
      refine aw_iload_n dX0_havingFear_31 rfl ?_
      refine aw_ireti dX0_havingFear_32 rfl (Nat.le_of_ble_eq_true rfl) (Nat.le_of_ble_eq_true rfl) ?_
      exact ⟨rfl, rfl⟩
    | succ g_4 ih_4_1 =>
      intro j4 v4_2 hj4
      have hlj4 : j4 < 12 := by omega
      refine aw_iload_n dX0_havingFear_4 rfl ?_
      refine aw_bipush (v := 12) dX0_havingFear_5 (by decide) ?_
      refine aw_icmp_ge (tgt := 31) dX0_havingFear_7 (by decide) (fun c_4 => ?_) (fun c_4 => ?_)
      · exact absurd c_4 (nI_ge (a := j4) (b := 12) (by omega) (by omega))
      refine aw_aload_n dX0_havingFear_10 rfl ?_
      refine aw_iload_n dX0_havingFear_11 rfl ?_
      obtain ⟨pe_6, dd_6, ni_6, xx_6, e_6⟩ := JW.get hJ0 (ctc_0 hc)
      refine aw_callVi (J' := jX0_fearOf) (As := [.int (nI j4)]) (st := []) dX0_havingFear_12 tb_719 ok_X0_fearOf ⟨_, e_6⟩ (by omega) rfl rfl (g_X0_fearOf l D b N V hN hJ0.1 c hc (nI j4)) rfl (Nat.le_of_ble_eq_true rfl) ⟨Nat.le_of_ble_eq_true rfl, Nat.le_of_ble_eq_true rfl, Nat.le_of_ble_eq_true rfl, Nat.le_of_ble_eq_true rfl⟩ (fun r_7 N_8 V_9 q_10 => ?_)
      obtain ⟨rfl, rfl⟩ := q_10
      refine aw_iload_n dX0_havingFear_15 rfl ?_
      refine aw_icmp_ne (tgt := 25) dX0_havingFear_16 (by decide) (fun c_11 => ?_) (fun c_11 => ?_)
      · skip
        refine aw_iinc (v := (nI (j4 + 1))) (ls' := [some (.ref (b + c)), some (.int n0), some (.int v4_2), some (.int (nI (j4 + 1)))]) dX0_havingFear_25 rfl (fx_up_1 _) (Nat.le_of_ble_eq_true rfl) rfl ?_
        refine aw_goto (tgt := 4) dX0_havingFear_28 (by decide) ?_
        refine aw_le ?_ (ih_4_1 (j4 + 1) v4_2  (by omega))
        exact ⟨rfl, ⟨rfl, ⟨rfl, ⟨rfl, trivial⟩⟩⟩⟩
      · skip
        refine aw_iload_n dX0_havingFear_19 rfl ?_
        refine aw_iconst (v := 1) dX0_havingFear_20 (by decide) ?_
        refine aw_iload_n dX0_havingFear_21 rfl ?_
        refine aw_ishl dX0_havingFear_22 ?_
        refine aw_ior dX0_havingFear_23 ?_
        refine aw_istore_n (ls' := [some (.ref (b + c)), some (.int n0), some (.int (v4_2 ||| ((1 : Int32) <<< ((nI j4) &&& 31)))), some (.int (nI j4))]) dX0_havingFear_24 (Nat.le_of_ble_eq_true rfl) rfl ?_
        refine aw_iinc (v := (nI (j4 + 1))) (ls' := [some (.ref (b + c)), some (.int n0), some (.int (v4_2 ||| ((1 : Int32) <<< ((nI j4) &&& 31)))), some (.int (nI (j4 + 1)))]) dX0_havingFear_25 rfl (fx_up_1 _) (Nat.le_of_ble_eq_true rfl) rfl ?_
        refine aw_goto (tgt := 4) dX0_havingFear_28 (by decide) ?_
        refine aw_le ?_ (ih_4_1 (j4 + 1) (v4_2 ||| ((1 : Int32) <<< ((nI j4) &&& 31)))  (by omega))
        exact ⟨rfl, ⟨rfl, ⟨rfl, ⟨rfl, trivial⟩⟩⟩⟩
  refine aw_le ?_ (loop_4_0 12 0 0  (by omega))
  exact ⟨rfl, ⟨rfl, ⟨rfl, ⟨rfl, trivial⟩⟩⟩⟩

set_option maxHeartbeats 4000000 in
set_option maxRecDepth 100000 in
theorem g_X0_fearsFrom (l : Launch) (D : va_G) (b : Nat) (N : Nat) (V : Wd) (hN : 100 ≤ N) (hW : CW D b V) (c : Nat) (hc : c = 3 ∨ c = 21 ∨ c = 39 ∨ c = 74) (n0 : Int32) (n1 : Int32)  : MI l D b 1 jX0_fearsFrom [.ref (b + c), .int n0, .int n1] N V 0 0 (fun r N9 V9 => N = N9 ∧ V = V9) := by
  have hJ0 : JW D b N [] V V := JW.rf hW
  refine mw_of (by decide) (by simp [Value.category]) (Nat.le_of_ble_eq_true rfl) ?_
  show AW l D b jX0_fearsFrom (fx_rm 1 0 0) none (fx_MQ D b 0 0 (fx_qi (fun r N9 V9 => N = N9 ∧ V = V9))) 0 [some (.ref (b + c)), some (.int n0), some (.int n1), none, none] [] N V 0 0
  refine aw_iconst (v := 0) dX0_fearsFrom_0 (by decide) ?_
  refine aw_istore_n (ls' := [some (.ref (b + c)), some (.int n0), some (.int n1), some (.int 0), none]) dX0_fearsFrom_1 (Nat.le_of_ble_eq_true rfl) rfl ?_
  refine aw_iconst (v := 0) dX0_fearsFrom_2 (by decide) ?_
  refine aw_istore (ls' := [some (.ref (b + c)), some (.int n0), some (.int n1), some (.int 0), some (.int 0)]) dX0_fearsFrom_3 (Nat.le_of_ble_eq_true rfl) rfl ?_
  have loop_5_0 : ∀ (g_5 : Nat), ∀ (j5 : Nat) (v5_3 : Int32), j5 + g_5 = 16 → AW l D b jX0_fearsFrom (fx_rm 1 0 0) none (fx_MQ D b 0 0 (fx_qi (fun r N9 V9 => N = N9 ∧ V = V9))) 5 [some (.ref (b + c)), some (.int n0), some (.int n1), some (.int v5_3), some (.int (nI j5))] [] N V 0 0 := by
    intro g_5
    induction g_5 with
    | zero =>
      intro j5 v5_3 hj5
      obtain rfl : j5 = 16 := by omega
      refine aw_iload dX0_fearsFrom_5 rfl ?_
      refine aw_bipush (v := 16) dX0_fearsFrom_7 (by decide) ?_
      refine aw_icmp_ge (tgt := 36) dX0_fearsFrom_9 (by decide) (fun c_3 => ?_) (fun c_3 => ?_)
      rotate_left
      · exact absurd (nI_le (a := 16) (b := 16) (Nat.le_refl _) (by omega)) c_3
      refine aw_iload_n dX0_fearsFrom_36 rfl ?_
      refine aw_ireti dX0_fearsFrom_37 rfl (Nat.le_of_ble_eq_true rfl) (Nat.le_of_ble_eq_true rfl) ?_
      exact ⟨rfl, rfl⟩
    | succ g_5 ih_5_1 =>
      intro j5 v5_3 hj5
      have hlj5 : j5 < 16 := by omega
      refine aw_iload dX0_fearsFrom_5 rfl ?_
      refine aw_bipush (v := 16) dX0_fearsFrom_7 (by decide) ?_
      refine aw_icmp_ge (tgt := 36) dX0_fearsFrom_9 (by decide) (fun c_4 => ?_) (fun c_4 => ?_)
      · exact absurd c_4 (nI_ge (a := j5) (b := 16) (by omega) (by omega))
      refine aw_aload_n dX0_fearsFrom_12 rfl ?_
      refine aw_iload_n dX0_fearsFrom_13 rfl ?_
      refine aw_iload dX0_fearsFrom_14 rfl ?_
      obtain ⟨pe_6, dd_6, ni_6, xx_6, e_6⟩ := JW.get hJ0 (ctc_0 hc)
      refine aw_callVi (J' := jX0_dreadOf) (As := [.int n0, .int (nI j5)]) (st := []) dX0_fearsFrom_16 tb_639 ok_X0_dreadOf ⟨_, e_6⟩ (by omega) rfl rfl (g_X0_dreadOf l D b N V hN hJ0.1 c hc n0 (nI j5)) rfl (Nat.le_of_ble_eq_true rfl) ⟨Nat.le_of_ble_eq_true rfl, Nat.le_of_ble_eq_true rfl, Nat.le_of_ble_eq_true rfl, Nat.le_of_ble_eq_true rfl⟩ (fun r_7 N_8 V_9 q_10 => ?_)
      obtain ⟨rfl, rfl⟩ := q_10
      refine aw_iload_n dX0_fearsFrom_19 rfl ?_
      refine aw_icmp_lt (tgt := 30) dX0_fearsFrom_20 (by decide) (fun c_11 => ?_) (fun c_11 => ?_)
      · skip
        refine aw_iinc (v := (nI (j5 + 1))) (ls' := [some (.ref (b + c)), some (.int n0), some (.int n1), some (.int v5_3), some (.int (nI (j5 + 1)))]) dX0_fearsFrom_30 rfl (fx_up_1 _) (Nat.le_of_ble_eq_true rfl) rfl ?_
        refine aw_goto (tgt := 5) dX0_fearsFrom_33 (by decide) ?_
        refine aw_le ?_ (ih_5_1 (j5 + 1) v5_3  (by omega))
        exact ⟨rfl, ⟨rfl, ⟨rfl, ⟨rfl, ⟨rfl, trivial⟩⟩⟩⟩⟩
      · skip
        refine aw_iload_n dX0_fearsFrom_23 rfl ?_
        refine aw_iconst (v := 1) dX0_fearsFrom_24 (by decide) ?_
        refine aw_iload dX0_fearsFrom_25 rfl ?_
        refine aw_ishl dX0_fearsFrom_27 ?_
        refine aw_ior dX0_fearsFrom_28 ?_
        refine aw_istore_n (ls' := [some (.ref (b + c)), some (.int n0), some (.int n1), some (.int (v5_3 ||| ((1 : Int32) <<< ((nI j5) &&& 31)))), some (.int (nI j5))]) dX0_fearsFrom_29 (Nat.le_of_ble_eq_true rfl) rfl ?_
        refine aw_iinc (v := (nI (j5 + 1))) (ls' := [some (.ref (b + c)), some (.int n0), some (.int n1), some (.int (v5_3 ||| ((1 : Int32) <<< ((nI j5) &&& 31)))), some (.int (nI (j5 + 1)))]) dX0_fearsFrom_30 rfl (fx_up_1 _) (Nat.le_of_ble_eq_true rfl) rfl ?_
        refine aw_goto (tgt := 5) dX0_fearsFrom_33 (by decide) ?_
        refine aw_le ?_ (ih_5_1 (j5 + 1) (v5_3 ||| ((1 : Int32) <<< ((nI j5) &&& 31)))  (by omega))
        exact ⟨rfl, ⟨rfl, ⟨rfl, ⟨rfl, ⟨rfl, trivial⟩⟩⟩⟩⟩
  refine aw_le ?_ (loop_5_0 16 0 0  (by omega))
  exact ⟨rfl, ⟨rfl, ⟨rfl, ⟨rfl, ⟨rfl, trivial⟩⟩⟩⟩⟩

set_option maxHeartbeats 4000000 in
set_option maxRecDepth 100000 in
theorem g_X0_nobodysFears (l : Launch) (D : va_G) (b : Nat) (N : Nat) (V : Wd) (hN : 100 ≤ N) (hW : CW D b V) (c : Nat) (hc : c = 3 ∨ c = 21 ∨ c = 39 ∨ c = 74)  : MI l D b 2 jX0_nobodysFears [.ref (b + c)] N V 0 0 (fun r N9 V9 => N = N9 ∧ V = V9) := by
  have hJ0 : JW D b N [] V V := JW.rf hW
  refine mw_of (by decide) (by simp [Value.category]) (Nat.le_of_ble_eq_true rfl) ?_
  show AW l D b jX0_nobodysFears (fx_rm 2 0 0) none (fx_MQ D b 0 0 (fx_qi (fun r N9 V9 => N = N9 ∧ V = V9))) 0 [some (.ref (b + c)), none, none] [] N V 0 0
  refine aw_ldc (v := 65535) dX0_nobodysFears_0 tb_857 ?_
  refine aw_istore_n (ls' := [some (.ref (b + c)), some (.int 65535), none]) dX0_nobodysFears_2 (Nat.le_of_ble_eq_true rfl) rfl ?_
  refine aw_iconst (v := 0) dX0_nobodysFears_3 (by decide) ?_
  refine aw_istore_n (ls' := [some (.ref (b + c)), some (.int 65535), some (.int 0)]) dX0_nobodysFears_4 (Nat.le_of_ble_eq_true rfl) rfl ?_
  have loop_5_0 : ∀ (g_5 : Nat), ∀ (j5 : Nat) (v5_1 : Int32), j5 + g_5 = 12 → AW l D b jX0_nobodysFears (fx_rm 2 0 0) none (fx_MQ D b 0 0 (fx_qi (fun r N9 V9 => N = N9 ∧ V = V9))) 5 [some (.ref (b + c)), some (.int v5_1), some (.int (nI j5))] [] N V 0 0 := by
    intro g_5
    induction g_5 with
    | zero =>
      intro j5 v5_1 hj5
      obtain rfl : j5 = 12 := by omega
      refine aw_iload_n dX0_nobodysFears_5 rfl ?_
      refine aw_bipush (v := 12) dX0_nobodysFears_6 (by decide) ?_
      refine aw_icmp_ge (tgt := 28) dX0_nobodysFears_8 (by decide) (fun c_3 => ?_) (fun c_3 => ?_)
      rotate_left
      · exact absurd (nI_le (a := 12) (b := 12) (Nat.le_refl _) (by omega)) c_3
      refine aw_iload_n dX0_nobodysFears_28 rfl ?_
      refine aw_ireti dX0_nobodysFears_29 rfl (Nat.le_of_ble_eq_true rfl) (Nat.le_of_ble_eq_true rfl) ?_
      exact ⟨rfl, rfl⟩
    | succ g_5 ih_5_1 =>
      intro j5 v5_1 hj5
      have hlj5 : j5 < 12 := by omega
      refine aw_iload_n dX0_nobodysFears_5 rfl ?_
      refine aw_bipush (v := 12) dX0_nobodysFears_6 (by decide) ?_
      refine aw_icmp_ge (tgt := 28) dX0_nobodysFears_8 (by decide) (fun c_4 => ?_) (fun c_4 => ?_)
      · exact absurd c_4 (nI_ge (a := j5) (b := 12) (by omega) (by omega))
      refine aw_iload_n dX0_nobodysFears_11 rfl ?_
      refine aw_aload_n dX0_nobodysFears_12 rfl ?_
      refine aw_iload_n dX0_nobodysFears_13 rfl ?_
      refine aw_iconst (v := 1) dX0_nobodysFears_14 (by decide) ?_
      obtain ⟨pe_6, dd_6, ni_6, xx_6, e_6⟩ := JW.get hJ0 (ctc_0 hc)
      refine aw_callVi (J' := jX0_fearsFrom) (As := [.int (nI j5), .int 1]) (st := [.int v5_1]) dX0_nobodysFears_15 tb_858 ok_X0_fearsFrom ⟨_, e_6⟩ (by omega) rfl rfl (g_X0_fearsFrom l D b N V hN hJ0.1 c hc (nI j5) 1) rfl (Nat.le_of_ble_eq_true rfl) ⟨Nat.le_of_ble_eq_true rfl, Nat.le_of_ble_eq_true rfl, Nat.le_of_ble_eq_true rfl, Nat.le_of_ble_eq_true rfl⟩ (fun r_7 N_8 V_9 q_10 => ?_)
      obtain ⟨rfl, rfl⟩ := q_10
      refine aw_iconst (v := (-1)) dX0_nobodysFears_18 (by decide) ?_
      refine aw_ixor dX0_nobodysFears_19 ?_
      refine aw_iand dX0_nobodysFears_20 ?_
      refine aw_istore_n (ls' := [some (.ref (b + c)), some (.int (v5_1 &&& (r_7 ^^^ (-1)))), some (.int (nI j5))]) dX0_nobodysFears_21 (Nat.le_of_ble_eq_true rfl) rfl ?_
      refine aw_iinc (v := (nI (j5 + 1))) (ls' := [some (.ref (b + c)), some (.int (v5_1 &&& (r_7 ^^^ (-1)))), some (.int (nI (j5 + 1)))]) dX0_nobodysFears_22 rfl (fx_up_1 _) (Nat.le_of_ble_eq_true rfl) rfl ?_
      refine aw_goto (tgt := 5) dX0_nobodysFears_25 (by decide) ?_
      refine aw_le ?_ (ih_5_1 (j5 + 1) (v5_1 &&& (r_7 ^^^ (-1)))  (by omega))
      exact ⟨rfl, ⟨rfl, ⟨rfl, trivial⟩⟩⟩
  refine aw_le ?_ (loop_5_0 12 0 65535  (by omega))
  exact ⟨rfl, ⟨rfl, ⟨rfl, trivial⟩⟩⟩

set_option maxHeartbeats 4000000 in
set_option maxRecDepth 100000 in
theorem g_X0_allsFears (l : Launch) (D : va_G) (b : Nat) (N : Nat) (V : Wd) (hN : 100 ≤ N) (hW : CW D b V) (c : Nat) (hc : c = 3 ∨ c = 21 ∨ c = 39 ∨ c = 74)  : MI l D b 2 jX0_allsFears [.ref (b + c)] N V 0 0 (fun r N9 V9 => N = N9 ∧ V = V9) := by
  have hJ0 : JW D b N [] V V := JW.rf hW
  refine mw_of (by decide) (by simp [Value.category]) (Nat.le_of_ble_eq_true rfl) ?_
  show AW l D b jX0_allsFears (fx_rm 2 0 0) none (fx_MQ D b 0 0 (fx_qi (fun r N9 V9 => N = N9 ∧ V = V9))) 0 [some (.ref (b + c)), none, none] [] N V 0 0
  refine aw_ldc (v := 65535) dX0_allsFears_0 tb_857 ?_
  refine aw_istore_n (ls' := [some (.ref (b + c)), some (.int 65535), none]) dX0_allsFears_2 (Nat.le_of_ble_eq_true rfl) rfl ?_
  refine aw_iconst (v := 0) dX0_allsFears_3 (by decide) ?_
  refine aw_istore_n (ls' := [some (.ref (b + c)), some (.int 65535), some (.int 0)]) dX0_allsFears_4 (Nat.le_of_ble_eq_true rfl) rfl ?_
  have loop_5_0 : ∀ (g_5 : Nat), ∀ (j5 : Nat) (v5_1 : Int32), j5 + g_5 = 12 → AW l D b jX0_allsFears (fx_rm 2 0 0) none (fx_MQ D b 0 0 (fx_qi (fun r N9 V9 => N = N9 ∧ V = V9))) 5 [some (.ref (b + c)), some (.int v5_1), some (.int (nI j5))] [] N V 0 0 := by
    intro g_5
    induction g_5 with
    | zero =>
      intro j5 v5_1 hj5
      obtain rfl : j5 = 12 := by omega
      refine aw_iload_n dX0_allsFears_5 rfl ?_
      refine aw_bipush (v := 12) dX0_allsFears_6 (by decide) ?_
      refine aw_icmp_ge (tgt := 34) dX0_allsFears_8 (by decide) (fun c_3 => ?_) (fun c_3 => ?_)
      rotate_left
      · exact absurd (nI_le (a := 12) (b := 12) (Nat.le_refl _) (by omega)) c_3
      refine aw_iload_n dX0_allsFears_34 rfl ?_
      refine aw_ireti dX0_allsFears_35 rfl (Nat.le_of_ble_eq_true rfl) (Nat.le_of_ble_eq_true rfl) ?_
      exact ⟨rfl, rfl⟩
    | succ g_5 ih_5_1 =>
      intro j5 v5_1 hj5
      have hlj5 : j5 < 12 := by omega
      refine aw_iload_n dX0_allsFears_5 rfl ?_
      refine aw_bipush (v := 12) dX0_allsFears_6 (by decide) ?_
      refine aw_icmp_ge (tgt := 34) dX0_allsFears_8 (by decide) (fun c_4 => ?_) (fun c_4 => ?_)
      · exact absurd c_4 (nI_ge (a := j5) (b := 12) (by omega) (by omega))
      refine aw_aload_n dX0_allsFears_11 rfl ?_
      refine aw_iload_n dX0_allsFears_12 rfl ?_
      obtain ⟨pe_8, dd_8, ni_8, xx_8, e_8⟩ := JW.get hJ0 (ctc_0 hc)
      refine aw_callVi (J' := jX0_isPerson) (As := [.int (nI j5)]) (st := []) dX0_allsFears_13 tb_717 ok_X0_isPerson ⟨_, e_8⟩ (by omega) rfl rfl (g_X0_isPerson l D b N V hN hJ0.1 c hc (nI j5)) rfl (Nat.le_of_ble_eq_true rfl) ⟨Nat.le_of_ble_eq_true rfl, Nat.le_of_ble_eq_true rfl, Nat.le_of_ble_eq_true rfl, Nat.le_of_ble_eq_true rfl⟩ (fun r_9 N_10 V_11 q_12 => ?_)
      obtain ⟨⟨z_7, h_6⟩, rfl, rfl⟩ := q_12
      refine aw_if_eq (tgt := 28) dX0_allsFears_16 (by decide) (fun c_13 => ?_) (fun c_13 => ?_)
      · skip
        refine aw_iinc (v := (nI (j5 + 1))) (ls' := [some (.ref (b + c)), some (.int v5_1), some (.int (nI (j5 + 1)))]) dX0_allsFears_28 rfl (fx_up_1 _) (Nat.le_of_ble_eq_true rfl) rfl ?_
        refine aw_goto (tgt := 5) dX0_allsFears_31 (by decide) ?_
        refine aw_le ?_ (ih_5_1 (j5 + 1) v5_1  (by omega))
        exact ⟨rfl, ⟨rfl, ⟨rfl, trivial⟩⟩⟩
      · skip
        refine aw_iload_n dX0_allsFears_19 rfl ?_
        refine aw_aload_n dX0_allsFears_20 rfl ?_
        refine aw_iload_n dX0_allsFears_21 rfl ?_
        refine aw_iconst (v := 1) dX0_allsFears_22 (by decide) ?_
        refine aw_callVi (J' := jX0_fearsFrom) (As := [.int (nI j5), .int 1]) (st := [.int v5_1]) dX0_allsFears_23 tb_858 ok_X0_fearsFrom ⟨_, e_8⟩ (by omega) rfl rfl (g_X0_fearsFrom l D b N V hN hJ0.1 c hc (nI j5) 1) rfl (Nat.le_of_ble_eq_true rfl) ⟨Nat.le_of_ble_eq_true rfl, Nat.le_of_ble_eq_true rfl, Nat.le_of_ble_eq_true rfl, Nat.le_of_ble_eq_true rfl⟩ (fun r_15 N_16 V_17 q_18 => ?_)
        obtain ⟨rfl, rfl⟩ := q_18
        refine aw_iand dX0_allsFears_26 ?_
        refine aw_istore_n (ls' := [some (.ref (b + c)), some (.int (v5_1 &&& r_15)), some (.int (nI j5))]) dX0_allsFears_27 (Nat.le_of_ble_eq_true rfl) rfl ?_
        refine aw_iinc (v := (nI (j5 + 1))) (ls' := [some (.ref (b + c)), some (.int (v5_1 &&& r_15)), some (.int (nI (j5 + 1)))]) dX0_allsFears_28 rfl (fx_up_1 _) (Nat.le_of_ble_eq_true rfl) rfl ?_
        refine aw_goto (tgt := 5) dX0_allsFears_31 (by decide) ?_
        refine aw_le ?_ (ih_5_1 (j5 + 1) (v5_1 &&& r_15)  (by omega))
        exact ⟨rfl, ⟨rfl, ⟨rfl, trivial⟩⟩⟩
  refine aw_le ?_ (loop_5_0 12 0 65535  (by omega))
  exact ⟨rfl, ⟨rfl, ⟨rfl, trivial⟩⟩⟩

set_option maxHeartbeats 4000000 in
set_option maxRecDepth 100000 in
theorem g_X0_knownTo (l : Launch) (D : va_G) (b : Nat) (N : Nat) (V : Wd) (hN : 100 ≤ N) (hW : CW D b V) (c : Nat) (hc : c = 3 ∨ c = 21 ∨ c = 39 ∨ c = 74) (n0 : Int32)  : MI l D b 0 jX0_knownTo [.ref (b + c), .int n0] N V 0 0 (fun r N9 V9 => N = N9 ∧ V = V9) := by
  have hJ0 : JW D b N [] V V := JW.rf hW
  refine mw_of (by decide) (by simp [Value.category]) (Nat.le_of_ble_eq_true rfl) ?_
  show AW l D b jX0_knownTo (fx_rm 0 0 0) none (fx_MQ D b 0 0 (fx_qi (fun r N9 V9 => N = N9 ∧ V = V9))) 0 [some (.ref (b + c)), some (.int n0)] [] N V 0 0
  refine aw_iload_n dX0_knownTo_0 rfl ?_
  refine aw_if_lt (tgt := 19) dX0_knownTo_1 (by decide) (fun c_1 => ?_) (fun c_1 => ?_)
  · skip
    refine aw_iconst (v := 0) dX0_knownTo_19 (by decide) ?_
    refine aw_ireti dX0_knownTo_20 rfl (Nat.le_of_ble_eq_true rfl) (Nat.le_of_ble_eq_true rfl) ?_
    exact ⟨rfl, rfl⟩
  · skip
    refine aw_iload_n dX0_knownTo_4 rfl ?_
    refine aw_bipush (v := 12) dX0_knownTo_5 (by decide) ?_
    refine aw_icmp_ge (tgt := 19) dX0_knownTo_7 (by decide) (fun c_2 => ?_) (fun c_2 => ?_)
    · skip
      refine aw_iconst (v := 0) dX0_knownTo_19 (by decide) ?_
      refine aw_ireti dX0_knownTo_20 rfl (Nat.le_of_ble_eq_true rfl) (Nat.le_of_ble_eq_true rfl) ?_
      exact ⟨rfl, rfl⟩
    · skip
      refine aw_aload_n dX0_knownTo_10 rfl ?_
      obtain ⟨pe_3, dd_3, ni_3, xx_3, e_3⟩ := JW.get hJ0 (ctc_0 hc)
      refine aw_get dX0_knownTo_11 fl_X0_16 e_3 (by omega) rfl ?_
      refine aw_iload_n dX0_knownTo_14 rfl ?_
      obtain ⟨g_4, e_4⟩ := JW.get hJ0 (ctc_14 hc)
      refine aw_iald (v := (g_4 (Int32.toNatClampNeg n0))) dX0_knownTo_15 e_4 (by omega) (vi_in (Int32.not_lt.mp c_1) (vi_lt (n := 12) (Int32.not_le.mp c_2) (by decide)) (by decide)) rfl ?_
      refine aw_goto (tgt := 20) dX0_knownTo_16 (by decide) ?_
      refine aw_ireti dX0_knownTo_20 rfl (Nat.le_of_ble_eq_true rfl) (Nat.le_of_ble_eq_true rfl) ?_
      exact ⟨rfl, rfl⟩

set_option maxHeartbeats 4000000 in
set_option maxRecDepth 100000 in
theorem g_X0_acquaint (l : Launch) (D : va_G) (b : Nat) (N : Nat) (V : Wd) (hN : 100 ≤ N) (hW : CW D b V) (c : Nat) (hc : c = 3 ∨ c = 21 ∨ c = 39 ∨ c = 74) (n0 : Int32) (n1 : Int32) (n2 : Int32)  : MV l D b 0 jX0_acquaint [.ref (b + c), .int n0, .int n1, .int n2] N V 0 0 (fun N9 V9 => N = N9 ∧ JW D b N [(c + 14, c + 14, 0, 1000000)] V V9) := by
  have hJ0 : JW D b N [(c + 14, c + 14, 0, 1000000)] V V := JW.rf hW
  refine mw_of (by decide) (by simp [Value.category]) (Nat.le_of_ble_eq_true rfl) ?_
  show AW l D b jX0_acquaint (fx_rm 0 0 0) none (fx_MQ D b 0 0 (fx_qv (fun N9 V9 => N = N9 ∧ JW D b N [(c + 14, c + 14, 0, 1000000)] V V9))) 0 [some (.ref (b + c)), some (.int n0), some (.int n1), some (.int n2)] [] N V 0 0
  refine aw_iload_n dX0_acquaint_0 rfl ?_
  refine aw_if_lt (tgt := 20) dX0_acquaint_1 (by decide) (fun c_1 => ?_) (fun c_1 => ?_)
  · skip
    refine aw_vreti dX0_acquaint_20 rfl (Nat.le_of_ble_eq_true rfl) (Nat.le_of_ble_eq_true rfl) ?_
    exact ⟨rfl, hJ0⟩
  · skip
    refine aw_iload_n dX0_acquaint_4 rfl ?_
    refine aw_bipush (v := 12) dX0_acquaint_5 (by decide) ?_
    refine aw_icmp_ge (tgt := 20) dX0_acquaint_7 (by decide) (fun c_2 => ?_) (fun c_2 => ?_)
    · skip
      refine aw_vreti dX0_acquaint_20 rfl (Nat.le_of_ble_eq_true rfl) (Nat.le_of_ble_eq_true rfl) ?_
      exact ⟨rfl, hJ0⟩
    · skip
      refine aw_iload_n dX0_acquaint_10 rfl ?_
      refine aw_if_lt (tgt := 20) dX0_acquaint_11 (by decide) (fun c_3 => ?_) (fun c_3 => ?_)
      · skip
        refine aw_vreti dX0_acquaint_20 rfl (Nat.le_of_ble_eq_true rfl) (Nat.le_of_ble_eq_true rfl) ?_
        exact ⟨rfl, hJ0⟩
      · skip
        refine aw_iload_n dX0_acquaint_14 rfl ?_
        refine aw_bipush (v := 12) dX0_acquaint_15 (by decide) ?_
        refine aw_icmp_lt (tgt := 21) dX0_acquaint_17 (by decide) (fun c_4 => ?_) (fun c_4 => ?_)
        · skip
          refine aw_iload_n dX0_acquaint_21 rfl ?_
          refine aw_if_eq (tgt := 52) dX0_acquaint_22 (by decide) (fun c_5 => ?_) (fun c_5 => ?_)
          · skip
            refine aw_aload_n dX0_acquaint_52 rfl ?_
            obtain ⟨pe_6, dd_6, ni_6, xx_6, e_6⟩ := JW.get hJ0 (ctc_0 hc)
            refine aw_get dX0_acquaint_53 fl_X0_16 e_6 (by omega) rfl ?_
            refine aw_iload_n dX0_acquaint_56 rfl ?_
            refine aw_dup2 dX0_acquaint_57 rfl rfl ?_
            obtain ⟨g_7, e_7⟩ := JW.get hJ0 (ctc_14 hc)
            refine aw_iald (v := (g_7 (Int32.toNatClampNeg n0))) dX0_acquaint_58 e_7 (by omega) (vi_in (Int32.not_lt.mp c_1) (vi_lt (n := 12) (Int32.not_le.mp c_2) (by decide)) (by decide)) rfl ?_
            refine aw_iconst (v := 1) dX0_acquaint_59 (by decide) ?_
            refine aw_iload_n dX0_acquaint_60 rfl ?_
            refine aw_ishl dX0_acquaint_61 ?_
            refine aw_iconst (v := (-1)) dX0_acquaint_62 (by decide) ?_
            refine aw_ixor dX0_acquaint_63 ?_
            refine aw_iand dX0_acquaint_64 ?_
            refine aw_iast dX0_acquaint_65 e_7 (by omega) (vi_in (Int32.not_lt.mp c_1) (vi_lt (n := 12) (Int32.not_le.mp c_2) (by decide)) (by decide)) ?_
            refine aw_up hJ0 (ctc_14 hc) ⟨_, rfl⟩ (WA LM0 (by omega) (by omega)) (fun V_8 j_8 k_8 e_8 => ?_)
            refine aw_aload_n dX0_acquaint_66 rfl ?_
            refine aw_get dX0_acquaint_67 fl_X0_16 ((k_8 _ (by omega)).trans e_6) (by omega) rfl ?_
            refine aw_iload_n dX0_acquaint_70 rfl ?_
            refine aw_dup2 dX0_acquaint_71 rfl rfl ?_
            refine aw_iald (v := ((upd g_7 (Int32.toNatClampNeg n0) ((g_7 (Int32.toNatClampNeg n0)) &&& (((1 : Int32) <<< (n1 &&& 31)) ^^^ (-1)))) (Int32.toNatClampNeg n1))) dX0_acquaint_72 e_8 (by omega) (vi_in (Int32.not_lt.mp c_3) (vi_lt (n := 12) c_4 (by decide)) (by decide)) rfl ?_
            refine aw_iconst (v := 1) dX0_acquaint_73 (by decide) ?_
            refine aw_iload_n dX0_acquaint_74 rfl ?_
            refine aw_ishl dX0_acquaint_75 ?_
            refine aw_iconst (v := (-1)) dX0_acquaint_76 (by decide) ?_
            refine aw_ixor dX0_acquaint_77 ?_
            refine aw_iand dX0_acquaint_78 ?_
            refine aw_iast dX0_acquaint_79 e_8 (by omega) (vi_in (Int32.not_lt.mp c_3) (vi_lt (n := 12) c_4 (by decide)) (by decide)) ?_
            refine aw_up j_8 (ctc_14 hc) ⟨_, rfl⟩ (WA LM0 (by omega) (by omega)) (fun V_9 j_9 k_9 e_9 => ?_)
            refine aw_vreti dX0_acquaint_80 rfl (Nat.le_of_ble_eq_true rfl) (Nat.le_of_ble_eq_true rfl) ?_
            exact ⟨rfl, j_9⟩
          · skip
            refine aw_aload_n dX0_acquaint_25 rfl ?_
            obtain ⟨pe_10, dd_10, ni_10, xx_10, e_10⟩ := JW.get hJ0 (ctc_0 hc)
            refine aw_get dX0_acquaint_26 fl_X0_16 e_10 (by omega) rfl ?_
            refine aw_iload_n dX0_acquaint_29 rfl ?_
            refine aw_dup2 dX0_acquaint_30 rfl rfl ?_
            obtain ⟨g_11, e_11⟩ := JW.get hJ0 (ctc_14 hc)
            refine aw_iald (v := (g_11 (Int32.toNatClampNeg n0))) dX0_acquaint_31 e_11 (by omega) (vi_in (Int32.not_lt.mp c_1) (vi_lt (n := 12) (Int32.not_le.mp c_2) (by decide)) (by decide)) rfl ?_
            refine aw_iconst (v := 1) dX0_acquaint_32 (by decide) ?_
            refine aw_iload_n dX0_acquaint_33 rfl ?_
            refine aw_ishl dX0_acquaint_34 ?_
            refine aw_ior dX0_acquaint_35 ?_
            refine aw_iast dX0_acquaint_36 e_11 (by omega) (vi_in (Int32.not_lt.mp c_1) (vi_lt (n := 12) (Int32.not_le.mp c_2) (by decide)) (by decide)) ?_
            refine aw_up hJ0 (ctc_14 hc) ⟨_, rfl⟩ (WA LM0 (by omega) (by omega)) (fun V_12 j_12 k_12 e_12 => ?_)
            refine aw_aload_n dX0_acquaint_37 rfl ?_
            refine aw_get dX0_acquaint_38 fl_X0_16 ((k_12 _ (by omega)).trans e_10) (by omega) rfl ?_
            refine aw_iload_n dX0_acquaint_41 rfl ?_
            refine aw_dup2 dX0_acquaint_42 rfl rfl ?_
            refine aw_iald (v := ((upd g_11 (Int32.toNatClampNeg n0) ((g_11 (Int32.toNatClampNeg n0)) ||| ((1 : Int32) <<< (n1 &&& 31)))) (Int32.toNatClampNeg n1))) dX0_acquaint_43 e_12 (by omega) (vi_in (Int32.not_lt.mp c_3) (vi_lt (n := 12) c_4 (by decide)) (by decide)) rfl ?_
            refine aw_iconst (v := 1) dX0_acquaint_44 (by decide) ?_
            refine aw_iload_n dX0_acquaint_45 rfl ?_
            refine aw_ishl dX0_acquaint_46 ?_
            refine aw_ior dX0_acquaint_47 ?_
            refine aw_iast dX0_acquaint_48 e_12 (by omega) (vi_in (Int32.not_lt.mp c_3) (vi_lt (n := 12) c_4 (by decide)) (by decide)) ?_
            refine aw_up j_12 (ctc_14 hc) ⟨_, rfl⟩ (WA LM0 (by omega) (by omega)) (fun V_13 j_13 k_13 e_13 => ?_)
            refine aw_goto (tgt := 80) dX0_acquaint_49 (by decide) ?_
            refine aw_vreti dX0_acquaint_80 rfl (Nat.le_of_ble_eq_true rfl) (Nat.le_of_ble_eq_true rfl) ?_
            exact ⟨rfl, j_13⟩
        · skip
          refine aw_vreti dX0_acquaint_20 rfl (Nat.le_of_ble_eq_true rfl) (Nat.le_of_ble_eq_true rfl) ?_
          exact ⟨rfl, hJ0⟩

set_option maxHeartbeats 4000000 in
set_option maxRecDepth 100000 in
theorem g_X0_acquaintances (l : Launch) (D : va_G) (b : Nat) (N : Nat) (V : Wd) (hN : 100 ≤ N) (hW : CW D b V) (c : Nat) (hc : c = 3 ∨ c = 21 ∨ c = 39 ∨ c = 74)  : MI l D b 1 jX0_acquaintances [.ref (b + c)] N V 0 0 (fun r N9 V9 => N = N9 ∧ V = V9) := by
  have hJ0 : JW D b N [] V V := JW.rf hW
  refine mw_of (by decide) (by simp [Value.category]) (Nat.le_of_ble_eq_true rfl) ?_
  show AW l D b jX0_acquaintances (fx_rm 1 0 0) none (fx_MQ D b 0 0 (fx_qi (fun r N9 V9 => N = N9 ∧ V = V9))) 0 [some (.ref (b + c)), none, none] [] N V 0 0
  refine aw_iconst (v := 0) dX0_acquaintances_0 (by decide) ?_
  refine aw_istore_n (ls' := [some (.ref (b + c)), some (.int 0), none]) dX0_acquaintances_1 (Nat.le_of_ble_eq_true rfl) rfl ?_
  refine aw_iconst (v := 0) dX0_acquaintances_2 (by decide) ?_
  refine aw_istore_n (ls' := [some (.ref (b + c)), some (.int 0), some (.int 0)]) dX0_acquaintances_3 (Nat.le_of_ble_eq_true rfl) rfl ?_
  have loop_4_0 : ∀ (g_4 : Nat), ∀ (j4 : Nat) (v4_1 : Int32), j4 + g_4 = 12 → AW l D b jX0_acquaintances (fx_rm 1 0 0) none (fx_MQ D b 0 0 (fx_qi (fun r N9 V9 => N = N9 ∧ V = V9))) 4 [some (.ref (b + c)), some (.int v4_1), some (.int (nI j4))] [] N V 0 0 := by
    intro g_4
    induction g_4 with
    | zero =>
      intro j4 v4_1 hj4
      obtain rfl : j4 = 12 := by omega
      refine aw_iload_n dX0_acquaintances_4 rfl ?_
      refine aw_bipush (v := 12) dX0_acquaintances_5 (by decide) ?_
      refine aw_icmp_ge (tgt := 28) dX0_acquaintances_7 (by decide) (fun c_3 => ?_) (fun c_3 => ?_)
      rotate_left
      · exact absurd (nI_le (a := 12) (b := 12) (Nat.le_refl _) (by omega)) c_3
      refine aw_iload_n dX0_acquaintances_28 rfl ?_
      refine aw_iconst (v := 2) dX0_acquaintances_29 (by decide) ?_
      refine aw_idiv dX0_acquaintances_30 (by decide) ?_
      refine aw_ireti dX0_acquaintances_31 rfl (Nat.le_of_ble_eq_true rfl) (Nat.le_of_ble_eq_true rfl) ?_
      exact ⟨rfl, rfl⟩
    | succ g_4 ih_4_1 =>
      intro j4 v4_1 hj4
      have hlj4 : j4 < 12 := by omega
      refine aw_iload_n dX0_acquaintances_4 rfl ?_
      refine aw_bipush (v := 12) dX0_acquaintances_5 (by decide) ?_
      refine aw_icmp_ge (tgt := 28) dX0_acquaintances_7 (by decide) (fun c_4 => ?_) (fun c_4 => ?_)
      · exact absurd c_4 (nI_ge (a := j4) (b := 12) (by omega) (by omega))
      refine aw_iload_n dX0_acquaintances_10 rfl ?_
      refine aw_aload_n dX0_acquaintances_11 rfl ?_
      obtain ⟨pe_5, dd_5, ni_5, xx_5, e_5⟩ := JW.get hJ0 (ctc_0 hc)
      refine aw_get dX0_acquaintances_12 fl_X0_16 e_5 (by omega) rfl ?_
      refine aw_iload_n dX0_acquaintances_15 rfl ?_
      obtain ⟨g_6, e_6⟩ := JW.get hJ0 (ctc_14 hc)
      refine aw_iald (v := (g_6 j4)) dX0_acquaintances_16 e_6 (by omega) (vp_in_nI (n := j4) (by omega) (by omega)) (congrArg g_6 (nI_clamp (n := j4) (by omega))) ?_
      refine aw_callSi (J' := jJ6_bitCount_0f7a4) (As := [.int (g_6 j4)]) (st := [.int v4_1]) dX0_acquaintances_17 tb_1027 ok_J6_bitCount_0f7a4 rfl (c_bitCount l D b N V (g_6 j4)) rfl (Nat.le_of_ble_eq_true rfl) ⟨Nat.le_of_ble_eq_true rfl, Nat.le_of_ble_eq_true rfl, Nat.le_of_ble_eq_true rfl, Nat.le_of_ble_eq_true rfl⟩ (fun r_7 N_8 V_9 q_10 => ?_)
      obtain ⟨rfl, rfl⟩ := q_10
      refine aw_iadd dX0_acquaintances_20 ?_
      refine aw_istore_n (ls' := [some (.ref (b + c)), some (.int (v4_1 + r_7)), some (.int (nI j4))]) dX0_acquaintances_21 (Nat.le_of_ble_eq_true rfl) rfl ?_
      refine aw_iinc (v := (nI (j4 + 1))) (ls' := [some (.ref (b + c)), some (.int (v4_1 + r_7)), some (.int (nI (j4 + 1)))]) dX0_acquaintances_22 rfl (fx_up_1 _) (Nat.le_of_ble_eq_true rfl) rfl ?_
      refine aw_goto (tgt := 4) dX0_acquaintances_25 (by decide) ?_
      refine aw_le ?_ (ih_4_1 (j4 + 1) (v4_1 + r_7)  (by omega))
      exact ⟨rfl, ⟨rfl, ⟨rfl, trivial⟩⟩⟩
  refine aw_le ?_ (loop_4_0 12 0 0  (by omega))
  exact ⟨rfl, ⟨rfl, ⟨rfl, trivial⟩⟩⟩

set_option maxHeartbeats 4000000 in
set_option maxRecDepth 100000 in
theorem g_X0_tellDoor (l : Launch) (D : va_G) (b : Nat) (N : Nat) (V : Wd) (hN : 100 ≤ N) (hW : CW D b V) (c : Nat) (hc : c = 3 ∨ c = 21 ∨ c = 39 ∨ c = 74) (n0 : Int32) (n1 : Int32) (n2 : Int32)  : MV l D b 0 jX0_tellDoor [.ref (b + c), .int n0, .int n1, .int n2] N V 0 0 (fun N9 V9 => N = N9 ∧ JW D b N [(c, c, 6, 6), (c + 15, c + 15, 0, 1000000), (c + 16, c + 16, 0, 1000000), (c + 17, c + 17, 0, 1000000)] V V9) := by
  have hJ0 : JW D b N [(c, c, 6, 6), (c + 15, c + 15, 0, 1000000), (c + 16, c + 16, 0, 1000000), (c + 17, c + 17, 0, 1000000)] V V := JW.rf hW
  refine mw_of (by decide) (by simp [Value.category]) (Nat.le_of_ble_eq_true rfl) ?_
  show AW l D b jX0_tellDoor (fx_rm 0 0 0) none (fx_MQ D b 0 0 (fx_qv (fun N9 V9 => N = N9 ∧ JW D b N [(c, c, 6, 6), (c + 15, c + 15, 0, 1000000), (c + 16, c + 16, 0, 1000000), (c + 17, c + 17, 0, 1000000)] V V9))) 0 [some (.ref (b + c)), some (.int n0), some (.int n1), some (.int n2)] [] N V 0 0
  refine aw_iload_n dX0_tellDoor_0 rfl ?_
  refine aw_if_lt (tgt := 43) dX0_tellDoor_1 (by decide) (fun c_1 => ?_) (fun c_1 => ?_)
  · skip
    refine aw_vreti dX0_tellDoor_43 rfl (Nat.le_of_ble_eq_true rfl) (Nat.le_of_ble_eq_true rfl) ?_
    exact ⟨rfl, hJ0⟩
  · skip
    refine aw_iload_n dX0_tellDoor_4 rfl ?_
    refine aw_bipush (v := 16) dX0_tellDoor_5 (by decide) ?_
    refine aw_icmp_ge (tgt := 43) dX0_tellDoor_7 (by decide) (fun c_2 => ?_) (fun c_2 => ?_)
    · skip
      refine aw_vreti dX0_tellDoor_43 rfl (Nat.le_of_ble_eq_true rfl) (Nat.le_of_ble_eq_true rfl) ?_
      exact ⟨rfl, hJ0⟩
    · skip
      refine aw_aload_n dX0_tellDoor_10 rfl ?_
      refine aw_dup dX0_tellDoor_11 rfl ?_
      obtain ⟨pe_3, dd_3, ni_3, xx_3, e_3⟩ := JW.get hJ0 (ctc_0 hc)
      refine aw_get dX0_tellDoor_12 fl_X0_33 e_3 (by omega) rfl ?_
      refine aw_iconst (v := 1) dX0_tellDoor_15 (by decide) ?_
      refine aw_iload_n dX0_tellDoor_16 rfl ?_
      refine aw_ishl dX0_tellDoor_17 ?_
      refine aw_ior dX0_tellDoor_18 ?_
      refine aw_put dX0_tellDoor_19 fp_X0_33 e_3 (by omega) rfl rfl (Nat.le_of_ble_eq_true rfl) rfl ?_
      refine aw_up hJ0 (ctc_0 hc) ⟨_, _, _, _, rfl⟩ (WO (s := 6) (x := .int (dd_3 ||| ((1 : Int32) <<< (n0 &&& 31)))) e_3 rfl LM0 (by omega) (by omega) (by decide) (Or.inl (by decide))) (fun V_4 j_4 k_4 e_4 => ?_)
      refine aw_aload_n dX0_tellDoor_22 rfl ?_
      refine aw_get dX0_tellDoor_23 fl_X0_20 e_4 (by omega) rfl ?_
      refine aw_iload_n dX0_tellDoor_26 rfl ?_
      refine aw_iload_n dX0_tellDoor_27 rfl ?_
      obtain ⟨g_5, e_5⟩ := JW.get j_4 (ctc_15 hc)
      refine aw_iast dX0_tellDoor_28 e_5 (by omega) (vi_in (Int32.not_lt.mp c_1) (vi_lt (n := 16) (Int32.not_le.mp c_2) (by decide)) (by decide)) ?_
      refine aw_up j_4 (ctc_15 hc) ⟨_, rfl⟩ (WA (LMs LM0) (by omega) (by omega)) (fun V_6 j_6 k_6 e_6 => ?_)
      refine aw_aload_n dX0_tellDoor_29 rfl ?_
      refine aw_get dX0_tellDoor_30 fl_X0_23 ((k_6 _ (by omega)).trans e_4) (by omega) rfl ?_
      refine aw_iload_n dX0_tellDoor_33 rfl ?_
      refine aw_iload_n dX0_tellDoor_34 rfl ?_
      obtain ⟨g_7, e_7⟩ := JW.get j_6 (ctc_16 hc)
      refine aw_iast dX0_tellDoor_35 e_7 (by omega) (vi_in (Int32.not_lt.mp c_1) (vi_lt (n := 16) (Int32.not_le.mp c_2) (by decide)) (by decide)) ?_
      refine aw_up j_6 (ctc_16 hc) ⟨_, rfl⟩ (WA (LMs (LMs LM0)) (by omega) (by omega)) (fun V_8 j_8 k_8 e_8 => ?_)
      refine aw_aload_n dX0_tellDoor_36 rfl ?_
      refine aw_get dX0_tellDoor_37 fl_X0_26 ((k_8 _ (by omega)).trans ((k_6 _ (by omega)).trans e_4)) (by omega) rfl ?_
      refine aw_iload_n dX0_tellDoor_40 rfl ?_
      refine aw_iconst (v := 0) dX0_tellDoor_41 (by decide) ?_
      obtain ⟨g_9, e_9⟩ := JW.get j_8 (ctc_17 hc)
      refine aw_iast dX0_tellDoor_42 e_9 (by omega) (vi_in (Int32.not_lt.mp c_1) (vi_lt (n := 16) (Int32.not_le.mp c_2) (by decide)) (by decide)) ?_
      refine aw_up j_8 (ctc_17 hc) ⟨_, rfl⟩ (WA (LMs (LMs (LMs LM0))) (by omega) (by omega)) (fun V_10 j_10 k_10 e_10 => ?_)
      refine aw_vreti dX0_tellDoor_43 rfl (Nat.le_of_ble_eq_true rfl) (Nat.le_of_ble_eq_true rfl) ?_
      exact ⟨rfl, j_10⟩

set_option maxHeartbeats 4000000 in
set_option maxRecDepth 100000 in
theorem g_X0_dropDoor (l : Launch) (D : va_G) (b : Nat) (N : Nat) (V : Wd) (hN : 100 ≤ N) (hW : CW D b V) (c : Nat) (hc : c = 3 ∨ c = 21 ∨ c = 39 ∨ c = 74) (n0 : Int32)  : MV l D b 0 jX0_dropDoor [.ref (b + c), .int n0] N V 0 0 (fun N9 V9 => N = N9 ∧ JW D b N [(c, c, 6, 6), (c + 17, c + 17, 0, 1000000)] V V9) := by
  have hJ0 : JW D b N [(c, c, 6, 6), (c + 17, c + 17, 0, 1000000)] V V := JW.rf hW
  refine mw_of (by decide) (by simp [Value.category]) (Nat.le_of_ble_eq_true rfl) ?_
  show AW l D b jX0_dropDoor (fx_rm 0 0 0) none (fx_MQ D b 0 0 (fx_qv (fun N9 V9 => N = N9 ∧ JW D b N [(c, c, 6, 6), (c + 17, c + 17, 0, 1000000)] V V9))) 0 [some (.ref (b + c)), some (.int n0)] [] N V 0 0
  refine aw_iload_n dX0_dropDoor_0 rfl ?_
  refine aw_if_lt (tgt := 31) dX0_dropDoor_1 (by decide) (fun c_1 => ?_) (fun c_1 => ?_)
  · skip
    refine aw_vreti dX0_dropDoor_31 rfl (Nat.le_of_ble_eq_true rfl) (Nat.le_of_ble_eq_true rfl) ?_
    exact ⟨rfl, hJ0⟩
  · skip
    refine aw_iload_n dX0_dropDoor_4 rfl ?_
    refine aw_bipush (v := 16) dX0_dropDoor_5 (by decide) ?_
    refine aw_icmp_ge (tgt := 31) dX0_dropDoor_7 (by decide) (fun c_2 => ?_) (fun c_2 => ?_)
    · skip
      refine aw_vreti dX0_dropDoor_31 rfl (Nat.le_of_ble_eq_true rfl) (Nat.le_of_ble_eq_true rfl) ?_
      exact ⟨rfl, hJ0⟩
    · skip
      refine aw_aload_n dX0_dropDoor_10 rfl ?_
      refine aw_dup dX0_dropDoor_11 rfl ?_
      obtain ⟨pe_3, dd_3, ni_3, xx_3, e_3⟩ := JW.get hJ0 (ctc_0 hc)
      refine aw_get dX0_dropDoor_12 fl_X0_33 e_3 (by omega) rfl ?_
      refine aw_iconst (v := 1) dX0_dropDoor_15 (by decide) ?_
      refine aw_iload_n dX0_dropDoor_16 rfl ?_
      refine aw_ishl dX0_dropDoor_17 ?_
      refine aw_iconst (v := (-1)) dX0_dropDoor_18 (by decide) ?_
      refine aw_ixor dX0_dropDoor_19 ?_
      refine aw_iand dX0_dropDoor_20 ?_
      refine aw_put dX0_dropDoor_21 fp_X0_33 e_3 (by omega) rfl rfl (Nat.le_of_ble_eq_true rfl) rfl ?_
      refine aw_up hJ0 (ctc_0 hc) ⟨_, _, _, _, rfl⟩ (WO (s := 6) (x := .int (dd_3 &&& (((1 : Int32) <<< (n0 &&& 31)) ^^^ (-1)))) e_3 rfl LM0 (by omega) (by omega) (by decide) (Or.inl (by decide))) (fun V_4 j_4 k_4 e_4 => ?_)
      refine aw_aload_n dX0_dropDoor_24 rfl ?_
      refine aw_get dX0_dropDoor_25 fl_X0_26 e_4 (by omega) rfl ?_
      refine aw_iload_n dX0_dropDoor_28 rfl ?_
      refine aw_iconst (v := 0) dX0_dropDoor_29 (by decide) ?_
      obtain ⟨g_5, e_5⟩ := JW.get j_4 (ctc_17 hc)
      refine aw_iast dX0_dropDoor_30 e_5 (by omega) (vi_in (Int32.not_lt.mp c_1) (vi_lt (n := 16) (Int32.not_le.mp c_2) (by decide)) (by decide)) ?_
      refine aw_up j_4 (ctc_17 hc) ⟨_, rfl⟩ (WA (LMs LM0) (by omega) (by omega)) (fun V_6 j_6 k_6 e_6 => ?_)
      refine aw_vreti dX0_dropDoor_31 rfl (Nat.le_of_ble_eq_true rfl) (Nat.le_of_ble_eq_true rfl) ?_
      exact ⟨rfl, j_6⟩

set_option maxHeartbeats 4000000 in
set_option maxRecDepth 100000 in
theorem g_X0_opens (l : Launch) (D : va_G) (b : Nat) (N : Nat) (V : Wd) (hN : 100 ≤ N) (hW : CW D b V) (c : Nat) (hc : c = 3 ∨ c = 21 ∨ c = 39 ∨ c = 74) (n0 : Int32) (n1 : Int32)  : MI l D b 3 jX0_opens [.ref (b + c), .int n0, .int n1] N V 0 0 (fun r N9 V9 => (r = 0 ∨ r = 1) ∧ N = N9 ∧ V = V9) := by
  have hJ0 : JW D b N [] V V := JW.rf hW
  refine mw_of (by decide) (by simp [Value.category]) (Nat.le_of_ble_eq_true rfl) ?_
  show AW l D b jX0_opens (fx_rm 3 0 0) none (fx_MQ D b 0 0 (fx_qi (fun r N9 V9 => (r = 0 ∨ r = 1) ∧ N = N9 ∧ V = V9))) 0 [some (.ref (b + c)), some (.int n0), some (.int n1)] [] N V 0 0
  refine aw_aload_n dX0_opens_0 rfl ?_
  refine aw_iload_n dX0_opens_1 rfl ?_
  obtain ⟨pe_4, dd_4, ni_4, xx_4, e_4⟩ := JW.get hJ0 (ctc_0 hc)
  refine aw_callVi (J' := jX0_isPerson) (As := [.int n0]) (st := []) dX0_opens_2 tb_717 ok_X0_isPerson ⟨_, e_4⟩ (by omega) rfl rfl (g_X0_isPerson l D b N V hN hJ0.1 c hc n0) rfl (Nat.le_of_ble_eq_true rfl) ⟨Nat.le_of_ble_eq_true rfl, Nat.le_of_ble_eq_true rfl, Nat.le_of_ble_eq_true rfl, Nat.le_of_ble_eq_true rfl⟩ (fun r_5 N_6 V_7 q_8 => ?_)
  obtain ⟨⟨z_3, h_2⟩, rfl, rfl⟩ := q_8
  refine aw_if_eq (tgt := 54) dX0_opens_5 (by decide) (fun c_9 => ?_) (fun c_9 => ?_)
  · skip
    refine aw_iconst (v := 0) dX0_opens_54 (by decide) ?_
    refine aw_zreti dX0_opens_55 rfl (by first | exact Or.inl rfl | exact Or.inr rfl | assumption) (Nat.le_of_ble_eq_true rfl) (Nat.le_of_ble_eq_true rfl) ?_
    exact ⟨(by first | exact Or.inl rfl | exact Or.inr rfl | assumption), rfl, rfl⟩
  · skip
    refine aw_aload_n dX0_opens_8 rfl ?_
    refine aw_iload_n dX0_opens_9 rfl ?_
    refine aw_callVi (J' := jX0_isDoor) (As := [.int n1]) (st := []) dX0_opens_10 tb_718 ok_X0_isDoor ⟨_, e_4⟩ (by omega) rfl rfl (g_X0_isDoor l D b N V hN hJ0.1 c hc n1) rfl (Nat.le_of_ble_eq_true rfl) ⟨Nat.le_of_ble_eq_true rfl, Nat.le_of_ble_eq_true rfl, Nat.le_of_ble_eq_true rfl, Nat.le_of_ble_eq_true rfl⟩ (fun r_13 N_14 V_15 q_16 => ?_)
    obtain ⟨⟨z_12, h_11⟩, rfl, rfl⟩ := q_16
    refine aw_if_eq (tgt := 54) dX0_opens_13 (by decide) (fun c_17 => ?_) (fun c_17 => ?_)
    · skip
      refine aw_iconst (v := 0) dX0_opens_54 (by decide) ?_
      refine aw_zreti dX0_opens_55 rfl (by first | exact Or.inl rfl | exact Or.inr rfl | assumption) (Nat.le_of_ble_eq_true rfl) (Nat.le_of_ble_eq_true rfl) ?_
      exact ⟨(by first | exact Or.inl rfl | exact Or.inr rfl | assumption), rfl, rfl⟩
    · skip
      refine aw_aload_n dX0_opens_16 rfl ?_
      refine aw_iload_n dX0_opens_17 rfl ?_
      refine aw_callVi (J' := jX0_fearOf) (As := [.int n0]) (st := []) dX0_opens_18 tb_719 ok_X0_fearOf ⟨_, e_4⟩ (by omega) rfl rfl (g_X0_fearOf l D b N V hN hJ0.1 c hc n0) rfl (Nat.le_of_ble_eq_true rfl) ⟨Nat.le_of_ble_eq_true rfl, Nat.le_of_ble_eq_true rfl, Nat.le_of_ble_eq_true rfl, Nat.le_of_ble_eq_true rfl⟩ (fun r_19 N_20 V_21 q_22 => ?_)
      obtain ⟨rfl, rfl⟩ := q_22
      refine aw_aload_n dX0_opens_21 rfl ?_
      refine aw_get dX0_opens_22 fl_X0_20 e_4 (by omega) rfl ?_
      refine aw_iload_n dX0_opens_25 rfl ?_
      obtain ⟨g_23, e_23⟩ := JW.get hJ0 (ctc_15 hc)
      refine aw_iald (v := (g_23 (Int32.toNatClampNeg n1))) dX0_opens_26 e_23 (by omega) (vi_res h_11 c_17 (by decide)) rfl ?_
      refine aw_icmp_ne (tgt := 54) dX0_opens_27 (by decide) (fun c_24 => ?_) (fun c_24 => ?_)
      · skip
        refine aw_iconst (v := 0) dX0_opens_54 (by decide) ?_
        refine aw_zreti dX0_opens_55 rfl (by first | exact Or.inl rfl | exact Or.inr rfl | assumption) (Nat.le_of_ble_eq_true rfl) (Nat.le_of_ble_eq_true rfl) ?_
        exact ⟨(by first | exact Or.inl rfl | exact Or.inr rfl | assumption), rfl, rfl⟩
      · skip
        refine aw_aload_n dX0_opens_30 rfl ?_
        refine aw_iload_n dX0_opens_31 rfl ?_
        refine aw_aload_n dX0_opens_32 rfl ?_
        refine aw_get dX0_opens_33 fl_X0_20 e_4 (by omega) rfl ?_
        refine aw_iload_n dX0_opens_36 rfl ?_
        refine aw_iald (v := (g_23 (Int32.toNatClampNeg n1))) dX0_opens_37 e_23 (by omega) (vi_res h_11 c_17 (by decide)) rfl ?_
        refine aw_callVi (J' := jX0_dreadOf) (As := [.int n0, .int (g_23 (Int32.toNatClampNeg n1))]) (st := []) dX0_opens_38 tb_639 ok_X0_dreadOf ⟨_, e_4⟩ (by omega) rfl rfl (g_X0_dreadOf l D b N V hN hJ0.1 c hc n0 (g_23 (Int32.toNatClampNeg n1))) rfl (Nat.le_of_ble_eq_true rfl) ⟨Nat.le_of_ble_eq_true rfl, Nat.le_of_ble_eq_true rfl, Nat.le_of_ble_eq_true rfl, Nat.le_of_ble_eq_true rfl⟩ (fun r_26 N_27 V_28 q_29 => ?_)
        obtain ⟨rfl, rfl⟩ := q_29
        refine aw_aload_n dX0_opens_41 rfl ?_
        refine aw_get dX0_opens_42 fl_X0_23 e_4 (by omega) rfl ?_
        refine aw_iload_n dX0_opens_45 rfl ?_
        obtain ⟨g_30, e_30⟩ := JW.get hJ0 (ctc_16 hc)
        refine aw_iald (v := (g_30 (Int32.toNatClampNeg n1))) dX0_opens_46 e_30 (by omega) (vi_res h_11 c_17 (by decide)) rfl ?_
        refine aw_icmp_lt (tgt := 54) dX0_opens_47 (by decide) (fun c_31 => ?_) (fun c_31 => ?_)
        · skip
          refine aw_iconst (v := 0) dX0_opens_54 (by decide) ?_
          refine aw_zreti dX0_opens_55 rfl (by first | exact Or.inl rfl | exact Or.inr rfl | assumption) (Nat.le_of_ble_eq_true rfl) (Nat.le_of_ble_eq_true rfl) ?_
          exact ⟨(by first | exact Or.inl rfl | exact Or.inr rfl | assumption), rfl, rfl⟩
        · skip
          refine aw_iconst (v := 1) dX0_opens_50 (by decide) ?_
          refine aw_goto (tgt := 55) dX0_opens_51 (by decide) ?_
          refine aw_zreti dX0_opens_55 rfl (by first | exact Or.inl rfl | exact Or.inr rfl | assumption) (Nat.le_of_ble_eq_true rfl) (Nat.le_of_ble_eq_true rfl) ?_
          exact ⟨(by first | exact Or.inl rfl | exact Or.inr rfl | assumption), rfl, rfl⟩

set_option maxHeartbeats 4000000 in
set_option maxRecDepth 100000 in
theorem g_X0_doorsOpenTo (l : Launch) (D : va_G) (b : Nat) (N : Nat) (V : Wd) (hN : 100 ≤ N) (hW : CW D b V) (c : Nat) (hc : c = 3 ∨ c = 21 ∨ c = 39 ∨ c = 74) (n0 : Int32)  : MI l D b 4 jX0_doorsOpenTo [.ref (b + c), .int n0] N V 0 0 (fun r N9 V9 => N = N9 ∧ V = V9) := by
  have hJ0 : JW D b N [] V V := JW.rf hW
  refine mw_of (by decide) (by simp [Value.category]) (Nat.le_of_ble_eq_true rfl) ?_
  show AW l D b jX0_doorsOpenTo (fx_rm 4 0 0) none (fx_MQ D b 0 0 (fx_qi (fun r N9 V9 => N = N9 ∧ V = V9))) 0 [some (.ref (b + c)), some (.int n0), none, none] [] N V 0 0
  refine aw_iconst (v := 0) dX0_doorsOpenTo_0 (by decide) ?_
  refine aw_istore_n (ls' := [some (.ref (b + c)), some (.int n0), some (.int 0), none]) dX0_doorsOpenTo_1 (Nat.le_of_ble_eq_true rfl) rfl ?_
  refine aw_iconst (v := 0) dX0_doorsOpenTo_2 (by decide) ?_
  refine aw_istore_n (ls' := [some (.ref (b + c)), some (.int n0), some (.int 0), some (.int 0)]) dX0_doorsOpenTo_3 (Nat.le_of_ble_eq_true rfl) rfl ?_
  have loop_4_0 : ∀ (g_4 : Nat), ∀ (j4 : Nat) (v4_2 : Int32), j4 + g_4 = 16 → AW l D b jX0_doorsOpenTo (fx_rm 4 0 0) none (fx_MQ D b 0 0 (fx_qi (fun r N9 V9 => N = N9 ∧ V = V9))) 4 [some (.ref (b + c)), some (.int n0), some (.int v4_2), some (.int (nI j4))] [] N V 0 0 := by
    intro g_4
    induction g_4 with
    | zero =>
      intro j4 v4_2 hj4
      obtain rfl : j4 = 16 := by omega
      refine aw_iload_n dX0_doorsOpenTo_4 rfl ?_
      refine aw_bipush (v := 16) dX0_doorsOpenTo_5 (by decide) ?_
      refine aw_icmp_ge (tgt := 31) dX0_doorsOpenTo_7 (by decide) (fun c_3 => ?_) (fun c_3 => ?_)
      rotate_left
      · exact absurd (nI_le (a := 16) (b := 16) (Nat.le_refl _) (by omega)) c_3
      refine aw_iload_n dX0_doorsOpenTo_31 rfl ?_
      refine aw_ireti dX0_doorsOpenTo_32 rfl (Nat.le_of_ble_eq_true rfl) (Nat.le_of_ble_eq_true rfl) ?_
      exact ⟨rfl, rfl⟩
    | succ g_4 ih_4_1 =>
      intro j4 v4_2 hj4
      have hlj4 : j4 < 16 := by omega
      refine aw_iload_n dX0_doorsOpenTo_4 rfl ?_
      refine aw_bipush (v := 16) dX0_doorsOpenTo_5 (by decide) ?_
      refine aw_icmp_ge (tgt := 31) dX0_doorsOpenTo_7 (by decide) (fun c_4 => ?_) (fun c_4 => ?_)
      · exact absurd c_4 (nI_ge (a := j4) (b := 16) (by omega) (by omega))
      refine aw_aload_n dX0_doorsOpenTo_10 rfl ?_
      refine aw_iload_n dX0_doorsOpenTo_11 rfl ?_
      refine aw_iload_n dX0_doorsOpenTo_12 rfl ?_
      obtain ⟨pe_7, dd_7, ni_7, xx_7, e_7⟩ := JW.get hJ0 (ctc_0 hc)
      refine aw_callVi (J' := jX0_opens) (As := [.int n0, .int (nI j4)]) (st := []) dX0_doorsOpenTo_13 tb_763 ok_X0_opens ⟨_, e_7⟩ (by omega) rfl rfl (g_X0_opens l D b N V hN hJ0.1 c hc n0 (nI j4)) rfl (Nat.le_of_ble_eq_true rfl) ⟨Nat.le_of_ble_eq_true rfl, Nat.le_of_ble_eq_true rfl, Nat.le_of_ble_eq_true rfl, Nat.le_of_ble_eq_true rfl⟩ (fun r_8 N_9 V_10 q_11 => ?_)
      obtain ⟨h_6, rfl, rfl⟩ := q_11
      refine aw_if_eq (tgt := 25) dX0_doorsOpenTo_16 (by decide) (fun c_12 => ?_) (fun c_12 => ?_)
      · skip
        refine aw_iinc (v := (nI (j4 + 1))) (ls' := [some (.ref (b + c)), some (.int n0), some (.int v4_2), some (.int (nI (j4 + 1)))]) dX0_doorsOpenTo_25 rfl (fx_up_1 _) (Nat.le_of_ble_eq_true rfl) rfl ?_
        refine aw_goto (tgt := 4) dX0_doorsOpenTo_28 (by decide) ?_
        refine aw_le ?_ (ih_4_1 (j4 + 1) v4_2  (by omega))
        exact ⟨rfl, ⟨rfl, ⟨rfl, ⟨rfl, trivial⟩⟩⟩⟩
      · skip
        refine aw_iload_n dX0_doorsOpenTo_19 rfl ?_
        refine aw_iconst (v := 1) dX0_doorsOpenTo_20 (by decide) ?_
        refine aw_iload_n dX0_doorsOpenTo_21 rfl ?_
        refine aw_ishl dX0_doorsOpenTo_22 ?_
        refine aw_ior dX0_doorsOpenTo_23 ?_
        refine aw_istore_n (ls' := [some (.ref (b + c)), some (.int n0), some (.int (v4_2 ||| ((1 : Int32) <<< ((nI j4) &&& 31)))), some (.int (nI j4))]) dX0_doorsOpenTo_24 (Nat.le_of_ble_eq_true rfl) rfl ?_
        refine aw_iinc (v := (nI (j4 + 1))) (ls' := [some (.ref (b + c)), some (.int n0), some (.int (v4_2 ||| ((1 : Int32) <<< ((nI j4) &&& 31)))), some (.int (nI (j4 + 1)))]) dX0_doorsOpenTo_25 rfl (fx_up_1 _) (Nat.le_of_ble_eq_true rfl) rfl ?_
        refine aw_goto (tgt := 4) dX0_doorsOpenTo_28 (by decide) ?_
        refine aw_le ?_ (ih_4_1 (j4 + 1) (v4_2 ||| ((1 : Int32) <<< ((nI j4) &&& 31)))  (by omega))
        exact ⟨rfl, ⟨rfl, ⟨rfl, ⟨rfl, trivial⟩⟩⟩⟩
  refine aw_le ?_ (loop_4_0 16 0 0  (by omega))
  exact ⟨rfl, ⟨rfl, ⟨rfl, ⟨rfl, trivial⟩⟩⟩⟩

set_option maxHeartbeats 4000000 in
set_option maxRecDepth 100000 in
theorem g_X0_openersOf (l : Launch) (D : va_G) (b : Nat) (N : Nat) (V : Wd) (hN : 100 ≤ N) (hW : CW D b V) (c : Nat) (hc : c = 3 ∨ c = 21 ∨ c = 39 ∨ c = 74) (n0 : Int32)  : MI l D b 4 jX0_openersOf [.ref (b + c), .int n0] N V 0 0 (fun r N9 V9 => N = N9 ∧ V = V9) := by
  have hJ0 : JW D b N [] V V := JW.rf hW
  refine mw_of (by decide) (by simp [Value.category]) (Nat.le_of_ble_eq_true rfl) ?_
  show AW l D b jX0_openersOf (fx_rm 4 0 0) none (fx_MQ D b 0 0 (fx_qi (fun r N9 V9 => N = N9 ∧ V = V9))) 0 [some (.ref (b + c)), some (.int n0), none, none] [] N V 0 0
  refine aw_iconst (v := 0) dX0_openersOf_0 (by decide) ?_
  refine aw_istore_n (ls' := [some (.ref (b + c)), some (.int n0), some (.int 0), none]) dX0_openersOf_1 (Nat.le_of_ble_eq_true rfl) rfl ?_
  refine aw_iconst (v := 0) dX0_openersOf_2 (by decide) ?_
  refine aw_istore_n (ls' := [some (.ref (b + c)), some (.int n0), some (.int 0), some (.int 0)]) dX0_openersOf_3 (Nat.le_of_ble_eq_true rfl) rfl ?_
  have loop_4_0 : ∀ (g_4 : Nat), ∀ (j4 : Nat) (v4_2 : Int32), j4 + g_4 = 12 → AW l D b jX0_openersOf (fx_rm 4 0 0) none (fx_MQ D b 0 0 (fx_qi (fun r N9 V9 => N = N9 ∧ V = V9))) 4 [some (.ref (b + c)), some (.int n0), some (.int v4_2), some (.int (nI j4))] [] N V 0 0 := by
    intro g_4
    induction g_4 with
    | zero =>
      intro j4 v4_2 hj4
      obtain rfl : j4 = 12 := by omega
      refine aw_iload_n dX0_openersOf_4 rfl ?_
      refine aw_bipush (v := 12) dX0_openersOf_5 (by decide) ?_
      refine aw_icmp_ge (tgt := 31) dX0_openersOf_7 (by decide) (fun c_3 => ?_) (fun c_3 => ?_)
      rotate_left
      · exact absurd (nI_le (a := 12) (b := 12) (Nat.le_refl _) (by omega)) c_3
      refine aw_iload_n dX0_openersOf_31 rfl ?_
      refine aw_ireti dX0_openersOf_32 rfl (Nat.le_of_ble_eq_true rfl) (Nat.le_of_ble_eq_true rfl) ?_
      exact ⟨rfl, rfl⟩
    | succ g_4 ih_4_1 =>
      intro j4 v4_2 hj4
      have hlj4 : j4 < 12 := by omega
      refine aw_iload_n dX0_openersOf_4 rfl ?_
      refine aw_bipush (v := 12) dX0_openersOf_5 (by decide) ?_
      refine aw_icmp_ge (tgt := 31) dX0_openersOf_7 (by decide) (fun c_4 => ?_) (fun c_4 => ?_)
      · exact absurd c_4 (nI_ge (a := j4) (b := 12) (by omega) (by omega))
      refine aw_aload_n dX0_openersOf_10 rfl ?_
      refine aw_iload_n dX0_openersOf_11 rfl ?_
      refine aw_iload_n dX0_openersOf_12 rfl ?_
      obtain ⟨pe_7, dd_7, ni_7, xx_7, e_7⟩ := JW.get hJ0 (ctc_0 hc)
      refine aw_callVi (J' := jX0_opens) (As := [.int (nI j4), .int n0]) (st := []) dX0_openersOf_13 tb_763 ok_X0_opens ⟨_, e_7⟩ (by omega) rfl rfl (g_X0_opens l D b N V hN hJ0.1 c hc (nI j4) n0) rfl (Nat.le_of_ble_eq_true rfl) ⟨Nat.le_of_ble_eq_true rfl, Nat.le_of_ble_eq_true rfl, Nat.le_of_ble_eq_true rfl, Nat.le_of_ble_eq_true rfl⟩ (fun r_8 N_9 V_10 q_11 => ?_)
      obtain ⟨h_6, rfl, rfl⟩ := q_11
      refine aw_if_eq (tgt := 25) dX0_openersOf_16 (by decide) (fun c_12 => ?_) (fun c_12 => ?_)
      · skip
        refine aw_iinc (v := (nI (j4 + 1))) (ls' := [some (.ref (b + c)), some (.int n0), some (.int v4_2), some (.int (nI (j4 + 1)))]) dX0_openersOf_25 rfl (fx_up_1 _) (Nat.le_of_ble_eq_true rfl) rfl ?_
        refine aw_goto (tgt := 4) dX0_openersOf_28 (by decide) ?_
        refine aw_le ?_ (ih_4_1 (j4 + 1) v4_2  (by omega))
        exact ⟨rfl, ⟨rfl, ⟨rfl, ⟨rfl, trivial⟩⟩⟩⟩
      · skip
        refine aw_iload_n dX0_openersOf_19 rfl ?_
        refine aw_iconst (v := 1) dX0_openersOf_20 (by decide) ?_
        refine aw_iload_n dX0_openersOf_21 rfl ?_
        refine aw_ishl dX0_openersOf_22 ?_
        refine aw_ior dX0_openersOf_23 ?_
        refine aw_istore_n (ls' := [some (.ref (b + c)), some (.int n0), some (.int (v4_2 ||| ((1 : Int32) <<< ((nI j4) &&& 31)))), some (.int (nI j4))]) dX0_openersOf_24 (Nat.le_of_ble_eq_true rfl) rfl ?_
        refine aw_iinc (v := (nI (j4 + 1))) (ls' := [some (.ref (b + c)), some (.int n0), some (.int (v4_2 ||| ((1 : Int32) <<< ((nI j4) &&& 31)))), some (.int (nI (j4 + 1)))]) dX0_openersOf_25 rfl (fx_up_1 _) (Nat.le_of_ble_eq_true rfl) rfl ?_
        refine aw_goto (tgt := 4) dX0_openersOf_28 (by decide) ?_
        refine aw_le ?_ (ih_4_1 (j4 + 1) (v4_2 ||| ((1 : Int32) <<< ((nI j4) &&& 31)))  (by omega))
        exact ⟨rfl, ⟨rfl, ⟨rfl, ⟨rfl, trivial⟩⟩⟩⟩
  refine aw_le ?_ (loop_4_0 12 0 0  (by omega))
  exact ⟨rfl, ⟨rfl, ⟨rfl, ⟨rfl, trivial⟩⟩⟩⟩

set_option maxHeartbeats 4000000 in
set_option maxRecDepth 100000 in
theorem g_X0_openedOf (l : Launch) (D : va_G) (b : Nat) (N : Nat) (V : Wd) (hN : 100 ≤ N) (hW : CW D b V) (c : Nat) (hc : c = 3 ∨ c = 21 ∨ c = 39 ∨ c = 74) (n0 : Int32)  : MI l D b 0 jX0_openedOf [.ref (b + c), .int n0] N V 0 0 (fun r N9 V9 => N = N9 ∧ V = V9) := by
  have hJ0 : JW D b N [] V V := JW.rf hW
  refine mw_of (by decide) (by simp [Value.category]) (Nat.le_of_ble_eq_true rfl) ?_
  show AW l D b jX0_openedOf (fx_rm 0 0 0) none (fx_MQ D b 0 0 (fx_qi (fun r N9 V9 => N = N9 ∧ V = V9))) 0 [some (.ref (b + c)), some (.int n0)] [] N V 0 0
  refine aw_iload_n dX0_openedOf_0 rfl ?_
  refine aw_if_lt (tgt := 19) dX0_openedOf_1 (by decide) (fun c_1 => ?_) (fun c_1 => ?_)
  · skip
    refine aw_iconst (v := 0) dX0_openedOf_19 (by decide) ?_
    refine aw_ireti dX0_openedOf_20 rfl (Nat.le_of_ble_eq_true rfl) (Nat.le_of_ble_eq_true rfl) ?_
    exact ⟨rfl, rfl⟩
  · skip
    refine aw_iload_n dX0_openedOf_4 rfl ?_
    refine aw_bipush (v := 16) dX0_openedOf_5 (by decide) ?_
    refine aw_icmp_ge (tgt := 19) dX0_openedOf_7 (by decide) (fun c_2 => ?_) (fun c_2 => ?_)
    · skip
      refine aw_iconst (v := 0) dX0_openedOf_19 (by decide) ?_
      refine aw_ireti dX0_openedOf_20 rfl (Nat.le_of_ble_eq_true rfl) (Nat.le_of_ble_eq_true rfl) ?_
      exact ⟨rfl, rfl⟩
    · skip
      refine aw_aload_n dX0_openedOf_10 rfl ?_
      obtain ⟨pe_3, dd_3, ni_3, xx_3, e_3⟩ := JW.get hJ0 (ctc_0 hc)
      refine aw_get dX0_openedOf_11 fl_X0_26 e_3 (by omega) rfl ?_
      refine aw_iload_n dX0_openedOf_14 rfl ?_
      obtain ⟨g_4, e_4⟩ := JW.get hJ0 (ctc_17 hc)
      refine aw_iald (v := (g_4 (Int32.toNatClampNeg n0))) dX0_openedOf_15 e_4 (by omega) (vi_in (Int32.not_lt.mp c_1) (vi_lt (n := 16) (Int32.not_le.mp c_2) (by decide)) (by decide)) rfl ?_
      refine aw_goto (tgt := 20) dX0_openedOf_16 (by decide) ?_
      refine aw_ireti dX0_openedOf_20 rfl (Nat.le_of_ble_eq_true rfl) (Nat.le_of_ble_eq_true rfl) ?_
      exact ⟨rfl, rfl⟩

set_option maxHeartbeats 4000000 in
set_option maxRecDepth 100000 in
theorem g_X0_openedInAll (l : Launch) (D : va_G) (b : Nat) (N : Nat) (V : Wd) (hN : 100 ≤ N) (hW : CW D b V) (c : Nat) (hc : c = 3 ∨ c = 21 ∨ c = 39 ∨ c = 74)  : MI l D b 0 jX0_openedInAll [.ref (b + c)] N V 0 0 (fun r N9 V9 => N = N9 ∧ V = V9) := by
  have hJ0 : JW D b N [] V V := JW.rf hW
  refine mw_of (by decide) (by simp [Value.category]) (Nat.le_of_ble_eq_true rfl) ?_
  show AW l D b jX0_openedInAll (fx_rm 0 0 0) none (fx_MQ D b 0 0 (fx_qi (fun r N9 V9 => N = N9 ∧ V = V9))) 0 [some (.ref (b + c)), none, none] [] N V 0 0
  refine aw_iconst (v := 0) dX0_openedInAll_0 (by decide) ?_
  refine aw_istore_n (ls' := [some (.ref (b + c)), some (.int 0), none]) dX0_openedInAll_1 (Nat.le_of_ble_eq_true rfl) rfl ?_
  refine aw_iconst (v := 0) dX0_openedInAll_2 (by decide) ?_
  refine aw_istore_n (ls' := [some (.ref (b + c)), some (.int 0), some (.int 0)]) dX0_openedInAll_3 (Nat.le_of_ble_eq_true rfl) rfl ?_
  have loop_4_0 : ∀ (g_4 : Nat), ∀ (j4 : Nat) (v4_1 : Int32), j4 + g_4 = 16 → AW l D b jX0_openedInAll (fx_rm 0 0 0) none (fx_MQ D b 0 0 (fx_qi (fun r N9 V9 => N = N9 ∧ V = V9))) 4 [some (.ref (b + c)), some (.int v4_1), some (.int (nI j4))] [] N V 0 0 := by
    intro g_4
    induction g_4 with
    | zero =>
      intro j4 v4_1 hj4
      obtain rfl : j4 = 16 := by omega
      refine aw_iload_n dX0_openedInAll_4 rfl ?_
      refine aw_bipush (v := 16) dX0_openedInAll_5 (by decide) ?_
      refine aw_icmp_ge (tgt := 25) dX0_openedInAll_7 (by decide) (fun c_3 => ?_) (fun c_3 => ?_)
      rotate_left
      · exact absurd (nI_le (a := 16) (b := 16) (Nat.le_refl _) (by omega)) c_3
      refine aw_iload_n dX0_openedInAll_25 rfl ?_
      refine aw_ireti dX0_openedInAll_26 rfl (Nat.le_of_ble_eq_true rfl) (Nat.le_of_ble_eq_true rfl) ?_
      exact ⟨rfl, rfl⟩
    | succ g_4 ih_4_1 =>
      intro j4 v4_1 hj4
      have hlj4 : j4 < 16 := by omega
      refine aw_iload_n dX0_openedInAll_4 rfl ?_
      refine aw_bipush (v := 16) dX0_openedInAll_5 (by decide) ?_
      refine aw_icmp_ge (tgt := 25) dX0_openedInAll_7 (by decide) (fun c_4 => ?_) (fun c_4 => ?_)
      · exact absurd c_4 (nI_ge (a := j4) (b := 16) (by omega) (by omega))
      refine aw_iload_n dX0_openedInAll_10 rfl ?_
      refine aw_aload_n dX0_openedInAll_11 rfl ?_
      obtain ⟨pe_5, dd_5, ni_5, xx_5, e_5⟩ := JW.get hJ0 (ctc_0 hc)
      refine aw_get dX0_openedInAll_12 fl_X0_26 e_5 (by omega) rfl ?_
      refine aw_iload_n dX0_openedInAll_15 rfl ?_
      obtain ⟨g_6, e_6⟩ := JW.get hJ0 (ctc_17 hc)
      refine aw_iald (v := (g_6 j4)) dX0_openedInAll_16 e_6 (by omega) (vp_in_nI (n := j4) (by omega) (by omega)) (congrArg g_6 (nI_clamp (n := j4) (by omega))) ?_
      refine aw_iadd dX0_openedInAll_17 ?_
      refine aw_istore_n (ls' := [some (.ref (b + c)), some (.int (v4_1 + (g_6 j4))), some (.int (nI j4))]) dX0_openedInAll_18 (Nat.le_of_ble_eq_true rfl) rfl ?_
      refine aw_iinc (v := (nI (j4 + 1))) (ls' := [some (.ref (b + c)), some (.int (v4_1 + (g_6 j4))), some (.int (nI (j4 + 1)))]) dX0_openedInAll_19 rfl (fx_up_1 _) (Nat.le_of_ble_eq_true rfl) rfl ?_
      refine aw_goto (tgt := 4) dX0_openedInAll_22 (by decide) ?_
      refine aw_le ?_ (ih_4_1 (j4 + 1) (v4_1 + (g_6 j4))  (by omega))
      exact ⟨rfl, ⟨rfl, ⟨rfl, trivial⟩⟩⟩
  refine aw_le ?_ (loop_4_0 16 0 0  (by omega))
  exact ⟨rfl, ⟨rfl, ⟨rfl, trivial⟩⟩⟩

set_option maxHeartbeats 4000000 in
set_option maxRecDepth 100000 in
theorem g_X0_draw (l : Launch) (D : va_G) (b : Nat) (N : Nat) (V : Wd) (hN : 100 ≤ N) (hW : CW D b V) (c : Nat) (hc : c = 3 ∨ c = 21 ∨ c = 39 ∨ c = 74)  : MI l D b 0 jX0_draw [.ref (b + c)] N V 0 0 (fun r N9 V9 => N = N9 ∧ JW D b N [(c, c, 8, 8)] V V9) := by
  have hJ0 : JW D b N [(c, c, 8, 8)] V V := JW.rf hW
  refine mw_of (by decide) (by simp [Value.category]) (Nat.le_of_ble_eq_true rfl) ?_
  show AW l D b jX0_draw (fx_rm 0 0 0) none (fx_MQ D b 0 0 (fx_qi (fun r N9 V9 => N = N9 ∧ JW D b N [(c, c, 8, 8)] V V9))) 0 [some (.ref (b + c))] [] N V 0 0
  refine aw_aload_n dX0_draw_0 rfl ?_
  refine aw_sipush (v := 25173) dX0_draw_1 (by decide) ?_
  refine aw_aload_n dX0_draw_4 rfl ?_
  obtain ⟨pe_1, dd_1, ni_1, xx_1, e_1⟩ := JW.get hJ0 (ctc_0 hc)
  refine aw_get dX0_draw_5 fl_X0_39 e_1 (by omega) rfl ?_
  refine aw_imul dX0_draw_8 ?_
  refine aw_sipush (v := 13849) dX0_draw_9 (by decide) ?_
  refine aw_iadd dX0_draw_12 ?_
  refine aw_ldc (v := 65536) dX0_draw_13 tb_667 ?_
  refine aw_irem dX0_draw_15 (by decide) ?_
  refine aw_put dX0_draw_16 fp_X0_39 e_1 (by omega) rfl rfl (Nat.le_of_ble_eq_true rfl) rfl ?_
  refine aw_up hJ0 (ctc_0 hc) ⟨_, _, _, _, rfl⟩ (WO (s := 8) (x := .int (((25173 * xx_1) + 13849) - ((25173 * xx_1) + 13849) / 65536 * 65536)) e_1 rfl LM0 (by omega) (by omega) (by decide) (Or.inl (by decide))) (fun V_2 j_2 k_2 e_2 => ?_)
  refine aw_aload_n dX0_draw_19 rfl ?_
  refine aw_get dX0_draw_20 fl_X0_39 e_2 (by omega) rfl ?_
  refine aw_bipush (v := 10) dX0_draw_23 (by decide) ?_
  refine aw_irem dX0_draw_25 (by decide) ?_
  refine aw_ireti dX0_draw_26 rfl (Nat.le_of_ble_eq_true rfl) (Nat.le_of_ble_eq_true rfl) ?_
  exact ⟨rfl, j_2⟩

set_option maxHeartbeats 4000000 in
set_option maxRecDepth 100000 in
theorem g_X0_copyDreads (l : Launch) (D : va_G) (b : Nat) (N : Nat) (V : Wd) (hN : 100 ≤ N) (hW : CW D b V) (c : Nat) (hc : c = 3 ∨ c = 21 ∨ c = 39 ∨ c = 74) (c2 : Nat) (hc2 : c2 = 3 ∨ c2 = 21 ∨ c2 = 39 ∨ c2 = 74)  : MV l D b 0 jX0_copyDreads [.ref (b + c), .ref (b + c2)] N V 0 0 (fun N9 V9 => N = N9 ∧ JW D b N [(c + 2, c + 13, 0, 1000000)] V V9) := by
  have hJ0 : JW D b N [(c + 2, c + 13, 0, 1000000)] V V := JW.rf hW
  refine mw_of (by decide) (by simp [Value.category]) (Nat.le_of_ble_eq_true rfl) ?_
  show AW l D b jX0_copyDreads (fx_rm 0 0 0) none (fx_MQ D b 0 0 (fx_qv (fun N9 V9 => N = N9 ∧ JW D b N [(c + 2, c + 13, 0, 1000000)] V V9))) 0 [some (.ref (b + c)), some (.ref (b + c2)), none, none] [] N V 0 0
  refine aw_iconst (v := 0) dX0_copyDreads_0 (by decide) ?_
  refine aw_istore_n (ls' := [some (.ref (b + c)), some (.ref (b + c2)), some (.int 0), none]) dX0_copyDreads_1 (Nat.le_of_ble_eq_true rfl) rfl ?_
  have loop_2_0 : ∀ (g_2 : Nat), ∀ (j2 : Nat)  (V2 : Wd), j2 + g_2 = 12 → (JW D b N [(c + 2, c + 13, 0, 1000000)] V V2) → AW l D b jX0_copyDreads (fx_rm 0 0 0) none (fx_MQ D b 0 0 (fx_qv (fun N9 V9 => N = N9 ∧ JW D b N [(c + 2, c + 13, 0, 1000000)] V V9))) 2 [some (.ref (b + c)), some (.ref (b + c2)), some (.int (nI j2)), none] [] N V2 0 0 := by
    intro g_2
    induction g_2 with
    | zero =>
      intro j2  V2 hj2 i2_0
      obtain rfl : j2 = 12 := by omega
      refine aw_iload_n dX0_copyDreads_2 rfl ?_
      refine aw_bipush (v := 12) dX0_copyDreads_3 (by decide) ?_
      refine aw_icmp_ge (tgt := 44) dX0_copyDreads_5 (by decide) (fun c_3 => ?_) (fun c_3 => ?_)
      rotate_left
      · exact absurd (nI_le (a := 12) (b := 12) (Nat.le_refl _) (by omega)) c_3
      refine aw_vreti dX0_copyDreads_44 rfl (Nat.le_of_ble_eq_true rfl) (Nat.le_of_ble_eq_true rfl) ?_
      exact ⟨rfl, i2_0⟩
    | succ g_2 ih_2_1 =>
      intro j2  V2 hj2 i2_0
      have hlj2 : j2 < 12 := by omega
      refine aw_iload_n dX0_copyDreads_2 rfl ?_
      refine aw_bipush (v := 12) dX0_copyDreads_3 (by decide) ?_
      refine aw_icmp_ge (tgt := 44) dX0_copyDreads_5 (by decide) (fun c_4 => ?_) (fun c_4 => ?_)
      · exact absurd c_4 (nI_ge (a := j2) (b := 12) (by omega) (by omega))
      refine aw_iconst (v := 0) dX0_copyDreads_8 (by decide) ?_
      refine aw_istore_n (ls' := [some (.ref (b + c)), some (.ref (b + c2)), some (.int (nI j2)), some (.int 0)]) dX0_copyDreads_9 (Nat.le_of_ble_eq_true rfl) rfl ?_
      have loop_10_4 : ∀ (g_10 : Nat), ∀ (j10 : Nat)  (V10 : Wd), j10 + g_10 = 16 → (JW D b N [(c + 2, c + 13, 0, 1000000)] V V10) → AW l D b jX0_copyDreads (fx_rm 0 0 0) none (fx_MQ D b 0 0 (fx_qv (fun N9 V9 => N = N9 ∧ JW D b N [(c + 2, c + 13, 0, 1000000)] V V9))) 10 [some (.ref (b + c)), some (.ref (b + c2)), some (.int (nI j2)), some (.int (nI j10))] [] N V10 0 0 := by
        intro g_10
        induction g_10 with
        | zero =>
          intro j10  V10 hj10 i10_0
          obtain rfl : j10 = 16 := by omega
          refine aw_iload_n dX0_copyDreads_10 rfl ?_
          refine aw_bipush (v := 16) dX0_copyDreads_11 (by decide) ?_
          refine aw_icmp_ge (tgt := 38) dX0_copyDreads_13 (by decide) (fun c_7 => ?_) (fun c_7 => ?_)
          rotate_left
          · exact absurd (nI_le (a := 16) (b := 16) (Nat.le_refl _) (by omega)) c_7
          refine aw_iinc (v := (nI (j2 + 1))) (ls' := [some (.ref (b + c)), some (.ref (b + c2)), some (.int (nI (j2 + 1))), some (.int (nI 16))]) dX0_copyDreads_38 rfl (fx_up_1 _) (Nat.le_of_ble_eq_true rfl) rfl ?_
          refine aw_goto (tgt := 2) dX0_copyDreads_41 (by decide) ?_
          refine aw_le ?_ (ih_2_1 (j2 + 1)  V10 (by omega) (i10_0))
          exact ⟨rfl, ⟨rfl, ⟨rfl, trivial⟩⟩⟩
        | succ g_10 ih_10_5 =>
          intro j10  V10 hj10 i10_0
          have hlj10 : j10 < 16 := by omega
          refine aw_iload_n dX0_copyDreads_10 rfl ?_
          refine aw_bipush (v := 16) dX0_copyDreads_11 (by decide) ?_
          refine aw_icmp_ge (tgt := 38) dX0_copyDreads_13 (by decide) (fun c_8 => ?_) (fun c_8 => ?_)
          · exact absurd c_8 (nI_ge (a := j10) (b := 16) (by omega) (by omega))
          refine aw_aload_n dX0_copyDreads_16 rfl ?_
          obtain ⟨pe_9, dd_9, ni_9, xx_9, e_9⟩ := JW.get i10_0 (ctc_0 hc)
          refine aw_get dX0_copyDreads_17 fl_X0_11 e_9 (by omega) rfl ?_
          refine aw_iload_n dX0_copyDreads_20 rfl ?_
          have e_10 := JW.get i10_0 (ctc_1 hc)
          refine aw_aald dX0_copyDreads_21 e_10 (by omega) (vp_in_nI (n := j2) (by omega) (by omega)) (rr_i (i := j2) rfl (by omega)) ?_
          refine aw_iload_n dX0_copyDreads_22 rfl ?_
          refine aw_aload_n dX0_copyDreads_23 rfl ?_
          obtain ⟨pe_11, dd_11, ni_11, xx_11, e_11⟩ := JW.get i10_0 (ctc_0 hc2)
          refine aw_get dX0_copyDreads_24 fl_X0_11 e_11 (by omega) rfl ?_
          refine aw_iload_n dX0_copyDreads_27 rfl ?_
          have e_12 := JW.get i10_0 (ctc_1 hc2)
          refine aw_aald dX0_copyDreads_28 e_12 (by omega) (vp_in_nI (n := j2) (by omega) (by omega)) (rr_i (i := j2) rfl (by omega)) ?_
          refine aw_iload_n dX0_copyDreads_29 rfl ?_
          obtain ⟨g_13, e_13⟩ := JW.get i10_0 (ctc_row hc2 (by omega))
          refine aw_iald (v := (g_13 j10)) dX0_copyDreads_30 e_13 (by omega) (vp_in_nI (n := j10) (by omega) (by omega)) (congrArg g_13 (nI_clamp (n := j10) (by omega))) ?_
          obtain ⟨g_14, e_14⟩ := JW.get i10_0 (ctc_row hc (by omega))
          refine aw_iast dX0_copyDreads_31 e_14 (by omega) (vp_in_nI (n := j10) (by omega) (by omega)) ?_
          refine aw_up i10_0 (ctc_row hc (by omega)) ⟨_, rfl⟩ (WA LM0 (by omega) (by omega)) (fun V_15 j_15 k_15 e_15 => ?_)
          refine aw_iinc (v := (nI (j10 + 1))) (ls' := [some (.ref (b + c)), some (.ref (b + c2)), some (.int (nI j2)), some (.int (nI (j10 + 1)))]) dX0_copyDreads_32 rfl (fx_up_1 _) (Nat.le_of_ble_eq_true rfl) rfl ?_
          refine aw_goto (tgt := 10) dX0_copyDreads_35 (by decide) ?_
          refine aw_le ?_ (ih_10_5 (j10 + 1)  V_15 (by omega) (j_15))
          exact ⟨rfl, ⟨rfl, ⟨rfl, ⟨rfl, trivial⟩⟩⟩⟩
      refine aw_le ?_ (loop_10_4 16 0  V2 (by omega) (i2_0))
      exact ⟨rfl, ⟨rfl, ⟨rfl, ⟨rfl, trivial⟩⟩⟩⟩
  refine aw_le ?_ (loop_2_0 12 0  V (by omega) (hJ0))
  exact ⟨rfl, ⟨rfl, ⟨rfl, trivial⟩⟩⟩

set_option maxHeartbeats 4000000 in
set_option maxRecDepth 100000 in
theorem g_X0_copyFrom (l : Launch) (D : va_G) (b : Nat) (N : Nat) (V : Wd) (hN : 100 ≤ N) (hW : CW D b V) (c : Nat) (hc : c = 3 ∨ c = 21 ∨ c = 39 ∨ c = 74) (c2 : Nat) (hc2 : c2 = 3 ∨ c2 = 21 ∨ c2 = 39 ∨ c2 = 74)  : MV l D b 1 jX0_copyFrom [.ref (b + c), .ref (b + c2)] N V 0 0 (fun N9 V9 => N = N9 ∧ JW D b N [(c + 2, c + 13, 0, 1000000), (c, c, 5, 5), (c, c, 6, 6), (c, c, 7, 7), (c, c, 8, 8), (c + 15, c + 15, 0, 1000000), (c + 16, c + 16, 0, 1000000), (c + 17, c + 17, 0, 1000000), (c + 14, c + 14, 0, 1000000)] V V9) := by
  have hJ0 : JW D b N [(c + 2, c + 13, 0, 1000000), (c, c, 5, 5), (c, c, 6, 6), (c, c, 7, 7), (c, c, 8, 8), (c + 15, c + 15, 0, 1000000), (c + 16, c + 16, 0, 1000000), (c + 17, c + 17, 0, 1000000), (c + 14, c + 14, 0, 1000000)] V V := JW.rf hW
  refine mw_of (by decide) (by simp [Value.category]) (Nat.le_of_ble_eq_true rfl) ?_
  show AW l D b jX0_copyFrom (fx_rm 1 0 0) none (fx_MQ D b 0 0 (fx_qv (fun N9 V9 => N = N9 ∧ JW D b N [(c + 2, c + 13, 0, 1000000), (c, c, 5, 5), (c, c, 6, 6), (c, c, 7, 7), (c, c, 8, 8), (c + 15, c + 15, 0, 1000000), (c + 16, c + 16, 0, 1000000), (c + 17, c + 17, 0, 1000000), (c + 14, c + 14, 0, 1000000)] V V9))) 0 [some (.ref (b + c)), some (.ref (b + c2)), none] [] N V 0 0
  refine aw_aload_n dX0_copyFrom_0 rfl ?_
  refine aw_aload_n dX0_copyFrom_1 rfl ?_
  obtain ⟨pe_4, dd_4, ni_4, xx_4, e_4⟩ := JW.get hJ0 (ctc_0 hc)
  refine aw_callVv (J' := jX0_copyDreads) (As := [.ref (b + c2)]) (st := []) dX0_copyFrom_2 tb_585 ok_X0_copyDreads ⟨_, e_4⟩ (by omega) rfl rfl (g_X0_copyDreads l D b N V hN hJ0.1 c hc c2 hc2) rfl (Nat.le_of_ble_eq_true rfl) ⟨Nat.le_of_ble_eq_true rfl, Nat.le_of_ble_eq_true rfl, Nat.le_of_ble_eq_true rfl, Nat.le_of_ble_eq_true rfl⟩ (fun  N_5 V_3 q_6 => ?_)
  obtain ⟨rfl, q_1⟩ := q_6
  have j_2 := JW.trans hJ0 (JW.weak q_1 (Sub.cons LM0 (by omega) (by omega) (by decide) (Or.inl rfl) Sub.nil))
  refine aw_iconst (v := 0) dX0_copyFrom_5 (by decide) ?_
  refine aw_istore_n (ls' := [some (.ref (b + c)), some (.ref (b + c2)), some (.int 0)]) dX0_copyFrom_6 (Nat.le_of_ble_eq_true rfl) rfl ?_
  have loop_7_6 : ∀ (g_7 : Nat), ∀ (j7 : Nat)  (V7 : Wd), j7 + g_7 = 12 → (JW D b N [(c + 2, c + 13, 0, 1000000), (c, c, 5, 5), (c, c, 6, 6), (c, c, 7, 7), (c, c, 8, 8), (c + 15, c + 15, 0, 1000000), (c + 16, c + 16, 0, 1000000), (c + 17, c + 17, 0, 1000000), (c + 14, c + 14, 0, 1000000)] V V7) → AW l D b jX0_copyFrom (fx_rm 1 0 0) none (fx_MQ D b 0 0 (fx_qv (fun N9 V9 => N = N9 ∧ JW D b N [(c + 2, c + 13, 0, 1000000), (c, c, 5, 5), (c, c, 6, 6), (c, c, 7, 7), (c, c, 8, 8), (c + 15, c + 15, 0, 1000000), (c + 16, c + 16, 0, 1000000), (c + 17, c + 17, 0, 1000000), (c + 14, c + 14, 0, 1000000)] V V9))) 7 [some (.ref (b + c)), some (.ref (b + c2)), some (.int (nI j7))] [] N V7 0 0 := by
    intro g_7
    induction g_7 with
    | zero =>
      intro j7  V7 hj7 i7_0
      obtain rfl : j7 = 12 := by omega
      refine aw_iload_n dX0_copyFrom_7 rfl ?_
      refine aw_bipush (v := 12) dX0_copyFrom_8 (by decide) ?_
      refine aw_icmp_ge (tgt := 31) dX0_copyFrom_10 (by decide) (fun c_9 => ?_) (fun c_9 => ?_)
      rotate_left
      · exact absurd (nI_le (a := 12) (b := 12) (Nat.le_refl _) (by omega)) c_9
      refine aw_iconst (v := 0) dX0_copyFrom_31 (by decide) ?_
      refine aw_istore_n (ls' := [some (.ref (b + c)), some (.ref (b + c2)), some (.int 0)]) dX0_copyFrom_32 (Nat.le_of_ble_eq_true rfl) rfl ?_
      have loop_33_9 : ∀ (g_33 : Nat), ∀ (j33 : Nat)  (V33 : Wd), j33 + g_33 = 16 → (JW D b N [(c + 2, c + 13, 0, 1000000), (c, c, 5, 5), (c, c, 6, 6), (c, c, 7, 7), (c, c, 8, 8), (c + 15, c + 15, 0, 1000000), (c + 16, c + 16, 0, 1000000), (c + 17, c + 17, 0, 1000000), (c + 14, c + 14, 0, 1000000)] V V33) → AW l D b jX0_copyFrom (fx_rm 1 0 0) none (fx_MQ D b 0 0 (fx_qv (fun N9 V9 => N = N9 ∧ JW D b N [(c + 2, c + 13, 0, 1000000), (c, c, 5, 5), (c, c, 6, 6), (c, c, 7, 7), (c, c, 8, 8), (c + 15, c + 15, 0, 1000000), (c + 16, c + 16, 0, 1000000), (c + 17, c + 17, 0, 1000000), (c + 14, c + 14, 0, 1000000)] V V9))) 33 [some (.ref (b + c)), some (.ref (b + c2)), some (.int (nI j33))] [] N V33 0 0 := by
        intro g_33
        induction g_33 with
        | zero =>
          intro j33  V33 hj33 i33_0
          obtain rfl : j33 = 16 := by omega
          refine aw_iload_n dX0_copyFrom_33 rfl ?_
          refine aw_bipush (v := 16) dX0_copyFrom_34 (by decide) ?_
          refine aw_icmp_ge (tgt := 81) dX0_copyFrom_36 (by decide) (fun c_12 => ?_) (fun c_12 => ?_)
          rotate_left
          · exact absurd (nI_le (a := 16) (b := 16) (Nat.le_refl _) (by omega)) c_12
          refine aw_aload_n dX0_copyFrom_81 rfl ?_
          refine aw_aload_n dX0_copyFrom_82 rfl ?_
          obtain ⟨pe_13, dd_13, ni_13, xx_13, e_13⟩ := JW.get i33_0 (ctc_0 hc2)
          refine aw_get dX0_copyFrom_83 fl_X0_29 e_13 (by omega) rfl ?_
          obtain ⟨pe_14, dd_14, ni_14, xx_14, e_14⟩ := JW.get i33_0 (ctc_0 hc)
          refine aw_put dX0_copyFrom_86 fp_X0_29 e_14 (by omega) rfl rfl (Nat.le_of_ble_eq_true rfl) rfl ?_
          refine aw_up i33_0 (ctc_0 hc) ⟨_, _, _, _, rfl⟩ (WO (s := 5) (x := .int pe_13) e_14 rfl (LMs LM0) (by omega) (by omega) (by decide) (Or.inl (by decide))) (fun V_15 j_15 k_15 e_15 => ?_)
          refine aw_aload_n dX0_copyFrom_89 rfl ?_
          refine aw_aload_n dX0_copyFrom_90 rfl ?_
          obtain ⟨pe_16, dd_16, ni_16, xx_16, e_16⟩ := JW.get j_15 (ctc_0 hc2)
          refine aw_get dX0_copyFrom_91 fl_X0_33 e_16 (by omega) rfl ?_
          refine aw_put dX0_copyFrom_94 fp_X0_33 e_15 (by omega) rfl rfl (Nat.le_of_ble_eq_true rfl) rfl ?_
          refine aw_up j_15 (ctc_0 hc) ⟨_, _, _, _, rfl⟩ (WO (s := 6) (x := .int dd_16) e_15 rfl (LMs (LMs LM0)) (by omega) (by omega) (by decide) (Or.inl (by decide))) (fun V_17 j_17 k_17 e_17 => ?_)
          refine aw_aload_n dX0_copyFrom_97 rfl ?_
          refine aw_aload_n dX0_copyFrom_98 rfl ?_
          obtain ⟨pe_18, dd_18, ni_18, xx_18, e_18⟩ := JW.get j_17 (ctc_0 hc2)
          refine aw_get dX0_copyFrom_99 fl_X0_36 e_18 (by omega) rfl ?_
          refine aw_put dX0_copyFrom_102 fp_X0_36 e_17 (by omega) rfl rfl (Nat.le_of_ble_eq_true rfl) rfl ?_
          refine aw_up j_17 (ctc_0 hc) ⟨_, _, _, _, rfl⟩ (WO (s := 7) (x := .int ni_18) e_17 rfl (LMs (LMs (LMs LM0))) (by omega) (by omega) (by decide) (Or.inl (by decide))) (fun V_19 j_19 k_19 e_19 => ?_)
          refine aw_aload_n dX0_copyFrom_105 rfl ?_
          refine aw_aload_n dX0_copyFrom_106 rfl ?_
          obtain ⟨pe_20, dd_20, ni_20, xx_20, e_20⟩ := JW.get j_19 (ctc_0 hc2)
          refine aw_get dX0_copyFrom_107 fl_X0_39 e_20 (by omega) rfl ?_
          refine aw_put dX0_copyFrom_110 fp_X0_39 e_19 (by omega) rfl rfl (Nat.le_of_ble_eq_true rfl) rfl ?_
          refine aw_up j_19 (ctc_0 hc) ⟨_, _, _, _, rfl⟩ (WO (s := 8) (x := .int xx_20) e_19 rfl (LMs (LMs (LMs (LMs LM0)))) (by omega) (by omega) (by decide) (Or.inl (by decide))) (fun V_21 j_21 k_21 e_21 => ?_)
          refine aw_vreti dX0_copyFrom_113 rfl (Nat.le_of_ble_eq_true rfl) (Nat.le_of_ble_eq_true rfl) ?_
          exact ⟨rfl, j_21⟩
        | succ g_33 ih_33_10 =>
          intro j33  V33 hj33 i33_0
          have hlj33 : j33 < 16 := by omega
          refine aw_iload_n dX0_copyFrom_33 rfl ?_
          refine aw_bipush (v := 16) dX0_copyFrom_34 (by decide) ?_
          refine aw_icmp_ge (tgt := 81) dX0_copyFrom_36 (by decide) (fun c_22 => ?_) (fun c_22 => ?_)
          · exact absurd c_22 (nI_ge (a := j33) (b := 16) (by omega) (by omega))
          refine aw_aload_n dX0_copyFrom_39 rfl ?_
          obtain ⟨pe_23, dd_23, ni_23, xx_23, e_23⟩ := JW.get i33_0 (ctc_0 hc)
          refine aw_get dX0_copyFrom_40 fl_X0_20 e_23 (by omega) rfl ?_
          refine aw_iload_n dX0_copyFrom_43 rfl ?_
          refine aw_aload_n dX0_copyFrom_44 rfl ?_
          obtain ⟨pe_24, dd_24, ni_24, xx_24, e_24⟩ := JW.get i33_0 (ctc_0 hc2)
          refine aw_get dX0_copyFrom_45 fl_X0_20 e_24 (by omega) rfl ?_
          refine aw_iload_n dX0_copyFrom_48 rfl ?_
          obtain ⟨g_25, e_25⟩ := JW.get i33_0 (ctc_15 hc2)
          refine aw_iald (v := (g_25 j33)) dX0_copyFrom_49 e_25 (by omega) (vp_in_nI (n := j33) (by omega) (by omega)) (congrArg g_25 (nI_clamp (n := j33) (by omega))) ?_
          obtain ⟨g_26, e_26⟩ := JW.get i33_0 (ctc_15 hc)
          refine aw_iast dX0_copyFrom_50 e_26 (by omega) (vp_in_nI (n := j33) (by omega) (by omega)) ?_
          refine aw_up i33_0 (ctc_15 hc) ⟨_, rfl⟩ (WA (LMs (LMs (LMs (LMs (LMs LM0))))) (by omega) (by omega)) (fun V_27 j_27 k_27 e_27 => ?_)
          refine aw_aload_n dX0_copyFrom_51 rfl ?_
          refine aw_get dX0_copyFrom_52 fl_X0_23 ((k_27 _ (by omega)).trans e_23) (by omega) rfl ?_
          refine aw_iload_n dX0_copyFrom_55 rfl ?_
          refine aw_aload_n dX0_copyFrom_56 rfl ?_
          obtain ⟨pe_28, dd_28, ni_28, xx_28, e_28⟩ := JW.get j_27 (ctc_0 hc2)
          refine aw_get dX0_copyFrom_57 fl_X0_23 e_28 (by omega) rfl ?_
          refine aw_iload_n dX0_copyFrom_60 rfl ?_
          obtain ⟨g_29, e_29⟩ := JW.get j_27 (ctc_16 hc2)
          refine aw_iald (v := (g_29 j33)) dX0_copyFrom_61 e_29 (by omega) (vp_in_nI (n := j33) (by omega) (by omega)) (congrArg g_29 (nI_clamp (n := j33) (by omega))) ?_
          obtain ⟨g_30, e_30⟩ := JW.get j_27 (ctc_16 hc)
          refine aw_iast dX0_copyFrom_62 e_30 (by omega) (vp_in_nI (n := j33) (by omega) (by omega)) ?_
          refine aw_up j_27 (ctc_16 hc) ⟨_, rfl⟩ (WA (LMs (LMs (LMs (LMs (LMs (LMs LM0)))))) (by omega) (by omega)) (fun V_31 j_31 k_31 e_31 => ?_)
          refine aw_aload_n dX0_copyFrom_63 rfl ?_
          refine aw_get dX0_copyFrom_64 fl_X0_26 ((k_31 _ (by omega)).trans ((k_27 _ (by omega)).trans e_23)) (by omega) rfl ?_
          refine aw_iload_n dX0_copyFrom_67 rfl ?_
          refine aw_aload_n dX0_copyFrom_68 rfl ?_
          obtain ⟨pe_32, dd_32, ni_32, xx_32, e_32⟩ := JW.get j_31 (ctc_0 hc2)
          refine aw_get dX0_copyFrom_69 fl_X0_26 e_32 (by omega) rfl ?_
          refine aw_iload_n dX0_copyFrom_72 rfl ?_
          obtain ⟨g_33, e_33⟩ := JW.get j_31 (ctc_17 hc2)
          refine aw_iald (v := (g_33 j33)) dX0_copyFrom_73 e_33 (by omega) (vp_in_nI (n := j33) (by omega) (by omega)) (congrArg g_33 (nI_clamp (n := j33) (by omega))) ?_
          obtain ⟨g_34, e_34⟩ := JW.get j_31 (ctc_17 hc)
          refine aw_iast dX0_copyFrom_74 e_34 (by omega) (vp_in_nI (n := j33) (by omega) (by omega)) ?_
          refine aw_up j_31 (ctc_17 hc) ⟨_, rfl⟩ (WA (LMs (LMs (LMs (LMs (LMs (LMs (LMs LM0))))))) (by omega) (by omega)) (fun V_35 j_35 k_35 e_35 => ?_)
          refine aw_iinc (v := (nI (j33 + 1))) (ls' := [some (.ref (b + c)), some (.ref (b + c2)), some (.int (nI (j33 + 1)))]) dX0_copyFrom_75 rfl (fx_up_1 _) (Nat.le_of_ble_eq_true rfl) rfl ?_
          refine aw_goto (tgt := 33) dX0_copyFrom_78 (by decide) ?_
          refine aw_le ?_ (ih_33_10 (j33 + 1)  V_35 (by omega) (j_35))
          exact ⟨rfl, ⟨rfl, ⟨rfl, trivial⟩⟩⟩
      refine aw_le ?_ (loop_33_9 16 0  V7 (by omega) (i7_0))
      exact ⟨rfl, ⟨rfl, ⟨rfl, trivial⟩⟩⟩
    | succ g_7 ih_7_7 =>
      intro j7  V7 hj7 i7_0
      have hlj7 : j7 < 12 := by omega
      refine aw_iload_n dX0_copyFrom_7 rfl ?_
      refine aw_bipush (v := 12) dX0_copyFrom_8 (by decide) ?_
      refine aw_icmp_ge (tgt := 31) dX0_copyFrom_10 (by decide) (fun c_36 => ?_) (fun c_36 => ?_)
      · exact absurd c_36 (nI_ge (a := j7) (b := 12) (by omega) (by omega))
      refine aw_aload_n dX0_copyFrom_13 rfl ?_
      obtain ⟨pe_37, dd_37, ni_37, xx_37, e_37⟩ := JW.get i7_0 (ctc_0 hc)
      refine aw_get dX0_copyFrom_14 fl_X0_16 e_37 (by omega) rfl ?_
      refine aw_iload_n dX0_copyFrom_17 rfl ?_
      refine aw_aload_n dX0_copyFrom_18 rfl ?_
      obtain ⟨pe_38, dd_38, ni_38, xx_38, e_38⟩ := JW.get i7_0 (ctc_0 hc2)
      refine aw_get dX0_copyFrom_19 fl_X0_16 e_38 (by omega) rfl ?_
      refine aw_iload_n dX0_copyFrom_22 rfl ?_
      obtain ⟨g_39, e_39⟩ := JW.get i7_0 (ctc_14 hc2)
      refine aw_iald (v := (g_39 j7)) dX0_copyFrom_23 e_39 (by omega) (vp_in_nI (n := j7) (by omega) (by omega)) (congrArg g_39 (nI_clamp (n := j7) (by omega))) ?_
      obtain ⟨g_40, e_40⟩ := JW.get i7_0 (ctc_14 hc)
      refine aw_iast dX0_copyFrom_24 e_40 (by omega) (vp_in_nI (n := j7) (by omega) (by omega)) ?_
      refine aw_up i7_0 (ctc_14 hc) ⟨_, rfl⟩ (WA (LMs (LMs (LMs (LMs (LMs (LMs (LMs (LMs LM0)))))))) (by omega) (by omega)) (fun V_41 j_41 k_41 e_41 => ?_)
      refine aw_iinc (v := (nI (j7 + 1))) (ls' := [some (.ref (b + c)), some (.ref (b + c2)), some (.int (nI (j7 + 1)))]) dX0_copyFrom_25 rfl (fx_up_1 _) (Nat.le_of_ble_eq_true rfl) rfl ?_
      refine aw_goto (tgt := 7) dX0_copyFrom_28 (by decide) ?_
      refine aw_le ?_ (ih_7_7 (j7 + 1)  V_41 (by omega) (j_41))
      exact ⟨rfl, ⟨rfl, ⟨rfl, trivial⟩⟩⟩
  refine aw_le ?_ (loop_7_6 12 0  V_3 (by omega) (j_2))
  exact ⟨rfl, ⟨rfl, ⟨rfl, trivial⟩⟩⟩

set_option maxHeartbeats 4000000 in
set_option maxRecDepth 100000 in
theorem g_X0_goBackTo (l : Launch) (D : va_G) (b : Nat) (N : Nat) (V : Wd) (hN : 100 ≤ N) (hW : CW D b V) (c : Nat) (hc : c = 3 ∨ c = 21 ∨ c = 39 ∨ c = 74) (c2 : Nat) (hc2 : c2 = 3 ∨ c2 = 21 ∨ c2 = 39 ∨ c2 = 74)  : MV l D b 2 jX0_goBackTo [.ref (b + c), .ref (b + c2)] N V 0 0 (fun N9 V9 => N = N9 ∧ JW D b N [(c + 2, c + 13, 0, 1000000), (c, c, 7, 7), (c, c, 8, 8), (c + 17, c + 17, 0, 1000000)] V V9) := by
  have hJ0 : JW D b N [(c + 2, c + 13, 0, 1000000), (c, c, 7, 7), (c, c, 8, 8), (c + 17, c + 17, 0, 1000000)] V V := JW.rf hW
  refine mw_of (by decide) (by simp [Value.category]) (Nat.le_of_ble_eq_true rfl) ?_
  show AW l D b jX0_goBackTo (fx_rm 2 0 0) none (fx_MQ D b 0 0 (fx_qv (fun N9 V9 => N = N9 ∧ JW D b N [(c + 2, c + 13, 0, 1000000), (c, c, 7, 7), (c, c, 8, 8), (c + 17, c + 17, 0, 1000000)] V V9))) 0 [some (.ref (b + c)), some (.ref (b + c2)), none] [] N V 0 0
  refine aw_aload_n dX0_goBackTo_0 rfl ?_
  refine aw_aload_n dX0_goBackTo_1 rfl ?_
  obtain ⟨pe_4, dd_4, ni_4, xx_4, e_4⟩ := JW.get hJ0 (ctc_0 hc)
  refine aw_callVv (J' := jX0_copyDreads) (As := [.ref (b + c2)]) (st := []) dX0_goBackTo_2 tb_585 ok_X0_copyDreads ⟨_, e_4⟩ (by omega) rfl rfl (g_X0_copyDreads l D b N V hN hJ0.1 c hc c2 hc2) rfl (Nat.le_of_ble_eq_true rfl) ⟨Nat.le_of_ble_eq_true rfl, Nat.le_of_ble_eq_true rfl, Nat.le_of_ble_eq_true rfl, Nat.le_of_ble_eq_true rfl⟩ (fun  N_5 V_3 q_6 => ?_)
  obtain ⟨rfl, q_1⟩ := q_6
  have j_2 := JW.trans hJ0 (JW.weak q_1 (Sub.cons LM0 (by omega) (by omega) (by decide) (Or.inl rfl) Sub.nil))
  refine aw_iconst (v := 0) dX0_goBackTo_5 (by decide) ?_
  refine aw_istore_n (ls' := [some (.ref (b + c)), some (.ref (b + c2)), some (.int 0)]) dX0_goBackTo_6 (Nat.le_of_ble_eq_true rfl) rfl ?_
  have loop_7_6 : ∀ (g_7 : Nat), ∀ (j7 : Nat)  (V7 : Wd), j7 + g_7 = 16 → (JW D b N [(c + 2, c + 13, 0, 1000000), (c, c, 7, 7), (c, c, 8, 8), (c + 17, c + 17, 0, 1000000)] V V7) → AW l D b jX0_goBackTo (fx_rm 2 0 0) none (fx_MQ D b 0 0 (fx_qv (fun N9 V9 => N = N9 ∧ JW D b N [(c + 2, c + 13, 0, 1000000), (c, c, 7, 7), (c, c, 8, 8), (c + 17, c + 17, 0, 1000000)] V V9))) 7 [some (.ref (b + c)), some (.ref (b + c2)), some (.int (nI j7))] [] N V7 0 0 := by
    intro g_7
    induction g_7 with
    | zero =>
      intro j7  V7 hj7 i7_0
      obtain rfl : j7 = 16 := by omega
      refine aw_iload_n dX0_goBackTo_7 rfl ?_
      refine aw_bipush (v := 16) dX0_goBackTo_8 (by decide) ?_
      refine aw_icmp_ge (tgt := 43) dX0_goBackTo_10 (by decide) (fun c_9 => ?_) (fun c_9 => ?_)
      rotate_left
      · exact absurd (nI_le (a := 16) (b := 16) (Nat.le_refl _) (by omega)) c_9
      refine aw_aload_n dX0_goBackTo_43 rfl ?_
      refine aw_aload_n dX0_goBackTo_44 rfl ?_
      obtain ⟨pe_10, dd_10, ni_10, xx_10, e_10⟩ := JW.get i7_0 (ctc_0 hc2)
      refine aw_get dX0_goBackTo_45 fl_X0_36 e_10 (by omega) rfl ?_
      obtain ⟨pe_11, dd_11, ni_11, xx_11, e_11⟩ := JW.get i7_0 (ctc_0 hc)
      refine aw_put dX0_goBackTo_48 fp_X0_36 e_11 (by omega) rfl rfl (Nat.le_of_ble_eq_true rfl) rfl ?_
      refine aw_up i7_0 (ctc_0 hc) ⟨_, _, _, _, rfl⟩ (WO (s := 7) (x := .int ni_10) e_11 rfl (LMs LM0) (by omega) (by omega) (by decide) (Or.inl (by decide))) (fun V_12 j_12 k_12 e_12 => ?_)
      refine aw_aload_n dX0_goBackTo_51 rfl ?_
      refine aw_aload_n dX0_goBackTo_52 rfl ?_
      obtain ⟨pe_13, dd_13, ni_13, xx_13, e_13⟩ := JW.get j_12 (ctc_0 hc2)
      refine aw_get dX0_goBackTo_53 fl_X0_39 e_13 (by omega) rfl ?_
      refine aw_put dX0_goBackTo_56 fp_X0_39 e_12 (by omega) rfl rfl (Nat.le_of_ble_eq_true rfl) rfl ?_
      refine aw_up j_12 (ctc_0 hc) ⟨_, _, _, _, rfl⟩ (WO (s := 8) (x := .int xx_13) e_12 rfl (LMs (LMs LM0)) (by omega) (by omega) (by decide) (Or.inl (by decide))) (fun V_14 j_14 k_14 e_14 => ?_)
      refine aw_vreti dX0_goBackTo_59 rfl (Nat.le_of_ble_eq_true rfl) (Nat.le_of_ble_eq_true rfl) ?_
      exact ⟨rfl, j_14⟩
    | succ g_7 ih_7_7 =>
      intro j7  V7 hj7 i7_0
      have hlj7 : j7 < 16 := by omega
      refine aw_iload_n dX0_goBackTo_7 rfl ?_
      refine aw_bipush (v := 16) dX0_goBackTo_8 (by decide) ?_
      refine aw_icmp_ge (tgt := 43) dX0_goBackTo_10 (by decide) (fun c_15 => ?_) (fun c_15 => ?_)
      · exact absurd c_15 (nI_ge (a := j7) (b := 16) (by omega) (by omega))
      refine aw_aload_n dX0_goBackTo_13 rfl ?_
      obtain ⟨pe_16, dd_16, ni_16, xx_16, e_16⟩ := JW.get i7_0 (ctc_0 hc)
      refine aw_get dX0_goBackTo_14 fl_X0_26 e_16 (by omega) rfl ?_
      refine aw_iload_n dX0_goBackTo_17 rfl ?_
      refine aw_aload_n dX0_goBackTo_18 rfl ?_
      refine aw_iload_n dX0_goBackTo_19 rfl ?_
      obtain ⟨pe_20, dd_20, ni_20, xx_20, e_20⟩ := JW.get i7_0 (ctc_0 hc2)
      refine aw_callVi (J' := jX0_isDoor) (As := [.int (nI j7)]) (st := [.int (nI j7), .ref (b + (c + 17))]) dX0_goBackTo_20 tb_718 ok_X0_isDoor ⟨_, e_20⟩ (by omega) rfl rfl (g_X0_isDoor l D b N V7 hN i7_0.1 c2 hc2 (nI j7)) rfl (Nat.le_of_ble_eq_true rfl) ⟨Nat.le_of_ble_eq_true rfl, Nat.le_of_ble_eq_true rfl, Nat.le_of_ble_eq_true rfl, Nat.le_of_ble_eq_true rfl⟩ (fun r_21 N_22 V_23 q_24 => ?_)
      obtain ⟨⟨z_19, h_18⟩, rfl, rfl⟩ := q_24
      refine aw_if_eq (tgt := 35) dX0_goBackTo_23 (by decide) (fun c_25 => ?_) (fun c_25 => ?_)
      · skip
        refine aw_iconst (v := 0) dX0_goBackTo_35 (by decide) ?_
        obtain ⟨g_26, e_26⟩ := JW.get i7_0 (ctc_17 hc)
        refine aw_iast dX0_goBackTo_36 e_26 (by omega) (vp_in_nI (n := j7) (by omega) (by omega)) ?_
        refine aw_up i7_0 (ctc_17 hc) ⟨_, rfl⟩ (WA (LMs (LMs (LMs LM0))) (by omega) (by omega)) (fun V_27 j_27 k_27 e_27 => ?_)
        refine aw_iinc (v := (nI (j7 + 1))) (ls' := [some (.ref (b + c)), some (.ref (b + c2)), some (.int (nI (j7 + 1)))]) dX0_goBackTo_37 rfl (fx_up_1 _) (Nat.le_of_ble_eq_true rfl) rfl ?_
        refine aw_goto (tgt := 7) dX0_goBackTo_40 (by decide) ?_
        refine aw_le ?_ (ih_7_7 (j7 + 1)  V_27 (by omega) (j_27))
        exact ⟨rfl, ⟨rfl, ⟨rfl, trivial⟩⟩⟩
      · skip
        refine aw_aload_n dX0_goBackTo_26 rfl ?_
        refine aw_get dX0_goBackTo_27 fl_X0_26 e_20 (by omega) rfl ?_
        refine aw_iload_n dX0_goBackTo_30 rfl ?_
        obtain ⟨g_28, e_28⟩ := JW.get i7_0 (ctc_17 hc2)
        refine aw_iald (v := (g_28 j7)) dX0_goBackTo_31 e_28 (by omega) (vp_in_nI (n := j7) (by omega) (by omega)) (congrArg g_28 (nI_clamp (n := j7) (by omega))) ?_
        refine aw_goto (tgt := 36) dX0_goBackTo_32 (by decide) ?_
        obtain ⟨g_29, e_29⟩ := JW.get i7_0 (ctc_17 hc)
        refine aw_iast dX0_goBackTo_36 e_29 (by omega) (vp_in_nI (n := j7) (by omega) (by omega)) ?_
        refine aw_up i7_0 (ctc_17 hc) ⟨_, rfl⟩ (WA (LMs (LMs (LMs LM0))) (by omega) (by omega)) (fun V_30 j_30 k_30 e_30 => ?_)
        refine aw_iinc (v := (nI (j7 + 1))) (ls' := [some (.ref (b + c)), some (.ref (b + c2)), some (.int (nI (j7 + 1)))]) dX0_goBackTo_37 rfl (fx_up_1 _) (Nat.le_of_ble_eq_true rfl) rfl ?_
        refine aw_goto (tgt := 7) dX0_goBackTo_40 (by decide) ?_
        refine aw_le ?_ (ih_7_7 (j7 + 1)  V_30 (by omega) (j_30))
        exact ⟨rfl, ⟨rfl, ⟨rfl, trivial⟩⟩⟩
  refine aw_le ?_ (loop_7_6 16 0  V_3 (by omega) (j_2))
  exact ⟨rfl, ⟨rfl, ⟨rfl, trivial⟩⟩⟩
