set_option maxHeartbeats 4000000 in
set_option maxRecDepth 100000 in
theorem g_X10_holdsK (l : Launch) (D : va_G) (b : Nat) (N : Nat) (V : Wd) (hN : 100 ≤ N) (hW : CW D b V) (n0 : Int32) (n1 : Int32) (n2 : Int32)  : MI l D b 0 jX10_holds [.ref (b + 1), .int n0, .int n1, .int n2] N V 0 0 (fun r N9 V9 => ((r = 0 ∨ r = 1) ∧ ((r = 1 ∧ n1 ≤ n0 ∧ n0 ≤ n2 ∧ n0 ≤ fI (V 1) 1) ∨ (r = 0 ∧ ¬ (n1 ≤ n0 ∧ n0 ≤ n2 ∧ n0 ≤ fI (V 1) 1)))) ∧ N = N9 ∧ V = V9) := by
  have hJ0 : JW D b N [] V V := JW.rf hW
  refine mw_of (by decide) (by simp [Value.category]) (Nat.le_of_ble_eq_true rfl) ?_
  show AW l D b jX10_holds (fx_rm 0 0 0) none (fx_MQ D b 0 0 (fx_qi (fun r N9 V9 => ((r = 0 ∨ r = 1) ∧ ((r = 1 ∧ n1 ≤ n0 ∧ n0 ≤ n2 ∧ n0 ≤ fI (V 1) 1) ∨ (r = 0 ∧ ¬ (n1 ≤ n0 ∧ n0 ≤ n2 ∧ n0 ≤ fI (V 1) 1)))) ∧ N = N9 ∧ V = V9))) 0 [some (.ref (b + 1)), some (.int n0), some (.int n1), some (.int n2)] [] N V 0 0
  refine aw_iload_n dX10_holds_0 rfl ?_
  refine aw_iload_n dX10_holds_1 rfl ?_
  refine aw_icmp_lt (tgt := 22) dX10_holds_2 (by decide) (fun c_1 => ?_) (fun c_1 => ?_)
  · skip
    refine aw_iconst (v := 0) dX10_holds_22 (by decide) ?_
    refine aw_zreti dX10_holds_23 rfl (by first | exact Or.inl rfl | exact Or.inr rfl | assumption) (Nat.le_of_ble_eq_true rfl) (Nat.le_of_ble_eq_true rfl) ?_
    exact ⟨⟨(by first | exact Or.inl rfl | exact Or.inr rfl | assumption), Or.inr ⟨rfl, (by have q0 := c_1; simp only [← Int32.toInt_inj, Int32.le_iff_toInt_le, Int32.lt_iff_toInt_lt] at q0 ⊢; omega)⟩⟩, rfl, rfl⟩
  · skip
    refine aw_iload_n dX10_holds_5 rfl ?_
    refine aw_iload_n dX10_holds_6 rfl ?_
    refine aw_icmp_gt (tgt := 22) dX10_holds_7 (by decide) (fun c_2 => ?_) (fun c_2 => ?_)
    · skip
      refine aw_iconst (v := 0) dX10_holds_22 (by decide) ?_
      refine aw_zreti dX10_holds_23 rfl (by first | exact Or.inl rfl | exact Or.inr rfl | assumption) (Nat.le_of_ble_eq_true rfl) (Nat.le_of_ble_eq_true rfl) ?_
      exact ⟨⟨(by first | exact Or.inl rfl | exact Or.inr rfl | assumption), Or.inr ⟨rfl, (by have q0 := c_1; have q1 := c_2; simp only [← Int32.toInt_inj, Int32.le_iff_toInt_le, Int32.lt_iff_toInt_lt] at q0 q1 ⊢; omega)⟩⟩, rfl, rfl⟩
    · skip
      refine aw_iload_n dX10_holds_10 rfl ?_
      refine aw_aload_n dX10_holds_11 rfl ?_
      obtain ⟨ts_3, tn_3, tf_3, ta_3, e_3, hta_3⟩ := JW.get hJ0 ct_1
      refine aw_get dX10_holds_12 fl_X10_15 e_3 (by omega) rfl ?_
      refine aw_eqi (y := (fI (V 1) 1)) ((Eq.symm (congrArg (fun z => fI z 1) e_3)).trans (Eq.refl (fI (V 1) 1))) ?_
      refine aw_icmp_gt (tgt := 22) dX10_holds_15 (by decide) (fun c_4 => ?_) (fun c_4 => ?_)
      · skip
        refine aw_iconst (v := 0) dX10_holds_22 (by decide) ?_
        refine aw_zreti dX10_holds_23 rfl (by first | exact Or.inl rfl | exact Or.inr rfl | assumption) (Nat.le_of_ble_eq_true rfl) (Nat.le_of_ble_eq_true rfl) ?_
        exact ⟨⟨(by first | exact Or.inl rfl | exact Or.inr rfl | assumption), Or.inr ⟨rfl, (by have q0 := c_1; have q1 := c_2; have q2 := c_4; simp only [← Int32.toInt_inj, Int32.le_iff_toInt_le, Int32.lt_iff_toInt_lt] at q0 q1 q2 ⊢; omega)⟩⟩, rfl, rfl⟩
      · skip
        refine aw_iconst (v := 1) dX10_holds_18 (by decide) ?_
        refine aw_goto (tgt := 23) dX10_holds_19 (by decide) ?_
        refine aw_zreti dX10_holds_23 rfl (by first | exact Or.inl rfl | exact Or.inr rfl | assumption) (Nat.le_of_ble_eq_true rfl) (Nat.le_of_ble_eq_true rfl) ?_
        exact ⟨⟨(by first | exact Or.inl rfl | exact Or.inr rfl | assumption), Or.inl ⟨rfl, (by have q0 := c_1; have q1 := c_2; have q2 := c_4; simp only [← Int32.toInt_inj, Int32.le_iff_toInt_le, Int32.lt_iff_toInt_lt] at q0 q1 q2 ⊢; omega)⟩⟩, rfl, rfl⟩

set_option maxHeartbeats 4000000 in
set_option maxRecDepth 100000 in
theorem g_X10_takeK (l : Launch) (D : va_G) (b : Nat) (N : Nat) (V : Wd) (hN : 100 ≤ N) (hW : CW D b V) (n0 : Int32)  : MV l D b 0 jX10_take [.ref (b + 1), .int n0] N V 0 0 (fun N9 V9 => (fI (V9 1) 1 = 0) ∧ N = N9 ∧ JW D b N [(1, 1, 2, 2), (1, 1, 3, 3), (1, 1, 4, 4), (1, 1, 1, 1)] V V9) := by
  have hJ0 : JW D b N [(1, 1, 2, 2), (1, 1, 3, 3), (1, 1, 4, 4), (1, 1, 1, 1)] V V := JW.rf hW
  refine mw_of (by decide) (by simp [Value.category]) (Nat.le_of_ble_eq_true rfl) ?_
  show AW l D b jX10_take (fx_rm 0 0 0) none (fx_MQ D b 0 0 (fx_qv (fun N9 V9 => (fI (V9 1) 1 = 0) ∧ N = N9 ∧ JW D b N [(1, 1, 2, 2), (1, 1, 3, 3), (1, 1, 4, 4), (1, 1, 1, 1)] V V9))) 0 [some (.ref (b + 1)), some (.int n0)] [] N V 0 0
  refine aw_aload_n dX10_take_0 rfl ?_
  refine aw_iload_n dX10_take_1 rfl ?_
  obtain ⟨ts_1, tn_1, tf_1, ta_1, e_1, hta_1⟩ := JW.get hJ0 ct_1
  refine aw_put dX10_take_2 fp_X10_19 e_1 (by omega) rfl rfl (Nat.le_of_ble_eq_true rfl) rfl ?_
  refine aw_up hJ0 ct_1 ⟨_, _, _, ta_1, rfl, (by first | omega | (split <;> omega))⟩ (WO (s := 2) (x := .int n0) e_1 rfl LM0 (by decide) (by decide) (by decide) (Or.inl (by decide))) (fun V_2 j_2 k_2 e_2 => ?_)
  refine aw_aload_n dX10_take_5 rfl ?_
  refine aw_iconst (v := 0) dX10_take_6 (by decide) ?_
  refine aw_put dX10_take_7 fp_X10_22 e_2 (by omega) rfl rfl (Nat.le_of_ble_eq_true rfl) rfl ?_
  refine aw_up j_2 ct_1 ⟨_, _, _, 0, rfl, (by first | omega | (split <;> omega))⟩ (WO (s := 3) (x := .int 0) e_2 rfl (LMs LM0) (by decide) (by decide) (by decide) (Or.inl (by decide))) (fun V_3 j_3 k_3 e_3 => ?_)
  refine aw_aload_n dX10_take_10 rfl ?_
  refine aw_iconst (v := 0) dX10_take_11 (by decide) ?_
  refine aw_put dX10_take_12 fp_X10_25 e_3 (by omega) rfl rfl (Nat.le_of_ble_eq_true rfl) rfl ?_
  refine aw_up j_3 ct_1 ⟨_, _, _, 0, rfl, (by first | omega | (split <;> omega))⟩ (WO (s := 4) (x := .int 0) e_3 rfl (LMs (LMs LM0)) (by decide) (by decide) (by decide) (Or.inl (by decide))) (fun V_4 j_4 k_4 e_4 => ?_)
  refine aw_aload_n dX10_take_15 rfl ?_
  refine aw_iconst (v := 0) dX10_take_16 (by decide) ?_
  refine aw_put dX10_take_17 fp_X10_15 e_4 (by omega) rfl rfl (Nat.le_of_ble_eq_true rfl) rfl ?_
  refine aw_up j_4 ct_1 ⟨_, _, _, 0, rfl, (by first | omega | (split <;> omega))⟩ (WO (s := 1) (x := .int 0) e_4 rfl (LMs (LMs (LMs LM0))) (by decide) (by decide) (by decide) (Or.inl (by decide))) (fun V_5 j_5 k_5 e_5 => ?_)
  refine aw_vreti dX10_take_20 rfl (Nat.le_of_ble_eq_true rfl) (Nat.le_of_ble_eq_true rfl) ?_
  exact ⟨((congrArg (fun z => fI z 1) e_5).trans rfl), rfl, j_5⟩

set_option maxHeartbeats 4000000 in
set_option maxRecDepth 100000 in
theorem g_X10_appendK (l : Launch) (D : va_G) (b : Nat) (N : Nat) (V : Wd) (hN : 100 ≤ N) (hW : CW D b V) (n0 : Int32) (s : Nat) (hs : fI (V 1) 1 = nI s ∧ s + 4 ≤ 260) : MV l D b 0 jX10_append [.ref (b + 1), .int n0] N V 0 0 (fun N9 V9 => (fI (V9 1) 1 = nI (s + 4)) ∧ N = N9 ∧ JW D b N [(2, 2, 0, 1000000), (1, 1, 1, 1)] V V9) := by
  have hJ0 : JW D b N [(2, 2, 0, 1000000), (1, 1, 1, 1)] V V := JW.rf hW
  refine mw_of (by decide) (by simp [Value.category]) (Nat.le_of_ble_eq_true rfl) ?_
  show AW l D b jX10_append (fx_rm 0 0 0) none (fx_MQ D b 0 0 (fx_qv (fun N9 V9 => (fI (V9 1) 1 = nI (s + 4)) ∧ N = N9 ∧ JW D b N [(2, 2, 0, 1000000), (1, 1, 1, 1)] V V9))) 0 [some (.ref (b + 1)), some (.int n0), none] [] N V 0 0
  obtain ⟨hs0, hs4⟩ := hs
  refine aw_bipush (v := 24) dX10_append_0 (by decide) ?_
  refine aw_istore_n (ls' := [some (.ref (b + 1)), some (.int n0), some (.int 24)]) dX10_append_2 (Nat.le_of_ble_eq_true rfl) rfl ?_
  refine aw_iload_n dX10_append_3 rfl ?_
  refine aw_if_lt (tgt := 58) dX10_append_4 (by decide) (fun c_1 => ?_) (fun c_1 => ?_)
  · exact absurd c_1 (by decide)
  refine aw_aload_n dX10_append_7 rfl ?_
  obtain ⟨ts_2, tn_2, tf_2, ta_2, e_2, hta_2⟩ := JW.get hJ0 ct_1
  refine aw_get dX10_append_8 fl_X10_15 e_2 (by omega) rfl ?_
  refine aw_eqi (y := (nI s)) ((Eq.symm (congrArg (fun z => fI z 1) e_2)).trans hs0) ?_
  refine aw_if_lt (tgt := 52) dX10_append_11 (by decide) (fun c_3 => ?_) (fun c_3 => ?_)
  · have nc_3 : s < 0 := (nI_ltI (a := s) (b := 0) (by omega) (by omega)).mp c_3
    omega
  have nc_3 : ¬ (s < 0) := fun z => c_3 ((nI_ltI (a := s) (b := 0) (by omega) (by omega)).mpr z)
  refine aw_aload_n dX10_append_14 rfl ?_
  refine aw_get dX10_append_15 fl_X10_15 e_2 (by omega) rfl ?_
  refine aw_eqi (y := (nI s)) ((Eq.symm (congrArg (fun z => fI z 1) e_2)).trans hs0) ?_
  refine aw_aload_n dX10_append_18 rfl ?_
  refine aw_get dX10_append_19 fl_X10_9 e_2 (by omega) rfl ?_
  obtain ⟨g_4, e_4⟩ := JW.get hJ0 ct_2
  refine aw_alen (t0 := 0) (v := 260) dX10_append_22 e_4 (by omega) rfl rfl ?_
  refine aw_icmp_ge (tgt := 52) dX10_append_23 (by decide) (fun c_5 => ?_) (fun c_5 => ?_)
  · have nc_5 : 260 ≤ s := (nI_leI (a := 260) (b := s) (by omega) (by omega)).mp c_5
    omega
  have nc_5 : ¬ (260 ≤ s) := fun z => c_5 ((nI_leI (a := 260) (b := s) (by omega) (by omega)).mpr z)
  refine aw_aload_n dX10_append_26 rfl ?_
  refine aw_get dX10_append_27 fl_X10_9 e_2 (by omega) rfl ?_
  refine aw_aload_n dX10_append_30 rfl ?_
  refine aw_get dX10_append_31 fl_X10_15 e_2 (by omega) rfl ?_
  refine aw_eqi (y := (nI s)) ((Eq.symm (congrArg (fun z => fI z 1) e_2)).trans hs0) ?_
  refine aw_iload_n dX10_append_34 rfl ?_
  refine aw_iload_n dX10_append_35 rfl ?_
  refine aw_ishr dX10_append_36 ?_
  refine aw_sipush (v := 255) dX10_append_37 (by decide) ?_
  refine aw_iand dX10_append_40 ?_
  refine aw_iast dX10_append_41 e_4 (by omega) (vp_in_nI (n := s) (by omega) (by omega)) ?_
  refine aw_up hJ0 ct_2 ⟨_, rfl⟩ (WA LM0 (by decide) (by decide)) (fun V_6 j_6 k_6 e_6 => ?_)
  refine aw_aload_n dX10_append_42 rfl ?_
  refine aw_dup dX10_append_43 rfl ?_
  refine aw_get dX10_append_44 fl_X10_15 ((k_6 _ (by decide)).trans e_2) (by omega) rfl ?_
  refine aw_eqi (y := (nI s)) ((Eq.symm (congrArg (fun z => fI z 1) ((k_6 _ (by decide)).trans e_2))).trans ((congrArg (fun z => fI z 1) (k_6 _ (by omega))).trans hs0)) ?_
  refine aw_iconst (v := 1) dX10_append_47 (by decide) ?_
  refine aw_iadd dX10_append_48 ?_
  refine aw_eqi (y := nI (s + 1)) (nI_add _ _) ?_
  refine aw_put dX10_append_49 fp_X10_15 ((k_6 _ (by decide)).trans e_2) (by omega) rfl rfl (Nat.le_of_ble_eq_true rfl) rfl ?_
  refine aw_up j_6 ct_1 ⟨_, _, _, ta_2, rfl, (by first | omega | (split <;> omega))⟩ (WO (s := 1) (x := .int (nI (s + 1))) ((k_6 _ (by decide)).trans e_2) rfl (LMs LM0) (by decide) (by decide) (by decide) (Or.inl (by decide))) (fun V_7 j_7 k_7 e_7 => ?_)
  refine aw_iinc (v := 16) (ls' := [some (.ref (b + 1)), some (.int n0), some (.int 16)]) dX10_append_52 rfl (by decide) (Nat.le_of_ble_eq_true rfl) rfl ?_
  refine aw_goto (tgt := 3) dX10_append_55 (by decide) ?_
  refine aw_iload_n dX10_append_3 rfl ?_
  refine aw_if_lt (tgt := 58) dX10_append_4 (by decide) (fun c_8 => ?_) (fun c_8 => ?_)
  · exact absurd c_8 (by decide)
  refine aw_aload_n dX10_append_7 rfl ?_
  refine aw_get dX10_append_8 fl_X10_15 e_7 (by omega) rfl ?_
  refine aw_if_lt (tgt := 52) dX10_append_11 (by decide) (fun c_9 => ?_) (fun c_9 => ?_)
  · have nc_9 : (s + 1) < 0 := (nI_ltI (a := (s + 1)) (b := 0) (by omega) (by omega)).mp c_9
    omega
  have nc_9 : ¬ ((s + 1) < 0) := fun z => c_9 ((nI_ltI (a := (s + 1)) (b := 0) (by omega) (by omega)).mpr z)
  refine aw_aload_n dX10_append_14 rfl ?_
  refine aw_get dX10_append_15 fl_X10_15 e_7 (by omega) rfl ?_
  refine aw_aload_n dX10_append_18 rfl ?_
  refine aw_get dX10_append_19 fl_X10_9 e_7 (by omega) rfl ?_
  refine aw_alen (t0 := 0) (v := 260) dX10_append_22 ((k_7 _ (by decide)).trans e_6) (by omega) rfl rfl ?_
  refine aw_icmp_ge (tgt := 52) dX10_append_23 (by decide) (fun c_10 => ?_) (fun c_10 => ?_)
  · have nc_10 : 260 ≤ (s + 1) := (nI_leI (a := 260) (b := (s + 1)) (by omega) (by omega)).mp c_10
    omega
  have nc_10 : ¬ (260 ≤ (s + 1)) := fun z => c_10 ((nI_leI (a := 260) (b := (s + 1)) (by omega) (by omega)).mpr z)
  refine aw_aload_n dX10_append_26 rfl ?_
  refine aw_get dX10_append_27 fl_X10_9 e_7 (by omega) rfl ?_
  refine aw_aload_n dX10_append_30 rfl ?_
  refine aw_get dX10_append_31 fl_X10_15 e_7 (by omega) rfl ?_
  refine aw_iload_n dX10_append_34 rfl ?_
  refine aw_iload_n dX10_append_35 rfl ?_
  refine aw_ishr dX10_append_36 ?_
  refine aw_sipush (v := 255) dX10_append_37 (by decide) ?_
  refine aw_iand dX10_append_40 ?_
  refine aw_iast dX10_append_41 ((k_7 _ (by decide)).trans e_6) (by omega) (vp_in_nI (n := (s + 1)) (by omega) (by omega)) ?_
  refine aw_up j_7 ct_2 ⟨_, rfl⟩ (WA LM0 (by decide) (by decide)) (fun V_11 j_11 k_11 e_11 => ?_)
  refine aw_aload_n dX10_append_42 rfl ?_
  refine aw_dup dX10_append_43 rfl ?_
  refine aw_get dX10_append_44 fl_X10_15 ((k_11 _ (by decide)).trans e_7) (by omega) rfl ?_
  refine aw_iconst (v := 1) dX10_append_47 (by decide) ?_
  refine aw_iadd dX10_append_48 ?_
  refine aw_eqi (y := nI ((s + 1) + 1)) (nI_add _ _) ?_
  refine aw_put dX10_append_49 fp_X10_15 ((k_11 _ (by decide)).trans e_7) (by omega) rfl rfl (Nat.le_of_ble_eq_true rfl) rfl ?_
  refine aw_up j_11 ct_1 ⟨_, _, _, ta_2, rfl, (by first | omega | (split <;> omega))⟩ (WO (s := 1) (x := .int (nI ((s + 1) + 1))) ((k_11 _ (by decide)).trans e_7) rfl (LMs LM0) (by decide) (by decide) (by decide) (Or.inl (by decide))) (fun V_12 j_12 k_12 e_12 => ?_)
  refine aw_iinc (v := 8) (ls' := [some (.ref (b + 1)), some (.int n0), some (.int 8)]) dX10_append_52 rfl (by decide) (Nat.le_of_ble_eq_true rfl) rfl ?_
  refine aw_goto (tgt := 3) dX10_append_55 (by decide) ?_
  refine aw_iload_n dX10_append_3 rfl ?_
  refine aw_if_lt (tgt := 58) dX10_append_4 (by decide) (fun c_13 => ?_) (fun c_13 => ?_)
  · exact absurd c_13 (by decide)
  refine aw_aload_n dX10_append_7 rfl ?_
  refine aw_get dX10_append_8 fl_X10_15 e_12 (by omega) rfl ?_
  refine aw_if_lt (tgt := 52) dX10_append_11 (by decide) (fun c_14 => ?_) (fun c_14 => ?_)
  · have nc_14 : ((s + 1) + 1) < 0 := (nI_ltI (a := ((s + 1) + 1)) (b := 0) (by omega) (by omega)).mp c_14
    omega
  have nc_14 : ¬ (((s + 1) + 1) < 0) := fun z => c_14 ((nI_ltI (a := ((s + 1) + 1)) (b := 0) (by omega) (by omega)).mpr z)
  refine aw_aload_n dX10_append_14 rfl ?_
  refine aw_get dX10_append_15 fl_X10_15 e_12 (by omega) rfl ?_
  refine aw_aload_n dX10_append_18 rfl ?_
  refine aw_get dX10_append_19 fl_X10_9 e_12 (by omega) rfl ?_
  refine aw_alen (t0 := 0) (v := 260) dX10_append_22 ((k_12 _ (by decide)).trans e_11) (by omega) rfl rfl ?_
  refine aw_icmp_ge (tgt := 52) dX10_append_23 (by decide) (fun c_15 => ?_) (fun c_15 => ?_)
  · have nc_15 : 260 ≤ ((s + 1) + 1) := (nI_leI (a := 260) (b := ((s + 1) + 1)) (by omega) (by omega)).mp c_15
    omega
  have nc_15 : ¬ (260 ≤ ((s + 1) + 1)) := fun z => c_15 ((nI_leI (a := 260) (b := ((s + 1) + 1)) (by omega) (by omega)).mpr z)
  refine aw_aload_n dX10_append_26 rfl ?_
  refine aw_get dX10_append_27 fl_X10_9 e_12 (by omega) rfl ?_
  refine aw_aload_n dX10_append_30 rfl ?_
  refine aw_get dX10_append_31 fl_X10_15 e_12 (by omega) rfl ?_
  refine aw_iload_n dX10_append_34 rfl ?_
  refine aw_iload_n dX10_append_35 rfl ?_
  refine aw_ishr dX10_append_36 ?_
  refine aw_sipush (v := 255) dX10_append_37 (by decide) ?_
  refine aw_iand dX10_append_40 ?_
  refine aw_iast dX10_append_41 ((k_12 _ (by decide)).trans e_11) (by omega) (vp_in_nI (n := ((s + 1) + 1)) (by omega) (by omega)) ?_
  refine aw_up j_12 ct_2 ⟨_, rfl⟩ (WA LM0 (by decide) (by decide)) (fun V_16 j_16 k_16 e_16 => ?_)
  refine aw_aload_n dX10_append_42 rfl ?_
  refine aw_dup dX10_append_43 rfl ?_
  refine aw_get dX10_append_44 fl_X10_15 ((k_16 _ (by decide)).trans e_12) (by omega) rfl ?_
  refine aw_iconst (v := 1) dX10_append_47 (by decide) ?_
  refine aw_iadd dX10_append_48 ?_
  refine aw_eqi (y := nI (((s + 1) + 1) + 1)) (nI_add _ _) ?_
  refine aw_put dX10_append_49 fp_X10_15 ((k_16 _ (by decide)).trans e_12) (by omega) rfl rfl (Nat.le_of_ble_eq_true rfl) rfl ?_
  refine aw_up j_16 ct_1 ⟨_, _, _, ta_2, rfl, (by first | omega | (split <;> omega))⟩ (WO (s := 1) (x := .int (nI (((s + 1) + 1) + 1))) ((k_16 _ (by decide)).trans e_12) rfl (LMs LM0) (by decide) (by decide) (by decide) (Or.inl (by decide))) (fun V_17 j_17 k_17 e_17 => ?_)
  refine aw_iinc (v := 0) (ls' := [some (.ref (b + 1)), some (.int n0), some (.int 0)]) dX10_append_52 rfl (by decide) (Nat.le_of_ble_eq_true rfl) rfl ?_
  refine aw_goto (tgt := 3) dX10_append_55 (by decide) ?_
  refine aw_iload_n dX10_append_3 rfl ?_
  refine aw_if_lt (tgt := 58) dX10_append_4 (by decide) (fun c_18 => ?_) (fun c_18 => ?_)
  · exact absurd c_18 (by decide)
  refine aw_aload_n dX10_append_7 rfl ?_
  refine aw_get dX10_append_8 fl_X10_15 e_17 (by omega) rfl ?_
  refine aw_if_lt (tgt := 52) dX10_append_11 (by decide) (fun c_19 => ?_) (fun c_19 => ?_)
  · have nc_19 : (((s + 1) + 1) + 1) < 0 := (nI_ltI (a := (((s + 1) + 1) + 1)) (b := 0) (by omega) (by omega)).mp c_19
    omega
  have nc_19 : ¬ ((((s + 1) + 1) + 1) < 0) := fun z => c_19 ((nI_ltI (a := (((s + 1) + 1) + 1)) (b := 0) (by omega) (by omega)).mpr z)
  refine aw_aload_n dX10_append_14 rfl ?_
  refine aw_get dX10_append_15 fl_X10_15 e_17 (by omega) rfl ?_
  refine aw_aload_n dX10_append_18 rfl ?_
  refine aw_get dX10_append_19 fl_X10_9 e_17 (by omega) rfl ?_
  refine aw_alen (t0 := 0) (v := 260) dX10_append_22 ((k_17 _ (by decide)).trans e_16) (by omega) rfl rfl ?_
  refine aw_icmp_ge (tgt := 52) dX10_append_23 (by decide) (fun c_20 => ?_) (fun c_20 => ?_)
  · have nc_20 : 260 ≤ (((s + 1) + 1) + 1) := (nI_leI (a := 260) (b := (((s + 1) + 1) + 1)) (by omega) (by omega)).mp c_20
    omega
  have nc_20 : ¬ (260 ≤ (((s + 1) + 1) + 1)) := fun z => c_20 ((nI_leI (a := 260) (b := (((s + 1) + 1) + 1)) (by omega) (by omega)).mpr z)
  refine aw_aload_n dX10_append_26 rfl ?_
  refine aw_get dX10_append_27 fl_X10_9 e_17 (by omega) rfl ?_
  refine aw_aload_n dX10_append_30 rfl ?_
  refine aw_get dX10_append_31 fl_X10_15 e_17 (by omega) rfl ?_
  refine aw_iload_n dX10_append_34 rfl ?_
  refine aw_iload_n dX10_append_35 rfl ?_
  refine aw_ishr dX10_append_36 ?_
  refine aw_sipush (v := 255) dX10_append_37 (by decide) ?_
  refine aw_iand dX10_append_40 ?_
  refine aw_iast dX10_append_41 ((k_17 _ (by decide)).trans e_16) (by omega) (vp_in_nI (n := (((s + 1) + 1) + 1)) (by omega) (by omega)) ?_
  refine aw_up j_17 ct_2 ⟨_, rfl⟩ (WA LM0 (by decide) (by decide)) (fun V_21 j_21 k_21 e_21 => ?_)
  refine aw_aload_n dX10_append_42 rfl ?_
  refine aw_dup dX10_append_43 rfl ?_
  refine aw_get dX10_append_44 fl_X10_15 ((k_21 _ (by decide)).trans e_17) (by omega) rfl ?_
  refine aw_iconst (v := 1) dX10_append_47 (by decide) ?_
  refine aw_iadd dX10_append_48 ?_
  refine aw_eqi (y := nI ((((s + 1) + 1) + 1) + 1)) (nI_add _ _) ?_
  refine aw_put dX10_append_49 fp_X10_15 ((k_21 _ (by decide)).trans e_17) (by omega) rfl rfl (Nat.le_of_ble_eq_true rfl) rfl ?_
  refine aw_up j_21 ct_1 ⟨_, _, _, ta_2, rfl, (by first | omega | (split <;> omega))⟩ (WO (s := 1) (x := .int (nI ((((s + 1) + 1) + 1) + 1))) ((k_21 _ (by decide)).trans e_17) rfl (LMs LM0) (by decide) (by decide) (by decide) (Or.inl (by decide))) (fun V_22 j_22 k_22 e_22 => ?_)
  refine aw_iinc (v := (-8)) (ls' := [some (.ref (b + 1)), some (.int n0), some (.int (-8))]) dX10_append_52 rfl (by decide) (Nat.le_of_ble_eq_true rfl) rfl ?_
  refine aw_goto (tgt := 3) dX10_append_55 (by decide) ?_
  refine aw_iload_n dX10_append_3 rfl ?_
  refine aw_if_lt (tgt := 58) dX10_append_4 (by decide) (fun c_23 => ?_) (fun c_23 => ?_)
  rotate_left
  · exact absurd (by decide) c_23
  refine aw_vreti dX10_append_58 rfl (Nat.le_of_ble_eq_true rfl) (Nat.le_of_ble_eq_true rfl) ?_
  exact ⟨(((congrArg (fun z => fI z 1) e_22).trans rfl).trans (congrArg nI (by omega))), rfl, j_22⟩

set_option maxHeartbeats 4000000 in
set_option maxRecDepth 100000 in
theorem g_X11_feedK (l : Launch) (D : va_G) (b : Nat) (N : Nat) (V : Wd) (hN : 100 ≤ N) (hW : CW D b V) (n0 : Int32) (n1 : Int32) (n2 : Int32) (n3 : Int32) (n4 : Int32) (hs : ∃ s : Nat, fI (V 1) 1 = nI s ∧ s ≤ 260) : MI l D b 1 jX11_feed [.ref (b + 0), .int n0, .int n1, .int n2, .int n3, .int n4] N V 0 0 (fun r N9 V9 => (FDS (fI (V 1) 1) r (fI (V9 1) 1)) ∧ N = N9 ∧ JW D b N [(2, 2, 0, 1000000), (1, 1, 1, 1)] V V9) := by
  have hJ0 : JW D b N [(2, 2, 0, 1000000), (1, 1, 1, 1)] V V := JW.rf hW
  refine mw_of (by decide) (by simp [Value.category]) (Nat.le_of_ble_eq_true rfl) ?_
  show AW l D b jX11_feed (fx_rm 1 0 0) none (fx_MQ D b 0 0 (fx_qi (fun r N9 V9 => (FDS (fI (V 1) 1) r (fI (V9 1) 1)) ∧ N = N9 ∧ JW D b N [(2, 2, 0, 1000000), (1, 1, 1, 1)] V V9))) 0 [some (.ref (b + 0)), some (.int n0), some (.int n1), some (.int n2), some (.int n3), some (.int n4)] [] N V 0 0
  obtain ⟨s, hs0, hs260⟩ := hs
  refine aw_aload_n dX11_feed_0 rfl ?_
  obtain ⟨ek_1, x_1, y_1, e_1, hx_1, hy_1⟩ := JW.get hJ0 ct_0
  refine aw_get dX11_feed_1 fl_X11_12 e_1 (by omega) rfl ?_
  obtain ⟨ts_2, tn_2, tf_2, ta_2, e_2, hta_2⟩ := JW.get hJ0 ct_1
  refine aw_get dX11_feed_4 fl_X11_71 e_2 (by omega) rfl ?_
  refine aw_eqi (y := (nI s)) ((Eq.symm (congrArg (fun z => fI z 1) e_2)).trans hs0) ?_
  refine aw_sipush (v := 240) dX11_feed_7 (by decide) ?_
  refine aw_icmp_le (tgt := 15) dX11_feed_10 (by decide) (fun c_3 => ?_) (fun c_3 => ?_)
  · skip
    have nc_3 : s ≤ 240 := (nI_leI (a := s) (b := 240) (by omega) (by omega)).mp c_3
    refine aw_aload_n dX11_feed_15 rfl ?_
    refine aw_get dX11_feed_16 fl_X11_12 e_1 (by omega) rfl ?_
    refine aw_iload_n dX11_feed_19 rfl ?_
    refine aw_callVv (J' := jX10_append) (As := [.int n0]) (st := []) dX11_feed_20 tb_259 ok_X10_append ⟨_, e_2⟩ (by omega) rfl rfl (g_X10_appendK l D b N V hN hJ0.1 n0 s ⟨hs0, by omega⟩) rfl (Nat.le_of_ble_eq_true rfl) ⟨Nat.le_of_ble_eq_true rfl, Nat.le_of_ble_eq_true rfl, Nat.le_of_ble_eq_true rfl, Nat.le_of_ble_eq_true rfl⟩ (fun  N_8 V_7 q_9 => ?_)
    obtain ⟨h_5, rfl, q_4⟩ := q_9
    have j_6 := JW.trans hJ0 (JW.weak q_4 (Sub.cons LM0 (by decide) (by decide) (by decide) (Or.inl rfl) (Sub.cons (LMs LM0) (by decide) (by decide) (by decide) (Or.inr ⟨by decide, by decide⟩) Sub.nil)))
    refine aw_aload_n dX11_feed_23 rfl ?_
    obtain ⟨ek_10, x_10, y_10, e_10, hx_10, hy_10⟩ := JW.get j_6 ct_0
    refine aw_get dX11_feed_24 fl_X11_12 e_10 (by omega) rfl ?_
    refine aw_iload_n dX11_feed_27 rfl ?_
    obtain ⟨ts_15, tn_15, tf_15, ta_15, e_15, hta_15⟩ := JW.get j_6 ct_1
    refine aw_callVv (J' := jX10_append) (As := [.int n1]) (st := []) dX11_feed_28 tb_259 ok_X10_append ⟨_, e_15⟩ (by omega) rfl rfl (g_X10_appendK l D b N V_7 hN j_6.1 n1 (s + 4) ⟨h_5, by omega⟩) rfl (Nat.le_of_ble_eq_true rfl) ⟨Nat.le_of_ble_eq_true rfl, Nat.le_of_ble_eq_true rfl, Nat.le_of_ble_eq_true rfl, Nat.le_of_ble_eq_true rfl⟩ (fun  N_16 V_14 q_17 => ?_)
    obtain ⟨h_12, rfl, q_11⟩ := q_17
    have j_13 := JW.trans j_6 (JW.weak q_11 (Sub.cons LM0 (by decide) (by decide) (by decide) (Or.inl rfl) (Sub.cons (LMs LM0) (by decide) (by decide) (by decide) (Or.inr ⟨by decide, by decide⟩) Sub.nil)))
    refine aw_aload_n dX11_feed_31 rfl ?_
    obtain ⟨ek_18, x_18, y_18, e_18, hx_18, hy_18⟩ := JW.get j_13 ct_0
    refine aw_get dX11_feed_32 fl_X11_12 e_18 (by omega) rfl ?_
    refine aw_iload_n dX11_feed_35 rfl ?_
    obtain ⟨ts_23, tn_23, tf_23, ta_23, e_23, hta_23⟩ := JW.get j_13 ct_1
    refine aw_callVv (J' := jX10_append) (As := [.int n2]) (st := []) dX11_feed_36 tb_259 ok_X10_append ⟨_, e_23⟩ (by omega) rfl rfl (g_X10_appendK l D b N V_14 hN j_13.1 n2 ((s + 4) + 4) ⟨h_12, by omega⟩) rfl (Nat.le_of_ble_eq_true rfl) ⟨Nat.le_of_ble_eq_true rfl, Nat.le_of_ble_eq_true rfl, Nat.le_of_ble_eq_true rfl, Nat.le_of_ble_eq_true rfl⟩ (fun  N_24 V_22 q_25 => ?_)
    obtain ⟨h_20, rfl, q_19⟩ := q_25
    have j_21 := JW.trans j_13 (JW.weak q_19 (Sub.cons LM0 (by decide) (by decide) (by decide) (Or.inl rfl) (Sub.cons (LMs LM0) (by decide) (by decide) (by decide) (Or.inr ⟨by decide, by decide⟩) Sub.nil)))
    refine aw_aload_n dX11_feed_39 rfl ?_
    obtain ⟨ek_26, x_26, y_26, e_26, hx_26, hy_26⟩ := JW.get j_21 ct_0
    refine aw_get dX11_feed_40 fl_X11_12 e_26 (by omega) rfl ?_
    refine aw_iload dX11_feed_43 rfl ?_
    obtain ⟨ts_31, tn_31, tf_31, ta_31, e_31, hta_31⟩ := JW.get j_21 ct_1
    refine aw_callVv (J' := jX10_append) (As := [.int n3]) (st := []) dX11_feed_45 tb_259 ok_X10_append ⟨_, e_31⟩ (by omega) rfl rfl (g_X10_appendK l D b N V_22 hN j_21.1 n3 (((s + 4) + 4) + 4) ⟨h_20, by omega⟩) rfl (Nat.le_of_ble_eq_true rfl) ⟨Nat.le_of_ble_eq_true rfl, Nat.le_of_ble_eq_true rfl, Nat.le_of_ble_eq_true rfl, Nat.le_of_ble_eq_true rfl⟩ (fun  N_32 V_30 q_33 => ?_)
    obtain ⟨h_28, rfl, q_27⟩ := q_33
    have j_29 := JW.trans j_21 (JW.weak q_27 (Sub.cons LM0 (by decide) (by decide) (by decide) (Or.inl rfl) (Sub.cons (LMs LM0) (by decide) (by decide) (by decide) (Or.inr ⟨by decide, by decide⟩) Sub.nil)))
    refine aw_aload_n dX11_feed_48 rfl ?_
    obtain ⟨ek_34, x_34, y_34, e_34, hx_34, hy_34⟩ := JW.get j_29 ct_0
    refine aw_get dX11_feed_49 fl_X11_12 e_34 (by omega) rfl ?_
    refine aw_iload dX11_feed_52 rfl ?_
    obtain ⟨ts_39, tn_39, tf_39, ta_39, e_39, hta_39⟩ := JW.get j_29 ct_1
    refine aw_callVv (J' := jX10_append) (As := [.int n4]) (st := []) dX11_feed_54 tb_259 ok_X10_append ⟨_, e_39⟩ (by omega) rfl rfl (g_X10_appendK l D b N V_30 hN j_29.1 n4 ((((s + 4) + 4) + 4) + 4) ⟨h_28, by omega⟩) rfl (Nat.le_of_ble_eq_true rfl) ⟨Nat.le_of_ble_eq_true rfl, Nat.le_of_ble_eq_true rfl, Nat.le_of_ble_eq_true rfl, Nat.le_of_ble_eq_true rfl⟩ (fun  N_40 V_38 q_41 => ?_)
    obtain ⟨h_36, rfl, q_35⟩ := q_41
    have j_37 := JW.trans j_29 (JW.weak q_35 (Sub.cons LM0 (by decide) (by decide) (by decide) (Or.inl rfl) (Sub.cons (LMs LM0) (by decide) (by decide) (by decide) (Or.inr ⟨by decide, by decide⟩) Sub.nil)))
    refine aw_aload_n dX11_feed_57 rfl ?_
    obtain ⟨ek_42, x_42, y_42, e_42, hx_42, hy_42⟩ := JW.get j_37 ct_0
    refine aw_get dX11_feed_58 fl_X11_12 e_42 (by omega) rfl ?_
    obtain ⟨ts_43, tn_43, tf_43, ta_43, e_43, hta_43⟩ := JW.get j_37 ct_1
    refine aw_get dX11_feed_61 fl_X11_71 e_43 (by omega) rfl ?_
    refine aw_eqi (y := (nI (((((s + 4) + 4) + 4) + 4) + 4))) ((Eq.symm (congrArg (fun z => fI z 1) e_43)).trans h_36) ?_
    refine aw_ireti dX11_feed_64 rfl (Nat.le_of_ble_eq_true rfl) (Nat.le_of_ble_eq_true rfl) ?_
    exact ⟨Or.inr ⟨by rw [hs0]; exact Int32.not_lt.mpr c_3, by rw [hs0]; exact (congrArg nI (by omega)).trans (nI_a20 s).symm, by rw [hs0]; exact h_36.trans ((congrArg nI (by omega)).trans (nI_a20 s).symm)⟩, rfl, j_37⟩
  · skip
    have nc_3 : ¬ (s ≤ 240) := fun z => c_3 ((nI_leI (a := s) (b := 240) (by omega) (by omega)).mpr z)
    refine aw_iconst (v := (-1)) dX11_feed_13 (by decide) ?_
    refine aw_ireti dX11_feed_14 rfl (Nat.le_of_ble_eq_true rfl) (Nat.le_of_ble_eq_true rfl) ?_
    exact ⟨Or.inl ⟨by rw [hs0]; exact Int32.not_le.mp c_3, rfl, hs0.trans hs0.symm⟩, rfl, hJ0⟩

set_option maxHeartbeats 4000000 in
set_option maxRecDepth 100000 in
theorem g_X11_guardsK (l : Launch) (D : va_G) (b : Nat) (N : Nat) (V : Wd) (hN : 100 ≤ N) (hW : CW D b V) (n0 : Int32)  : MI l D b 8 jX11_guards [.ref (b + 0), .int n0] N V 0 0 (fun r N9 V9 => (TKS (cIn n0 3 6 (fI (V 1) 1)) (fI (V 1) 1) (fI (V9 1) 1)) ∧ N = N9 ∧ JW D b N [(98, 98, 0, 1000000), (1, 1, 2, 2), (1, 1, 3, 3), (1, 1, 4, 4), (1, 1, 1, 1)] V V9) := by
  have hJ0 : JW D b N [(98, 98, 0, 1000000), (1, 1, 2, 2), (1, 1, 3, 3), (1, 1, 4, 4), (1, 1, 1, 1)] V V := JW.rf hW
  refine mw_of (by decide) (by simp [Value.category]) (Nat.le_of_ble_eq_true rfl) ?_
  show AW l D b jX11_guards (fx_rm 8 0 0) none (fx_MQ D b 0 0 (fx_qi (fun r N9 V9 => (TKS (cIn n0 3 6 (fI (V 1) 1)) (fI (V 1) 1) (fI (V9 1) 1)) ∧ N = N9 ∧ JW D b N [(98, 98, 0, 1000000), (1, 1, 2, 2), (1, 1, 3, 3), (1, 1, 4, 4), (1, 1, 1, 1)] V V9))) 0 [some (.ref (b + 0)), some (.int n0)] [] N V 0 0
  refine aw_aload_n dX11_guards_0 rfl ?_
  obtain ⟨ek_1, x_1, y_1, e_1, hx_1, hy_1⟩ := JW.get hJ0 ct_0
  refine aw_get dX11_guards_1 fl_X11_12 e_1 (by omega) rfl ?_
  refine aw_iload_n dX11_guards_4 rfl ?_
  refine aw_iconst (v := 3) dX11_guards_5 (by decide) ?_
  refine aw_bipush (v := 6) dX11_guards_6 (by decide) ?_
  obtain ⟨ts_5, tn_5, tf_5, ta_5, e_5, hta_5⟩ := JW.get hJ0 ct_1
  refine aw_callVi (J' := jX10_holds) (As := [.int n0, .int 3, .int 6]) (st := []) dX11_guards_8 tb_267 ok_X10_holds ⟨_, e_5⟩ (by omega) rfl rfl (g_X10_holdsK l D b N V hN hJ0.1 n0 3 6) rfl (Nat.le_of_ble_eq_true rfl) ⟨Nat.le_of_ble_eq_true rfl, Nat.le_of_ble_eq_true rfl, Nat.le_of_ble_eq_true rfl, Nat.le_of_ble_eq_true rfl⟩ (fun r_6 N_7 V_8 q_9 => ?_)
  obtain ⟨⟨z_4, h_3⟩, rfl, rfl⟩ := q_9
  refine aw_if_ne (tgt := 16) dX11_guards_11 (by decide) (fun c_10 => ?_) (fun c_10 => ?_)
  · skip
    refine aw_aload_n dX11_guards_16 rfl ?_
    refine aw_get dX11_guards_17 fl_X11_12 e_1 (by omega) rfl ?_
    refine aw_iload_n dX11_guards_20 rfl ?_
    refine aw_callVv (J' := jX10_take) (As := [.int n0]) (st := []) dX11_guards_21 tb_271 ok_X10_take ⟨_, e_5⟩ (by omega) rfl rfl (g_X10_takeK l D b N V hN hJ0.1 n0) rfl (Nat.le_of_ble_eq_true rfl) ⟨Nat.le_of_ble_eq_true rfl, Nat.le_of_ble_eq_true rfl, Nat.le_of_ble_eq_true rfl, Nat.le_of_ble_eq_true rfl⟩ (fun  N_15 V_14 q_16 => ?_)
    obtain ⟨h_12, rfl, q_11⟩ := q_16
    have j_13 := JW.trans hJ0 (JW.weak q_11 (Sub.cons (LMs LM0) (by decide) (by decide) (by decide) (Or.inr ⟨by decide, by decide⟩) (Sub.cons (LMs (LMs LM0)) (by decide) (by decide) (by decide) (Or.inr ⟨by decide, by decide⟩) (Sub.cons (LMs (LMs (LMs LM0))) (by decide) (by decide) (by decide) (Or.inr ⟨by decide, by decide⟩) (Sub.cons (LMs (LMs (LMs (LMs LM0)))) (by decide) (by decide) (by decide) (Or.inr ⟨by decide, by decide⟩) Sub.nil)))))
    refine aw_aload_n dX11_guards_24 rfl ?_
    obtain ⟨ek_17, x_17, y_17, e_17, hx_17, hy_17⟩ := JW.get j_13 ct_0
    refine aw_get dX11_guards_25 fl_X11_67 e_17 (by omega) rfl ?_
    refine aw_aload_n dX11_guards_28 rfl ?_
    refine aw_get dX11_guards_29 fl_X11_12 e_17 (by omega) rfl ?_
    refine aw_aload_n dX11_guards_32 rfl ?_
    refine aw_get dX11_guards_33 fl_X11_19 e_17 (by omega) rfl ?_
    refine aw_iload_n dX11_guards_36 rfl ?_
    have e_21 := JW.get j_13 ct_97
    refine aw_callVi (J' := jX9_waysToStand) (As := [.ref (b + 1), .ref (b + 3), .int n0]) (st := []) dX11_guards_37 tb_958 ok_X9_waysToStand ⟨_, e_21⟩ (by omega) rfl rfl (g_X9_waysToStand l D b N V_14 hN j_13.1 3 cA_3 n0) rfl (Nat.le_of_ble_eq_true rfl) ⟨Nat.le_of_ble_eq_true rfl, Nat.le_of_ble_eq_true rfl, Nat.le_of_ble_eq_true rfl, Nat.le_of_ble_eq_true rfl⟩ (fun r_22 N_23 V_20 q_24 => ?_)
    obtain ⟨rfl, q_18⟩ := q_24
    have j_19 := JW.trans j_13 (JW.weak q_18 (Sub.cons LM0 (by decide) (by decide) (by decide) (Or.inl rfl) Sub.nil))
    refine aw_ireti dX11_guards_40 rfl (Nat.le_of_ble_eq_true rfl) (Nat.le_of_ble_eq_true rfl) ?_
    exact ⟨Or.inl ⟨(by have e0 : (0 : Int32).toInt = 0 := (by decide); have e1 : (1 : Int32).toInt = 1 := (by decide); have e3 : (3 : Int32).toInt = 3 := (by decide); have e6 : (6 : Int32).toInt = 6 := (by decide); have q0 := c_10; have q1 := h_3; simp only [cIn, ← Int32.toInt_inj, Int32.le_iff_toInt_le, Int32.lt_iff_toInt_lt] at q0 q1 ⊢; omega), ((JW.fI q_18 (by omega) (nfc (by omega) nf0)).trans h_12)⟩, rfl, j_19⟩
  · skip
    refine aw_iconst (v := (-1)) dX11_guards_14 (by decide) ?_
    refine aw_ireti dX11_guards_15 rfl (Nat.le_of_ble_eq_true rfl) (Nat.le_of_ble_eq_true rfl) ?_
    exact ⟨Or.inr ⟨(by have e0 : (0 : Int32).toInt = 0 := (by decide); have e1 : (1 : Int32).toInt = 1 := (by decide); have e3 : (3 : Int32).toInt = 3 := (by decide); have e6 : (6 : Int32).toInt = 6 := (by decide); have q0 := c_10; have q1 := h_3; simp only [cIn, ← Int32.toInt_inj, Int32.le_iff_toInt_le, Int32.lt_iff_toInt_lt] at q0 q1 ⊢; omega), (Eq.refl (fI (V 1) 1))⟩, rfl, hJ0⟩

set_option maxHeartbeats 4000000 in
set_option maxRecDepth 100000 in
theorem g_X11_checkK (l : Launch) (D : va_G) (b : Nat) (N : Nat) (V : Wd) (hN : 100 ≤ N) (hW : CW D b V) (n0 : Int32)  : MI l D b 2 jX11_check [.ref (b + 0), .int n0] N V 0 0 (fun r N9 V9 => (TKS (cIn n0 0 12 (fI (V 1) 1)) (fI (V 1) 1) (fI (V9 1) 1)) ∧ N = N9 ∧ JW D b N [(1, 1, 2, 2), (1, 1, 3, 3), (1, 1, 4, 4), (1, 1, 1, 1)] V V9) := by
  have hJ0 : JW D b N [(1, 1, 2, 2), (1, 1, 3, 3), (1, 1, 4, 4), (1, 1, 1, 1)] V V := JW.rf hW
  refine mw_of (by decide) (by simp [Value.category]) (Nat.le_of_ble_eq_true rfl) ?_
  show AW l D b jX11_check (fx_rm 2 0 0) none (fx_MQ D b 0 0 (fx_qi (fun r N9 V9 => (TKS (cIn n0 0 12 (fI (V 1) 1)) (fI (V 1) 1) (fI (V9 1) 1)) ∧ N = N9 ∧ JW D b N [(1, 1, 2, 2), (1, 1, 3, 3), (1, 1, 4, 4), (1, 1, 1, 1)] V V9))) 0 [some (.ref (b + 0)), some (.int n0), none, none] [] N V 0 0
  refine aw_aload_n dX11_check_0 rfl ?_
  obtain ⟨ek_1, x_1, y_1, e_1, hx_1, hy_1⟩ := JW.get hJ0 ct_0
  refine aw_get dX11_check_1 fl_X11_12 e_1 (by omega) rfl ?_
  refine aw_iload_n dX11_check_4 rfl ?_
  refine aw_iconst (v := 0) dX11_check_5 (by decide) ?_
  refine aw_bipush (v := 12) dX11_check_6 (by decide) ?_
  obtain ⟨ts_5, tn_5, tf_5, ta_5, e_5, hta_5⟩ := JW.get hJ0 ct_1
  refine aw_callVi (J' := jX10_holds) (As := [.int n0, .int 0, .int 12]) (st := []) dX11_check_8 tb_267 ok_X10_holds ⟨_, e_5⟩ (by omega) rfl rfl (g_X10_holdsK l D b N V hN hJ0.1 n0 0 12) rfl (Nat.le_of_ble_eq_true rfl) ⟨Nat.le_of_ble_eq_true rfl, Nat.le_of_ble_eq_true rfl, Nat.le_of_ble_eq_true rfl, Nat.le_of_ble_eq_true rfl⟩ (fun r_6 N_7 V_8 q_9 => ?_)
  obtain ⟨⟨z_4, h_3⟩, rfl, rfl⟩ := q_9
  refine aw_if_ne (tgt := 17) dX11_check_11 (by decide) (fun c_10 => ?_) (fun c_10 => ?_)
  · skip
    refine aw_aload_n dX11_check_17 rfl ?_
    refine aw_get dX11_check_18 fl_X11_12 e_1 (by omega) rfl ?_
    refine aw_iload_n dX11_check_21 rfl ?_
    refine aw_callVv (J' := jX10_take) (As := [.int n0]) (st := []) dX11_check_22 tb_271 ok_X10_take ⟨_, e_5⟩ (by omega) rfl rfl (g_X10_takeK l D b N V hN hJ0.1 n0) rfl (Nat.le_of_ble_eq_true rfl) ⟨Nat.le_of_ble_eq_true rfl, Nat.le_of_ble_eq_true rfl, Nat.le_of_ble_eq_true rfl, Nat.le_of_ble_eq_true rfl⟩ (fun  N_15 V_14 q_16 => ?_)
    obtain ⟨h_12, rfl, q_11⟩ := q_16
    have j_13 := JW.trans hJ0 (JW.weak q_11 (Sub.cons LM0 (by decide) (by decide) (by decide) (Or.inr ⟨by decide, by decide⟩) (Sub.cons (LMs LM0) (by decide) (by decide) (by decide) (Or.inr ⟨by decide, by decide⟩) (Sub.cons (LMs (LMs LM0)) (by decide) (by decide) (by decide) (Or.inr ⟨by decide, by decide⟩) (Sub.cons (LMs (LMs (LMs LM0))) (by decide) (by decide) (by decide) (Or.inr ⟨by decide, by decide⟩) Sub.nil)))))
    refine aw_iconst (v := 0) dX11_check_25 (by decide) ?_
    refine aw_istore_n (ls' := [some (.ref (b + 0)), some (.int n0), some (.int 0), none]) dX11_check_26 (Nat.le_of_ble_eq_true rfl) rfl ?_
    have hb_17 := fx_clt n0
    have loop_27_17 : ∀ (g_27 : Nat), ∀ (j27 : Nat), j27 + g_27 = (Int32.toNatClampNeg n0) → AW l D b jX11_check (fx_rm 2 0 0) none (fx_MQ D b 0 0 (fx_qi (fun r N9 V9 => (TKS (cIn n0 0 12 (fI (V 1) 1)) (fI (V 1) 1) (fI (V9 1) 1)) ∧ N = N9 ∧ JW D b N [(1, 1, 2, 2), (1, 1, 3, 3), (1, 1, 4, 4), (1, 1, 1, 1)] V V9))) 27 [some (.ref (b + 0)), some (.int n0), some (.int (nI j27)), none] [] N V_14 0 0 := by
      intro g_27
      induction g_27 with
      | zero =>
        intro j27  hj27
        obtain rfl : j27 = (Int32.toNatClampNeg n0) := by omega
        refine aw_iload_n dX11_check_27 rfl ?_
        refine aw_iload_n dX11_check_28 rfl ?_
        refine aw_icmp_ge (tgt := 78) dX11_check_29 (by decide) (fun c_20 => ?_) (fun c_20 => ?_)
        rotate_left
        · exact absurd (fx_gec n0) c_20
        refine aw_iconst (v := (-1)) dX11_check_78 (by decide) ?_
        refine aw_ireti dX11_check_79 rfl (Nat.le_of_ble_eq_true rfl) (Nat.le_of_ble_eq_true rfl) ?_
        exact ⟨Or.inl ⟨(by have e0 : (0 : Int32).toInt = 0 := (by decide); have e1 : (1 : Int32).toInt = 1 := (by decide); have e12 : (12 : Int32).toInt = 12 := (by decide); have q0 := c_10; have q1 := h_3; simp only [cIn, ← Int32.toInt_inj, Int32.le_iff_toInt_le, Int32.lt_iff_toInt_lt] at q0 q1 ⊢; omega), h_12⟩, rfl, j_13⟩
      | succ g_27 ih_27_18 =>
        intro j27  hj27
        have hlj27 : j27 < (Int32.toNatClampNeg n0) := by omega
        refine aw_iload_n dX11_check_27 rfl ?_
        refine aw_iload_n dX11_check_28 rfl ?_
        refine aw_icmp_ge (tgt := 78) dX11_check_29 (by decide) (fun c_21 => ?_) (fun c_21 => ?_)
        · exact absurd c_21 (fx_gej (by omega))
        refine aw_aload_n dX11_check_32 rfl ?_
        obtain ⟨ek_22, x_22, y_22, e_22, hx_22, hy_22⟩ := JW.get j_13 ct_0
        refine aw_get dX11_check_33 fl_X11_19 e_22 (by omega) rfl ?_
        refine aw_iload_n dX11_check_36 rfl ?_
        obtain ⟨pe_26, dd_26, ni_26, xx_26, e_26⟩ := JW.get j_13 (ctc_0 cA_3)
        refine aw_callVi (J' := jX0_isPerson) (As := [.int (nI j27)]) (st := []) dX11_check_37 tb_745 ok_X0_isPerson ⟨_, e_26⟩ (by omega) rfl rfl (g_X0_isPerson l D b N V_14 hN j_13.1 3 cA_3 (nI j27)) rfl (Nat.le_of_ble_eq_true rfl) ⟨Nat.le_of_ble_eq_true rfl, Nat.le_of_ble_eq_true rfl, Nat.le_of_ble_eq_true rfl, Nat.le_of_ble_eq_true rfl⟩ (fun r_27 N_28 V_29 q_30 => ?_)
        obtain ⟨⟨z_25, h_24⟩, rfl, rfl⟩ := q_30
        refine aw_if_eq (tgt := 54) dX11_check_40 (by decide) (fun c_31 => ?_) (fun c_31 => ?_)
        · skip
          refine aw_sipush (v := 255) dX11_check_54 (by decide) ?_
          refine aw_istore_n (ls' := [some (.ref (b + 0)), some (.int n0), some (.int (nI j27)), some (.int 255)]) dX11_check_57 (Nat.le_of_ble_eq_true rfl) rfl ?_
          refine aw_aload_n dX11_check_58 rfl ?_
          refine aw_get dX11_check_59 fl_X11_12 e_22 (by omega) rfl ?_
          refine aw_iload_n dX11_check_62 rfl ?_
          obtain ⟨ts_33, tn_33, tf_33, ta_33, e_33, hta_33⟩ := JW.get j_13 ct_1
          refine aw_callVi (J' := jX10_byteAt) (As := [.int (nI j27)]) (st := []) dX11_check_63 tb_990 ok_X10_byteAt ⟨_, e_33⟩ (by omega) rfl rfl (g_X10_byteAt l D b N V_14 hN j_13.1 (nI j27)) rfl (Nat.le_of_ble_eq_true rfl) ⟨Nat.le_of_ble_eq_true rfl, Nat.le_of_ble_eq_true rfl, Nat.le_of_ble_eq_true rfl, Nat.le_of_ble_eq_true rfl⟩ (fun r_34 N_35 V_36 q_37 => ?_)
          obtain ⟨rfl, rfl⟩ := q_37
          refine aw_iload_n dX11_check_66 rfl ?_
          refine aw_icmp_eq (tgt := 72) dX11_check_67 (by decide) (fun c_38 => ?_) (fun c_38 => ?_)
          · skip
            refine aw_iinc (v := (nI (j27 + 1))) (ls' := [some (.ref (b + 0)), some (.int n0), some (.int (nI (j27 + 1))), some (.int 255)]) dX11_check_72 rfl (fx_up_1 _) (Nat.le_of_ble_eq_true rfl) rfl ?_
            refine aw_goto (tgt := 27) dX11_check_75 (by decide) ?_
            refine aw_le ?_ (ih_27_18 (j27 + 1)   (by omega))
            exact ⟨rfl, ⟨rfl, ⟨rfl, trivial⟩⟩⟩
          · skip
            refine aw_iload_n dX11_check_70 rfl ?_
            refine aw_ireti dX11_check_71 rfl (Nat.le_of_ble_eq_true rfl) (Nat.le_of_ble_eq_true rfl) ?_
            exact ⟨Or.inl ⟨(by have e0 : (0 : Int32).toInt = 0 := (by decide); have e1 : (1 : Int32).toInt = 1 := (by decide); have e12 : (12 : Int32).toInt = 12 := (by decide); have q0 := c_10; have q1 := h_3; simp only [cIn, ← Int32.toInt_inj, Int32.le_iff_toInt_le, Int32.lt_iff_toInt_lt] at q0 q1 ⊢; omega), h_12⟩, rfl, j_13⟩
        · skip
          refine aw_aload_n dX11_check_43 rfl ?_
          refine aw_get dX11_check_44 fl_X11_19 e_22 (by omega) rfl ?_
          refine aw_iload_n dX11_check_47 rfl ?_
          refine aw_callVi (J' := jX0_greatestDread) (As := [.int (nI j27)]) (st := []) dX11_check_48 tb_748 ok_X0_greatestDread ⟨_, e_26⟩ (by omega) rfl rfl (g_X0_greatestDread l D b N V_14 hN j_13.1 3 cA_3 (nI j27)) rfl (Nat.le_of_ble_eq_true rfl) ⟨Nat.le_of_ble_eq_true rfl, Nat.le_of_ble_eq_true rfl, Nat.le_of_ble_eq_true rfl, Nat.le_of_ble_eq_true rfl⟩ (fun r_40 N_41 V_42 q_43 => ?_)
          obtain ⟨rfl, rfl⟩ := q_43
          refine aw_goto (tgt := 57) dX11_check_51 (by decide) ?_
          refine aw_istore_n (ls' := [some (.ref (b + 0)), some (.int n0), some (.int (nI j27)), some (.int r_40)]) dX11_check_57 (Nat.le_of_ble_eq_true rfl) rfl ?_
          refine aw_aload_n dX11_check_58 rfl ?_
          refine aw_get dX11_check_59 fl_X11_12 e_22 (by omega) rfl ?_
          refine aw_iload_n dX11_check_62 rfl ?_
          obtain ⟨ts_45, tn_45, tf_45, ta_45, e_45, hta_45⟩ := JW.get j_13 ct_1
          refine aw_callVi (J' := jX10_byteAt) (As := [.int (nI j27)]) (st := []) dX11_check_63 tb_990 ok_X10_byteAt ⟨_, e_45⟩ (by omega) rfl rfl (g_X10_byteAt l D b N V_14 hN j_13.1 (nI j27)) rfl (Nat.le_of_ble_eq_true rfl) ⟨Nat.le_of_ble_eq_true rfl, Nat.le_of_ble_eq_true rfl, Nat.le_of_ble_eq_true rfl, Nat.le_of_ble_eq_true rfl⟩ (fun r_46 N_47 V_48 q_49 => ?_)
          obtain ⟨rfl, rfl⟩ := q_49
          refine aw_iload_n dX11_check_66 rfl ?_
          refine aw_icmp_eq (tgt := 72) dX11_check_67 (by decide) (fun c_50 => ?_) (fun c_50 => ?_)
          · skip
            refine aw_iinc (v := (nI (j27 + 1))) (ls' := [some (.ref (b + 0)), some (.int n0), some (.int (nI (j27 + 1))), some (.int r_40)]) dX11_check_72 rfl (fx_up_1 _) (Nat.le_of_ble_eq_true rfl) rfl ?_
            refine aw_goto (tgt := 27) dX11_check_75 (by decide) ?_
            refine aw_le ?_ (ih_27_18 (j27 + 1)   (by omega))
            exact ⟨rfl, ⟨rfl, ⟨rfl, trivial⟩⟩⟩
          · skip
            refine aw_iload_n dX11_check_70 rfl ?_
            refine aw_ireti dX11_check_71 rfl (Nat.le_of_ble_eq_true rfl) (Nat.le_of_ble_eq_true rfl) ?_
            exact ⟨Or.inl ⟨(by have e0 : (0 : Int32).toInt = 0 := (by decide); have e1 : (1 : Int32).toInt = 1 := (by decide); have e12 : (12 : Int32).toInt = 12 := (by decide); have q0 := c_10; have q1 := h_3; simp only [cIn, ← Int32.toInt_inj, Int32.le_iff_toInt_le, Int32.lt_iff_toInt_lt] at q0 q1 ⊢; omega), h_12⟩, rfl, j_13⟩
    refine aw_le ?_ (loop_27_17 (Int32.toNatClampNeg n0) 0   (by omega))
    exact ⟨rfl, ⟨rfl, ⟨rfl, trivial⟩⟩⟩
  · skip
    refine aw_bipush (v := (-2)) dX11_check_14 (by decide) ?_
    refine aw_ireti dX11_check_16 rfl (Nat.le_of_ble_eq_true rfl) (Nat.le_of_ble_eq_true rfl) ?_
    exact ⟨Or.inr ⟨(by have e0 : (0 : Int32).toInt = 0 := (by decide); have e1 : (1 : Int32).toInt = 1 := (by decide); have e12 : (12 : Int32).toInt = 12 := (by decide); have q0 := c_10; have q1 := h_3; simp only [cIn, ← Int32.toInt_inj, Int32.le_iff_toInt_le, Int32.lt_iff_toInt_lt] at q0 q1 ⊢; omega), (Eq.refl (fI (V 1) 1))⟩, rfl, hJ0⟩

set_option maxHeartbeats 4000000 in
set_option maxRecDepth 100000 in
theorem g_X11_roomsK (l : Launch) (D : va_G) (b : Nat) (N : Nat) (V : Wd) (hN : 100 ≤ N) (hW : CW D b V) (n0 : Int32) (n1 : Int32)  : MI l D b 3 jX11_rooms [.ref (b + 0), .int n0, .int n1] N V 0 0 (fun r N9 V9 => (TKS (cRo n0 n1 (fI (V 1) 1)) (fI (V 1) 1) (fI (V9 1) 1)) ∧ N = N9 ∧ JW D b N [(1, 1, 2, 2), (1, 1, 3, 3), (1, 1, 4, 4), (1, 1, 1, 1)] V V9) := by
  have hJ0 : JW D b N [(1, 1, 2, 2), (1, 1, 3, 3), (1, 1, 4, 4), (1, 1, 1, 1)] V V := JW.rf hW
  refine mw_of (by decide) (by simp [Value.category]) (Nat.le_of_ble_eq_true rfl) ?_
  show AW l D b jX11_rooms (fx_rm 3 0 0) none (fx_MQ D b 0 0 (fx_qi (fun r N9 V9 => (TKS (cRo n0 n1 (fI (V 1) 1)) (fI (V 1) 1) (fI (V9 1) 1)) ∧ N = N9 ∧ JW D b N [(1, 1, 2, 2), (1, 1, 3, 3), (1, 1, 4, 4), (1, 1, 1, 1)] V V9))) 0 [some (.ref (b + 0)), some (.int n0), some (.int n1), none] [] N V 0 0
  refine aw_iload_n dX11_rooms_0 rfl ?_
  refine aw_if_lt (tgt := 24) dX11_rooms_1 (by decide) (fun c_1 => ?_) (fun c_1 => ?_)
  · skip
    refine aw_iconst (v := (-1)) dX11_rooms_24 (by decide) ?_
    refine aw_ireti dX11_rooms_25 rfl (Nat.le_of_ble_eq_true rfl) (Nat.le_of_ble_eq_true rfl) ?_
    exact ⟨Or.inr ⟨(by have e0 : (0 : Int32).toInt = 0 := (by decide); have e1 : (1 : Int32).toInt = 1 := (by decide); have e12 : (12 : Int32).toInt = 12 := (by decide); have e99 : (99 : Int32).toInt = 99 := (by decide); have q0 := c_1; simp only [cRo, ← Int32.toInt_inj, Int32.le_iff_toInt_le, Int32.lt_iff_toInt_lt] at q0 ⊢; omega), (Eq.refl (fI (V 1) 1))⟩, rfl, hJ0⟩
  · skip
    refine aw_iload_n dX11_rooms_4 rfl ?_
    refine aw_bipush (v := 99) dX11_rooms_5 (by decide) ?_
    refine aw_icmp_gt (tgt := 24) dX11_rooms_7 (by decide) (fun c_2 => ?_) (fun c_2 => ?_)
    · skip
      refine aw_iconst (v := (-1)) dX11_rooms_24 (by decide) ?_
      refine aw_ireti dX11_rooms_25 rfl (Nat.le_of_ble_eq_true rfl) (Nat.le_of_ble_eq_true rfl) ?_
      exact ⟨Or.inr ⟨(by have e0 : (0 : Int32).toInt = 0 := (by decide); have e1 : (1 : Int32).toInt = 1 := (by decide); have e12 : (12 : Int32).toInt = 12 := (by decide); have e99 : (99 : Int32).toInt = 99 := (by decide); have q0 := c_1; have q1 := c_2; simp only [cRo, ← Int32.toInt_inj, Int32.le_iff_toInt_le, Int32.lt_iff_toInt_lt] at q0 q1 ⊢; omega), (Eq.refl (fI (V 1) 1))⟩, rfl, hJ0⟩
    · skip
      refine aw_aload_n dX11_rooms_10 rfl ?_
      obtain ⟨ek_3, x_3, y_3, e_3, hx_3, hy_3⟩ := JW.get hJ0 ct_0
      refine aw_get dX11_rooms_11 fl_X11_12 e_3 (by omega) rfl ?_
      refine aw_iload_n dX11_rooms_14 rfl ?_
      refine aw_iconst (v := 1) dX11_rooms_15 (by decide) ?_
      refine aw_bipush (v := 12) dX11_rooms_16 (by decide) ?_
      obtain ⟨ts_7, tn_7, tf_7, ta_7, e_7, hta_7⟩ := JW.get hJ0 ct_1
      refine aw_callVi (J' := jX10_holds) (As := [.int n0, .int 1, .int 12]) (st := []) dX11_rooms_18 tb_267 ok_X10_holds ⟨_, e_7⟩ (by omega) rfl rfl (g_X10_holdsK l D b N V hN hJ0.1 n0 1 12) rfl (Nat.le_of_ble_eq_true rfl) ⟨Nat.le_of_ble_eq_true rfl, Nat.le_of_ble_eq_true rfl, Nat.le_of_ble_eq_true rfl, Nat.le_of_ble_eq_true rfl⟩ (fun r_8 N_9 V_10 q_11 => ?_)
      obtain ⟨⟨z_6, h_5⟩, rfl, rfl⟩ := q_11
      refine aw_if_ne (tgt := 26) dX11_rooms_21 (by decide) (fun c_12 => ?_) (fun c_12 => ?_)
      · skip
        refine aw_aload_n dX11_rooms_26 rfl ?_
        refine aw_get dX11_rooms_27 fl_X11_12 e_3 (by omega) rfl ?_
        refine aw_iload_n dX11_rooms_30 rfl ?_
        refine aw_callVv (J' := jX10_take) (As := [.int n0]) (st := []) dX11_rooms_31 tb_271 ok_X10_take ⟨_, e_7⟩ (by omega) rfl rfl (g_X10_takeK l D b N V hN hJ0.1 n0) rfl (Nat.le_of_ble_eq_true rfl) ⟨Nat.le_of_ble_eq_true rfl, Nat.le_of_ble_eq_true rfl, Nat.le_of_ble_eq_true rfl, Nat.le_of_ble_eq_true rfl⟩ (fun  N_17 V_16 q_18 => ?_)
        obtain ⟨h_14, rfl, q_13⟩ := q_18
        have j_15 := JW.trans hJ0 (JW.weak q_13 (Sub.cons LM0 (by decide) (by decide) (by decide) (Or.inr ⟨by decide, by decide⟩) (Sub.cons (LMs LM0) (by decide) (by decide) (by decide) (Or.inr ⟨by decide, by decide⟩) (Sub.cons (LMs (LMs LM0)) (by decide) (by decide) (by decide) (Or.inr ⟨by decide, by decide⟩) (Sub.cons (LMs (LMs (LMs LM0))) (by decide) (by decide) (by decide) (Or.inr ⟨by decide, by decide⟩) Sub.nil)))))
        refine aw_iconst (v := 0) dX11_rooms_34 (by decide) ?_
        refine aw_istore_n (ls' := [some (.ref (b + 0)), some (.int n0), some (.int n1), some (.int 0)]) dX11_rooms_35 (Nat.le_of_ble_eq_true rfl) rfl ?_
        have hb_19 := fx_clt n0
        have loop_36_19 : ∀ (g_36 : Nat), ∀ (j36 : Nat), j36 + g_36 = (Int32.toNatClampNeg n0) → AW l D b jX11_rooms (fx_rm 3 0 0) none (fx_MQ D b 0 0 (fx_qi (fun r N9 V9 => (TKS (cRo n0 n1 (fI (V 1) 1)) (fI (V 1) 1) (fI (V9 1) 1)) ∧ N = N9 ∧ JW D b N [(1, 1, 2, 2), (1, 1, 3, 3), (1, 1, 4, 4), (1, 1, 1, 1)] V V9))) 36 [some (.ref (b + 0)), some (.int n0), some (.int n1), some (.int (nI j36))] [] N V_16 0 0 := by
          intro g_36
          induction g_36 with
          | zero =>
            intro j36  hj36
            obtain rfl : j36 = (Int32.toNatClampNeg n0) := by omega
            refine aw_iload_n dX11_rooms_36 rfl ?_
            refine aw_iload_n dX11_rooms_37 rfl ?_
            refine aw_icmp_ge (tgt := 63) dX11_rooms_38 (by decide) (fun c_22 => ?_) (fun c_22 => ?_)
            rotate_left
            · exact absurd (fx_gec n0) c_22
            refine aw_aload_n dX11_rooms_63 rfl ?_
            obtain ⟨ek_23, x_23, y_23, e_23, hx_23, hy_23⟩ := JW.get j_15 ct_0
            refine aw_get dX11_rooms_64 fl_X11_12 e_23 (by omega) rfl ?_
            refine aw_iload_n dX11_rooms_67 rfl ?_
            refine aw_iload_n dX11_rooms_68 rfl ?_
            refine aw_callSi (J' := jX9_leastDreadBehindRooms) (As := [.ref (b + 1), .int n0, .int n1]) (st := []) dX11_rooms_69 tb_991 ok_X9_leastDreadBehindRooms rfl (g_X9_leastDreadBehindRooms l D b N V_16 hN j_15.1 n0 n1) rfl (Nat.le_of_ble_eq_true rfl) ⟨Nat.le_of_ble_eq_true rfl, Nat.le_of_ble_eq_true rfl, Nat.le_of_ble_eq_true rfl, Nat.le_of_ble_eq_true rfl⟩ (fun r_25 N_26 V_27 q_28 => ?_)
            obtain ⟨rfl, rfl⟩ := q_28
            refine aw_ireti dX11_rooms_72 rfl (Nat.le_of_ble_eq_true rfl) (Nat.le_of_ble_eq_true rfl) ?_
            exact ⟨Or.inl ⟨(by have e0 : (0 : Int32).toInt = 0 := (by decide); have e1 : (1 : Int32).toInt = 1 := (by decide); have e12 : (12 : Int32).toInt = 12 := (by decide); have e99 : (99 : Int32).toInt = 99 := (by decide); have q0 := c_1; have q1 := c_2; have q2 := c_12; have q3 := h_5; simp only [cRo, ← Int32.toInt_inj, Int32.le_iff_toInt_le, Int32.lt_iff_toInt_lt] at q0 q1 q2 q3 ⊢; omega), h_14⟩, rfl, j_15⟩
          | succ g_36 ih_36_20 =>
            intro j36  hj36
            have hlj36 : j36 < (Int32.toNatClampNeg n0) := by omega
            refine aw_iload_n dX11_rooms_36 rfl ?_
            refine aw_iload_n dX11_rooms_37 rfl ?_
            refine aw_icmp_ge (tgt := 63) dX11_rooms_38 (by decide) (fun c_29 => ?_) (fun c_29 => ?_)
            · exact absurd c_29 (fx_gej (by omega))
            refine aw_aload_n dX11_rooms_41 rfl ?_
            obtain ⟨ek_30, x_30, y_30, e_30, hx_30, hy_30⟩ := JW.get j_15 ct_0
            refine aw_get dX11_rooms_42 fl_X11_12 e_30 (by omega) rfl ?_
            refine aw_iload_n dX11_rooms_45 rfl ?_
            obtain ⟨ts_32, tn_32, tf_32, ta_32, e_32, hta_32⟩ := JW.get j_15 ct_1
            refine aw_callVi (J' := jX10_byteAt) (As := [.int (nI j36)]) (st := []) dX11_rooms_46 tb_990 ok_X10_byteAt ⟨_, e_32⟩ (by omega) rfl rfl (g_X10_byteAt l D b N V_16 hN j_15.1 (nI j36)) rfl (Nat.le_of_ble_eq_true rfl) ⟨Nat.le_of_ble_eq_true rfl, Nat.le_of_ble_eq_true rfl, Nat.le_of_ble_eq_true rfl, Nat.le_of_ble_eq_true rfl⟩ (fun r_33 N_34 V_35 q_36 => ?_)
            obtain ⟨rfl, rfl⟩ := q_36
            refine aw_bipush (v := 16) dX11_rooms_49 (by decide) ?_
            refine aw_icmp_lt (tgt := 57) dX11_rooms_51 (by decide) (fun c_37 => ?_) (fun c_37 => ?_)
            · skip
              refine aw_iinc (v := (nI (j36 + 1))) (ls' := [some (.ref (b + 0)), some (.int n0), some (.int n1), some (.int (nI (j36 + 1)))]) dX11_rooms_57 rfl (fx_up_1 _) (Nat.le_of_ble_eq_true rfl) rfl ?_
              refine aw_goto (tgt := 36) dX11_rooms_60 (by decide) ?_
              refine aw_le ?_ (ih_36_20 (j36 + 1)   (by omega))
              exact ⟨rfl, ⟨rfl, ⟨rfl, ⟨rfl, trivial⟩⟩⟩⟩
            · skip
              refine aw_bipush (v := (-3)) dX11_rooms_54 (by decide) ?_
              refine aw_ireti dX11_rooms_56 rfl (Nat.le_of_ble_eq_true rfl) (Nat.le_of_ble_eq_true rfl) ?_
              exact ⟨Or.inl ⟨(by have e0 : (0 : Int32).toInt = 0 := (by decide); have e1 : (1 : Int32).toInt = 1 := (by decide); have e12 : (12 : Int32).toInt = 12 := (by decide); have e99 : (99 : Int32).toInt = 99 := (by decide); have q0 := c_1; have q1 := c_2; have q2 := c_12; have q3 := h_5; simp only [cRo, ← Int32.toInt_inj, Int32.le_iff_toInt_le, Int32.lt_iff_toInt_lt] at q0 q1 q2 q3 ⊢; omega), h_14⟩, rfl, j_15⟩
        refine aw_le ?_ (loop_36_19 (Int32.toNatClampNeg n0) 0   (by omega))
        exact ⟨rfl, ⟨rfl, ⟨rfl, ⟨rfl, trivial⟩⟩⟩⟩
      · skip
        refine aw_iconst (v := (-1)) dX11_rooms_24 (by decide) ?_
        refine aw_ireti dX11_rooms_25 rfl (Nat.le_of_ble_eq_true rfl) (Nat.le_of_ble_eq_true rfl) ?_
        exact ⟨Or.inr ⟨(by have e0 : (0 : Int32).toInt = 0 := (by decide); have e1 : (1 : Int32).toInt = 1 := (by decide); have e12 : (12 : Int32).toInt = 12 := (by decide); have e99 : (99 : Int32).toInt = 99 := (by decide); have q0 := c_1; have q1 := c_2; have q2 := c_12; have q3 := h_5; simp only [cRo, ← Int32.toInt_inj, Int32.le_iff_toInt_le, Int32.lt_iff_toInt_lt] at q0 q1 q2 q3 ⊢; omega), (Eq.refl (fI (V 1) 1))⟩, rfl, hJ0⟩

set_option maxHeartbeats 20000000 in
set_option maxRecDepth 100000 in
theorem g_X11_guessK (l : Launch) (D : va_G) (b : Nat) (N : Nat) (V : Wd) (hN : 100 ≤ N) (hW : CW D b V) (n0 : Int32) (n1 : Int32)  : MI l D b 5 jX11_guess [.ref (b + 0), .int n0, .int n1] N V 0 0 (fun r N9 V9 => (TKS (cGu n0 n1 (fI (V 1) 1)) (fI (V 1) 1) (fI (V9 1) 1)) ∧ N = N9 ∧ JW D b N [(1, 1, 2, 2), (1, 1, 3, 3), (1, 1, 4, 4), (1, 1, 1, 1)] V V9) := by
  have hJ0 : JW D b N [(1, 1, 2, 2), (1, 1, 3, 3), (1, 1, 4, 4), (1, 1, 1, 1)] V V := JW.rf hW
  refine mw_of (by decide) (by simp [Value.category]) (Nat.le_of_ble_eq_true rfl) ?_
  show AW l D b jX11_guess (fx_rm 5 0 0) none (fx_MQ D b 0 0 (fx_qi (fun r N9 V9 => (TKS (cGu n0 n1 (fI (V 1) 1)) (fI (V 1) 1) (fI (V9 1) 1)) ∧ N = N9 ∧ JW D b N [(1, 1, 2, 2), (1, 1, 3, 3), (1, 1, 4, 4), (1, 1, 1, 1)] V V9))) 0 [some (.ref (b + 0)), some (.int n0), some (.int n1), none, none, none, none, none] [] N V 0 0
  refine aw_iload_n dX11_guess_0 rfl ?_
  refine aw_if_lt (tgt := 14) dX11_guess_1 (by decide) (fun c_1 => ?_) (fun c_1 => ?_)
  · skip
    refine aw_iconst (v := 0) dX11_guess_14 (by decide) ?_
    refine aw_istore_n (ls' := [some (.ref (b + 0)), some (.int n0), some (.int n1), some (.int 0), none, none, none, none]) dX11_guess_15 (Nat.le_of_ble_eq_true rfl) rfl ?_
    refine aw_iload_n dX11_guess_16 rfl ?_
    refine aw_bipush (v := 20) dX11_guess_17 (by decide) ?_
    refine aw_icmp_lt (tgt := 32) dX11_guess_19 (by decide) (fun c_2 => ?_) (fun c_2 => ?_)
    · skip
      refine aw_iconst (v := 0) dX11_guess_32 (by decide) ?_
      refine aw_istore (ls' := [some (.ref (b + 0)), some (.int n0), some (.int n1), some (.int 0), some (.int 0), none, none, none]) dX11_guess_33 (Nat.le_of_ble_eq_true rfl) rfl ?_
      refine aw_iload_n dX11_guess_35 rfl ?_
      refine aw_if_ne (tgt := 52) dX11_guess_36 (by decide) (fun c_3 => ?_) (fun c_3 => ?_)
      · exact absurd rfl c_3
      refine aw_iload dX11_guess_39 rfl ?_
      refine aw_if_ne (tgt := 52) dX11_guess_41 (by decide) (fun c_4 => ?_) (fun c_4 => ?_)
      · exact absurd rfl c_4
      refine aw_iload_n dX11_guess_44 rfl ?_
      refine aw_bipush (v := 100) dX11_guess_45 (by decide) ?_
      refine aw_icmp_eq (tgt := 52) dX11_guess_47 (by decide) (fun c_5 => ?_) (fun c_5 => ?_)
      · skip
        refine aw_iload_n dX11_guess_52 rfl ?_
        refine aw_iconst (v := 1) dX11_guess_53 (by decide) ?_
        refine aw_icmp_lt (tgt := 79) dX11_guess_54 (by decide) (fun c_6 => ?_) (fun c_6 => ?_)
        · skip
          refine aw_iconst (v := (-1)) dX11_guess_79 (by decide) ?_
          refine aw_ireti dX11_guess_80 rfl (Nat.le_of_ble_eq_true rfl) (Nat.le_of_ble_eq_true rfl) ?_
          exact ⟨Or.inr ⟨(by have e0 : (0 : Int32).toInt = 0 := (by decide); have e1 : (1 : Int32).toInt = 1 := (by decide); have e2 : (2 : Int32).toInt = 2 := (by decide); have e12 : (12 : Int32).toInt = 12 := (by decide); have e15 : (15 : Int32).toInt = 15 := (by decide); have e16 : (16 : Int32).toInt = 16 := (by decide); have e20 : (20 : Int32).toInt = 20 := (by decide); have e24 : (24 : Int32).toInt = 24 := (by decide); have e35 : (35 : Int32).toInt = 35 := (by decide); have e36 : (36 : Int32).toInt = 36 := (by decide); have e100 : (100 : Int32).toInt = 100 := (by decide); have q0 := c_1; have q1 := c_2; have q2 := c_5; have q3 := c_6; simp only [cGu, ← Int32.toInt_inj, Int32.le_iff_toInt_le, Int32.lt_iff_toInt_lt] at q0 q1 q2 q3 ⊢; omega), (Eq.refl (fI (V 1) 1))⟩, rfl, hJ0⟩
        · skip
          refine aw_iload_n dX11_guess_57 rfl ?_
          refine aw_bipush (v := 12) dX11_guess_58 (by decide) ?_
          refine aw_icmp_gt (tgt := 79) dX11_guess_60 (by decide) (fun c_7 => ?_) (fun c_7 => ?_)
          · skip
            refine aw_iconst (v := (-1)) dX11_guess_79 (by decide) ?_
            refine aw_ireti dX11_guess_80 rfl (Nat.le_of_ble_eq_true rfl) (Nat.le_of_ble_eq_true rfl) ?_
            exact ⟨Or.inr ⟨(by have e0 : (0 : Int32).toInt = 0 := (by decide); have e1 : (1 : Int32).toInt = 1 := (by decide); have e2 : (2 : Int32).toInt = 2 := (by decide); have e12 : (12 : Int32).toInt = 12 := (by decide); have e15 : (15 : Int32).toInt = 15 := (by decide); have e16 : (16 : Int32).toInt = 16 := (by decide); have e20 : (20 : Int32).toInt = 20 := (by decide); have e24 : (24 : Int32).toInt = 24 := (by decide); have e35 : (35 : Int32).toInt = 35 := (by decide); have e36 : (36 : Int32).toInt = 36 := (by decide); have e100 : (100 : Int32).toInt = 100 := (by decide); have q0 := c_1; have q1 := c_2; have q2 := c_5; have q3 := c_6; have q4 := c_7; simp only [cGu, ← Int32.toInt_inj, Int32.le_iff_toInt_le, Int32.lt_iff_toInt_lt] at q0 q1 q2 q3 q4 ⊢; omega), (Eq.refl (fI (V 1) 1))⟩, rfl, hJ0⟩
          · skip
            refine aw_aload_n dX11_guess_63 rfl ?_
            obtain ⟨ek_8, x_8, y_8, e_8, hx_8, hy_8⟩ := JW.get hJ0 ct_0
            refine aw_get dX11_guess_64 fl_X11_12 e_8 (by omega) rfl ?_
            refine aw_iconst (v := 2) dX11_guess_67 (by decide) ?_
            refine aw_iload_n dX11_guess_68 rfl ?_
            refine aw_imul dX11_guess_69 ?_
            refine aw_iconst (v := 2) dX11_guess_70 (by decide) ?_
            refine aw_bipush (v := 24) dX11_guess_71 (by decide) ?_
            obtain ⟨ts_12, tn_12, tf_12, ta_12, e_12, hta_12⟩ := JW.get hJ0 ct_1
            refine aw_callVi (J' := jX10_holds) (As := [.int (2 * n0), .int 2, .int 24]) (st := []) dX11_guess_73 tb_267 ok_X10_holds ⟨_, e_12⟩ (by omega) rfl rfl (g_X10_holdsK l D b N V hN hJ0.1 (2 * n0) 2 24) rfl (Nat.le_of_ble_eq_true rfl) ⟨Nat.le_of_ble_eq_true rfl, Nat.le_of_ble_eq_true rfl, Nat.le_of_ble_eq_true rfl, Nat.le_of_ble_eq_true rfl⟩ (fun r_13 N_14 V_15 q_16 => ?_)
            obtain ⟨⟨z_11, h_10⟩, rfl, rfl⟩ := q_16
            refine aw_if_ne (tgt := 81) dX11_guess_76 (by decide) (fun c_17 => ?_) (fun c_17 => ?_)
            · skip
              refine aw_aload_n dX11_guess_81 rfl ?_
              refine aw_get dX11_guess_82 fl_X11_12 e_8 (by omega) rfl ?_
              refine aw_iconst (v := 2) dX11_guess_85 (by decide) ?_
              refine aw_iload_n dX11_guess_86 rfl ?_
              refine aw_imul dX11_guess_87 ?_
              refine aw_callVv (J' := jX10_take) (As := [.int (2 * n0)]) (st := []) dX11_guess_88 tb_271 ok_X10_take ⟨_, e_12⟩ (by omega) rfl rfl (g_X10_takeK l D b N V hN hJ0.1 (2 * n0)) rfl (Nat.le_of_ble_eq_true rfl) ⟨Nat.le_of_ble_eq_true rfl, Nat.le_of_ble_eq_true rfl, Nat.le_of_ble_eq_true rfl, Nat.le_of_ble_eq_true rfl⟩ (fun  N_22 V_21 q_23 => ?_)
              obtain ⟨h_19, rfl, q_18⟩ := q_23
              have j_20 := JW.trans hJ0 (JW.weak q_18 (Sub.cons LM0 (by decide) (by decide) (by decide) (Or.inr ⟨by decide, by decide⟩) (Sub.cons (LMs LM0) (by decide) (by decide) (by decide) (Or.inr ⟨by decide, by decide⟩) (Sub.cons (LMs (LMs LM0)) (by decide) (by decide) (by decide) (Or.inr ⟨by decide, by decide⟩) (Sub.cons (LMs (LMs (LMs LM0))) (by decide) (by decide) (by decide) (Or.inr ⟨by decide, by decide⟩) Sub.nil)))))
              refine aw_aload_n dX11_guess_91 rfl ?_
              obtain ⟨ek_24, x_24, y_24, e_24, hx_24, hy_24⟩ := JW.get j_20 ct_0
              refine aw_get dX11_guess_92 fl_X11_12 e_24 (by omega) rfl ?_
              refine aw_aload_n dX11_guess_95 rfl ?_
              refine aw_get dX11_guess_96 fl_X11_19 e_24 (by omega) rfl ?_
              refine aw_iload_n dX11_guess_99 rfl ?_
              refine aw_callSi (J' := jX3_triesFit) (As := [.ref (b + 1), .ref (b + 3), .int n0]) (st := []) dX11_guess_100 tb_922 ok_X3_triesFit rfl (g_X3_triesFit l D b N V_21 hN j_20.1 3 cA_3 n0) rfl (Nat.le_of_ble_eq_true rfl) ⟨Nat.le_of_ble_eq_true rfl, Nat.le_of_ble_eq_true rfl, Nat.le_of_ble_eq_true rfl, Nat.le_of_ble_eq_true rfl⟩ (fun r_27 N_28 V_29 q_30 => ?_)
              obtain ⟨h_26, rfl, rfl⟩ := q_30
              refine aw_if_ne (tgt := 109) dX11_guess_103 (by decide) (fun c_31 => ?_) (fun c_31 => ?_)
              · skip
                refine aw_iload_n dX11_guess_109 rfl ?_
                refine aw_bipush (v := 100) dX11_guess_110 (by decide) ?_
                refine aw_icmp_ne (tgt := 128) dX11_guess_112 (by decide) (fun c_32 => ?_) (fun c_32 => ?_)
                · first | exact absurd c_32 c_5 | exact absurd c_5 c_32 | exact absurd c_32 (Int32.not_lt.mpr c_5) | exact absurd c_5 (Int32.not_lt.mpr c_32) | exact c_5 (Int32.not_lt.mp c_32) | exact c_5 (Int32.not_le.mp c_32)
                refine aw_aload_n dX11_guess_115 rfl ?_
                refine aw_get dX11_guess_116 fl_X11_12 e_24 (by omega) rfl ?_
                refine aw_aload_n dX11_guess_119 rfl ?_
                refine aw_get dX11_guess_120 fl_X11_19 e_24 (by omega) rfl ?_
                refine aw_iload_n dX11_guess_123 rfl ?_
                refine aw_callSi (J' := jX3_possibleFears) (As := [.ref (b + 1), .ref (b + 3), .int n0]) (st := []) dX11_guess_124 tb_930 ok_X3_possibleFears rfl (g_X3_possibleFears l D b N V_21 hN j_20.1 3 cA_3 n0) rfl (Nat.le_of_ble_eq_true rfl) ⟨Nat.le_of_ble_eq_true rfl, Nat.le_of_ble_eq_true rfl, Nat.le_of_ble_eq_true rfl, Nat.le_of_ble_eq_true rfl⟩ (fun r_34 N_35 V_36 q_37 => ?_)
                obtain ⟨rfl, rfl⟩ := q_37
                refine aw_ireti dX11_guess_127 rfl (Nat.le_of_ble_eq_true rfl) (Nat.le_of_ble_eq_true rfl) ?_
                exact ⟨Or.inl ⟨(by have t2 := two_n (by first | exact Int32.not_lt.mp c_6 | exact c_6) (by first | exact Int32.not_lt.mp c_7 | exact c_7); have e0 : (0 : Int32).toInt = 0 := (by decide); have e1 : (1 : Int32).toInt = 1 := (by decide); have e2 : (2 : Int32).toInt = 2 := (by decide); have e12 : (12 : Int32).toInt = 12 := (by decide); have e15 : (15 : Int32).toInt = 15 := (by decide); have e16 : (16 : Int32).toInt = 16 := (by decide); have e20 : (20 : Int32).toInt = 20 := (by decide); have e24 : (24 : Int32).toInt = 24 := (by decide); have e35 : (35 : Int32).toInt = 35 := (by decide); have e36 : (36 : Int32).toInt = 36 := (by decide); have e100 : (100 : Int32).toInt = 100 := (by decide); have q0 := c_1; have q1 := c_2; have q2 := c_5; have q3 := c_6; have q4 := c_7; have q5 := c_17; have q6 := c_32; have q7 := h_10; simp only [cGu, ← Int32.toInt_inj, Int32.le_iff_toInt_le, Int32.lt_iff_toInt_lt] at q0 q1 q2 q3 q4 q5 q6 q7 ⊢; omega), h_19⟩, rfl, j_20⟩
              · skip
                refine aw_bipush (v := (-3)) dX11_guess_106 (by decide) ?_
                refine aw_ireti dX11_guess_108 rfl (Nat.le_of_ble_eq_true rfl) (Nat.le_of_ble_eq_true rfl) ?_
                exact ⟨Or.inl ⟨(by have t2 := two_n (by first | exact Int32.not_lt.mp c_6 | exact c_6) (by first | exact Int32.not_lt.mp c_7 | exact c_7); have e0 : (0 : Int32).toInt = 0 := (by decide); have e1 : (1 : Int32).toInt = 1 := (by decide); have e2 : (2 : Int32).toInt = 2 := (by decide); have e12 : (12 : Int32).toInt = 12 := (by decide); have e15 : (15 : Int32).toInt = 15 := (by decide); have e16 : (16 : Int32).toInt = 16 := (by decide); have e20 : (20 : Int32).toInt = 20 := (by decide); have e24 : (24 : Int32).toInt = 24 := (by decide); have e35 : (35 : Int32).toInt = 35 := (by decide); have e36 : (36 : Int32).toInt = 36 := (by decide); have e100 : (100 : Int32).toInt = 100 := (by decide); have q0 := c_1; have q1 := c_2; have q2 := c_5; have q3 := c_6; have q4 := c_7; have q5 := c_17; have q6 := h_10; simp only [cGu, ← Int32.toInt_inj, Int32.le_iff_toInt_le, Int32.lt_iff_toInt_lt] at q0 q1 q2 q3 q4 q5 q6 ⊢; omega), h_19⟩, rfl, j_20⟩
            · skip
              refine aw_iconst (v := (-1)) dX11_guess_79 (by decide) ?_
              refine aw_ireti dX11_guess_80 rfl (Nat.le_of_ble_eq_true rfl) (Nat.le_of_ble_eq_true rfl) ?_
              exact ⟨Or.inr ⟨(by have t2 := two_n (by first | exact Int32.not_lt.mp c_6 | exact c_6) (by first | exact Int32.not_lt.mp c_7 | exact c_7); have e0 : (0 : Int32).toInt = 0 := (by decide); have e1 : (1 : Int32).toInt = 1 := (by decide); have e2 : (2 : Int32).toInt = 2 := (by decide); have e12 : (12 : Int32).toInt = 12 := (by decide); have e15 : (15 : Int32).toInt = 15 := (by decide); have e16 : (16 : Int32).toInt = 16 := (by decide); have e20 : (20 : Int32).toInt = 20 := (by decide); have e24 : (24 : Int32).toInt = 24 := (by decide); have e35 : (35 : Int32).toInt = 35 := (by decide); have e36 : (36 : Int32).toInt = 36 := (by decide); have e100 : (100 : Int32).toInt = 100 := (by decide); have q0 := c_1; have q1 := c_2; have q2 := c_5; have q3 := c_6; have q4 := c_7; have q5 := c_17; have q6 := h_10; simp only [cGu, ← Int32.toInt_inj, Int32.le_iff_toInt_le, Int32.lt_iff_toInt_lt] at q0 q1 q2 q3 q4 q5 q6 ⊢; omega), (Eq.refl (fI (V 1) 1))⟩, rfl, hJ0⟩
      · skip
        refine aw_iconst (v := (-1)) dX11_guess_50 (by decide) ?_
        refine aw_ireti dX11_guess_51 rfl (Nat.le_of_ble_eq_true rfl) (Nat.le_of_ble_eq_true rfl) ?_
        exact ⟨Or.inr ⟨(by have e0 : (0 : Int32).toInt = 0 := (by decide); have e1 : (1 : Int32).toInt = 1 := (by decide); have e2 : (2 : Int32).toInt = 2 := (by decide); have e12 : (12 : Int32).toInt = 12 := (by decide); have e15 : (15 : Int32).toInt = 15 := (by decide); have e16 : (16 : Int32).toInt = 16 := (by decide); have e20 : (20 : Int32).toInt = 20 := (by decide); have e24 : (24 : Int32).toInt = 24 := (by decide); have e35 : (35 : Int32).toInt = 35 := (by decide); have e36 : (36 : Int32).toInt = 36 := (by decide); have e100 : (100 : Int32).toInt = 100 := (by decide); have q0 := c_1; have q1 := c_2; have q2 := c_5; simp only [cGu, ← Int32.toInt_inj, Int32.le_iff_toInt_le, Int32.lt_iff_toInt_lt] at q0 q1 q2 ⊢; omega), (Eq.refl (fI (V 1) 1))⟩, rfl, hJ0⟩
    · skip
      refine aw_iload_n dX11_guess_22 rfl ?_
      refine aw_bipush (v := 36) dX11_guess_23 (by decide) ?_
      refine aw_icmp_ge (tgt := 32) dX11_guess_25 (by decide) (fun c_38 => ?_) (fun c_38 => ?_)
      · skip
        refine aw_iconst (v := 0) dX11_guess_32 (by decide) ?_
        refine aw_istore (ls' := [some (.ref (b + 0)), some (.int n0), some (.int n1), some (.int 0), some (.int 0), none, none, none]) dX11_guess_33 (Nat.le_of_ble_eq_true rfl) rfl ?_
        refine aw_iload_n dX11_guess_35 rfl ?_
        refine aw_if_ne (tgt := 52) dX11_guess_36 (by decide) (fun c_39 => ?_) (fun c_39 => ?_)
        · exact absurd rfl c_39
        refine aw_iload dX11_guess_39 rfl ?_
        refine aw_if_ne (tgt := 52) dX11_guess_41 (by decide) (fun c_40 => ?_) (fun c_40 => ?_)
        · exact absurd rfl c_40
        refine aw_iload_n dX11_guess_44 rfl ?_
        refine aw_bipush (v := 100) dX11_guess_45 (by decide) ?_
        refine aw_icmp_eq (tgt := 52) dX11_guess_47 (by decide) (fun c_41 => ?_) (fun c_41 => ?_)
        · skip
          refine aw_iload_n dX11_guess_52 rfl ?_
          refine aw_iconst (v := 1) dX11_guess_53 (by decide) ?_
          refine aw_icmp_lt (tgt := 79) dX11_guess_54 (by decide) (fun c_42 => ?_) (fun c_42 => ?_)
          · skip
            refine aw_iconst (v := (-1)) dX11_guess_79 (by decide) ?_
            refine aw_ireti dX11_guess_80 rfl (Nat.le_of_ble_eq_true rfl) (Nat.le_of_ble_eq_true rfl) ?_
            exact ⟨Or.inr ⟨(by have e0 : (0 : Int32).toInt = 0 := (by decide); have e1 : (1 : Int32).toInt = 1 := (by decide); have e2 : (2 : Int32).toInt = 2 := (by decide); have e12 : (12 : Int32).toInt = 12 := (by decide); have e15 : (15 : Int32).toInt = 15 := (by decide); have e16 : (16 : Int32).toInt = 16 := (by decide); have e20 : (20 : Int32).toInt = 20 := (by decide); have e24 : (24 : Int32).toInt = 24 := (by decide); have e35 : (35 : Int32).toInt = 35 := (by decide); have e36 : (36 : Int32).toInt = 36 := (by decide); have e100 : (100 : Int32).toInt = 100 := (by decide); have q0 := c_1; have q1 := c_2; have q2 := c_38; have q3 := c_41; have q4 := c_42; simp only [cGu, ← Int32.toInt_inj, Int32.le_iff_toInt_le, Int32.lt_iff_toInt_lt] at q0 q1 q2 q3 q4 ⊢; omega), (Eq.refl (fI (V 1) 1))⟩, rfl, hJ0⟩
          · skip
            refine aw_iload_n dX11_guess_57 rfl ?_
            refine aw_bipush (v := 12) dX11_guess_58 (by decide) ?_
            refine aw_icmp_gt (tgt := 79) dX11_guess_60 (by decide) (fun c_43 => ?_) (fun c_43 => ?_)
            · skip
              refine aw_iconst (v := (-1)) dX11_guess_79 (by decide) ?_
              refine aw_ireti dX11_guess_80 rfl (Nat.le_of_ble_eq_true rfl) (Nat.le_of_ble_eq_true rfl) ?_
              exact ⟨Or.inr ⟨(by have e0 : (0 : Int32).toInt = 0 := (by decide); have e1 : (1 : Int32).toInt = 1 := (by decide); have e2 : (2 : Int32).toInt = 2 := (by decide); have e12 : (12 : Int32).toInt = 12 := (by decide); have e15 : (15 : Int32).toInt = 15 := (by decide); have e16 : (16 : Int32).toInt = 16 := (by decide); have e20 : (20 : Int32).toInt = 20 := (by decide); have e24 : (24 : Int32).toInt = 24 := (by decide); have e35 : (35 : Int32).toInt = 35 := (by decide); have e36 : (36 : Int32).toInt = 36 := (by decide); have e100 : (100 : Int32).toInt = 100 := (by decide); have q0 := c_1; have q1 := c_2; have q2 := c_38; have q3 := c_41; have q4 := c_42; have q5 := c_43; simp only [cGu, ← Int32.toInt_inj, Int32.le_iff_toInt_le, Int32.lt_iff_toInt_lt] at q0 q1 q2 q3 q4 q5 ⊢; omega), (Eq.refl (fI (V 1) 1))⟩, rfl, hJ0⟩
            · skip
              refine aw_aload_n dX11_guess_63 rfl ?_
              obtain ⟨ek_44, x_44, y_44, e_44, hx_44, hy_44⟩ := JW.get hJ0 ct_0
              refine aw_get dX11_guess_64 fl_X11_12 e_44 (by omega) rfl ?_
              refine aw_iconst (v := 2) dX11_guess_67 (by decide) ?_
              refine aw_iload_n dX11_guess_68 rfl ?_
              refine aw_imul dX11_guess_69 ?_
              refine aw_iconst (v := 2) dX11_guess_70 (by decide) ?_
              refine aw_bipush (v := 24) dX11_guess_71 (by decide) ?_
              obtain ⟨ts_48, tn_48, tf_48, ta_48, e_48, hta_48⟩ := JW.get hJ0 ct_1
              refine aw_callVi (J' := jX10_holds) (As := [.int (2 * n0), .int 2, .int 24]) (st := []) dX11_guess_73 tb_267 ok_X10_holds ⟨_, e_48⟩ (by omega) rfl rfl (g_X10_holdsK l D b N V hN hJ0.1 (2 * n0) 2 24) rfl (Nat.le_of_ble_eq_true rfl) ⟨Nat.le_of_ble_eq_true rfl, Nat.le_of_ble_eq_true rfl, Nat.le_of_ble_eq_true rfl, Nat.le_of_ble_eq_true rfl⟩ (fun r_49 N_50 V_51 q_52 => ?_)
              obtain ⟨⟨z_47, h_46⟩, rfl, rfl⟩ := q_52
              refine aw_if_ne (tgt := 81) dX11_guess_76 (by decide) (fun c_53 => ?_) (fun c_53 => ?_)
              · skip
                refine aw_aload_n dX11_guess_81 rfl ?_
                refine aw_get dX11_guess_82 fl_X11_12 e_44 (by omega) rfl ?_
                refine aw_iconst (v := 2) dX11_guess_85 (by decide) ?_
                refine aw_iload_n dX11_guess_86 rfl ?_
                refine aw_imul dX11_guess_87 ?_
                refine aw_callVv (J' := jX10_take) (As := [.int (2 * n0)]) (st := []) dX11_guess_88 tb_271 ok_X10_take ⟨_, e_48⟩ (by omega) rfl rfl (g_X10_takeK l D b N V hN hJ0.1 (2 * n0)) rfl (Nat.le_of_ble_eq_true rfl) ⟨Nat.le_of_ble_eq_true rfl, Nat.le_of_ble_eq_true rfl, Nat.le_of_ble_eq_true rfl, Nat.le_of_ble_eq_true rfl⟩ (fun  N_58 V_57 q_59 => ?_)
                obtain ⟨h_55, rfl, q_54⟩ := q_59
                have j_56 := JW.trans hJ0 (JW.weak q_54 (Sub.cons LM0 (by decide) (by decide) (by decide) (Or.inr ⟨by decide, by decide⟩) (Sub.cons (LMs LM0) (by decide) (by decide) (by decide) (Or.inr ⟨by decide, by decide⟩) (Sub.cons (LMs (LMs LM0)) (by decide) (by decide) (by decide) (Or.inr ⟨by decide, by decide⟩) (Sub.cons (LMs (LMs (LMs LM0))) (by decide) (by decide) (by decide) (Or.inr ⟨by decide, by decide⟩) Sub.nil)))))
                refine aw_aload_n dX11_guess_91 rfl ?_
                obtain ⟨ek_60, x_60, y_60, e_60, hx_60, hy_60⟩ := JW.get j_56 ct_0
                refine aw_get dX11_guess_92 fl_X11_12 e_60 (by omega) rfl ?_
                refine aw_aload_n dX11_guess_95 rfl ?_
                refine aw_get dX11_guess_96 fl_X11_19 e_60 (by omega) rfl ?_
                refine aw_iload_n dX11_guess_99 rfl ?_
                refine aw_callSi (J' := jX3_triesFit) (As := [.ref (b + 1), .ref (b + 3), .int n0]) (st := []) dX11_guess_100 tb_922 ok_X3_triesFit rfl (g_X3_triesFit l D b N V_57 hN j_56.1 3 cA_3 n0) rfl (Nat.le_of_ble_eq_true rfl) ⟨Nat.le_of_ble_eq_true rfl, Nat.le_of_ble_eq_true rfl, Nat.le_of_ble_eq_true rfl, Nat.le_of_ble_eq_true rfl⟩ (fun r_63 N_64 V_65 q_66 => ?_)
                obtain ⟨h_62, rfl, rfl⟩ := q_66
                refine aw_if_ne (tgt := 109) dX11_guess_103 (by decide) (fun c_67 => ?_) (fun c_67 => ?_)
                · skip
                  refine aw_iload_n dX11_guess_109 rfl ?_
                  refine aw_bipush (v := 100) dX11_guess_110 (by decide) ?_
                  refine aw_icmp_ne (tgt := 128) dX11_guess_112 (by decide) (fun c_68 => ?_) (fun c_68 => ?_)
                  · first | exact absurd c_68 c_41 | exact absurd c_41 c_68 | exact absurd c_68 (Int32.not_lt.mpr c_41) | exact absurd c_41 (Int32.not_lt.mpr c_68) | exact c_41 (Int32.not_lt.mp c_68) | exact c_41 (Int32.not_le.mp c_68)
                  refine aw_aload_n dX11_guess_115 rfl ?_
                  refine aw_get dX11_guess_116 fl_X11_12 e_60 (by omega) rfl ?_
                  refine aw_aload_n dX11_guess_119 rfl ?_
                  refine aw_get dX11_guess_120 fl_X11_19 e_60 (by omega) rfl ?_
                  refine aw_iload_n dX11_guess_123 rfl ?_
                  refine aw_callSi (J' := jX3_possibleFears) (As := [.ref (b + 1), .ref (b + 3), .int n0]) (st := []) dX11_guess_124 tb_930 ok_X3_possibleFears rfl (g_X3_possibleFears l D b N V_57 hN j_56.1 3 cA_3 n0) rfl (Nat.le_of_ble_eq_true rfl) ⟨Nat.le_of_ble_eq_true rfl, Nat.le_of_ble_eq_true rfl, Nat.le_of_ble_eq_true rfl, Nat.le_of_ble_eq_true rfl⟩ (fun r_70 N_71 V_72 q_73 => ?_)
                  obtain ⟨rfl, rfl⟩ := q_73
                  refine aw_ireti dX11_guess_127 rfl (Nat.le_of_ble_eq_true rfl) (Nat.le_of_ble_eq_true rfl) ?_
                  exact ⟨Or.inl ⟨(by have t2 := two_n (by first | exact Int32.not_lt.mp c_42 | exact c_42) (by first | exact Int32.not_lt.mp c_43 | exact c_43); have e0 : (0 : Int32).toInt = 0 := (by decide); have e1 : (1 : Int32).toInt = 1 := (by decide); have e2 : (2 : Int32).toInt = 2 := (by decide); have e12 : (12 : Int32).toInt = 12 := (by decide); have e15 : (15 : Int32).toInt = 15 := (by decide); have e16 : (16 : Int32).toInt = 16 := (by decide); have e20 : (20 : Int32).toInt = 20 := (by decide); have e24 : (24 : Int32).toInt = 24 := (by decide); have e35 : (35 : Int32).toInt = 35 := (by decide); have e36 : (36 : Int32).toInt = 36 := (by decide); have e100 : (100 : Int32).toInt = 100 := (by decide); have q0 := c_1; have q1 := c_2; have q2 := c_38; have q3 := c_41; have q4 := c_42; have q5 := c_43; have q6 := c_53; have q7 := c_68; have q8 := h_46; simp only [cGu, ← Int32.toInt_inj, Int32.le_iff_toInt_le, Int32.lt_iff_toInt_lt] at q0 q1 q2 q3 q4 q5 q6 q7 q8 ⊢; omega), h_55⟩, rfl, j_56⟩
                · skip
                  refine aw_bipush (v := (-3)) dX11_guess_106 (by decide) ?_
                  refine aw_ireti dX11_guess_108 rfl (Nat.le_of_ble_eq_true rfl) (Nat.le_of_ble_eq_true rfl) ?_
                  exact ⟨Or.inl ⟨(by have t2 := two_n (by first | exact Int32.not_lt.mp c_42 | exact c_42) (by first | exact Int32.not_lt.mp c_43 | exact c_43); have e0 : (0 : Int32).toInt = 0 := (by decide); have e1 : (1 : Int32).toInt = 1 := (by decide); have e2 : (2 : Int32).toInt = 2 := (by decide); have e12 : (12 : Int32).toInt = 12 := (by decide); have e15 : (15 : Int32).toInt = 15 := (by decide); have e16 : (16 : Int32).toInt = 16 := (by decide); have e20 : (20 : Int32).toInt = 20 := (by decide); have e24 : (24 : Int32).toInt = 24 := (by decide); have e35 : (35 : Int32).toInt = 35 := (by decide); have e36 : (36 : Int32).toInt = 36 := (by decide); have e100 : (100 : Int32).toInt = 100 := (by decide); have q0 := c_1; have q1 := c_2; have q2 := c_38; have q3 := c_41; have q4 := c_42; have q5 := c_43; have q6 := c_53; have q7 := h_46; simp only [cGu, ← Int32.toInt_inj, Int32.le_iff_toInt_le, Int32.lt_iff_toInt_lt] at q0 q1 q2 q3 q4 q5 q6 q7 ⊢; omega), h_55⟩, rfl, j_56⟩
              · skip
                refine aw_iconst (v := (-1)) dX11_guess_79 (by decide) ?_
                refine aw_ireti dX11_guess_80 rfl (Nat.le_of_ble_eq_true rfl) (Nat.le_of_ble_eq_true rfl) ?_
                exact ⟨Or.inr ⟨(by have t2 := two_n (by first | exact Int32.not_lt.mp c_42 | exact c_42) (by first | exact Int32.not_lt.mp c_43 | exact c_43); have e0 : (0 : Int32).toInt = 0 := (by decide); have e1 : (1 : Int32).toInt = 1 := (by decide); have e2 : (2 : Int32).toInt = 2 := (by decide); have e12 : (12 : Int32).toInt = 12 := (by decide); have e15 : (15 : Int32).toInt = 15 := (by decide); have e16 : (16 : Int32).toInt = 16 := (by decide); have e20 : (20 : Int32).toInt = 20 := (by decide); have e24 : (24 : Int32).toInt = 24 := (by decide); have e35 : (35 : Int32).toInt = 35 := (by decide); have e36 : (36 : Int32).toInt = 36 := (by decide); have e100 : (100 : Int32).toInt = 100 := (by decide); have q0 := c_1; have q1 := c_2; have q2 := c_38; have q3 := c_41; have q4 := c_42; have q5 := c_43; have q6 := c_53; have q7 := h_46; simp only [cGu, ← Int32.toInt_inj, Int32.le_iff_toInt_le, Int32.lt_iff_toInt_lt] at q0 q1 q2 q3 q4 q5 q6 q7 ⊢; omega), (Eq.refl (fI (V 1) 1))⟩, rfl, hJ0⟩
        · skip
          refine aw_iconst (v := (-1)) dX11_guess_50 (by decide) ?_
          refine aw_ireti dX11_guess_51 rfl (Nat.le_of_ble_eq_true rfl) (Nat.le_of_ble_eq_true rfl) ?_
          exact ⟨Or.inr ⟨(by have e0 : (0 : Int32).toInt = 0 := (by decide); have e1 : (1 : Int32).toInt = 1 := (by decide); have e2 : (2 : Int32).toInt = 2 := (by decide); have e12 : (12 : Int32).toInt = 12 := (by decide); have e15 : (15 : Int32).toInt = 15 := (by decide); have e16 : (16 : Int32).toInt = 16 := (by decide); have e20 : (20 : Int32).toInt = 20 := (by decide); have e24 : (24 : Int32).toInt = 24 := (by decide); have e35 : (35 : Int32).toInt = 35 := (by decide); have e36 : (36 : Int32).toInt = 36 := (by decide); have e100 : (100 : Int32).toInt = 100 := (by decide); have q0 := c_1; have q1 := c_2; have q2 := c_38; have q3 := c_41; simp only [cGu, ← Int32.toInt_inj, Int32.le_iff_toInt_le, Int32.lt_iff_toInt_lt] at q0 q1 q2 q3 ⊢; omega), (Eq.refl (fI (V 1) 1))⟩, rfl, hJ0⟩
      · skip
        refine aw_iconst (v := 1) dX11_guess_28 (by decide) ?_
        refine aw_goto (tgt := 33) dX11_guess_29 (by decide) ?_
        refine aw_istore (ls' := [some (.ref (b + 0)), some (.int n0), some (.int n1), some (.int 0), some (.int 1), none, none, none]) dX11_guess_33 (Nat.le_of_ble_eq_true rfl) rfl ?_
        refine aw_iload_n dX11_guess_35 rfl ?_
        refine aw_if_ne (tgt := 52) dX11_guess_36 (by decide) (fun c_74 => ?_) (fun c_74 => ?_)
        · exact absurd rfl c_74
        refine aw_iload dX11_guess_39 rfl ?_
        refine aw_if_ne (tgt := 52) dX11_guess_41 (by decide) (fun c_75 => ?_) (fun c_75 => ?_)
        rotate_left
        · exact absurd c_75 (by decide)
        refine aw_iload_n dX11_guess_52 rfl ?_
        refine aw_iconst (v := 1) dX11_guess_53 (by decide) ?_
        refine aw_icmp_lt (tgt := 79) dX11_guess_54 (by decide) (fun c_76 => ?_) (fun c_76 => ?_)
        · skip
          refine aw_iconst (v := (-1)) dX11_guess_79 (by decide) ?_
          refine aw_ireti dX11_guess_80 rfl (Nat.le_of_ble_eq_true rfl) (Nat.le_of_ble_eq_true rfl) ?_
          exact ⟨Or.inr ⟨(by have e0 : (0 : Int32).toInt = 0 := (by decide); have e1 : (1 : Int32).toInt = 1 := (by decide); have e2 : (2 : Int32).toInt = 2 := (by decide); have e12 : (12 : Int32).toInt = 12 := (by decide); have e15 : (15 : Int32).toInt = 15 := (by decide); have e16 : (16 : Int32).toInt = 16 := (by decide); have e20 : (20 : Int32).toInt = 20 := (by decide); have e24 : (24 : Int32).toInt = 24 := (by decide); have e35 : (35 : Int32).toInt = 35 := (by decide); have e36 : (36 : Int32).toInt = 36 := (by decide); have e100 : (100 : Int32).toInt = 100 := (by decide); have q0 := c_1; have q1 := c_2; have q2 := c_38; have q3 := c_76; simp only [cGu, ← Int32.toInt_inj, Int32.le_iff_toInt_le, Int32.lt_iff_toInt_lt] at q0 q1 q2 q3 ⊢; omega), (Eq.refl (fI (V 1) 1))⟩, rfl, hJ0⟩
        · skip
          refine aw_iload_n dX11_guess_57 rfl ?_
          refine aw_bipush (v := 12) dX11_guess_58 (by decide) ?_
          refine aw_icmp_gt (tgt := 79) dX11_guess_60 (by decide) (fun c_77 => ?_) (fun c_77 => ?_)
          · skip
            refine aw_iconst (v := (-1)) dX11_guess_79 (by decide) ?_
            refine aw_ireti dX11_guess_80 rfl (Nat.le_of_ble_eq_true rfl) (Nat.le_of_ble_eq_true rfl) ?_
            exact ⟨Or.inr ⟨(by have e0 : (0 : Int32).toInt = 0 := (by decide); have e1 : (1 : Int32).toInt = 1 := (by decide); have e2 : (2 : Int32).toInt = 2 := (by decide); have e12 : (12 : Int32).toInt = 12 := (by decide); have e15 : (15 : Int32).toInt = 15 := (by decide); have e16 : (16 : Int32).toInt = 16 := (by decide); have e20 : (20 : Int32).toInt = 20 := (by decide); have e24 : (24 : Int32).toInt = 24 := (by decide); have e35 : (35 : Int32).toInt = 35 := (by decide); have e36 : (36 : Int32).toInt = 36 := (by decide); have e100 : (100 : Int32).toInt = 100 := (by decide); have q0 := c_1; have q1 := c_2; have q2 := c_38; have q3 := c_76; have q4 := c_77; simp only [cGu, ← Int32.toInt_inj, Int32.le_iff_toInt_le, Int32.lt_iff_toInt_lt] at q0 q1 q2 q3 q4 ⊢; omega), (Eq.refl (fI (V 1) 1))⟩, rfl, hJ0⟩
          · skip
            refine aw_aload_n dX11_guess_63 rfl ?_
            obtain ⟨ek_78, x_78, y_78, e_78, hx_78, hy_78⟩ := JW.get hJ0 ct_0
            refine aw_get dX11_guess_64 fl_X11_12 e_78 (by omega) rfl ?_
            refine aw_iconst (v := 2) dX11_guess_67 (by decide) ?_
            refine aw_iload_n dX11_guess_68 rfl ?_
            refine aw_imul dX11_guess_69 ?_
            refine aw_iconst (v := 2) dX11_guess_70 (by decide) ?_
            refine aw_bipush (v := 24) dX11_guess_71 (by decide) ?_
            obtain ⟨ts_82, tn_82, tf_82, ta_82, e_82, hta_82⟩ := JW.get hJ0 ct_1
            refine aw_callVi (J' := jX10_holds) (As := [.int (2 * n0), .int 2, .int 24]) (st := []) dX11_guess_73 tb_267 ok_X10_holds ⟨_, e_82⟩ (by omega) rfl rfl (g_X10_holdsK l D b N V hN hJ0.1 (2 * n0) 2 24) rfl (Nat.le_of_ble_eq_true rfl) ⟨Nat.le_of_ble_eq_true rfl, Nat.le_of_ble_eq_true rfl, Nat.le_of_ble_eq_true rfl, Nat.le_of_ble_eq_true rfl⟩ (fun r_83 N_84 V_85 q_86 => ?_)
            obtain ⟨⟨z_81, h_80⟩, rfl, rfl⟩ := q_86
            refine aw_if_ne (tgt := 81) dX11_guess_76 (by decide) (fun c_87 => ?_) (fun c_87 => ?_)
            · skip
              refine aw_aload_n dX11_guess_81 rfl ?_
              refine aw_get dX11_guess_82 fl_X11_12 e_78 (by omega) rfl ?_
              refine aw_iconst (v := 2) dX11_guess_85 (by decide) ?_
              refine aw_iload_n dX11_guess_86 rfl ?_
              refine aw_imul dX11_guess_87 ?_
              refine aw_callVv (J' := jX10_take) (As := [.int (2 * n0)]) (st := []) dX11_guess_88 tb_271 ok_X10_take ⟨_, e_82⟩ (by omega) rfl rfl (g_X10_takeK l D b N V hN hJ0.1 (2 * n0)) rfl (Nat.le_of_ble_eq_true rfl) ⟨Nat.le_of_ble_eq_true rfl, Nat.le_of_ble_eq_true rfl, Nat.le_of_ble_eq_true rfl, Nat.le_of_ble_eq_true rfl⟩ (fun  N_92 V_91 q_93 => ?_)
              obtain ⟨h_89, rfl, q_88⟩ := q_93
              have j_90 := JW.trans hJ0 (JW.weak q_88 (Sub.cons LM0 (by decide) (by decide) (by decide) (Or.inr ⟨by decide, by decide⟩) (Sub.cons (LMs LM0) (by decide) (by decide) (by decide) (Or.inr ⟨by decide, by decide⟩) (Sub.cons (LMs (LMs LM0)) (by decide) (by decide) (by decide) (Or.inr ⟨by decide, by decide⟩) (Sub.cons (LMs (LMs (LMs LM0))) (by decide) (by decide) (by decide) (Or.inr ⟨by decide, by decide⟩) Sub.nil)))))
              refine aw_aload_n dX11_guess_91 rfl ?_
              obtain ⟨ek_94, x_94, y_94, e_94, hx_94, hy_94⟩ := JW.get j_90 ct_0
              refine aw_get dX11_guess_92 fl_X11_12 e_94 (by omega) rfl ?_
              refine aw_aload_n dX11_guess_95 rfl ?_
              refine aw_get dX11_guess_96 fl_X11_19 e_94 (by omega) rfl ?_
              refine aw_iload_n dX11_guess_99 rfl ?_
              refine aw_callSi (J' := jX3_triesFit) (As := [.ref (b + 1), .ref (b + 3), .int n0]) (st := []) dX11_guess_100 tb_922 ok_X3_triesFit rfl (g_X3_triesFit l D b N V_91 hN j_90.1 3 cA_3 n0) rfl (Nat.le_of_ble_eq_true rfl) ⟨Nat.le_of_ble_eq_true rfl, Nat.le_of_ble_eq_true rfl, Nat.le_of_ble_eq_true rfl, Nat.le_of_ble_eq_true rfl⟩ (fun r_97 N_98 V_99 q_100 => ?_)
              obtain ⟨h_96, rfl, rfl⟩ := q_100
              refine aw_if_ne (tgt := 109) dX11_guess_103 (by decide) (fun c_101 => ?_) (fun c_101 => ?_)
              · skip
                refine aw_iload_n dX11_guess_109 rfl ?_
                refine aw_bipush (v := 100) dX11_guess_110 (by decide) ?_
                refine aw_icmp_ne (tgt := 128) dX11_guess_112 (by decide) (fun c_102 => ?_) (fun c_102 => ?_)
                · skip
                  refine aw_iload_n dX11_guess_128 rfl ?_
                  refine aw_if_eq (tgt := 136) dX11_guess_129 (by decide) (fun c_103 => ?_) (fun c_103 => ?_)
                  rotate_left
                  · exact absurd (by decide) c_103
                  refine aw_iload_n dX11_guess_136 rfl ?_
                  refine aw_bipush (v := 20) dX11_guess_137 (by decide) ?_
                  refine aw_isub dX11_guess_139 ?_
                  refine aw_istore (ls' := [some (.ref (b + 0)), some (.int n0), some (.int n1), some (.int 0), some (.int 1), some (.int (n1 - 20)), none, none]) dX11_guess_140 (Nat.le_of_ble_eq_true rfl) rfl ?_
                  refine aw_aload_n dX11_guess_142 rfl ?_
                  refine aw_get dX11_guess_143 fl_X11_12 e_94 (by omega) rfl ?_
                  refine aw_aload_n dX11_guess_146 rfl ?_
                  refine aw_get dX11_guess_147 fl_X11_19 e_94 (by omega) rfl ?_
                  refine aw_iload_n dX11_guess_150 rfl ?_
                  refine aw_iload dX11_guess_151 rfl ?_
                  refine aw_callSi (J' := jX3_leastStrength) (As := [.ref (b + 1), .ref (b + 3), .int n0, .int (n1 - 20)]) (st := []) dX11_guess_153 tb_940 ok_X3_leastStrength rfl (g_X3_leastStrength l D b N V_91 hN j_90.1 3 cA_3 n0 (n1 - 20)) rfl (Nat.le_of_ble_eq_true rfl) ⟨Nat.le_of_ble_eq_true rfl, Nat.le_of_ble_eq_true rfl, Nat.le_of_ble_eq_true rfl, Nat.le_of_ble_eq_true rfl⟩ (fun r_105 N_106 V_107 q_108 => ?_)
                  obtain ⟨rfl, rfl⟩ := q_108
                  refine aw_istore (ls' := [some (.ref (b + 0)), some (.int n0), some (.int n1), some (.int 0), some (.int 1), some (.int (n1 - 20)), some (.int r_105), none]) dX11_guess_156 (Nat.le_of_ble_eq_true rfl) rfl ?_
                  refine aw_aload_n dX11_guess_158 rfl ?_
                  refine aw_get dX11_guess_159 fl_X11_12 e_94 (by omega) rfl ?_
                  refine aw_aload_n dX11_guess_162 rfl ?_
                  refine aw_get dX11_guess_163 fl_X11_19 e_94 (by omega) rfl ?_
                  refine aw_iload_n dX11_guess_166 rfl ?_
                  refine aw_iload dX11_guess_167 rfl ?_
                  refine aw_callSi (J' := jX3_greatestStrength) (As := [.ref (b + 1), .ref (b + 3), .int n0, .int (n1 - 20)]) (st := []) dX11_guess_169 tb_941 ok_X3_greatestStrength rfl (g_X3_greatestStrength l D b N V_91 hN j_90.1 3 cA_3 n0 (n1 - 20)) rfl (Nat.le_of_ble_eq_true rfl) ⟨Nat.le_of_ble_eq_true rfl, Nat.le_of_ble_eq_true rfl, Nat.le_of_ble_eq_true rfl, Nat.le_of_ble_eq_true rfl⟩ (fun r_110 N_111 V_112 q_113 => ?_)
                  obtain ⟨rfl, rfl⟩ := q_113
                  refine aw_istore (ls' := [some (.ref (b + 0)), some (.int n0), some (.int n1), some (.int 0), some (.int 1), some (.int (n1 - 20)), some (.int r_105), some (.int r_110)]) dX11_guess_172 (Nat.le_of_ble_eq_true rfl) rfl ?_
                  refine aw_iload dX11_guess_174 rfl ?_
                  refine aw_iload dX11_guess_176 rfl ?_
                  refine aw_icmp_le (tgt := 184) dX11_guess_178 (by decide) (fun c_114 => ?_) (fun c_114 => ?_)
                  · skip
                    refine aw_iload_n dX11_guess_184 rfl ?_
                    refine aw_if_eq (tgt := 193) dX11_guess_185 (by decide) (fun c_115 => ?_) (fun c_115 => ?_)
                    rotate_left
                    · exact absurd (by decide) c_115
                    refine aw_iload dX11_guess_193 rfl ?_
                    refine aw_ireti dX11_guess_195 rfl (Nat.le_of_ble_eq_true rfl) (Nat.le_of_ble_eq_true rfl) ?_
                    exact ⟨Or.inl ⟨(by have t2 := two_n (by first | exact Int32.not_lt.mp c_76 | exact c_76) (by first | exact Int32.not_lt.mp c_77 | exact c_77); have e0 : (0 : Int32).toInt = 0 := (by decide); have e1 : (1 : Int32).toInt = 1 := (by decide); have e2 : (2 : Int32).toInt = 2 := (by decide); have e12 : (12 : Int32).toInt = 12 := (by decide); have e15 : (15 : Int32).toInt = 15 := (by decide); have e16 : (16 : Int32).toInt = 16 := (by decide); have e20 : (20 : Int32).toInt = 20 := (by decide); have e24 : (24 : Int32).toInt = 24 := (by decide); have e35 : (35 : Int32).toInt = 35 := (by decide); have e36 : (36 : Int32).toInt = 36 := (by decide); have e100 : (100 : Int32).toInt = 100 := (by decide); have q0 := c_1; have q1 := c_2; have q2 := c_38; have q3 := c_76; have q4 := c_77; have q5 := c_87; have q6 := c_102; have q7 := h_80; simp only [cGu, ← Int32.toInt_inj, Int32.le_iff_toInt_le, Int32.lt_iff_toInt_lt] at q0 q1 q2 q3 q4 q5 q6 q7 ⊢; omega), h_89⟩, rfl, j_90⟩
                  · skip
                    refine aw_bipush (v := (-2)) dX11_guess_181 (by decide) ?_
                    refine aw_ireti dX11_guess_183 rfl (Nat.le_of_ble_eq_true rfl) (Nat.le_of_ble_eq_true rfl) ?_
                    exact ⟨Or.inl ⟨(by have t2 := two_n (by first | exact Int32.not_lt.mp c_76 | exact c_76) (by first | exact Int32.not_lt.mp c_77 | exact c_77); have e0 : (0 : Int32).toInt = 0 := (by decide); have e1 : (1 : Int32).toInt = 1 := (by decide); have e2 : (2 : Int32).toInt = 2 := (by decide); have e12 : (12 : Int32).toInt = 12 := (by decide); have e15 : (15 : Int32).toInt = 15 := (by decide); have e16 : (16 : Int32).toInt = 16 := (by decide); have e20 : (20 : Int32).toInt = 20 := (by decide); have e24 : (24 : Int32).toInt = 24 := (by decide); have e35 : (35 : Int32).toInt = 35 := (by decide); have e36 : (36 : Int32).toInt = 36 := (by decide); have e100 : (100 : Int32).toInt = 100 := (by decide); have q0 := c_1; have q1 := c_2; have q2 := c_38; have q3 := c_76; have q4 := c_77; have q5 := c_87; have q6 := c_102; have q7 := h_80; simp only [cGu, ← Int32.toInt_inj, Int32.le_iff_toInt_le, Int32.lt_iff_toInt_lt] at q0 q1 q2 q3 q4 q5 q6 q7 ⊢; omega), h_89⟩, rfl, j_90⟩
                · skip
                  refine aw_aload_n dX11_guess_115 rfl ?_
                  refine aw_get dX11_guess_116 fl_X11_12 e_94 (by omega) rfl ?_
                  refine aw_aload_n dX11_guess_119 rfl ?_
                  refine aw_get dX11_guess_120 fl_X11_19 e_94 (by omega) rfl ?_
                  refine aw_iload_n dX11_guess_123 rfl ?_
                  refine aw_callSi (J' := jX3_possibleFears) (As := [.ref (b + 1), .ref (b + 3), .int n0]) (st := []) dX11_guess_124 tb_930 ok_X3_possibleFears rfl (g_X3_possibleFears l D b N V_91 hN j_90.1 3 cA_3 n0) rfl (Nat.le_of_ble_eq_true rfl) ⟨Nat.le_of_ble_eq_true rfl, Nat.le_of_ble_eq_true rfl, Nat.le_of_ble_eq_true rfl, Nat.le_of_ble_eq_true rfl⟩ (fun r_117 N_118 V_119 q_120 => ?_)
                  obtain ⟨rfl, rfl⟩ := q_120
                  refine aw_ireti dX11_guess_127 rfl (Nat.le_of_ble_eq_true rfl) (Nat.le_of_ble_eq_true rfl) ?_
                  exact ⟨Or.inl ⟨(by have t2 := two_n (by first | exact Int32.not_lt.mp c_76 | exact c_76) (by first | exact Int32.not_lt.mp c_77 | exact c_77); have e0 : (0 : Int32).toInt = 0 := (by decide); have e1 : (1 : Int32).toInt = 1 := (by decide); have e2 : (2 : Int32).toInt = 2 := (by decide); have e12 : (12 : Int32).toInt = 12 := (by decide); have e15 : (15 : Int32).toInt = 15 := (by decide); have e16 : (16 : Int32).toInt = 16 := (by decide); have e20 : (20 : Int32).toInt = 20 := (by decide); have e24 : (24 : Int32).toInt = 24 := (by decide); have e35 : (35 : Int32).toInt = 35 := (by decide); have e36 : (36 : Int32).toInt = 36 := (by decide); have e100 : (100 : Int32).toInt = 100 := (by decide); have q0 := c_1; have q1 := c_2; have q2 := c_38; have q3 := c_76; have q4 := c_77; have q5 := c_87; have q6 := c_102; have q7 := h_80; simp only [cGu, ← Int32.toInt_inj, Int32.le_iff_toInt_le, Int32.lt_iff_toInt_lt] at q0 q1 q2 q3 q4 q5 q6 q7 ⊢; omega), h_89⟩, rfl, j_90⟩
              · skip
                refine aw_bipush (v := (-3)) dX11_guess_106 (by decide) ?_
                refine aw_ireti dX11_guess_108 rfl (Nat.le_of_ble_eq_true rfl) (Nat.le_of_ble_eq_true rfl) ?_
                exact ⟨Or.inl ⟨(by have t2 := two_n (by first | exact Int32.not_lt.mp c_76 | exact c_76) (by first | exact Int32.not_lt.mp c_77 | exact c_77); have e0 : (0 : Int32).toInt = 0 := (by decide); have e1 : (1 : Int32).toInt = 1 := (by decide); have e2 : (2 : Int32).toInt = 2 := (by decide); have e12 : (12 : Int32).toInt = 12 := (by decide); have e15 : (15 : Int32).toInt = 15 := (by decide); have e16 : (16 : Int32).toInt = 16 := (by decide); have e20 : (20 : Int32).toInt = 20 := (by decide); have e24 : (24 : Int32).toInt = 24 := (by decide); have e35 : (35 : Int32).toInt = 35 := (by decide); have e36 : (36 : Int32).toInt = 36 := (by decide); have e100 : (100 : Int32).toInt = 100 := (by decide); have q0 := c_1; have q1 := c_2; have q2 := c_38; have q3 := c_76; have q4 := c_77; have q5 := c_87; have q6 := h_80; simp only [cGu, ← Int32.toInt_inj, Int32.le_iff_toInt_le, Int32.lt_iff_toInt_lt] at q0 q1 q2 q3 q4 q5 q6 ⊢; omega), h_89⟩, rfl, j_90⟩
            · skip
              refine aw_iconst (v := (-1)) dX11_guess_79 (by decide) ?_
              refine aw_ireti dX11_guess_80 rfl (Nat.le_of_ble_eq_true rfl) (Nat.le_of_ble_eq_true rfl) ?_
              exact ⟨Or.inr ⟨(by have t2 := two_n (by first | exact Int32.not_lt.mp c_76 | exact c_76) (by first | exact Int32.not_lt.mp c_77 | exact c_77); have e0 : (0 : Int32).toInt = 0 := (by decide); have e1 : (1 : Int32).toInt = 1 := (by decide); have e2 : (2 : Int32).toInt = 2 := (by decide); have e12 : (12 : Int32).toInt = 12 := (by decide); have e15 : (15 : Int32).toInt = 15 := (by decide); have e16 : (16 : Int32).toInt = 16 := (by decide); have e20 : (20 : Int32).toInt = 20 := (by decide); have e24 : (24 : Int32).toInt = 24 := (by decide); have e35 : (35 : Int32).toInt = 35 := (by decide); have e36 : (36 : Int32).toInt = 36 := (by decide); have e100 : (100 : Int32).toInt = 100 := (by decide); have q0 := c_1; have q1 := c_2; have q2 := c_38; have q3 := c_76; have q4 := c_77; have q5 := c_87; have q6 := h_80; simp only [cGu, ← Int32.toInt_inj, Int32.le_iff_toInt_le, Int32.lt_iff_toInt_lt] at q0 q1 q2 q3 q4 q5 q6 ⊢; omega), (Eq.refl (fI (V 1) 1))⟩, rfl, hJ0⟩
  · skip
    refine aw_iload_n dX11_guess_4 rfl ?_
    refine aw_bipush (v := 16) dX11_guess_5 (by decide) ?_
    refine aw_icmp_ge (tgt := 14) dX11_guess_7 (by decide) (fun c_121 => ?_) (fun c_121 => ?_)
    · skip
      refine aw_iconst (v := 0) dX11_guess_14 (by decide) ?_
      refine aw_istore_n (ls' := [some (.ref (b + 0)), some (.int n0), some (.int n1), some (.int 0), none, none, none, none]) dX11_guess_15 (Nat.le_of_ble_eq_true rfl) rfl ?_
      refine aw_iload_n dX11_guess_16 rfl ?_
      refine aw_bipush (v := 20) dX11_guess_17 (by decide) ?_
      refine aw_icmp_lt (tgt := 32) dX11_guess_19 (by decide) (fun c_122 => ?_) (fun c_122 => ?_)
      · skip
        refine aw_iconst (v := 0) dX11_guess_32 (by decide) ?_
        refine aw_istore (ls' := [some (.ref (b + 0)), some (.int n0), some (.int n1), some (.int 0), some (.int 0), none, none, none]) dX11_guess_33 (Nat.le_of_ble_eq_true rfl) rfl ?_
        refine aw_iload_n dX11_guess_35 rfl ?_
        refine aw_if_ne (tgt := 52) dX11_guess_36 (by decide) (fun c_123 => ?_) (fun c_123 => ?_)
        · exact absurd rfl c_123
        refine aw_iload dX11_guess_39 rfl ?_
        refine aw_if_ne (tgt := 52) dX11_guess_41 (by decide) (fun c_124 => ?_) (fun c_124 => ?_)
        · exact absurd rfl c_124
        refine aw_iload_n dX11_guess_44 rfl ?_
        refine aw_bipush (v := 100) dX11_guess_45 (by decide) ?_
        refine aw_icmp_eq (tgt := 52) dX11_guess_47 (by decide) (fun c_125 => ?_) (fun c_125 => ?_)
        · skip
          refine aw_iload_n dX11_guess_52 rfl ?_
          refine aw_iconst (v := 1) dX11_guess_53 (by decide) ?_
          refine aw_icmp_lt (tgt := 79) dX11_guess_54 (by decide) (fun c_126 => ?_) (fun c_126 => ?_)
          · skip
            refine aw_iconst (v := (-1)) dX11_guess_79 (by decide) ?_
            refine aw_ireti dX11_guess_80 rfl (Nat.le_of_ble_eq_true rfl) (Nat.le_of_ble_eq_true rfl) ?_
            exact ⟨Or.inr ⟨(by have e0 : (0 : Int32).toInt = 0 := (by decide); have e1 : (1 : Int32).toInt = 1 := (by decide); have e2 : (2 : Int32).toInt = 2 := (by decide); have e12 : (12 : Int32).toInt = 12 := (by decide); have e15 : (15 : Int32).toInt = 15 := (by decide); have e16 : (16 : Int32).toInt = 16 := (by decide); have e20 : (20 : Int32).toInt = 20 := (by decide); have e24 : (24 : Int32).toInt = 24 := (by decide); have e35 : (35 : Int32).toInt = 35 := (by decide); have e36 : (36 : Int32).toInt = 36 := (by decide); have e100 : (100 : Int32).toInt = 100 := (by decide); have q0 := c_1; have q1 := c_121; have q2 := c_122; have q3 := c_125; have q4 := c_126; simp only [cGu, ← Int32.toInt_inj, Int32.le_iff_toInt_le, Int32.lt_iff_toInt_lt] at q0 q1 q2 q3 q4 ⊢; omega), (Eq.refl (fI (V 1) 1))⟩, rfl, hJ0⟩
          · skip
            refine aw_iload_n dX11_guess_57 rfl ?_
            refine aw_bipush (v := 12) dX11_guess_58 (by decide) ?_
            refine aw_icmp_gt (tgt := 79) dX11_guess_60 (by decide) (fun c_127 => ?_) (fun c_127 => ?_)
            · skip
              refine aw_iconst (v := (-1)) dX11_guess_79 (by decide) ?_
              refine aw_ireti dX11_guess_80 rfl (Nat.le_of_ble_eq_true rfl) (Nat.le_of_ble_eq_true rfl) ?_
              exact ⟨Or.inr ⟨(by have e0 : (0 : Int32).toInt = 0 := (by decide); have e1 : (1 : Int32).toInt = 1 := (by decide); have e2 : (2 : Int32).toInt = 2 := (by decide); have e12 : (12 : Int32).toInt = 12 := (by decide); have e15 : (15 : Int32).toInt = 15 := (by decide); have e16 : (16 : Int32).toInt = 16 := (by decide); have e20 : (20 : Int32).toInt = 20 := (by decide); have e24 : (24 : Int32).toInt = 24 := (by decide); have e35 : (35 : Int32).toInt = 35 := (by decide); have e36 : (36 : Int32).toInt = 36 := (by decide); have e100 : (100 : Int32).toInt = 100 := (by decide); have q0 := c_1; have q1 := c_121; have q2 := c_122; have q3 := c_125; have q4 := c_126; have q5 := c_127; simp only [cGu, ← Int32.toInt_inj, Int32.le_iff_toInt_le, Int32.lt_iff_toInt_lt] at q0 q1 q2 q3 q4 q5 ⊢; omega), (Eq.refl (fI (V 1) 1))⟩, rfl, hJ0⟩
            · skip
              refine aw_aload_n dX11_guess_63 rfl ?_
              obtain ⟨ek_128, x_128, y_128, e_128, hx_128, hy_128⟩ := JW.get hJ0 ct_0
              refine aw_get dX11_guess_64 fl_X11_12 e_128 (by omega) rfl ?_
              refine aw_iconst (v := 2) dX11_guess_67 (by decide) ?_
              refine aw_iload_n dX11_guess_68 rfl ?_
              refine aw_imul dX11_guess_69 ?_
              refine aw_iconst (v := 2) dX11_guess_70 (by decide) ?_
              refine aw_bipush (v := 24) dX11_guess_71 (by decide) ?_
              obtain ⟨ts_132, tn_132, tf_132, ta_132, e_132, hta_132⟩ := JW.get hJ0 ct_1
              refine aw_callVi (J' := jX10_holds) (As := [.int (2 * n0), .int 2, .int 24]) (st := []) dX11_guess_73 tb_267 ok_X10_holds ⟨_, e_132⟩ (by omega) rfl rfl (g_X10_holdsK l D b N V hN hJ0.1 (2 * n0) 2 24) rfl (Nat.le_of_ble_eq_true rfl) ⟨Nat.le_of_ble_eq_true rfl, Nat.le_of_ble_eq_true rfl, Nat.le_of_ble_eq_true rfl, Nat.le_of_ble_eq_true rfl⟩ (fun r_133 N_134 V_135 q_136 => ?_)
              obtain ⟨⟨z_131, h_130⟩, rfl, rfl⟩ := q_136
              refine aw_if_ne (tgt := 81) dX11_guess_76 (by decide) (fun c_137 => ?_) (fun c_137 => ?_)
              · skip
                refine aw_aload_n dX11_guess_81 rfl ?_
                refine aw_get dX11_guess_82 fl_X11_12 e_128 (by omega) rfl ?_
                refine aw_iconst (v := 2) dX11_guess_85 (by decide) ?_
                refine aw_iload_n dX11_guess_86 rfl ?_
                refine aw_imul dX11_guess_87 ?_
                refine aw_callVv (J' := jX10_take) (As := [.int (2 * n0)]) (st := []) dX11_guess_88 tb_271 ok_X10_take ⟨_, e_132⟩ (by omega) rfl rfl (g_X10_takeK l D b N V hN hJ0.1 (2 * n0)) rfl (Nat.le_of_ble_eq_true rfl) ⟨Nat.le_of_ble_eq_true rfl, Nat.le_of_ble_eq_true rfl, Nat.le_of_ble_eq_true rfl, Nat.le_of_ble_eq_true rfl⟩ (fun  N_142 V_141 q_143 => ?_)
                obtain ⟨h_139, rfl, q_138⟩ := q_143
                have j_140 := JW.trans hJ0 (JW.weak q_138 (Sub.cons LM0 (by decide) (by decide) (by decide) (Or.inr ⟨by decide, by decide⟩) (Sub.cons (LMs LM0) (by decide) (by decide) (by decide) (Or.inr ⟨by decide, by decide⟩) (Sub.cons (LMs (LMs LM0)) (by decide) (by decide) (by decide) (Or.inr ⟨by decide, by decide⟩) (Sub.cons (LMs (LMs (LMs LM0))) (by decide) (by decide) (by decide) (Or.inr ⟨by decide, by decide⟩) Sub.nil)))))
                refine aw_aload_n dX11_guess_91 rfl ?_
                obtain ⟨ek_144, x_144, y_144, e_144, hx_144, hy_144⟩ := JW.get j_140 ct_0
                refine aw_get dX11_guess_92 fl_X11_12 e_144 (by omega) rfl ?_
                refine aw_aload_n dX11_guess_95 rfl ?_
                refine aw_get dX11_guess_96 fl_X11_19 e_144 (by omega) rfl ?_
                refine aw_iload_n dX11_guess_99 rfl ?_
                refine aw_callSi (J' := jX3_triesFit) (As := [.ref (b + 1), .ref (b + 3), .int n0]) (st := []) dX11_guess_100 tb_922 ok_X3_triesFit rfl (g_X3_triesFit l D b N V_141 hN j_140.1 3 cA_3 n0) rfl (Nat.le_of_ble_eq_true rfl) ⟨Nat.le_of_ble_eq_true rfl, Nat.le_of_ble_eq_true rfl, Nat.le_of_ble_eq_true rfl, Nat.le_of_ble_eq_true rfl⟩ (fun r_147 N_148 V_149 q_150 => ?_)
                obtain ⟨h_146, rfl, rfl⟩ := q_150
                refine aw_if_ne (tgt := 109) dX11_guess_103 (by decide) (fun c_151 => ?_) (fun c_151 => ?_)
                · skip
                  refine aw_iload_n dX11_guess_109 rfl ?_
                  refine aw_bipush (v := 100) dX11_guess_110 (by decide) ?_
                  refine aw_icmp_ne (tgt := 128) dX11_guess_112 (by decide) (fun c_152 => ?_) (fun c_152 => ?_)
                  · first | exact absurd c_152 c_125 | exact absurd c_125 c_152 | exact absurd c_152 (Int32.not_lt.mpr c_125) | exact absurd c_125 (Int32.not_lt.mpr c_152) | exact c_125 (Int32.not_lt.mp c_152) | exact c_125 (Int32.not_le.mp c_152)
                  refine aw_aload_n dX11_guess_115 rfl ?_
                  refine aw_get dX11_guess_116 fl_X11_12 e_144 (by omega) rfl ?_
                  refine aw_aload_n dX11_guess_119 rfl ?_
                  refine aw_get dX11_guess_120 fl_X11_19 e_144 (by omega) rfl ?_
                  refine aw_iload_n dX11_guess_123 rfl ?_
                  refine aw_callSi (J' := jX3_possibleFears) (As := [.ref (b + 1), .ref (b + 3), .int n0]) (st := []) dX11_guess_124 tb_930 ok_X3_possibleFears rfl (g_X3_possibleFears l D b N V_141 hN j_140.1 3 cA_3 n0) rfl (Nat.le_of_ble_eq_true rfl) ⟨Nat.le_of_ble_eq_true rfl, Nat.le_of_ble_eq_true rfl, Nat.le_of_ble_eq_true rfl, Nat.le_of_ble_eq_true rfl⟩ (fun r_154 N_155 V_156 q_157 => ?_)
                  obtain ⟨rfl, rfl⟩ := q_157
                  refine aw_ireti dX11_guess_127 rfl (Nat.le_of_ble_eq_true rfl) (Nat.le_of_ble_eq_true rfl) ?_
                  exact ⟨Or.inl ⟨(by have t2 := two_n (by first | exact Int32.not_lt.mp c_126 | exact c_126) (by first | exact Int32.not_lt.mp c_127 | exact c_127); have e0 : (0 : Int32).toInt = 0 := (by decide); have e1 : (1 : Int32).toInt = 1 := (by decide); have e2 : (2 : Int32).toInt = 2 := (by decide); have e12 : (12 : Int32).toInt = 12 := (by decide); have e15 : (15 : Int32).toInt = 15 := (by decide); have e16 : (16 : Int32).toInt = 16 := (by decide); have e20 : (20 : Int32).toInt = 20 := (by decide); have e24 : (24 : Int32).toInt = 24 := (by decide); have e35 : (35 : Int32).toInt = 35 := (by decide); have e36 : (36 : Int32).toInt = 36 := (by decide); have e100 : (100 : Int32).toInt = 100 := (by decide); have q0 := c_1; have q1 := c_121; have q2 := c_122; have q3 := c_125; have q4 := c_126; have q5 := c_127; have q6 := c_137; have q7 := c_152; have q8 := h_130; simp only [cGu, ← Int32.toInt_inj, Int32.le_iff_toInt_le, Int32.lt_iff_toInt_lt] at q0 q1 q2 q3 q4 q5 q6 q7 q8 ⊢; omega), h_139⟩, rfl, j_140⟩
                · skip
                  refine aw_bipush (v := (-3)) dX11_guess_106 (by decide) ?_
                  refine aw_ireti dX11_guess_108 rfl (Nat.le_of_ble_eq_true rfl) (Nat.le_of_ble_eq_true rfl) ?_
                  exact ⟨Or.inl ⟨(by have t2 := two_n (by first | exact Int32.not_lt.mp c_126 | exact c_126) (by first | exact Int32.not_lt.mp c_127 | exact c_127); have e0 : (0 : Int32).toInt = 0 := (by decide); have e1 : (1 : Int32).toInt = 1 := (by decide); have e2 : (2 : Int32).toInt = 2 := (by decide); have e12 : (12 : Int32).toInt = 12 := (by decide); have e15 : (15 : Int32).toInt = 15 := (by decide); have e16 : (16 : Int32).toInt = 16 := (by decide); have e20 : (20 : Int32).toInt = 20 := (by decide); have e24 : (24 : Int32).toInt = 24 := (by decide); have e35 : (35 : Int32).toInt = 35 := (by decide); have e36 : (36 : Int32).toInt = 36 := (by decide); have e100 : (100 : Int32).toInt = 100 := (by decide); have q0 := c_1; have q1 := c_121; have q2 := c_122; have q3 := c_125; have q4 := c_126; have q5 := c_127; have q6 := c_137; have q7 := h_130; simp only [cGu, ← Int32.toInt_inj, Int32.le_iff_toInt_le, Int32.lt_iff_toInt_lt] at q0 q1 q2 q3 q4 q5 q6 q7 ⊢; omega), h_139⟩, rfl, j_140⟩
              · skip
                refine aw_iconst (v := (-1)) dX11_guess_79 (by decide) ?_
                refine aw_ireti dX11_guess_80 rfl (Nat.le_of_ble_eq_true rfl) (Nat.le_of_ble_eq_true rfl) ?_
                exact ⟨Or.inr ⟨(by have t2 := two_n (by first | exact Int32.not_lt.mp c_126 | exact c_126) (by first | exact Int32.not_lt.mp c_127 | exact c_127); have e0 : (0 : Int32).toInt = 0 := (by decide); have e1 : (1 : Int32).toInt = 1 := (by decide); have e2 : (2 : Int32).toInt = 2 := (by decide); have e12 : (12 : Int32).toInt = 12 := (by decide); have e15 : (15 : Int32).toInt = 15 := (by decide); have e16 : (16 : Int32).toInt = 16 := (by decide); have e20 : (20 : Int32).toInt = 20 := (by decide); have e24 : (24 : Int32).toInt = 24 := (by decide); have e35 : (35 : Int32).toInt = 35 := (by decide); have e36 : (36 : Int32).toInt = 36 := (by decide); have e100 : (100 : Int32).toInt = 100 := (by decide); have q0 := c_1; have q1 := c_121; have q2 := c_122; have q3 := c_125; have q4 := c_126; have q5 := c_127; have q6 := c_137; have q7 := h_130; simp only [cGu, ← Int32.toInt_inj, Int32.le_iff_toInt_le, Int32.lt_iff_toInt_lt] at q0 q1 q2 q3 q4 q5 q6 q7 ⊢; omega), (Eq.refl (fI (V 1) 1))⟩, rfl, hJ0⟩
        · skip
          refine aw_iconst (v := (-1)) dX11_guess_50 (by decide) ?_
          refine aw_ireti dX11_guess_51 rfl (Nat.le_of_ble_eq_true rfl) (Nat.le_of_ble_eq_true rfl) ?_
          exact ⟨Or.inr ⟨(by have e0 : (0 : Int32).toInt = 0 := (by decide); have e1 : (1 : Int32).toInt = 1 := (by decide); have e2 : (2 : Int32).toInt = 2 := (by decide); have e12 : (12 : Int32).toInt = 12 := (by decide); have e15 : (15 : Int32).toInt = 15 := (by decide); have e16 : (16 : Int32).toInt = 16 := (by decide); have e20 : (20 : Int32).toInt = 20 := (by decide); have e24 : (24 : Int32).toInt = 24 := (by decide); have e35 : (35 : Int32).toInt = 35 := (by decide); have e36 : (36 : Int32).toInt = 36 := (by decide); have e100 : (100 : Int32).toInt = 100 := (by decide); have q0 := c_1; have q1 := c_121; have q2 := c_122; have q3 := c_125; simp only [cGu, ← Int32.toInt_inj, Int32.le_iff_toInt_le, Int32.lt_iff_toInt_lt] at q0 q1 q2 q3 ⊢; omega), (Eq.refl (fI (V 1) 1))⟩, rfl, hJ0⟩
      · skip
        refine aw_iload_n dX11_guess_22 rfl ?_
        refine aw_bipush (v := 36) dX11_guess_23 (by decide) ?_
        refine aw_icmp_ge (tgt := 32) dX11_guess_25 (by decide) (fun c_158 => ?_) (fun c_158 => ?_)
        · skip
          refine aw_iconst (v := 0) dX11_guess_32 (by decide) ?_
          refine aw_istore (ls' := [some (.ref (b + 0)), some (.int n0), some (.int n1), some (.int 0), some (.int 0), none, none, none]) dX11_guess_33 (Nat.le_of_ble_eq_true rfl) rfl ?_
          refine aw_iload_n dX11_guess_35 rfl ?_
          refine aw_if_ne (tgt := 52) dX11_guess_36 (by decide) (fun c_159 => ?_) (fun c_159 => ?_)
          · exact absurd rfl c_159
          refine aw_iload dX11_guess_39 rfl ?_
          refine aw_if_ne (tgt := 52) dX11_guess_41 (by decide) (fun c_160 => ?_) (fun c_160 => ?_)
          · exact absurd rfl c_160
          refine aw_iload_n dX11_guess_44 rfl ?_
          refine aw_bipush (v := 100) dX11_guess_45 (by decide) ?_
          refine aw_icmp_eq (tgt := 52) dX11_guess_47 (by decide) (fun c_161 => ?_) (fun c_161 => ?_)
          · skip
            refine aw_iload_n dX11_guess_52 rfl ?_
            refine aw_iconst (v := 1) dX11_guess_53 (by decide) ?_
            refine aw_icmp_lt (tgt := 79) dX11_guess_54 (by decide) (fun c_162 => ?_) (fun c_162 => ?_)
            · skip
              refine aw_iconst (v := (-1)) dX11_guess_79 (by decide) ?_
              refine aw_ireti dX11_guess_80 rfl (Nat.le_of_ble_eq_true rfl) (Nat.le_of_ble_eq_true rfl) ?_
              exact ⟨Or.inr ⟨(by have e0 : (0 : Int32).toInt = 0 := (by decide); have e1 : (1 : Int32).toInt = 1 := (by decide); have e2 : (2 : Int32).toInt = 2 := (by decide); have e12 : (12 : Int32).toInt = 12 := (by decide); have e15 : (15 : Int32).toInt = 15 := (by decide); have e16 : (16 : Int32).toInt = 16 := (by decide); have e20 : (20 : Int32).toInt = 20 := (by decide); have e24 : (24 : Int32).toInt = 24 := (by decide); have e35 : (35 : Int32).toInt = 35 := (by decide); have e36 : (36 : Int32).toInt = 36 := (by decide); have e100 : (100 : Int32).toInt = 100 := (by decide); have q0 := c_1; have q1 := c_121; have q2 := c_122; have q3 := c_158; have q4 := c_161; have q5 := c_162; simp only [cGu, ← Int32.toInt_inj, Int32.le_iff_toInt_le, Int32.lt_iff_toInt_lt] at q0 q1 q2 q3 q4 q5 ⊢; omega), (Eq.refl (fI (V 1) 1))⟩, rfl, hJ0⟩
            · skip
              refine aw_iload_n dX11_guess_57 rfl ?_
              refine aw_bipush (v := 12) dX11_guess_58 (by decide) ?_
              refine aw_icmp_gt (tgt := 79) dX11_guess_60 (by decide) (fun c_163 => ?_) (fun c_163 => ?_)
              · skip
                refine aw_iconst (v := (-1)) dX11_guess_79 (by decide) ?_
                refine aw_ireti dX11_guess_80 rfl (Nat.le_of_ble_eq_true rfl) (Nat.le_of_ble_eq_true rfl) ?_
                exact ⟨Or.inr ⟨(by have e0 : (0 : Int32).toInt = 0 := (by decide); have e1 : (1 : Int32).toInt = 1 := (by decide); have e2 : (2 : Int32).toInt = 2 := (by decide); have e12 : (12 : Int32).toInt = 12 := (by decide); have e15 : (15 : Int32).toInt = 15 := (by decide); have e16 : (16 : Int32).toInt = 16 := (by decide); have e20 : (20 : Int32).toInt = 20 := (by decide); have e24 : (24 : Int32).toInt = 24 := (by decide); have e35 : (35 : Int32).toInt = 35 := (by decide); have e36 : (36 : Int32).toInt = 36 := (by decide); have e100 : (100 : Int32).toInt = 100 := (by decide); have q0 := c_1; have q1 := c_121; have q2 := c_122; have q3 := c_158; have q4 := c_161; have q5 := c_162; have q6 := c_163; simp only [cGu, ← Int32.toInt_inj, Int32.le_iff_toInt_le, Int32.lt_iff_toInt_lt] at q0 q1 q2 q3 q4 q5 q6 ⊢; omega), (Eq.refl (fI (V 1) 1))⟩, rfl, hJ0⟩
              · skip
                refine aw_aload_n dX11_guess_63 rfl ?_
                obtain ⟨ek_164, x_164, y_164, e_164, hx_164, hy_164⟩ := JW.get hJ0 ct_0
                refine aw_get dX11_guess_64 fl_X11_12 e_164 (by omega) rfl ?_
                refine aw_iconst (v := 2) dX11_guess_67 (by decide) ?_
                refine aw_iload_n dX11_guess_68 rfl ?_
                refine aw_imul dX11_guess_69 ?_
                refine aw_iconst (v := 2) dX11_guess_70 (by decide) ?_
                refine aw_bipush (v := 24) dX11_guess_71 (by decide) ?_
                obtain ⟨ts_168, tn_168, tf_168, ta_168, e_168, hta_168⟩ := JW.get hJ0 ct_1
                refine aw_callVi (J' := jX10_holds) (As := [.int (2 * n0), .int 2, .int 24]) (st := []) dX11_guess_73 tb_267 ok_X10_holds ⟨_, e_168⟩ (by omega) rfl rfl (g_X10_holdsK l D b N V hN hJ0.1 (2 * n0) 2 24) rfl (Nat.le_of_ble_eq_true rfl) ⟨Nat.le_of_ble_eq_true rfl, Nat.le_of_ble_eq_true rfl, Nat.le_of_ble_eq_true rfl, Nat.le_of_ble_eq_true rfl⟩ (fun r_169 N_170 V_171 q_172 => ?_)
                obtain ⟨⟨z_167, h_166⟩, rfl, rfl⟩ := q_172
                refine aw_if_ne (tgt := 81) dX11_guess_76 (by decide) (fun c_173 => ?_) (fun c_173 => ?_)
                · skip
                  refine aw_aload_n dX11_guess_81 rfl ?_
                  refine aw_get dX11_guess_82 fl_X11_12 e_164 (by omega) rfl ?_
                  refine aw_iconst (v := 2) dX11_guess_85 (by decide) ?_
                  refine aw_iload_n dX11_guess_86 rfl ?_
                  refine aw_imul dX11_guess_87 ?_
                  refine aw_callVv (J' := jX10_take) (As := [.int (2 * n0)]) (st := []) dX11_guess_88 tb_271 ok_X10_take ⟨_, e_168⟩ (by omega) rfl rfl (g_X10_takeK l D b N V hN hJ0.1 (2 * n0)) rfl (Nat.le_of_ble_eq_true rfl) ⟨Nat.le_of_ble_eq_true rfl, Nat.le_of_ble_eq_true rfl, Nat.le_of_ble_eq_true rfl, Nat.le_of_ble_eq_true rfl⟩ (fun  N_178 V_177 q_179 => ?_)
                  obtain ⟨h_175, rfl, q_174⟩ := q_179
                  have j_176 := JW.trans hJ0 (JW.weak q_174 (Sub.cons LM0 (by decide) (by decide) (by decide) (Or.inr ⟨by decide, by decide⟩) (Sub.cons (LMs LM0) (by decide) (by decide) (by decide) (Or.inr ⟨by decide, by decide⟩) (Sub.cons (LMs (LMs LM0)) (by decide) (by decide) (by decide) (Or.inr ⟨by decide, by decide⟩) (Sub.cons (LMs (LMs (LMs LM0))) (by decide) (by decide) (by decide) (Or.inr ⟨by decide, by decide⟩) Sub.nil)))))
                  refine aw_aload_n dX11_guess_91 rfl ?_
                  obtain ⟨ek_180, x_180, y_180, e_180, hx_180, hy_180⟩ := JW.get j_176 ct_0
                  refine aw_get dX11_guess_92 fl_X11_12 e_180 (by omega) rfl ?_
                  refine aw_aload_n dX11_guess_95 rfl ?_
                  refine aw_get dX11_guess_96 fl_X11_19 e_180 (by omega) rfl ?_
                  refine aw_iload_n dX11_guess_99 rfl ?_
                  refine aw_callSi (J' := jX3_triesFit) (As := [.ref (b + 1), .ref (b + 3), .int n0]) (st := []) dX11_guess_100 tb_922 ok_X3_triesFit rfl (g_X3_triesFit l D b N V_177 hN j_176.1 3 cA_3 n0) rfl (Nat.le_of_ble_eq_true rfl) ⟨Nat.le_of_ble_eq_true rfl, Nat.le_of_ble_eq_true rfl, Nat.le_of_ble_eq_true rfl, Nat.le_of_ble_eq_true rfl⟩ (fun r_183 N_184 V_185 q_186 => ?_)
                  obtain ⟨h_182, rfl, rfl⟩ := q_186
                  refine aw_if_ne (tgt := 109) dX11_guess_103 (by decide) (fun c_187 => ?_) (fun c_187 => ?_)
                  · skip
                    refine aw_iload_n dX11_guess_109 rfl ?_
                    refine aw_bipush (v := 100) dX11_guess_110 (by decide) ?_
                    refine aw_icmp_ne (tgt := 128) dX11_guess_112 (by decide) (fun c_188 => ?_) (fun c_188 => ?_)
                    · first | exact absurd c_188 c_161 | exact absurd c_161 c_188 | exact absurd c_188 (Int32.not_lt.mpr c_161) | exact absurd c_161 (Int32.not_lt.mpr c_188) | exact c_161 (Int32.not_lt.mp c_188) | exact c_161 (Int32.not_le.mp c_188)
                    refine aw_aload_n dX11_guess_115 rfl ?_
                    refine aw_get dX11_guess_116 fl_X11_12 e_180 (by omega) rfl ?_
                    refine aw_aload_n dX11_guess_119 rfl ?_
                    refine aw_get dX11_guess_120 fl_X11_19 e_180 (by omega) rfl ?_
                    refine aw_iload_n dX11_guess_123 rfl ?_
                    refine aw_callSi (J' := jX3_possibleFears) (As := [.ref (b + 1), .ref (b + 3), .int n0]) (st := []) dX11_guess_124 tb_930 ok_X3_possibleFears rfl (g_X3_possibleFears l D b N V_177 hN j_176.1 3 cA_3 n0) rfl (Nat.le_of_ble_eq_true rfl) ⟨Nat.le_of_ble_eq_true rfl, Nat.le_of_ble_eq_true rfl, Nat.le_of_ble_eq_true rfl, Nat.le_of_ble_eq_true rfl⟩ (fun r_190 N_191 V_192 q_193 => ?_)
                    obtain ⟨rfl, rfl⟩ := q_193
                    refine aw_ireti dX11_guess_127 rfl (Nat.le_of_ble_eq_true rfl) (Nat.le_of_ble_eq_true rfl) ?_
                    exact ⟨Or.inl ⟨(by have t2 := two_n (by first | exact Int32.not_lt.mp c_162 | exact c_162) (by first | exact Int32.not_lt.mp c_163 | exact c_163); have e0 : (0 : Int32).toInt = 0 := (by decide); have e1 : (1 : Int32).toInt = 1 := (by decide); have e2 : (2 : Int32).toInt = 2 := (by decide); have e12 : (12 : Int32).toInt = 12 := (by decide); have e15 : (15 : Int32).toInt = 15 := (by decide); have e16 : (16 : Int32).toInt = 16 := (by decide); have e20 : (20 : Int32).toInt = 20 := (by decide); have e24 : (24 : Int32).toInt = 24 := (by decide); have e35 : (35 : Int32).toInt = 35 := (by decide); have e36 : (36 : Int32).toInt = 36 := (by decide); have e100 : (100 : Int32).toInt = 100 := (by decide); have q0 := c_1; have q1 := c_121; have q2 := c_122; have q3 := c_158; have q4 := c_161; have q5 := c_162; have q6 := c_163; have q7 := c_173; have q8 := c_188; have q9 := h_166; simp only [cGu, ← Int32.toInt_inj, Int32.le_iff_toInt_le, Int32.lt_iff_toInt_lt] at q0 q1 q2 q3 q4 q5 q6 q7 q8 q9 ⊢; omega), h_175⟩, rfl, j_176⟩
                  · skip
                    refine aw_bipush (v := (-3)) dX11_guess_106 (by decide) ?_
                    refine aw_ireti dX11_guess_108 rfl (Nat.le_of_ble_eq_true rfl) (Nat.le_of_ble_eq_true rfl) ?_
                    exact ⟨Or.inl ⟨(by have t2 := two_n (by first | exact Int32.not_lt.mp c_162 | exact c_162) (by first | exact Int32.not_lt.mp c_163 | exact c_163); have e0 : (0 : Int32).toInt = 0 := (by decide); have e1 : (1 : Int32).toInt = 1 := (by decide); have e2 : (2 : Int32).toInt = 2 := (by decide); have e12 : (12 : Int32).toInt = 12 := (by decide); have e15 : (15 : Int32).toInt = 15 := (by decide); have e16 : (16 : Int32).toInt = 16 := (by decide); have e20 : (20 : Int32).toInt = 20 := (by decide); have e24 : (24 : Int32).toInt = 24 := (by decide); have e35 : (35 : Int32).toInt = 35 := (by decide); have e36 : (36 : Int32).toInt = 36 := (by decide); have e100 : (100 : Int32).toInt = 100 := (by decide); have q0 := c_1; have q1 := c_121; have q2 := c_122; have q3 := c_158; have q4 := c_161; have q5 := c_162; have q6 := c_163; have q7 := c_173; have q8 := h_166; simp only [cGu, ← Int32.toInt_inj, Int32.le_iff_toInt_le, Int32.lt_iff_toInt_lt] at q0 q1 q2 q3 q4 q5 q6 q7 q8 ⊢; omega), h_175⟩, rfl, j_176⟩
                · skip
                  refine aw_iconst (v := (-1)) dX11_guess_79 (by decide) ?_
                  refine aw_ireti dX11_guess_80 rfl (Nat.le_of_ble_eq_true rfl) (Nat.le_of_ble_eq_true rfl) ?_
                  exact ⟨Or.inr ⟨(by have t2 := two_n (by first | exact Int32.not_lt.mp c_162 | exact c_162) (by first | exact Int32.not_lt.mp c_163 | exact c_163); have e0 : (0 : Int32).toInt = 0 := (by decide); have e1 : (1 : Int32).toInt = 1 := (by decide); have e2 : (2 : Int32).toInt = 2 := (by decide); have e12 : (12 : Int32).toInt = 12 := (by decide); have e15 : (15 : Int32).toInt = 15 := (by decide); have e16 : (16 : Int32).toInt = 16 := (by decide); have e20 : (20 : Int32).toInt = 20 := (by decide); have e24 : (24 : Int32).toInt = 24 := (by decide); have e35 : (35 : Int32).toInt = 35 := (by decide); have e36 : (36 : Int32).toInt = 36 := (by decide); have e100 : (100 : Int32).toInt = 100 := (by decide); have q0 := c_1; have q1 := c_121; have q2 := c_122; have q3 := c_158; have q4 := c_161; have q5 := c_162; have q6 := c_163; have q7 := c_173; have q8 := h_166; simp only [cGu, ← Int32.toInt_inj, Int32.le_iff_toInt_le, Int32.lt_iff_toInt_lt] at q0 q1 q2 q3 q4 q5 q6 q7 q8 ⊢; omega), (Eq.refl (fI (V 1) 1))⟩, rfl, hJ0⟩
          · skip
            refine aw_iconst (v := (-1)) dX11_guess_50 (by decide) ?_
            refine aw_ireti dX11_guess_51 rfl (Nat.le_of_ble_eq_true rfl) (Nat.le_of_ble_eq_true rfl) ?_
            exact ⟨Or.inr ⟨(by have e0 : (0 : Int32).toInt = 0 := (by decide); have e1 : (1 : Int32).toInt = 1 := (by decide); have e2 : (2 : Int32).toInt = 2 := (by decide); have e12 : (12 : Int32).toInt = 12 := (by decide); have e15 : (15 : Int32).toInt = 15 := (by decide); have e16 : (16 : Int32).toInt = 16 := (by decide); have e20 : (20 : Int32).toInt = 20 := (by decide); have e24 : (24 : Int32).toInt = 24 := (by decide); have e35 : (35 : Int32).toInt = 35 := (by decide); have e36 : (36 : Int32).toInt = 36 := (by decide); have e100 : (100 : Int32).toInt = 100 := (by decide); have q0 := c_1; have q1 := c_121; have q2 := c_122; have q3 := c_158; have q4 := c_161; simp only [cGu, ← Int32.toInt_inj, Int32.le_iff_toInt_le, Int32.lt_iff_toInt_lt] at q0 q1 q2 q3 q4 ⊢; omega), (Eq.refl (fI (V 1) 1))⟩, rfl, hJ0⟩
        · skip
          refine aw_iconst (v := 1) dX11_guess_28 (by decide) ?_
          refine aw_goto (tgt := 33) dX11_guess_29 (by decide) ?_
          refine aw_istore (ls' := [some (.ref (b + 0)), some (.int n0), some (.int n1), some (.int 0), some (.int 1), none, none, none]) dX11_guess_33 (Nat.le_of_ble_eq_true rfl) rfl ?_
          refine aw_iload_n dX11_guess_35 rfl ?_
          refine aw_if_ne (tgt := 52) dX11_guess_36 (by decide) (fun c_194 => ?_) (fun c_194 => ?_)
          · exact absurd rfl c_194
          refine aw_iload dX11_guess_39 rfl ?_
          refine aw_if_ne (tgt := 52) dX11_guess_41 (by decide) (fun c_195 => ?_) (fun c_195 => ?_)
          rotate_left
          · exact absurd c_195 (by decide)
          refine aw_iload_n dX11_guess_52 rfl ?_
          refine aw_iconst (v := 1) dX11_guess_53 (by decide) ?_
          refine aw_icmp_lt (tgt := 79) dX11_guess_54 (by decide) (fun c_196 => ?_) (fun c_196 => ?_)
          · skip
            refine aw_iconst (v := (-1)) dX11_guess_79 (by decide) ?_
            refine aw_ireti dX11_guess_80 rfl (Nat.le_of_ble_eq_true rfl) (Nat.le_of_ble_eq_true rfl) ?_
            exact ⟨Or.inr ⟨(by have e0 : (0 : Int32).toInt = 0 := (by decide); have e1 : (1 : Int32).toInt = 1 := (by decide); have e2 : (2 : Int32).toInt = 2 := (by decide); have e12 : (12 : Int32).toInt = 12 := (by decide); have e15 : (15 : Int32).toInt = 15 := (by decide); have e16 : (16 : Int32).toInt = 16 := (by decide); have e20 : (20 : Int32).toInt = 20 := (by decide); have e24 : (24 : Int32).toInt = 24 := (by decide); have e35 : (35 : Int32).toInt = 35 := (by decide); have e36 : (36 : Int32).toInt = 36 := (by decide); have e100 : (100 : Int32).toInt = 100 := (by decide); have q0 := c_1; have q1 := c_121; have q2 := c_122; have q3 := c_158; have q4 := c_196; simp only [cGu, ← Int32.toInt_inj, Int32.le_iff_toInt_le, Int32.lt_iff_toInt_lt] at q0 q1 q2 q3 q4 ⊢; omega), (Eq.refl (fI (V 1) 1))⟩, rfl, hJ0⟩
          · skip
            refine aw_iload_n dX11_guess_57 rfl ?_
            refine aw_bipush (v := 12) dX11_guess_58 (by decide) ?_
            refine aw_icmp_gt (tgt := 79) dX11_guess_60 (by decide) (fun c_197 => ?_) (fun c_197 => ?_)
            · skip
              refine aw_iconst (v := (-1)) dX11_guess_79 (by decide) ?_
              refine aw_ireti dX11_guess_80 rfl (Nat.le_of_ble_eq_true rfl) (Nat.le_of_ble_eq_true rfl) ?_
              exact ⟨Or.inr ⟨(by have e0 : (0 : Int32).toInt = 0 := (by decide); have e1 : (1 : Int32).toInt = 1 := (by decide); have e2 : (2 : Int32).toInt = 2 := (by decide); have e12 : (12 : Int32).toInt = 12 := (by decide); have e15 : (15 : Int32).toInt = 15 := (by decide); have e16 : (16 : Int32).toInt = 16 := (by decide); have e20 : (20 : Int32).toInt = 20 := (by decide); have e24 : (24 : Int32).toInt = 24 := (by decide); have e35 : (35 : Int32).toInt = 35 := (by decide); have e36 : (36 : Int32).toInt = 36 := (by decide); have e100 : (100 : Int32).toInt = 100 := (by decide); have q0 := c_1; have q1 := c_121; have q2 := c_122; have q3 := c_158; have q4 := c_196; have q5 := c_197; simp only [cGu, ← Int32.toInt_inj, Int32.le_iff_toInt_le, Int32.lt_iff_toInt_lt] at q0 q1 q2 q3 q4 q5 ⊢; omega), (Eq.refl (fI (V 1) 1))⟩, rfl, hJ0⟩
            · skip
              refine aw_aload_n dX11_guess_63 rfl ?_
              obtain ⟨ek_198, x_198, y_198, e_198, hx_198, hy_198⟩ := JW.get hJ0 ct_0
              refine aw_get dX11_guess_64 fl_X11_12 e_198 (by omega) rfl ?_
              refine aw_iconst (v := 2) dX11_guess_67 (by decide) ?_
              refine aw_iload_n dX11_guess_68 rfl ?_
              refine aw_imul dX11_guess_69 ?_
              refine aw_iconst (v := 2) dX11_guess_70 (by decide) ?_
              refine aw_bipush (v := 24) dX11_guess_71 (by decide) ?_
              obtain ⟨ts_202, tn_202, tf_202, ta_202, e_202, hta_202⟩ := JW.get hJ0 ct_1
              refine aw_callVi (J' := jX10_holds) (As := [.int (2 * n0), .int 2, .int 24]) (st := []) dX11_guess_73 tb_267 ok_X10_holds ⟨_, e_202⟩ (by omega) rfl rfl (g_X10_holdsK l D b N V hN hJ0.1 (2 * n0) 2 24) rfl (Nat.le_of_ble_eq_true rfl) ⟨Nat.le_of_ble_eq_true rfl, Nat.le_of_ble_eq_true rfl, Nat.le_of_ble_eq_true rfl, Nat.le_of_ble_eq_true rfl⟩ (fun r_203 N_204 V_205 q_206 => ?_)
              obtain ⟨⟨z_201, h_200⟩, rfl, rfl⟩ := q_206
              refine aw_if_ne (tgt := 81) dX11_guess_76 (by decide) (fun c_207 => ?_) (fun c_207 => ?_)
              · skip
                refine aw_aload_n dX11_guess_81 rfl ?_
                refine aw_get dX11_guess_82 fl_X11_12 e_198 (by omega) rfl ?_
                refine aw_iconst (v := 2) dX11_guess_85 (by decide) ?_
                refine aw_iload_n dX11_guess_86 rfl ?_
                refine aw_imul dX11_guess_87 ?_
                refine aw_callVv (J' := jX10_take) (As := [.int (2 * n0)]) (st := []) dX11_guess_88 tb_271 ok_X10_take ⟨_, e_202⟩ (by omega) rfl rfl (g_X10_takeK l D b N V hN hJ0.1 (2 * n0)) rfl (Nat.le_of_ble_eq_true rfl) ⟨Nat.le_of_ble_eq_true rfl, Nat.le_of_ble_eq_true rfl, Nat.le_of_ble_eq_true rfl, Nat.le_of_ble_eq_true rfl⟩ (fun  N_212 V_211 q_213 => ?_)
                obtain ⟨h_209, rfl, q_208⟩ := q_213
                have j_210 := JW.trans hJ0 (JW.weak q_208 (Sub.cons LM0 (by decide) (by decide) (by decide) (Or.inr ⟨by decide, by decide⟩) (Sub.cons (LMs LM0) (by decide) (by decide) (by decide) (Or.inr ⟨by decide, by decide⟩) (Sub.cons (LMs (LMs LM0)) (by decide) (by decide) (by decide) (Or.inr ⟨by decide, by decide⟩) (Sub.cons (LMs (LMs (LMs LM0))) (by decide) (by decide) (by decide) (Or.inr ⟨by decide, by decide⟩) Sub.nil)))))
                refine aw_aload_n dX11_guess_91 rfl ?_
                obtain ⟨ek_214, x_214, y_214, e_214, hx_214, hy_214⟩ := JW.get j_210 ct_0
                refine aw_get dX11_guess_92 fl_X11_12 e_214 (by omega) rfl ?_
                refine aw_aload_n dX11_guess_95 rfl ?_
                refine aw_get dX11_guess_96 fl_X11_19 e_214 (by omega) rfl ?_
                refine aw_iload_n dX11_guess_99 rfl ?_
                refine aw_callSi (J' := jX3_triesFit) (As := [.ref (b + 1), .ref (b + 3), .int n0]) (st := []) dX11_guess_100 tb_922 ok_X3_triesFit rfl (g_X3_triesFit l D b N V_211 hN j_210.1 3 cA_3 n0) rfl (Nat.le_of_ble_eq_true rfl) ⟨Nat.le_of_ble_eq_true rfl, Nat.le_of_ble_eq_true rfl, Nat.le_of_ble_eq_true rfl, Nat.le_of_ble_eq_true rfl⟩ (fun r_217 N_218 V_219 q_220 => ?_)
                obtain ⟨h_216, rfl, rfl⟩ := q_220
                refine aw_if_ne (tgt := 109) dX11_guess_103 (by decide) (fun c_221 => ?_) (fun c_221 => ?_)
                · skip
                  refine aw_iload_n dX11_guess_109 rfl ?_
                  refine aw_bipush (v := 100) dX11_guess_110 (by decide) ?_
                  refine aw_icmp_ne (tgt := 128) dX11_guess_112 (by decide) (fun c_222 => ?_) (fun c_222 => ?_)
                  · skip
                    refine aw_iload_n dX11_guess_128 rfl ?_
                    refine aw_if_eq (tgt := 136) dX11_guess_129 (by decide) (fun c_223 => ?_) (fun c_223 => ?_)
                    rotate_left
                    · exact absurd (by decide) c_223
                    refine aw_iload_n dX11_guess_136 rfl ?_
                    refine aw_bipush (v := 20) dX11_guess_137 (by decide) ?_
                    refine aw_isub dX11_guess_139 ?_
                    refine aw_istore (ls' := [some (.ref (b + 0)), some (.int n0), some (.int n1), some (.int 0), some (.int 1), some (.int (n1 - 20)), none, none]) dX11_guess_140 (Nat.le_of_ble_eq_true rfl) rfl ?_
                    refine aw_aload_n dX11_guess_142 rfl ?_
                    refine aw_get dX11_guess_143 fl_X11_12 e_214 (by omega) rfl ?_
                    refine aw_aload_n dX11_guess_146 rfl ?_
                    refine aw_get dX11_guess_147 fl_X11_19 e_214 (by omega) rfl ?_
                    refine aw_iload_n dX11_guess_150 rfl ?_
                    refine aw_iload dX11_guess_151 rfl ?_
                    refine aw_callSi (J' := jX3_leastStrength) (As := [.ref (b + 1), .ref (b + 3), .int n0, .int (n1 - 20)]) (st := []) dX11_guess_153 tb_940 ok_X3_leastStrength rfl (g_X3_leastStrength l D b N V_211 hN j_210.1 3 cA_3 n0 (n1 - 20)) rfl (Nat.le_of_ble_eq_true rfl) ⟨Nat.le_of_ble_eq_true rfl, Nat.le_of_ble_eq_true rfl, Nat.le_of_ble_eq_true rfl, Nat.le_of_ble_eq_true rfl⟩ (fun r_225 N_226 V_227 q_228 => ?_)
                    obtain ⟨rfl, rfl⟩ := q_228
                    refine aw_istore (ls' := [some (.ref (b + 0)), some (.int n0), some (.int n1), some (.int 0), some (.int 1), some (.int (n1 - 20)), some (.int r_225), none]) dX11_guess_156 (Nat.le_of_ble_eq_true rfl) rfl ?_
                    refine aw_aload_n dX11_guess_158 rfl ?_
                    refine aw_get dX11_guess_159 fl_X11_12 e_214 (by omega) rfl ?_
                    refine aw_aload_n dX11_guess_162 rfl ?_
                    refine aw_get dX11_guess_163 fl_X11_19 e_214 (by omega) rfl ?_
                    refine aw_iload_n dX11_guess_166 rfl ?_
                    refine aw_iload dX11_guess_167 rfl ?_
                    refine aw_callSi (J' := jX3_greatestStrength) (As := [.ref (b + 1), .ref (b + 3), .int n0, .int (n1 - 20)]) (st := []) dX11_guess_169 tb_941 ok_X3_greatestStrength rfl (g_X3_greatestStrength l D b N V_211 hN j_210.1 3 cA_3 n0 (n1 - 20)) rfl (Nat.le_of_ble_eq_true rfl) ⟨Nat.le_of_ble_eq_true rfl, Nat.le_of_ble_eq_true rfl, Nat.le_of_ble_eq_true rfl, Nat.le_of_ble_eq_true rfl⟩ (fun r_230 N_231 V_232 q_233 => ?_)
                    obtain ⟨rfl, rfl⟩ := q_233
                    refine aw_istore (ls' := [some (.ref (b + 0)), some (.int n0), some (.int n1), some (.int 0), some (.int 1), some (.int (n1 - 20)), some (.int r_225), some (.int r_230)]) dX11_guess_172 (Nat.le_of_ble_eq_true rfl) rfl ?_
                    refine aw_iload dX11_guess_174 rfl ?_
                    refine aw_iload dX11_guess_176 rfl ?_
                    refine aw_icmp_le (tgt := 184) dX11_guess_178 (by decide) (fun c_234 => ?_) (fun c_234 => ?_)
                    · skip
                      refine aw_iload_n dX11_guess_184 rfl ?_
                      refine aw_if_eq (tgt := 193) dX11_guess_185 (by decide) (fun c_235 => ?_) (fun c_235 => ?_)
                      rotate_left
                      · exact absurd (by decide) c_235
                      refine aw_iload dX11_guess_193 rfl ?_
                      refine aw_ireti dX11_guess_195 rfl (Nat.le_of_ble_eq_true rfl) (Nat.le_of_ble_eq_true rfl) ?_
                      exact ⟨Or.inl ⟨(by have t2 := two_n (by first | exact Int32.not_lt.mp c_196 | exact c_196) (by first | exact Int32.not_lt.mp c_197 | exact c_197); have e0 : (0 : Int32).toInt = 0 := (by decide); have e1 : (1 : Int32).toInt = 1 := (by decide); have e2 : (2 : Int32).toInt = 2 := (by decide); have e12 : (12 : Int32).toInt = 12 := (by decide); have e15 : (15 : Int32).toInt = 15 := (by decide); have e16 : (16 : Int32).toInt = 16 := (by decide); have e20 : (20 : Int32).toInt = 20 := (by decide); have e24 : (24 : Int32).toInt = 24 := (by decide); have e35 : (35 : Int32).toInt = 35 := (by decide); have e36 : (36 : Int32).toInt = 36 := (by decide); have e100 : (100 : Int32).toInt = 100 := (by decide); have q0 := c_1; have q1 := c_121; have q2 := c_122; have q3 := c_158; have q4 := c_196; have q5 := c_197; have q6 := c_207; have q7 := c_222; have q8 := h_200; simp only [cGu, ← Int32.toInt_inj, Int32.le_iff_toInt_le, Int32.lt_iff_toInt_lt] at q0 q1 q2 q3 q4 q5 q6 q7 q8 ⊢; omega), h_209⟩, rfl, j_210⟩
                    · skip
                      refine aw_bipush (v := (-2)) dX11_guess_181 (by decide) ?_
                      refine aw_ireti dX11_guess_183 rfl (Nat.le_of_ble_eq_true rfl) (Nat.le_of_ble_eq_true rfl) ?_
                      exact ⟨Or.inl ⟨(by have t2 := two_n (by first | exact Int32.not_lt.mp c_196 | exact c_196) (by first | exact Int32.not_lt.mp c_197 | exact c_197); have e0 : (0 : Int32).toInt = 0 := (by decide); have e1 : (1 : Int32).toInt = 1 := (by decide); have e2 : (2 : Int32).toInt = 2 := (by decide); have e12 : (12 : Int32).toInt = 12 := (by decide); have e15 : (15 : Int32).toInt = 15 := (by decide); have e16 : (16 : Int32).toInt = 16 := (by decide); have e20 : (20 : Int32).toInt = 20 := (by decide); have e24 : (24 : Int32).toInt = 24 := (by decide); have e35 : (35 : Int32).toInt = 35 := (by decide); have e36 : (36 : Int32).toInt = 36 := (by decide); have e100 : (100 : Int32).toInt = 100 := (by decide); have q0 := c_1; have q1 := c_121; have q2 := c_122; have q3 := c_158; have q4 := c_196; have q5 := c_197; have q6 := c_207; have q7 := c_222; have q8 := h_200; simp only [cGu, ← Int32.toInt_inj, Int32.le_iff_toInt_le, Int32.lt_iff_toInt_lt] at q0 q1 q2 q3 q4 q5 q6 q7 q8 ⊢; omega), h_209⟩, rfl, j_210⟩
                  · skip
                    refine aw_aload_n dX11_guess_115 rfl ?_
                    refine aw_get dX11_guess_116 fl_X11_12 e_214 (by omega) rfl ?_
                    refine aw_aload_n dX11_guess_119 rfl ?_
                    refine aw_get dX11_guess_120 fl_X11_19 e_214 (by omega) rfl ?_
                    refine aw_iload_n dX11_guess_123 rfl ?_
                    refine aw_callSi (J' := jX3_possibleFears) (As := [.ref (b + 1), .ref (b + 3), .int n0]) (st := []) dX11_guess_124 tb_930 ok_X3_possibleFears rfl (g_X3_possibleFears l D b N V_211 hN j_210.1 3 cA_3 n0) rfl (Nat.le_of_ble_eq_true rfl) ⟨Nat.le_of_ble_eq_true rfl, Nat.le_of_ble_eq_true rfl, Nat.le_of_ble_eq_true rfl, Nat.le_of_ble_eq_true rfl⟩ (fun r_237 N_238 V_239 q_240 => ?_)
                    obtain ⟨rfl, rfl⟩ := q_240
                    refine aw_ireti dX11_guess_127 rfl (Nat.le_of_ble_eq_true rfl) (Nat.le_of_ble_eq_true rfl) ?_
                    exact ⟨Or.inl ⟨(by have t2 := two_n (by first | exact Int32.not_lt.mp c_196 | exact c_196) (by first | exact Int32.not_lt.mp c_197 | exact c_197); have e0 : (0 : Int32).toInt = 0 := (by decide); have e1 : (1 : Int32).toInt = 1 := (by decide); have e2 : (2 : Int32).toInt = 2 := (by decide); have e12 : (12 : Int32).toInt = 12 := (by decide); have e15 : (15 : Int32).toInt = 15 := (by decide); have e16 : (16 : Int32).toInt = 16 := (by decide); have e20 : (20 : Int32).toInt = 20 := (by decide); have e24 : (24 : Int32).toInt = 24 := (by decide); have e35 : (35 : Int32).toInt = 35 := (by decide); have e36 : (36 : Int32).toInt = 36 := (by decide); have e100 : (100 : Int32).toInt = 100 := (by decide); have q0 := c_1; have q1 := c_121; have q2 := c_122; have q3 := c_158; have q4 := c_196; have q5 := c_197; have q6 := c_207; have q7 := c_222; have q8 := h_200; simp only [cGu, ← Int32.toInt_inj, Int32.le_iff_toInt_le, Int32.lt_iff_toInt_lt] at q0 q1 q2 q3 q4 q5 q6 q7 q8 ⊢; omega), h_209⟩, rfl, j_210⟩
                · skip
                  refine aw_bipush (v := (-3)) dX11_guess_106 (by decide) ?_
                  refine aw_ireti dX11_guess_108 rfl (Nat.le_of_ble_eq_true rfl) (Nat.le_of_ble_eq_true rfl) ?_
                  exact ⟨Or.inl ⟨(by have t2 := two_n (by first | exact Int32.not_lt.mp c_196 | exact c_196) (by first | exact Int32.not_lt.mp c_197 | exact c_197); have e0 : (0 : Int32).toInt = 0 := (by decide); have e1 : (1 : Int32).toInt = 1 := (by decide); have e2 : (2 : Int32).toInt = 2 := (by decide); have e12 : (12 : Int32).toInt = 12 := (by decide); have e15 : (15 : Int32).toInt = 15 := (by decide); have e16 : (16 : Int32).toInt = 16 := (by decide); have e20 : (20 : Int32).toInt = 20 := (by decide); have e24 : (24 : Int32).toInt = 24 := (by decide); have e35 : (35 : Int32).toInt = 35 := (by decide); have e36 : (36 : Int32).toInt = 36 := (by decide); have e100 : (100 : Int32).toInt = 100 := (by decide); have q0 := c_1; have q1 := c_121; have q2 := c_122; have q3 := c_158; have q4 := c_196; have q5 := c_197; have q6 := c_207; have q7 := h_200; simp only [cGu, ← Int32.toInt_inj, Int32.le_iff_toInt_le, Int32.lt_iff_toInt_lt] at q0 q1 q2 q3 q4 q5 q6 q7 ⊢; omega), h_209⟩, rfl, j_210⟩
              · skip
                refine aw_iconst (v := (-1)) dX11_guess_79 (by decide) ?_
                refine aw_ireti dX11_guess_80 rfl (Nat.le_of_ble_eq_true rfl) (Nat.le_of_ble_eq_true rfl) ?_
                exact ⟨Or.inr ⟨(by have t2 := two_n (by first | exact Int32.not_lt.mp c_196 | exact c_196) (by first | exact Int32.not_lt.mp c_197 | exact c_197); have e0 : (0 : Int32).toInt = 0 := (by decide); have e1 : (1 : Int32).toInt = 1 := (by decide); have e2 : (2 : Int32).toInt = 2 := (by decide); have e12 : (12 : Int32).toInt = 12 := (by decide); have e15 : (15 : Int32).toInt = 15 := (by decide); have e16 : (16 : Int32).toInt = 16 := (by decide); have e20 : (20 : Int32).toInt = 20 := (by decide); have e24 : (24 : Int32).toInt = 24 := (by decide); have e35 : (35 : Int32).toInt = 35 := (by decide); have e36 : (36 : Int32).toInt = 36 := (by decide); have e100 : (100 : Int32).toInt = 100 := (by decide); have q0 := c_1; have q1 := c_121; have q2 := c_122; have q3 := c_158; have q4 := c_196; have q5 := c_197; have q6 := c_207; have q7 := h_200; simp only [cGu, ← Int32.toInt_inj, Int32.le_iff_toInt_le, Int32.lt_iff_toInt_lt] at q0 q1 q2 q3 q4 q5 q6 q7 ⊢; omega), (Eq.refl (fI (V 1) 1))⟩, rfl, hJ0⟩
    · skip
      refine aw_iconst (v := 1) dX11_guess_10 (by decide) ?_
      refine aw_goto (tgt := 15) dX11_guess_11 (by decide) ?_
      refine aw_istore_n (ls' := [some (.ref (b + 0)), some (.int n0), some (.int n1), some (.int 1), none, none, none, none]) dX11_guess_15 (Nat.le_of_ble_eq_true rfl) rfl ?_
      refine aw_iload_n dX11_guess_16 rfl ?_
      refine aw_bipush (v := 20) dX11_guess_17 (by decide) ?_
      refine aw_icmp_lt (tgt := 32) dX11_guess_19 (by decide) (fun c_241 => ?_) (fun c_241 => ?_)
      · skip
        refine aw_iconst (v := 0) dX11_guess_32 (by decide) ?_
        refine aw_istore (ls' := [some (.ref (b + 0)), some (.int n0), some (.int n1), some (.int 1), some (.int 0), none, none, none]) dX11_guess_33 (Nat.le_of_ble_eq_true rfl) rfl ?_
        refine aw_iload_n dX11_guess_35 rfl ?_
        refine aw_if_ne (tgt := 52) dX11_guess_36 (by decide) (fun c_242 => ?_) (fun c_242 => ?_)
        rotate_left
        · exact absurd c_242 (by decide)
        refine aw_iload_n dX11_guess_52 rfl ?_
        refine aw_iconst (v := 1) dX11_guess_53 (by decide) ?_
        refine aw_icmp_lt (tgt := 79) dX11_guess_54 (by decide) (fun c_243 => ?_) (fun c_243 => ?_)
        · skip
          refine aw_iconst (v := (-1)) dX11_guess_79 (by decide) ?_
          refine aw_ireti dX11_guess_80 rfl (Nat.le_of_ble_eq_true rfl) (Nat.le_of_ble_eq_true rfl) ?_
          exact ⟨Or.inr ⟨(by have e0 : (0 : Int32).toInt = 0 := (by decide); have e1 : (1 : Int32).toInt = 1 := (by decide); have e2 : (2 : Int32).toInt = 2 := (by decide); have e12 : (12 : Int32).toInt = 12 := (by decide); have e15 : (15 : Int32).toInt = 15 := (by decide); have e16 : (16 : Int32).toInt = 16 := (by decide); have e20 : (20 : Int32).toInt = 20 := (by decide); have e24 : (24 : Int32).toInt = 24 := (by decide); have e35 : (35 : Int32).toInt = 35 := (by decide); have e36 : (36 : Int32).toInt = 36 := (by decide); have e100 : (100 : Int32).toInt = 100 := (by decide); have q0 := c_1; have q1 := c_121; have q2 := c_241; have q3 := c_243; simp only [cGu, ← Int32.toInt_inj, Int32.le_iff_toInt_le, Int32.lt_iff_toInt_lt] at q0 q1 q2 q3 ⊢; omega), (Eq.refl (fI (V 1) 1))⟩, rfl, hJ0⟩
        · skip
          refine aw_iload_n dX11_guess_57 rfl ?_
          refine aw_bipush (v := 12) dX11_guess_58 (by decide) ?_
          refine aw_icmp_gt (tgt := 79) dX11_guess_60 (by decide) (fun c_244 => ?_) (fun c_244 => ?_)
          · skip
            refine aw_iconst (v := (-1)) dX11_guess_79 (by decide) ?_
            refine aw_ireti dX11_guess_80 rfl (Nat.le_of_ble_eq_true rfl) (Nat.le_of_ble_eq_true rfl) ?_
            exact ⟨Or.inr ⟨(by have e0 : (0 : Int32).toInt = 0 := (by decide); have e1 : (1 : Int32).toInt = 1 := (by decide); have e2 : (2 : Int32).toInt = 2 := (by decide); have e12 : (12 : Int32).toInt = 12 := (by decide); have e15 : (15 : Int32).toInt = 15 := (by decide); have e16 : (16 : Int32).toInt = 16 := (by decide); have e20 : (20 : Int32).toInt = 20 := (by decide); have e24 : (24 : Int32).toInt = 24 := (by decide); have e35 : (35 : Int32).toInt = 35 := (by decide); have e36 : (36 : Int32).toInt = 36 := (by decide); have e100 : (100 : Int32).toInt = 100 := (by decide); have q0 := c_1; have q1 := c_121; have q2 := c_241; have q3 := c_243; have q4 := c_244; simp only [cGu, ← Int32.toInt_inj, Int32.le_iff_toInt_le, Int32.lt_iff_toInt_lt] at q0 q1 q2 q3 q4 ⊢; omega), (Eq.refl (fI (V 1) 1))⟩, rfl, hJ0⟩
          · skip
            refine aw_aload_n dX11_guess_63 rfl ?_
            obtain ⟨ek_245, x_245, y_245, e_245, hx_245, hy_245⟩ := JW.get hJ0 ct_0
            refine aw_get dX11_guess_64 fl_X11_12 e_245 (by omega) rfl ?_
            refine aw_iconst (v := 2) dX11_guess_67 (by decide) ?_
            refine aw_iload_n dX11_guess_68 rfl ?_
            refine aw_imul dX11_guess_69 ?_
            refine aw_iconst (v := 2) dX11_guess_70 (by decide) ?_
            refine aw_bipush (v := 24) dX11_guess_71 (by decide) ?_
            obtain ⟨ts_249, tn_249, tf_249, ta_249, e_249, hta_249⟩ := JW.get hJ0 ct_1
            refine aw_callVi (J' := jX10_holds) (As := [.int (2 * n0), .int 2, .int 24]) (st := []) dX11_guess_73 tb_267 ok_X10_holds ⟨_, e_249⟩ (by omega) rfl rfl (g_X10_holdsK l D b N V hN hJ0.1 (2 * n0) 2 24) rfl (Nat.le_of_ble_eq_true rfl) ⟨Nat.le_of_ble_eq_true rfl, Nat.le_of_ble_eq_true rfl, Nat.le_of_ble_eq_true rfl, Nat.le_of_ble_eq_true rfl⟩ (fun r_250 N_251 V_252 q_253 => ?_)
            obtain ⟨⟨z_248, h_247⟩, rfl, rfl⟩ := q_253
            refine aw_if_ne (tgt := 81) dX11_guess_76 (by decide) (fun c_254 => ?_) (fun c_254 => ?_)
            · skip
              refine aw_aload_n dX11_guess_81 rfl ?_
              refine aw_get dX11_guess_82 fl_X11_12 e_245 (by omega) rfl ?_
              refine aw_iconst (v := 2) dX11_guess_85 (by decide) ?_
              refine aw_iload_n dX11_guess_86 rfl ?_
              refine aw_imul dX11_guess_87 ?_
              refine aw_callVv (J' := jX10_take) (As := [.int (2 * n0)]) (st := []) dX11_guess_88 tb_271 ok_X10_take ⟨_, e_249⟩ (by omega) rfl rfl (g_X10_takeK l D b N V hN hJ0.1 (2 * n0)) rfl (Nat.le_of_ble_eq_true rfl) ⟨Nat.le_of_ble_eq_true rfl, Nat.le_of_ble_eq_true rfl, Nat.le_of_ble_eq_true rfl, Nat.le_of_ble_eq_true rfl⟩ (fun  N_259 V_258 q_260 => ?_)
              obtain ⟨h_256, rfl, q_255⟩ := q_260
              have j_257 := JW.trans hJ0 (JW.weak q_255 (Sub.cons LM0 (by decide) (by decide) (by decide) (Or.inr ⟨by decide, by decide⟩) (Sub.cons (LMs LM0) (by decide) (by decide) (by decide) (Or.inr ⟨by decide, by decide⟩) (Sub.cons (LMs (LMs LM0)) (by decide) (by decide) (by decide) (Or.inr ⟨by decide, by decide⟩) (Sub.cons (LMs (LMs (LMs LM0))) (by decide) (by decide) (by decide) (Or.inr ⟨by decide, by decide⟩) Sub.nil)))))
              refine aw_aload_n dX11_guess_91 rfl ?_
              obtain ⟨ek_261, x_261, y_261, e_261, hx_261, hy_261⟩ := JW.get j_257 ct_0
              refine aw_get dX11_guess_92 fl_X11_12 e_261 (by omega) rfl ?_
              refine aw_aload_n dX11_guess_95 rfl ?_
              refine aw_get dX11_guess_96 fl_X11_19 e_261 (by omega) rfl ?_
              refine aw_iload_n dX11_guess_99 rfl ?_
              refine aw_callSi (J' := jX3_triesFit) (As := [.ref (b + 1), .ref (b + 3), .int n0]) (st := []) dX11_guess_100 tb_922 ok_X3_triesFit rfl (g_X3_triesFit l D b N V_258 hN j_257.1 3 cA_3 n0) rfl (Nat.le_of_ble_eq_true rfl) ⟨Nat.le_of_ble_eq_true rfl, Nat.le_of_ble_eq_true rfl, Nat.le_of_ble_eq_true rfl, Nat.le_of_ble_eq_true rfl⟩ (fun r_264 N_265 V_266 q_267 => ?_)
              obtain ⟨h_263, rfl, rfl⟩ := q_267
              refine aw_if_ne (tgt := 109) dX11_guess_103 (by decide) (fun c_268 => ?_) (fun c_268 => ?_)
              · skip
                refine aw_iload_n dX11_guess_109 rfl ?_
                refine aw_bipush (v := 100) dX11_guess_110 (by decide) ?_
                refine aw_icmp_ne (tgt := 128) dX11_guess_112 (by decide) (fun c_269 => ?_) (fun c_269 => ?_)
                · skip
                  refine aw_iload_n dX11_guess_128 rfl ?_
                  refine aw_if_eq (tgt := 136) dX11_guess_129 (by decide) (fun c_270 => ?_) (fun c_270 => ?_)
                  · exact absurd c_270 (by decide)
                  refine aw_iload_n dX11_guess_132 rfl ?_
                  refine aw_goto (tgt := 140) dX11_guess_133 (by decide) ?_
                  refine aw_istore (ls' := [some (.ref (b + 0)), some (.int n0), some (.int n1), some (.int 1), some (.int 0), some (.int n1), none, none]) dX11_guess_140 (Nat.le_of_ble_eq_true rfl) rfl ?_
                  refine aw_aload_n dX11_guess_142 rfl ?_
                  refine aw_get dX11_guess_143 fl_X11_12 e_261 (by omega) rfl ?_
                  refine aw_aload_n dX11_guess_146 rfl ?_
                  refine aw_get dX11_guess_147 fl_X11_19 e_261 (by omega) rfl ?_
                  refine aw_iload_n dX11_guess_150 rfl ?_
                  refine aw_iload dX11_guess_151 rfl ?_
                  refine aw_callSi (J' := jX3_leastStrength) (As := [.ref (b + 1), .ref (b + 3), .int n0, .int n1]) (st := []) dX11_guess_153 tb_940 ok_X3_leastStrength rfl (g_X3_leastStrength l D b N V_258 hN j_257.1 3 cA_3 n0 n1) rfl (Nat.le_of_ble_eq_true rfl) ⟨Nat.le_of_ble_eq_true rfl, Nat.le_of_ble_eq_true rfl, Nat.le_of_ble_eq_true rfl, Nat.le_of_ble_eq_true rfl⟩ (fun r_272 N_273 V_274 q_275 => ?_)
                  obtain ⟨rfl, rfl⟩ := q_275
                  refine aw_istore (ls' := [some (.ref (b + 0)), some (.int n0), some (.int n1), some (.int 1), some (.int 0), some (.int n1), some (.int r_272), none]) dX11_guess_156 (Nat.le_of_ble_eq_true rfl) rfl ?_
                  refine aw_aload_n dX11_guess_158 rfl ?_
                  refine aw_get dX11_guess_159 fl_X11_12 e_261 (by omega) rfl ?_
                  refine aw_aload_n dX11_guess_162 rfl ?_
                  refine aw_get dX11_guess_163 fl_X11_19 e_261 (by omega) rfl ?_
                  refine aw_iload_n dX11_guess_166 rfl ?_
                  refine aw_iload dX11_guess_167 rfl ?_
                  refine aw_callSi (J' := jX3_greatestStrength) (As := [.ref (b + 1), .ref (b + 3), .int n0, .int n1]) (st := []) dX11_guess_169 tb_941 ok_X3_greatestStrength rfl (g_X3_greatestStrength l D b N V_258 hN j_257.1 3 cA_3 n0 n1) rfl (Nat.le_of_ble_eq_true rfl) ⟨Nat.le_of_ble_eq_true rfl, Nat.le_of_ble_eq_true rfl, Nat.le_of_ble_eq_true rfl, Nat.le_of_ble_eq_true rfl⟩ (fun r_277 N_278 V_279 q_280 => ?_)
                  obtain ⟨rfl, rfl⟩ := q_280
                  refine aw_istore (ls' := [some (.ref (b + 0)), some (.int n0), some (.int n1), some (.int 1), some (.int 0), some (.int n1), some (.int r_272), some (.int r_277)]) dX11_guess_172 (Nat.le_of_ble_eq_true rfl) rfl ?_
                  refine aw_iload dX11_guess_174 rfl ?_
                  refine aw_iload dX11_guess_176 rfl ?_
                  refine aw_icmp_le (tgt := 184) dX11_guess_178 (by decide) (fun c_281 => ?_) (fun c_281 => ?_)
                  · skip
                    refine aw_iload_n dX11_guess_184 rfl ?_
                    refine aw_if_eq (tgt := 193) dX11_guess_185 (by decide) (fun c_282 => ?_) (fun c_282 => ?_)
                    · exact absurd c_282 (by decide)
                    refine aw_iload dX11_guess_188 rfl ?_
                    refine aw_goto (tgt := 195) dX11_guess_190 (by decide) ?_
                    refine aw_ireti dX11_guess_195 rfl (Nat.le_of_ble_eq_true rfl) (Nat.le_of_ble_eq_true rfl) ?_
                    exact ⟨Or.inl ⟨(by have t2 := two_n (by first | exact Int32.not_lt.mp c_243 | exact c_243) (by first | exact Int32.not_lt.mp c_244 | exact c_244); have e0 : (0 : Int32).toInt = 0 := (by decide); have e1 : (1 : Int32).toInt = 1 := (by decide); have e2 : (2 : Int32).toInt = 2 := (by decide); have e12 : (12 : Int32).toInt = 12 := (by decide); have e15 : (15 : Int32).toInt = 15 := (by decide); have e16 : (16 : Int32).toInt = 16 := (by decide); have e20 : (20 : Int32).toInt = 20 := (by decide); have e24 : (24 : Int32).toInt = 24 := (by decide); have e35 : (35 : Int32).toInt = 35 := (by decide); have e36 : (36 : Int32).toInt = 36 := (by decide); have e100 : (100 : Int32).toInt = 100 := (by decide); have q0 := c_1; have q1 := c_121; have q2 := c_241; have q3 := c_243; have q4 := c_244; have q5 := c_254; have q6 := c_269; have q7 := h_247; simp only [cGu, ← Int32.toInt_inj, Int32.le_iff_toInt_le, Int32.lt_iff_toInt_lt] at q0 q1 q2 q3 q4 q5 q6 q7 ⊢; omega), h_256⟩, rfl, j_257⟩
                  · skip
                    refine aw_bipush (v := (-2)) dX11_guess_181 (by decide) ?_
                    refine aw_ireti dX11_guess_183 rfl (Nat.le_of_ble_eq_true rfl) (Nat.le_of_ble_eq_true rfl) ?_
                    exact ⟨Or.inl ⟨(by have t2 := two_n (by first | exact Int32.not_lt.mp c_243 | exact c_243) (by first | exact Int32.not_lt.mp c_244 | exact c_244); have e0 : (0 : Int32).toInt = 0 := (by decide); have e1 : (1 : Int32).toInt = 1 := (by decide); have e2 : (2 : Int32).toInt = 2 := (by decide); have e12 : (12 : Int32).toInt = 12 := (by decide); have e15 : (15 : Int32).toInt = 15 := (by decide); have e16 : (16 : Int32).toInt = 16 := (by decide); have e20 : (20 : Int32).toInt = 20 := (by decide); have e24 : (24 : Int32).toInt = 24 := (by decide); have e35 : (35 : Int32).toInt = 35 := (by decide); have e36 : (36 : Int32).toInt = 36 := (by decide); have e100 : (100 : Int32).toInt = 100 := (by decide); have q0 := c_1; have q1 := c_121; have q2 := c_241; have q3 := c_243; have q4 := c_244; have q5 := c_254; have q6 := c_269; have q7 := h_247; simp only [cGu, ← Int32.toInt_inj, Int32.le_iff_toInt_le, Int32.lt_iff_toInt_lt] at q0 q1 q2 q3 q4 q5 q6 q7 ⊢; omega), h_256⟩, rfl, j_257⟩
                · skip
                  refine aw_aload_n dX11_guess_115 rfl ?_
                  refine aw_get dX11_guess_116 fl_X11_12 e_261 (by omega) rfl ?_
                  refine aw_aload_n dX11_guess_119 rfl ?_
                  refine aw_get dX11_guess_120 fl_X11_19 e_261 (by omega) rfl ?_
                  refine aw_iload_n dX11_guess_123 rfl ?_
                  refine aw_callSi (J' := jX3_possibleFears) (As := [.ref (b + 1), .ref (b + 3), .int n0]) (st := []) dX11_guess_124 tb_930 ok_X3_possibleFears rfl (g_X3_possibleFears l D b N V_258 hN j_257.1 3 cA_3 n0) rfl (Nat.le_of_ble_eq_true rfl) ⟨Nat.le_of_ble_eq_true rfl, Nat.le_of_ble_eq_true rfl, Nat.le_of_ble_eq_true rfl, Nat.le_of_ble_eq_true rfl⟩ (fun r_284 N_285 V_286 q_287 => ?_)
                  obtain ⟨rfl, rfl⟩ := q_287
                  refine aw_ireti dX11_guess_127 rfl (Nat.le_of_ble_eq_true rfl) (Nat.le_of_ble_eq_true rfl) ?_
                  exact ⟨Or.inl ⟨(by have t2 := two_n (by first | exact Int32.not_lt.mp c_243 | exact c_243) (by first | exact Int32.not_lt.mp c_244 | exact c_244); have e0 : (0 : Int32).toInt = 0 := (by decide); have e1 : (1 : Int32).toInt = 1 := (by decide); have e2 : (2 : Int32).toInt = 2 := (by decide); have e12 : (12 : Int32).toInt = 12 := (by decide); have e15 : (15 : Int32).toInt = 15 := (by decide); have e16 : (16 : Int32).toInt = 16 := (by decide); have e20 : (20 : Int32).toInt = 20 := (by decide); have e24 : (24 : Int32).toInt = 24 := (by decide); have e35 : (35 : Int32).toInt = 35 := (by decide); have e36 : (36 : Int32).toInt = 36 := (by decide); have e100 : (100 : Int32).toInt = 100 := (by decide); have q0 := c_1; have q1 := c_121; have q2 := c_241; have q3 := c_243; have q4 := c_244; have q5 := c_254; have q6 := c_269; have q7 := h_247; simp only [cGu, ← Int32.toInt_inj, Int32.le_iff_toInt_le, Int32.lt_iff_toInt_lt] at q0 q1 q2 q3 q4 q5 q6 q7 ⊢; omega), h_256⟩, rfl, j_257⟩
              · skip
                refine aw_bipush (v := (-3)) dX11_guess_106 (by decide) ?_
                refine aw_ireti dX11_guess_108 rfl (Nat.le_of_ble_eq_true rfl) (Nat.le_of_ble_eq_true rfl) ?_
                exact ⟨Or.inl ⟨(by have t2 := two_n (by first | exact Int32.not_lt.mp c_243 | exact c_243) (by first | exact Int32.not_lt.mp c_244 | exact c_244); have e0 : (0 : Int32).toInt = 0 := (by decide); have e1 : (1 : Int32).toInt = 1 := (by decide); have e2 : (2 : Int32).toInt = 2 := (by decide); have e12 : (12 : Int32).toInt = 12 := (by decide); have e15 : (15 : Int32).toInt = 15 := (by decide); have e16 : (16 : Int32).toInt = 16 := (by decide); have e20 : (20 : Int32).toInt = 20 := (by decide); have e24 : (24 : Int32).toInt = 24 := (by decide); have e35 : (35 : Int32).toInt = 35 := (by decide); have e36 : (36 : Int32).toInt = 36 := (by decide); have e100 : (100 : Int32).toInt = 100 := (by decide); have q0 := c_1; have q1 := c_121; have q2 := c_241; have q3 := c_243; have q4 := c_244; have q5 := c_254; have q6 := h_247; simp only [cGu, ← Int32.toInt_inj, Int32.le_iff_toInt_le, Int32.lt_iff_toInt_lt] at q0 q1 q2 q3 q4 q5 q6 ⊢; omega), h_256⟩, rfl, j_257⟩
            · skip
              refine aw_iconst (v := (-1)) dX11_guess_79 (by decide) ?_
              refine aw_ireti dX11_guess_80 rfl (Nat.le_of_ble_eq_true rfl) (Nat.le_of_ble_eq_true rfl) ?_
              exact ⟨Or.inr ⟨(by have t2 := two_n (by first | exact Int32.not_lt.mp c_243 | exact c_243) (by first | exact Int32.not_lt.mp c_244 | exact c_244); have e0 : (0 : Int32).toInt = 0 := (by decide); have e1 : (1 : Int32).toInt = 1 := (by decide); have e2 : (2 : Int32).toInt = 2 := (by decide); have e12 : (12 : Int32).toInt = 12 := (by decide); have e15 : (15 : Int32).toInt = 15 := (by decide); have e16 : (16 : Int32).toInt = 16 := (by decide); have e20 : (20 : Int32).toInt = 20 := (by decide); have e24 : (24 : Int32).toInt = 24 := (by decide); have e35 : (35 : Int32).toInt = 35 := (by decide); have e36 : (36 : Int32).toInt = 36 := (by decide); have e100 : (100 : Int32).toInt = 100 := (by decide); have q0 := c_1; have q1 := c_121; have q2 := c_241; have q3 := c_243; have q4 := c_244; have q5 := c_254; have q6 := h_247; simp only [cGu, ← Int32.toInt_inj, Int32.le_iff_toInt_le, Int32.lt_iff_toInt_lt] at q0 q1 q2 q3 q4 q5 q6 ⊢; omega), (Eq.refl (fI (V 1) 1))⟩, rfl, hJ0⟩
      · skip
        refine aw_iload_n dX11_guess_22 rfl ?_
        refine aw_bipush (v := 36) dX11_guess_23 (by decide) ?_
        refine aw_icmp_ge (tgt := 32) dX11_guess_25 (by decide) (fun c_288 => ?_) (fun c_288 => ?_)
        · skip
          refine aw_iconst (v := 0) dX11_guess_32 (by decide) ?_
          refine aw_istore (ls' := [some (.ref (b + 0)), some (.int n0), some (.int n1), some (.int 1), some (.int 0), none, none, none]) dX11_guess_33 (Nat.le_of_ble_eq_true rfl) rfl ?_
          refine aw_iload_n dX11_guess_35 rfl ?_
          refine aw_if_ne (tgt := 52) dX11_guess_36 (by decide) (fun c_289 => ?_) (fun c_289 => ?_)
          rotate_left
          · exact absurd c_289 (by decide)
          refine aw_iload_n dX11_guess_52 rfl ?_
          refine aw_iconst (v := 1) dX11_guess_53 (by decide) ?_
          refine aw_icmp_lt (tgt := 79) dX11_guess_54 (by decide) (fun c_290 => ?_) (fun c_290 => ?_)
          · skip
            refine aw_iconst (v := (-1)) dX11_guess_79 (by decide) ?_
            refine aw_ireti dX11_guess_80 rfl (Nat.le_of_ble_eq_true rfl) (Nat.le_of_ble_eq_true rfl) ?_
            exact ⟨Or.inr ⟨(by have e0 : (0 : Int32).toInt = 0 := (by decide); have e1 : (1 : Int32).toInt = 1 := (by decide); have e2 : (2 : Int32).toInt = 2 := (by decide); have e12 : (12 : Int32).toInt = 12 := (by decide); have e15 : (15 : Int32).toInt = 15 := (by decide); have e16 : (16 : Int32).toInt = 16 := (by decide); have e20 : (20 : Int32).toInt = 20 := (by decide); have e24 : (24 : Int32).toInt = 24 := (by decide); have e35 : (35 : Int32).toInt = 35 := (by decide); have e36 : (36 : Int32).toInt = 36 := (by decide); have e100 : (100 : Int32).toInt = 100 := (by decide); have q0 := c_1; have q1 := c_121; have q2 := c_241; have q3 := c_288; have q4 := c_290; simp only [cGu, ← Int32.toInt_inj, Int32.le_iff_toInt_le, Int32.lt_iff_toInt_lt] at q0 q1 q2 q3 q4 ⊢; omega), (Eq.refl (fI (V 1) 1))⟩, rfl, hJ0⟩
          · skip
            refine aw_iload_n dX11_guess_57 rfl ?_
            refine aw_bipush (v := 12) dX11_guess_58 (by decide) ?_
            refine aw_icmp_gt (tgt := 79) dX11_guess_60 (by decide) (fun c_291 => ?_) (fun c_291 => ?_)
            · skip
              refine aw_iconst (v := (-1)) dX11_guess_79 (by decide) ?_
              refine aw_ireti dX11_guess_80 rfl (Nat.le_of_ble_eq_true rfl) (Nat.le_of_ble_eq_true rfl) ?_
              exact ⟨Or.inr ⟨(by have e0 : (0 : Int32).toInt = 0 := (by decide); have e1 : (1 : Int32).toInt = 1 := (by decide); have e2 : (2 : Int32).toInt = 2 := (by decide); have e12 : (12 : Int32).toInt = 12 := (by decide); have e15 : (15 : Int32).toInt = 15 := (by decide); have e16 : (16 : Int32).toInt = 16 := (by decide); have e20 : (20 : Int32).toInt = 20 := (by decide); have e24 : (24 : Int32).toInt = 24 := (by decide); have e35 : (35 : Int32).toInt = 35 := (by decide); have e36 : (36 : Int32).toInt = 36 := (by decide); have e100 : (100 : Int32).toInt = 100 := (by decide); have q0 := c_1; have q1 := c_121; have q2 := c_241; have q3 := c_288; have q4 := c_290; have q5 := c_291; simp only [cGu, ← Int32.toInt_inj, Int32.le_iff_toInt_le, Int32.lt_iff_toInt_lt] at q0 q1 q2 q3 q4 q5 ⊢; omega), (Eq.refl (fI (V 1) 1))⟩, rfl, hJ0⟩
            · skip
              refine aw_aload_n dX11_guess_63 rfl ?_
              obtain ⟨ek_292, x_292, y_292, e_292, hx_292, hy_292⟩ := JW.get hJ0 ct_0
              refine aw_get dX11_guess_64 fl_X11_12 e_292 (by omega) rfl ?_
              refine aw_iconst (v := 2) dX11_guess_67 (by decide) ?_
              refine aw_iload_n dX11_guess_68 rfl ?_
              refine aw_imul dX11_guess_69 ?_
              refine aw_iconst (v := 2) dX11_guess_70 (by decide) ?_
              refine aw_bipush (v := 24) dX11_guess_71 (by decide) ?_
              obtain ⟨ts_296, tn_296, tf_296, ta_296, e_296, hta_296⟩ := JW.get hJ0 ct_1
              refine aw_callVi (J' := jX10_holds) (As := [.int (2 * n0), .int 2, .int 24]) (st := []) dX11_guess_73 tb_267 ok_X10_holds ⟨_, e_296⟩ (by omega) rfl rfl (g_X10_holdsK l D b N V hN hJ0.1 (2 * n0) 2 24) rfl (Nat.le_of_ble_eq_true rfl) ⟨Nat.le_of_ble_eq_true rfl, Nat.le_of_ble_eq_true rfl, Nat.le_of_ble_eq_true rfl, Nat.le_of_ble_eq_true rfl⟩ (fun r_297 N_298 V_299 q_300 => ?_)
              obtain ⟨⟨z_295, h_294⟩, rfl, rfl⟩ := q_300
              refine aw_if_ne (tgt := 81) dX11_guess_76 (by decide) (fun c_301 => ?_) (fun c_301 => ?_)
              · skip
                refine aw_aload_n dX11_guess_81 rfl ?_
                refine aw_get dX11_guess_82 fl_X11_12 e_292 (by omega) rfl ?_
                refine aw_iconst (v := 2) dX11_guess_85 (by decide) ?_
                refine aw_iload_n dX11_guess_86 rfl ?_
                refine aw_imul dX11_guess_87 ?_
                refine aw_callVv (J' := jX10_take) (As := [.int (2 * n0)]) (st := []) dX11_guess_88 tb_271 ok_X10_take ⟨_, e_296⟩ (by omega) rfl rfl (g_X10_takeK l D b N V hN hJ0.1 (2 * n0)) rfl (Nat.le_of_ble_eq_true rfl) ⟨Nat.le_of_ble_eq_true rfl, Nat.le_of_ble_eq_true rfl, Nat.le_of_ble_eq_true rfl, Nat.le_of_ble_eq_true rfl⟩ (fun  N_306 V_305 q_307 => ?_)
                obtain ⟨h_303, rfl, q_302⟩ := q_307
                have j_304 := JW.trans hJ0 (JW.weak q_302 (Sub.cons LM0 (by decide) (by decide) (by decide) (Or.inr ⟨by decide, by decide⟩) (Sub.cons (LMs LM0) (by decide) (by decide) (by decide) (Or.inr ⟨by decide, by decide⟩) (Sub.cons (LMs (LMs LM0)) (by decide) (by decide) (by decide) (Or.inr ⟨by decide, by decide⟩) (Sub.cons (LMs (LMs (LMs LM0))) (by decide) (by decide) (by decide) (Or.inr ⟨by decide, by decide⟩) Sub.nil)))))
                refine aw_aload_n dX11_guess_91 rfl ?_
                obtain ⟨ek_308, x_308, y_308, e_308, hx_308, hy_308⟩ := JW.get j_304 ct_0
                refine aw_get dX11_guess_92 fl_X11_12 e_308 (by omega) rfl ?_
                refine aw_aload_n dX11_guess_95 rfl ?_
                refine aw_get dX11_guess_96 fl_X11_19 e_308 (by omega) rfl ?_
                refine aw_iload_n dX11_guess_99 rfl ?_
                refine aw_callSi (J' := jX3_triesFit) (As := [.ref (b + 1), .ref (b + 3), .int n0]) (st := []) dX11_guess_100 tb_922 ok_X3_triesFit rfl (g_X3_triesFit l D b N V_305 hN j_304.1 3 cA_3 n0) rfl (Nat.le_of_ble_eq_true rfl) ⟨Nat.le_of_ble_eq_true rfl, Nat.le_of_ble_eq_true rfl, Nat.le_of_ble_eq_true rfl, Nat.le_of_ble_eq_true rfl⟩ (fun r_311 N_312 V_313 q_314 => ?_)
                obtain ⟨h_310, rfl, rfl⟩ := q_314
                refine aw_if_ne (tgt := 109) dX11_guess_103 (by decide) (fun c_315 => ?_) (fun c_315 => ?_)
                · skip
                  refine aw_iload_n dX11_guess_109 rfl ?_
                  refine aw_bipush (v := 100) dX11_guess_110 (by decide) ?_
                  refine aw_icmp_ne (tgt := 128) dX11_guess_112 (by decide) (fun c_316 => ?_) (fun c_316 => ?_)
                  · skip
                    refine aw_iload_n dX11_guess_128 rfl ?_
                    refine aw_if_eq (tgt := 136) dX11_guess_129 (by decide) (fun c_317 => ?_) (fun c_317 => ?_)
                    · exact absurd c_317 (by decide)
                    refine aw_iload_n dX11_guess_132 rfl ?_
                    refine aw_goto (tgt := 140) dX11_guess_133 (by decide) ?_
                    refine aw_istore (ls' := [some (.ref (b + 0)), some (.int n0), some (.int n1), some (.int 1), some (.int 0), some (.int n1), none, none]) dX11_guess_140 (Nat.le_of_ble_eq_true rfl) rfl ?_
                    refine aw_aload_n dX11_guess_142 rfl ?_
                    refine aw_get dX11_guess_143 fl_X11_12 e_308 (by omega) rfl ?_
                    refine aw_aload_n dX11_guess_146 rfl ?_
                    refine aw_get dX11_guess_147 fl_X11_19 e_308 (by omega) rfl ?_
                    refine aw_iload_n dX11_guess_150 rfl ?_
                    refine aw_iload dX11_guess_151 rfl ?_
                    refine aw_callSi (J' := jX3_leastStrength) (As := [.ref (b + 1), .ref (b + 3), .int n0, .int n1]) (st := []) dX11_guess_153 tb_940 ok_X3_leastStrength rfl (g_X3_leastStrength l D b N V_305 hN j_304.1 3 cA_3 n0 n1) rfl (Nat.le_of_ble_eq_true rfl) ⟨Nat.le_of_ble_eq_true rfl, Nat.le_of_ble_eq_true rfl, Nat.le_of_ble_eq_true rfl, Nat.le_of_ble_eq_true rfl⟩ (fun r_319 N_320 V_321 q_322 => ?_)
                    obtain ⟨rfl, rfl⟩ := q_322
                    refine aw_istore (ls' := [some (.ref (b + 0)), some (.int n0), some (.int n1), some (.int 1), some (.int 0), some (.int n1), some (.int r_319), none]) dX11_guess_156 (Nat.le_of_ble_eq_true rfl) rfl ?_
                    refine aw_aload_n dX11_guess_158 rfl ?_
                    refine aw_get dX11_guess_159 fl_X11_12 e_308 (by omega) rfl ?_
                    refine aw_aload_n dX11_guess_162 rfl ?_
                    refine aw_get dX11_guess_163 fl_X11_19 e_308 (by omega) rfl ?_
                    refine aw_iload_n dX11_guess_166 rfl ?_
                    refine aw_iload dX11_guess_167 rfl ?_
                    refine aw_callSi (J' := jX3_greatestStrength) (As := [.ref (b + 1), .ref (b + 3), .int n0, .int n1]) (st := []) dX11_guess_169 tb_941 ok_X3_greatestStrength rfl (g_X3_greatestStrength l D b N V_305 hN j_304.1 3 cA_3 n0 n1) rfl (Nat.le_of_ble_eq_true rfl) ⟨Nat.le_of_ble_eq_true rfl, Nat.le_of_ble_eq_true rfl, Nat.le_of_ble_eq_true rfl, Nat.le_of_ble_eq_true rfl⟩ (fun r_324 N_325 V_326 q_327 => ?_)
                    obtain ⟨rfl, rfl⟩ := q_327
                    refine aw_istore (ls' := [some (.ref (b + 0)), some (.int n0), some (.int n1), some (.int 1), some (.int 0), some (.int n1), some (.int r_319), some (.int r_324)]) dX11_guess_172 (Nat.le_of_ble_eq_true rfl) rfl ?_
                    refine aw_iload dX11_guess_174 rfl ?_
                    refine aw_iload dX11_guess_176 rfl ?_
                    refine aw_icmp_le (tgt := 184) dX11_guess_178 (by decide) (fun c_328 => ?_) (fun c_328 => ?_)
                    · skip
                      refine aw_iload_n dX11_guess_184 rfl ?_
                      refine aw_if_eq (tgt := 193) dX11_guess_185 (by decide) (fun c_329 => ?_) (fun c_329 => ?_)
                      · exact absurd c_329 (by decide)
                      refine aw_iload dX11_guess_188 rfl ?_
                      refine aw_goto (tgt := 195) dX11_guess_190 (by decide) ?_
                      refine aw_ireti dX11_guess_195 rfl (Nat.le_of_ble_eq_true rfl) (Nat.le_of_ble_eq_true rfl) ?_
                      exact ⟨Or.inl ⟨(by have t2 := two_n (by first | exact Int32.not_lt.mp c_290 | exact c_290) (by first | exact Int32.not_lt.mp c_291 | exact c_291); have e0 : (0 : Int32).toInt = 0 := (by decide); have e1 : (1 : Int32).toInt = 1 := (by decide); have e2 : (2 : Int32).toInt = 2 := (by decide); have e12 : (12 : Int32).toInt = 12 := (by decide); have e15 : (15 : Int32).toInt = 15 := (by decide); have e16 : (16 : Int32).toInt = 16 := (by decide); have e20 : (20 : Int32).toInt = 20 := (by decide); have e24 : (24 : Int32).toInt = 24 := (by decide); have e35 : (35 : Int32).toInt = 35 := (by decide); have e36 : (36 : Int32).toInt = 36 := (by decide); have e100 : (100 : Int32).toInt = 100 := (by decide); have q0 := c_1; have q1 := c_121; have q2 := c_241; have q3 := c_288; have q4 := c_290; have q5 := c_291; have q6 := c_301; have q7 := c_316; have q8 := h_294; simp only [cGu, ← Int32.toInt_inj, Int32.le_iff_toInt_le, Int32.lt_iff_toInt_lt] at q0 q1 q2 q3 q4 q5 q6 q7 q8 ⊢; omega), h_303⟩, rfl, j_304⟩
                    · skip
                      refine aw_bipush (v := (-2)) dX11_guess_181 (by decide) ?_
                      refine aw_ireti dX11_guess_183 rfl (Nat.le_of_ble_eq_true rfl) (Nat.le_of_ble_eq_true rfl) ?_
                      exact ⟨Or.inl ⟨(by have t2 := two_n (by first | exact Int32.not_lt.mp c_290 | exact c_290) (by first | exact Int32.not_lt.mp c_291 | exact c_291); have e0 : (0 : Int32).toInt = 0 := (by decide); have e1 : (1 : Int32).toInt = 1 := (by decide); have e2 : (2 : Int32).toInt = 2 := (by decide); have e12 : (12 : Int32).toInt = 12 := (by decide); have e15 : (15 : Int32).toInt = 15 := (by decide); have e16 : (16 : Int32).toInt = 16 := (by decide); have e20 : (20 : Int32).toInt = 20 := (by decide); have e24 : (24 : Int32).toInt = 24 := (by decide); have e35 : (35 : Int32).toInt = 35 := (by decide); have e36 : (36 : Int32).toInt = 36 := (by decide); have e100 : (100 : Int32).toInt = 100 := (by decide); have q0 := c_1; have q1 := c_121; have q2 := c_241; have q3 := c_288; have q4 := c_290; have q5 := c_291; have q6 := c_301; have q7 := c_316; have q8 := h_294; simp only [cGu, ← Int32.toInt_inj, Int32.le_iff_toInt_le, Int32.lt_iff_toInt_lt] at q0 q1 q2 q3 q4 q5 q6 q7 q8 ⊢; omega), h_303⟩, rfl, j_304⟩
                  · skip
                    refine aw_aload_n dX11_guess_115 rfl ?_
                    refine aw_get dX11_guess_116 fl_X11_12 e_308 (by omega) rfl ?_
                    refine aw_aload_n dX11_guess_119 rfl ?_
                    refine aw_get dX11_guess_120 fl_X11_19 e_308 (by omega) rfl ?_
                    refine aw_iload_n dX11_guess_123 rfl ?_
                    refine aw_callSi (J' := jX3_possibleFears) (As := [.ref (b + 1), .ref (b + 3), .int n0]) (st := []) dX11_guess_124 tb_930 ok_X3_possibleFears rfl (g_X3_possibleFears l D b N V_305 hN j_304.1 3 cA_3 n0) rfl (Nat.le_of_ble_eq_true rfl) ⟨Nat.le_of_ble_eq_true rfl, Nat.le_of_ble_eq_true rfl, Nat.le_of_ble_eq_true rfl, Nat.le_of_ble_eq_true rfl⟩ (fun r_331 N_332 V_333 q_334 => ?_)
                    obtain ⟨rfl, rfl⟩ := q_334
                    refine aw_ireti dX11_guess_127 rfl (Nat.le_of_ble_eq_true rfl) (Nat.le_of_ble_eq_true rfl) ?_
                    exact ⟨Or.inl ⟨(by have t2 := two_n (by first | exact Int32.not_lt.mp c_290 | exact c_290) (by first | exact Int32.not_lt.mp c_291 | exact c_291); have e0 : (0 : Int32).toInt = 0 := (by decide); have e1 : (1 : Int32).toInt = 1 := (by decide); have e2 : (2 : Int32).toInt = 2 := (by decide); have e12 : (12 : Int32).toInt = 12 := (by decide); have e15 : (15 : Int32).toInt = 15 := (by decide); have e16 : (16 : Int32).toInt = 16 := (by decide); have e20 : (20 : Int32).toInt = 20 := (by decide); have e24 : (24 : Int32).toInt = 24 := (by decide); have e35 : (35 : Int32).toInt = 35 := (by decide); have e36 : (36 : Int32).toInt = 36 := (by decide); have e100 : (100 : Int32).toInt = 100 := (by decide); have q0 := c_1; have q1 := c_121; have q2 := c_241; have q3 := c_288; have q4 := c_290; have q5 := c_291; have q6 := c_301; have q7 := c_316; have q8 := h_294; simp only [cGu, ← Int32.toInt_inj, Int32.le_iff_toInt_le, Int32.lt_iff_toInt_lt] at q0 q1 q2 q3 q4 q5 q6 q7 q8 ⊢; omega), h_303⟩, rfl, j_304⟩
                · skip
                  refine aw_bipush (v := (-3)) dX11_guess_106 (by decide) ?_
                  refine aw_ireti dX11_guess_108 rfl (Nat.le_of_ble_eq_true rfl) (Nat.le_of_ble_eq_true rfl) ?_
                  exact ⟨Or.inl ⟨(by have t2 := two_n (by first | exact Int32.not_lt.mp c_290 | exact c_290) (by first | exact Int32.not_lt.mp c_291 | exact c_291); have e0 : (0 : Int32).toInt = 0 := (by decide); have e1 : (1 : Int32).toInt = 1 := (by decide); have e2 : (2 : Int32).toInt = 2 := (by decide); have e12 : (12 : Int32).toInt = 12 := (by decide); have e15 : (15 : Int32).toInt = 15 := (by decide); have e16 : (16 : Int32).toInt = 16 := (by decide); have e20 : (20 : Int32).toInt = 20 := (by decide); have e24 : (24 : Int32).toInt = 24 := (by decide); have e35 : (35 : Int32).toInt = 35 := (by decide); have e36 : (36 : Int32).toInt = 36 := (by decide); have e100 : (100 : Int32).toInt = 100 := (by decide); have q0 := c_1; have q1 := c_121; have q2 := c_241; have q3 := c_288; have q4 := c_290; have q5 := c_291; have q6 := c_301; have q7 := h_294; simp only [cGu, ← Int32.toInt_inj, Int32.le_iff_toInt_le, Int32.lt_iff_toInt_lt] at q0 q1 q2 q3 q4 q5 q6 q7 ⊢; omega), h_303⟩, rfl, j_304⟩
              · skip
                refine aw_iconst (v := (-1)) dX11_guess_79 (by decide) ?_
                refine aw_ireti dX11_guess_80 rfl (Nat.le_of_ble_eq_true rfl) (Nat.le_of_ble_eq_true rfl) ?_
                exact ⟨Or.inr ⟨(by have t2 := two_n (by first | exact Int32.not_lt.mp c_290 | exact c_290) (by first | exact Int32.not_lt.mp c_291 | exact c_291); have e0 : (0 : Int32).toInt = 0 := (by decide); have e1 : (1 : Int32).toInt = 1 := (by decide); have e2 : (2 : Int32).toInt = 2 := (by decide); have e12 : (12 : Int32).toInt = 12 := (by decide); have e15 : (15 : Int32).toInt = 15 := (by decide); have e16 : (16 : Int32).toInt = 16 := (by decide); have e20 : (20 : Int32).toInt = 20 := (by decide); have e24 : (24 : Int32).toInt = 24 := (by decide); have e35 : (35 : Int32).toInt = 35 := (by decide); have e36 : (36 : Int32).toInt = 36 := (by decide); have e100 : (100 : Int32).toInt = 100 := (by decide); have q0 := c_1; have q1 := c_121; have q2 := c_241; have q3 := c_288; have q4 := c_290; have q5 := c_291; have q6 := c_301; have q7 := h_294; simp only [cGu, ← Int32.toInt_inj, Int32.le_iff_toInt_le, Int32.lt_iff_toInt_lt] at q0 q1 q2 q3 q4 q5 q6 q7 ⊢; omega), (Eq.refl (fI (V 1) 1))⟩, rfl, hJ0⟩
        · skip
          refine aw_iconst (v := 1) dX11_guess_28 (by decide) ?_
          refine aw_goto (tgt := 33) dX11_guess_29 (by decide) ?_
          refine aw_istore (ls' := [some (.ref (b + 0)), some (.int n0), some (.int n1), some (.int 1), some (.int 1), none, none, none]) dX11_guess_33 (Nat.le_of_ble_eq_true rfl) rfl ?_
          refine aw_iload_n dX11_guess_35 rfl ?_
          refine aw_if_ne (tgt := 52) dX11_guess_36 (by decide) (fun c_335 => ?_) (fun c_335 => ?_)
          rotate_left
          · exact absurd c_335 (by decide)
          refine aw_iload_n dX11_guess_52 rfl ?_
          refine aw_iconst (v := 1) dX11_guess_53 (by decide) ?_
          refine aw_icmp_lt (tgt := 79) dX11_guess_54 (by decide) (fun c_336 => ?_) (fun c_336 => ?_)
          · skip
            refine aw_iconst (v := (-1)) dX11_guess_79 (by decide) ?_
            refine aw_ireti dX11_guess_80 rfl (Nat.le_of_ble_eq_true rfl) (Nat.le_of_ble_eq_true rfl) ?_
            exact ⟨Or.inr ⟨(by have e0 : (0 : Int32).toInt = 0 := (by decide); have e1 : (1 : Int32).toInt = 1 := (by decide); have e2 : (2 : Int32).toInt = 2 := (by decide); have e12 : (12 : Int32).toInt = 12 := (by decide); have e15 : (15 : Int32).toInt = 15 := (by decide); have e16 : (16 : Int32).toInt = 16 := (by decide); have e20 : (20 : Int32).toInt = 20 := (by decide); have e24 : (24 : Int32).toInt = 24 := (by decide); have e35 : (35 : Int32).toInt = 35 := (by decide); have e36 : (36 : Int32).toInt = 36 := (by decide); have e100 : (100 : Int32).toInt = 100 := (by decide); have q0 := c_1; have q1 := c_121; have q2 := c_241; have q3 := c_288; have q4 := c_336; simp only [cGu, ← Int32.toInt_inj, Int32.le_iff_toInt_le, Int32.lt_iff_toInt_lt] at q0 q1 q2 q3 q4 ⊢; omega), (Eq.refl (fI (V 1) 1))⟩, rfl, hJ0⟩
          · skip
            refine aw_iload_n dX11_guess_57 rfl ?_
            refine aw_bipush (v := 12) dX11_guess_58 (by decide) ?_
            refine aw_icmp_gt (tgt := 79) dX11_guess_60 (by decide) (fun c_337 => ?_) (fun c_337 => ?_)
            · skip
              refine aw_iconst (v := (-1)) dX11_guess_79 (by decide) ?_
              refine aw_ireti dX11_guess_80 rfl (Nat.le_of_ble_eq_true rfl) (Nat.le_of_ble_eq_true rfl) ?_
              exact ⟨Or.inr ⟨(by have e0 : (0 : Int32).toInt = 0 := (by decide); have e1 : (1 : Int32).toInt = 1 := (by decide); have e2 : (2 : Int32).toInt = 2 := (by decide); have e12 : (12 : Int32).toInt = 12 := (by decide); have e15 : (15 : Int32).toInt = 15 := (by decide); have e16 : (16 : Int32).toInt = 16 := (by decide); have e20 : (20 : Int32).toInt = 20 := (by decide); have e24 : (24 : Int32).toInt = 24 := (by decide); have e35 : (35 : Int32).toInt = 35 := (by decide); have e36 : (36 : Int32).toInt = 36 := (by decide); have e100 : (100 : Int32).toInt = 100 := (by decide); have q0 := c_1; have q1 := c_121; have q2 := c_241; have q3 := c_288; have q4 := c_336; have q5 := c_337; simp only [cGu, ← Int32.toInt_inj, Int32.le_iff_toInt_le, Int32.lt_iff_toInt_lt] at q0 q1 q2 q3 q4 q5 ⊢; omega), (Eq.refl (fI (V 1) 1))⟩, rfl, hJ0⟩
            · skip
              refine aw_aload_n dX11_guess_63 rfl ?_
              obtain ⟨ek_338, x_338, y_338, e_338, hx_338, hy_338⟩ := JW.get hJ0 ct_0
              refine aw_get dX11_guess_64 fl_X11_12 e_338 (by omega) rfl ?_
              refine aw_iconst (v := 2) dX11_guess_67 (by decide) ?_
              refine aw_iload_n dX11_guess_68 rfl ?_
              refine aw_imul dX11_guess_69 ?_
              refine aw_iconst (v := 2) dX11_guess_70 (by decide) ?_
              refine aw_bipush (v := 24) dX11_guess_71 (by decide) ?_
              obtain ⟨ts_342, tn_342, tf_342, ta_342, e_342, hta_342⟩ := JW.get hJ0 ct_1
              refine aw_callVi (J' := jX10_holds) (As := [.int (2 * n0), .int 2, .int 24]) (st := []) dX11_guess_73 tb_267 ok_X10_holds ⟨_, e_342⟩ (by omega) rfl rfl (g_X10_holdsK l D b N V hN hJ0.1 (2 * n0) 2 24) rfl (Nat.le_of_ble_eq_true rfl) ⟨Nat.le_of_ble_eq_true rfl, Nat.le_of_ble_eq_true rfl, Nat.le_of_ble_eq_true rfl, Nat.le_of_ble_eq_true rfl⟩ (fun r_343 N_344 V_345 q_346 => ?_)
              obtain ⟨⟨z_341, h_340⟩, rfl, rfl⟩ := q_346
              refine aw_if_ne (tgt := 81) dX11_guess_76 (by decide) (fun c_347 => ?_) (fun c_347 => ?_)
              · skip
                refine aw_aload_n dX11_guess_81 rfl ?_
                refine aw_get dX11_guess_82 fl_X11_12 e_338 (by omega) rfl ?_
                refine aw_iconst (v := 2) dX11_guess_85 (by decide) ?_
                refine aw_iload_n dX11_guess_86 rfl ?_
                refine aw_imul dX11_guess_87 ?_
                refine aw_callVv (J' := jX10_take) (As := [.int (2 * n0)]) (st := []) dX11_guess_88 tb_271 ok_X10_take ⟨_, e_342⟩ (by omega) rfl rfl (g_X10_takeK l D b N V hN hJ0.1 (2 * n0)) rfl (Nat.le_of_ble_eq_true rfl) ⟨Nat.le_of_ble_eq_true rfl, Nat.le_of_ble_eq_true rfl, Nat.le_of_ble_eq_true rfl, Nat.le_of_ble_eq_true rfl⟩ (fun  N_352 V_351 q_353 => ?_)
                obtain ⟨h_349, rfl, q_348⟩ := q_353
                have j_350 := JW.trans hJ0 (JW.weak q_348 (Sub.cons LM0 (by decide) (by decide) (by decide) (Or.inr ⟨by decide, by decide⟩) (Sub.cons (LMs LM0) (by decide) (by decide) (by decide) (Or.inr ⟨by decide, by decide⟩) (Sub.cons (LMs (LMs LM0)) (by decide) (by decide) (by decide) (Or.inr ⟨by decide, by decide⟩) (Sub.cons (LMs (LMs (LMs LM0))) (by decide) (by decide) (by decide) (Or.inr ⟨by decide, by decide⟩) Sub.nil)))))
                refine aw_aload_n dX11_guess_91 rfl ?_
                obtain ⟨ek_354, x_354, y_354, e_354, hx_354, hy_354⟩ := JW.get j_350 ct_0
                refine aw_get dX11_guess_92 fl_X11_12 e_354 (by omega) rfl ?_
                refine aw_aload_n dX11_guess_95 rfl ?_
                refine aw_get dX11_guess_96 fl_X11_19 e_354 (by omega) rfl ?_
                refine aw_iload_n dX11_guess_99 rfl ?_
                refine aw_callSi (J' := jX3_triesFit) (As := [.ref (b + 1), .ref (b + 3), .int n0]) (st := []) dX11_guess_100 tb_922 ok_X3_triesFit rfl (g_X3_triesFit l D b N V_351 hN j_350.1 3 cA_3 n0) rfl (Nat.le_of_ble_eq_true rfl) ⟨Nat.le_of_ble_eq_true rfl, Nat.le_of_ble_eq_true rfl, Nat.le_of_ble_eq_true rfl, Nat.le_of_ble_eq_true rfl⟩ (fun r_357 N_358 V_359 q_360 => ?_)
                obtain ⟨h_356, rfl, rfl⟩ := q_360
                refine aw_if_ne (tgt := 109) dX11_guess_103 (by decide) (fun c_361 => ?_) (fun c_361 => ?_)
                · skip
                  refine aw_iload_n dX11_guess_109 rfl ?_
                  refine aw_bipush (v := 100) dX11_guess_110 (by decide) ?_
                  refine aw_icmp_ne (tgt := 128) dX11_guess_112 (by decide) (fun c_362 => ?_) (fun c_362 => ?_)
                  · skip
                    refine aw_iload_n dX11_guess_128 rfl ?_
                    refine aw_if_eq (tgt := 136) dX11_guess_129 (by decide) (fun c_363 => ?_) (fun c_363 => ?_)
                    · exact absurd c_363 (by decide)
                    refine aw_iload_n dX11_guess_132 rfl ?_
                    refine aw_goto (tgt := 140) dX11_guess_133 (by decide) ?_
                    refine aw_istore (ls' := [some (.ref (b + 0)), some (.int n0), some (.int n1), some (.int 1), some (.int 1), some (.int n1), none, none]) dX11_guess_140 (Nat.le_of_ble_eq_true rfl) rfl ?_
                    refine aw_aload_n dX11_guess_142 rfl ?_
                    refine aw_get dX11_guess_143 fl_X11_12 e_354 (by omega) rfl ?_
                    refine aw_aload_n dX11_guess_146 rfl ?_
                    refine aw_get dX11_guess_147 fl_X11_19 e_354 (by omega) rfl ?_
                    refine aw_iload_n dX11_guess_150 rfl ?_
                    refine aw_iload dX11_guess_151 rfl ?_
                    refine aw_callSi (J' := jX3_leastStrength) (As := [.ref (b + 1), .ref (b + 3), .int n0, .int n1]) (st := []) dX11_guess_153 tb_940 ok_X3_leastStrength rfl (g_X3_leastStrength l D b N V_351 hN j_350.1 3 cA_3 n0 n1) rfl (Nat.le_of_ble_eq_true rfl) ⟨Nat.le_of_ble_eq_true rfl, Nat.le_of_ble_eq_true rfl, Nat.le_of_ble_eq_true rfl, Nat.le_of_ble_eq_true rfl⟩ (fun r_365 N_366 V_367 q_368 => ?_)
                    obtain ⟨rfl, rfl⟩ := q_368
                    refine aw_istore (ls' := [some (.ref (b + 0)), some (.int n0), some (.int n1), some (.int 1), some (.int 1), some (.int n1), some (.int r_365), none]) dX11_guess_156 (Nat.le_of_ble_eq_true rfl) rfl ?_
                    refine aw_aload_n dX11_guess_158 rfl ?_
                    refine aw_get dX11_guess_159 fl_X11_12 e_354 (by omega) rfl ?_
                    refine aw_aload_n dX11_guess_162 rfl ?_
                    refine aw_get dX11_guess_163 fl_X11_19 e_354 (by omega) rfl ?_
                    refine aw_iload_n dX11_guess_166 rfl ?_
                    refine aw_iload dX11_guess_167 rfl ?_
                    refine aw_callSi (J' := jX3_greatestStrength) (As := [.ref (b + 1), .ref (b + 3), .int n0, .int n1]) (st := []) dX11_guess_169 tb_941 ok_X3_greatestStrength rfl (g_X3_greatestStrength l D b N V_351 hN j_350.1 3 cA_3 n0 n1) rfl (Nat.le_of_ble_eq_true rfl) ⟨Nat.le_of_ble_eq_true rfl, Nat.le_of_ble_eq_true rfl, Nat.le_of_ble_eq_true rfl, Nat.le_of_ble_eq_true rfl⟩ (fun r_370 N_371 V_372 q_373 => ?_)
                    obtain ⟨rfl, rfl⟩ := q_373
                    refine aw_istore (ls' := [some (.ref (b + 0)), some (.int n0), some (.int n1), some (.int 1), some (.int 1), some (.int n1), some (.int r_365), some (.int r_370)]) dX11_guess_172 (Nat.le_of_ble_eq_true rfl) rfl ?_
                    refine aw_iload dX11_guess_174 rfl ?_
                    refine aw_iload dX11_guess_176 rfl ?_
                    refine aw_icmp_le (tgt := 184) dX11_guess_178 (by decide) (fun c_374 => ?_) (fun c_374 => ?_)
                    · skip
                      refine aw_iload_n dX11_guess_184 rfl ?_
                      refine aw_if_eq (tgt := 193) dX11_guess_185 (by decide) (fun c_375 => ?_) (fun c_375 => ?_)
                      · exact absurd c_375 (by decide)
                      refine aw_iload dX11_guess_188 rfl ?_
                      refine aw_goto (tgt := 195) dX11_guess_190 (by decide) ?_
                      refine aw_ireti dX11_guess_195 rfl (Nat.le_of_ble_eq_true rfl) (Nat.le_of_ble_eq_true rfl) ?_
                      exact ⟨Or.inl ⟨(by have t2 := two_n (by first | exact Int32.not_lt.mp c_336 | exact c_336) (by first | exact Int32.not_lt.mp c_337 | exact c_337); have e0 : (0 : Int32).toInt = 0 := (by decide); have e1 : (1 : Int32).toInt = 1 := (by decide); have e2 : (2 : Int32).toInt = 2 := (by decide); have e12 : (12 : Int32).toInt = 12 := (by decide); have e15 : (15 : Int32).toInt = 15 := (by decide); have e16 : (16 : Int32).toInt = 16 := (by decide); have e20 : (20 : Int32).toInt = 20 := (by decide); have e24 : (24 : Int32).toInt = 24 := (by decide); have e35 : (35 : Int32).toInt = 35 := (by decide); have e36 : (36 : Int32).toInt = 36 := (by decide); have e100 : (100 : Int32).toInt = 100 := (by decide); have q0 := c_1; have q1 := c_121; have q2 := c_241; have q3 := c_288; have q4 := c_336; have q5 := c_337; have q6 := c_347; have q7 := c_362; have q8 := h_340; simp only [cGu, ← Int32.toInt_inj, Int32.le_iff_toInt_le, Int32.lt_iff_toInt_lt] at q0 q1 q2 q3 q4 q5 q6 q7 q8 ⊢; omega), h_349⟩, rfl, j_350⟩
                    · skip
                      refine aw_bipush (v := (-2)) dX11_guess_181 (by decide) ?_
                      refine aw_ireti dX11_guess_183 rfl (Nat.le_of_ble_eq_true rfl) (Nat.le_of_ble_eq_true rfl) ?_
                      exact ⟨Or.inl ⟨(by have t2 := two_n (by first | exact Int32.not_lt.mp c_336 | exact c_336) (by first | exact Int32.not_lt.mp c_337 | exact c_337); have e0 : (0 : Int32).toInt = 0 := (by decide); have e1 : (1 : Int32).toInt = 1 := (by decide); have e2 : (2 : Int32).toInt = 2 := (by decide); have e12 : (12 : Int32).toInt = 12 := (by decide); have e15 : (15 : Int32).toInt = 15 := (by decide); have e16 : (16 : Int32).toInt = 16 := (by decide); have e20 : (20 : Int32).toInt = 20 := (by decide); have e24 : (24 : Int32).toInt = 24 := (by decide); have e35 : (35 : Int32).toInt = 35 := (by decide); have e36 : (36 : Int32).toInt = 36 := (by decide); have e100 : (100 : Int32).toInt = 100 := (by decide); have q0 := c_1; have q1 := c_121; have q2 := c_241; have q3 := c_288; have q4 := c_336; have q5 := c_337; have q6 := c_347; have q7 := c_362; have q8 := h_340; simp only [cGu, ← Int32.toInt_inj, Int32.le_iff_toInt_le, Int32.lt_iff_toInt_lt] at q0 q1 q2 q3 q4 q5 q6 q7 q8 ⊢; omega), h_349⟩, rfl, j_350⟩
                  · skip
                    refine aw_aload_n dX11_guess_115 rfl ?_
                    refine aw_get dX11_guess_116 fl_X11_12 e_354 (by omega) rfl ?_
                    refine aw_aload_n dX11_guess_119 rfl ?_
                    refine aw_get dX11_guess_120 fl_X11_19 e_354 (by omega) rfl ?_
                    refine aw_iload_n dX11_guess_123 rfl ?_
                    refine aw_callSi (J' := jX3_possibleFears) (As := [.ref (b + 1), .ref (b + 3), .int n0]) (st := []) dX11_guess_124 tb_930 ok_X3_possibleFears rfl (g_X3_possibleFears l D b N V_351 hN j_350.1 3 cA_3 n0) rfl (Nat.le_of_ble_eq_true rfl) ⟨Nat.le_of_ble_eq_true rfl, Nat.le_of_ble_eq_true rfl, Nat.le_of_ble_eq_true rfl, Nat.le_of_ble_eq_true rfl⟩ (fun r_377 N_378 V_379 q_380 => ?_)
                    obtain ⟨rfl, rfl⟩ := q_380
                    refine aw_ireti dX11_guess_127 rfl (Nat.le_of_ble_eq_true rfl) (Nat.le_of_ble_eq_true rfl) ?_
                    exact ⟨Or.inl ⟨(by have t2 := two_n (by first | exact Int32.not_lt.mp c_336 | exact c_336) (by first | exact Int32.not_lt.mp c_337 | exact c_337); have e0 : (0 : Int32).toInt = 0 := (by decide); have e1 : (1 : Int32).toInt = 1 := (by decide); have e2 : (2 : Int32).toInt = 2 := (by decide); have e12 : (12 : Int32).toInt = 12 := (by decide); have e15 : (15 : Int32).toInt = 15 := (by decide); have e16 : (16 : Int32).toInt = 16 := (by decide); have e20 : (20 : Int32).toInt = 20 := (by decide); have e24 : (24 : Int32).toInt = 24 := (by decide); have e35 : (35 : Int32).toInt = 35 := (by decide); have e36 : (36 : Int32).toInt = 36 := (by decide); have e100 : (100 : Int32).toInt = 100 := (by decide); have q0 := c_1; have q1 := c_121; have q2 := c_241; have q3 := c_288; have q4 := c_336; have q5 := c_337; have q6 := c_347; have q7 := c_362; have q8 := h_340; simp only [cGu, ← Int32.toInt_inj, Int32.le_iff_toInt_le, Int32.lt_iff_toInt_lt] at q0 q1 q2 q3 q4 q5 q6 q7 q8 ⊢; omega), h_349⟩, rfl, j_350⟩
                · skip
                  refine aw_bipush (v := (-3)) dX11_guess_106 (by decide) ?_
                  refine aw_ireti dX11_guess_108 rfl (Nat.le_of_ble_eq_true rfl) (Nat.le_of_ble_eq_true rfl) ?_
                  exact ⟨Or.inl ⟨(by have t2 := two_n (by first | exact Int32.not_lt.mp c_336 | exact c_336) (by first | exact Int32.not_lt.mp c_337 | exact c_337); have e0 : (0 : Int32).toInt = 0 := (by decide); have e1 : (1 : Int32).toInt = 1 := (by decide); have e2 : (2 : Int32).toInt = 2 := (by decide); have e12 : (12 : Int32).toInt = 12 := (by decide); have e15 : (15 : Int32).toInt = 15 := (by decide); have e16 : (16 : Int32).toInt = 16 := (by decide); have e20 : (20 : Int32).toInt = 20 := (by decide); have e24 : (24 : Int32).toInt = 24 := (by decide); have e35 : (35 : Int32).toInt = 35 := (by decide); have e36 : (36 : Int32).toInt = 36 := (by decide); have e100 : (100 : Int32).toInt = 100 := (by decide); have q0 := c_1; have q1 := c_121; have q2 := c_241; have q3 := c_288; have q4 := c_336; have q5 := c_337; have q6 := c_347; have q7 := h_340; simp only [cGu, ← Int32.toInt_inj, Int32.le_iff_toInt_le, Int32.lt_iff_toInt_lt] at q0 q1 q2 q3 q4 q5 q6 q7 ⊢; omega), h_349⟩, rfl, j_350⟩
              · skip
                refine aw_iconst (v := (-1)) dX11_guess_79 (by decide) ?_
                refine aw_ireti dX11_guess_80 rfl (Nat.le_of_ble_eq_true rfl) (Nat.le_of_ble_eq_true rfl) ?_
                exact ⟨Or.inr ⟨(by have t2 := two_n (by first | exact Int32.not_lt.mp c_336 | exact c_336) (by first | exact Int32.not_lt.mp c_337 | exact c_337); have e0 : (0 : Int32).toInt = 0 := (by decide); have e1 : (1 : Int32).toInt = 1 := (by decide); have e2 : (2 : Int32).toInt = 2 := (by decide); have e12 : (12 : Int32).toInt = 12 := (by decide); have e15 : (15 : Int32).toInt = 15 := (by decide); have e16 : (16 : Int32).toInt = 16 := (by decide); have e20 : (20 : Int32).toInt = 20 := (by decide); have e24 : (24 : Int32).toInt = 24 := (by decide); have e35 : (35 : Int32).toInt = 35 := (by decide); have e36 : (36 : Int32).toInt = 36 := (by decide); have e100 : (100 : Int32).toInt = 100 := (by decide); have q0 := c_1; have q1 := c_121; have q2 := c_241; have q3 := c_288; have q4 := c_336; have q5 := c_337; have q6 := c_347; have q7 := h_340; simp only [cGu, ← Int32.toInt_inj, Int32.le_iff_toInt_le, Int32.lt_iff_toInt_lt] at q0 q1 q2 q3 q4 q5 q6 q7 ⊢; omega), (Eq.refl (fI (V 1) 1))⟩, rfl, hJ0⟩
