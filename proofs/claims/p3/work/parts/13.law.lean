set_option maxHeartbeats 4000000 in
set_option maxRecDepth 100000 in
theorem g_X4_clear (l : Launch) (D : va_G) (b : Nat) (N : Nat) (V : Wd) (hN : 100 ≤ N) (hW : CW D b V) (x : Nat) (hx : x = 57 ∨ x = 65)  : MV l D b 0 jX4_clear [.ref (b + x)] N V 0 0 (fun N9 V9 => N = N9 ∧ JW D b N [(x, x, 2, 2), (x, x, 6, 6)] V V9) := by
  have hJ0 : JW D b N [(x, x, 2, 2), (x, x, 6, 6)] V V := JW.rf hW
  refine mw_of (by decide) (by simp [Value.category]) (Nat.le_of_ble_eq_true rfl) ?_
  show AW l D b jX4_clear (fx_rm 0 0 0) none (fx_MQ D b 0 0 (fx_qv (fun N9 V9 => N = N9 ∧ JW D b N [(x, x, 2, 2), (x, x, 6, 6)] V V9))) 0 [some (.ref (b + x))] [] N V 0 0
  refine aw_aload_n dX4_clear_0 rfl ?_
  refine aw_iconst (v := 0) dX4_clear_1 (by decide) ?_
  obtain ⟨s8_1, r8_1, h8_1, e_1, hs_1, hr_1⟩ := JW.get hJ0 (ctl_0 hx)
  refine aw_put dX4_clear_2 fp_X4_18 e_1 (by omega) rfl rfl (Nat.le_of_ble_eq_true rfl) rfl ?_
  refine aw_up hJ0 (ctl_0 hx) ⟨0, r8_1, _, rfl, (by first | omega | (split <;> omega)), (by first | omega | (split <;> omega))⟩ (WO (s := 2) (x := .int 0) e_1 rfl LM0 (by omega) (by omega) (by decide) (Or.inl (by decide))) (fun V_2 j_2 k_2 e_2 => ?_)
  refine aw_aload_n dX4_clear_5 rfl ?_
  refine aw_iconst (v := 0) dX4_clear_6 (by decide) ?_
  refine aw_put dX4_clear_7 fp_X4_31 e_2 (by omega) rfl rfl (Nat.le_of_ble_eq_true rfl) rfl ?_
  refine aw_up j_2 (ctl_0 hx) ⟨0, 0, _, rfl, (by first | omega | (split <;> omega)), (by first | omega | (split <;> omega))⟩ (WO (s := 6) (x := .int 0) e_2 rfl (LMs LM0) (by omega) (by omega) (by decide) (Or.inl (by decide))) (fun V_3 j_3 k_3 e_3 => ?_)
  refine aw_vreti dX4_clear_10 rfl (Nat.le_of_ble_eq_true rfl) (Nat.le_of_ble_eq_true rfl) ?_
  exact ⟨rfl, j_3⟩

set_option maxHeartbeats 4000000 in
set_option maxRecDepth 100000 in
theorem g_X4_startRule (l : Launch) (D : va_G) (b : Nat) (N : Nat) (V : Wd) (hN : 100 ≤ N) (hW : CW D b V) (x : Nat) (hx : x = 57 ∨ x = 65) (n0 : Int32)  : MV l D b 0 jX4_startRule [.ref (b + x), .int n0] N V 0 0 (fun N9 V9 => N = N9 ∧ JW D b N [(x + 3, x + 3, 0, 1000000), (x + 4, x + 4, 0, 1000000)] V V9) := by
  have hJ0 : JW D b N [(x + 3, x + 3, 0, 1000000), (x + 4, x + 4, 0, 1000000)] V V := JW.rf hW
  refine mw_of (by decide) (by simp [Value.category]) (Nat.le_of_ble_eq_true rfl) ?_
  show AW l D b jX4_startRule (fx_rm 0 0 0) none (fx_MQ D b 0 0 (fx_qv (fun N9 V9 => N = N9 ∧ JW D b N [(x + 3, x + 3, 0, 1000000), (x + 4, x + 4, 0, 1000000)] V V9))) 0 [some (.ref (b + x)), some (.int n0)] [] N V 0 0
  refine aw_aload_n dX4_startRule_0 rfl ?_
  obtain ⟨s8_1, r8_1, h8_1, e_1, hs_1, hr_1⟩ := JW.get hJ0 (ctl_0 hx)
  refine aw_get dX4_startRule_1 fl_X4_31 e_1 (by omega) rfl ?_
  refine aw_bipush (v := 16) dX4_startRule_4 (by decide) ?_
  refine aw_icmp_ge (tgt := 32) dX4_startRule_6 (by decide) (fun c_2 => ?_) (fun c_2 => ?_)
  · skip
    have nc_2 : 16 ≤ r8_1 := (nI_leI (a := 16) (b := r8_1) (by omega) (by omega)).mp c_2
    refine aw_vreti dX4_startRule_32 rfl (Nat.le_of_ble_eq_true rfl) (Nat.le_of_ble_eq_true rfl) ?_
    exact ⟨rfl, hJ0⟩
  · skip
    have nc_2 : ¬ (16 ≤ r8_1) := fun z => c_2 ((nI_leI (a := 16) (b := r8_1) (by omega) (by omega)).mpr z)
    refine aw_aload_n dX4_startRule_9 rfl ?_
    refine aw_get dX4_startRule_10 fl_X4_22 e_1 (by omega) rfl ?_
    refine aw_aload_n dX4_startRule_13 rfl ?_
    refine aw_get dX4_startRule_14 fl_X4_31 e_1 (by omega) rfl ?_
    refine aw_iload_n dX4_startRule_17 rfl ?_
    obtain ⟨g_3, e_3⟩ := JW.get hJ0 (ctl_3 hx)
    refine aw_iast dX4_startRule_18 e_3 (by omega) (vp_in_nI (n := r8_1) (by omega) (by omega)) ?_
    refine aw_up hJ0 (ctl_3 hx) ⟨_, rfl⟩ (WA LM0 (by omega) (by omega)) (fun V_4 j_4 k_4 e_4 => ?_)
    refine aw_aload_n dX4_startRule_19 rfl ?_
    refine aw_get dX4_startRule_20 fl_X4_25 ((k_4 _ (by omega)).trans e_1) (by omega) rfl ?_
    refine aw_aload_n dX4_startRule_23 rfl ?_
    refine aw_get dX4_startRule_24 fl_X4_31 ((k_4 _ (by omega)).trans e_1) (by omega) rfl ?_
    refine aw_aload_n dX4_startRule_27 rfl ?_
    refine aw_get dX4_startRule_28 fl_X4_18 ((k_4 _ (by omega)).trans e_1) (by omega) rfl ?_
    obtain ⟨g_5, e_5⟩ := JW.get j_4 (ctl_4 hx)
    refine aw_iast dX4_startRule_31 e_5 (by omega) (vp_in_nI (n := r8_1) (by omega) (by omega)) ?_
    refine aw_up j_4 (ctl_4 hx) ⟨_, rfl⟩ (WA (LMs LM0) (by omega) (by omega)) (fun V_6 j_6 k_6 e_6 => ?_)
    refine aw_vreti dX4_startRule_32 rfl (Nat.le_of_ble_eq_true rfl) (Nat.le_of_ble_eq_true rfl) ?_
    exact ⟨rfl, j_6⟩

set_option maxHeartbeats 4000000 in
set_option maxRecDepth 100000 in
theorem g_X4_startCondition (l : Launch) (D : va_G) (b : Nat) (N : Nat) (V : Wd) (hN : 100 ≤ N) (hW : CW D b V) (x : Nat) (hx : x = 57 ∨ x = 65)  : MV l D b 0 jX4_startCondition [.ref (b + x)] N V 0 0 (fun N9 V9 => N = N9 ∧ JW D b N [(x + 5, x + 5, 0, 1000000)] V V9) := by
  have hJ0 : JW D b N [(x + 5, x + 5, 0, 1000000)] V V := JW.rf hW
  refine mw_of (by decide) (by simp [Value.category]) (Nat.le_of_ble_eq_true rfl) ?_
  show AW l D b jX4_startCondition (fx_rm 0 0 0) none (fx_MQ D b 0 0 (fx_qv (fun N9 V9 => N = N9 ∧ JW D b N [(x + 5, x + 5, 0, 1000000)] V V9))) 0 [some (.ref (b + x))] [] N V 0 0
  refine aw_aload_n dX4_startCondition_0 rfl ?_
  obtain ⟨s8_1, r8_1, h8_1, e_1, hs_1, hr_1⟩ := JW.get hJ0 (ctl_0 hx)
  refine aw_get dX4_startCondition_1 fl_X4_31 e_1 (by omega) rfl ?_
  refine aw_bipush (v := 16) dX4_startCondition_4 (by decide) ?_
  refine aw_icmp_ge (tgt := 22) dX4_startCondition_6 (by decide) (fun c_2 => ?_) (fun c_2 => ?_)
  · skip
    have nc_2 : 16 ≤ r8_1 := (nI_leI (a := 16) (b := r8_1) (by omega) (by omega)).mp c_2
    refine aw_vreti dX4_startCondition_22 rfl (Nat.le_of_ble_eq_true rfl) (Nat.le_of_ble_eq_true rfl) ?_
    exact ⟨rfl, hJ0⟩
  · skip
    have nc_2 : ¬ (16 ≤ r8_1) := fun z => c_2 ((nI_leI (a := 16) (b := r8_1) (by omega) (by omega)).mpr z)
    refine aw_aload_n dX4_startCondition_9 rfl ?_
    refine aw_get dX4_startCondition_10 fl_X4_28 e_1 (by omega) rfl ?_
    refine aw_aload_n dX4_startCondition_13 rfl ?_
    refine aw_get dX4_startCondition_14 fl_X4_31 e_1 (by omega) rfl ?_
    refine aw_aload_n dX4_startCondition_17 rfl ?_
    refine aw_get dX4_startCondition_18 fl_X4_18 e_1 (by omega) rfl ?_
    obtain ⟨g_3, e_3⟩ := JW.get hJ0 (ctl_5 hx)
    refine aw_iast dX4_startCondition_21 e_3 (by omega) (vp_in_nI (n := r8_1) (by omega) (by omega)) ?_
    refine aw_up hJ0 (ctl_5 hx) ⟨_, rfl⟩ (WA LM0 (by omega) (by omega)) (fun V_4 j_4 k_4 e_4 => ?_)
    refine aw_vreti dX4_startCondition_22 rfl (Nat.le_of_ble_eq_true rfl) (Nat.le_of_ble_eq_true rfl) ?_
    exact ⟨rfl, j_4⟩

set_option maxHeartbeats 4000000 in
set_option maxRecDepth 100000 in
theorem g_X4_meanPerson (l : Launch) (D : va_G) (b : Nat) (N : Nat) (V : Wd) (hN : 100 ≤ N) (hW : CW D b V) (x : Nat) (hx : x = 57 ∨ x = 65) (n0 : Int32) (n1 : Int32) (n2 : Int32)  : MV l D b 0 jX4_meanPerson [.ref (b + x), .int n0, .int n1, .int n2] N V 0 0 (fun N9 V9 => N = N9 ∧ JW D b N [(x + 6, x + 6, 0, 1000000)] V V9) := by
  have hJ0 : JW D b N [(x + 6, x + 6, 0, 1000000)] V V := JW.rf hW
  refine mw_of (by decide) (by simp [Value.category]) (Nat.le_of_ble_eq_true rfl) ?_
  show AW l D b jX4_meanPerson (fx_rm 0 0 0) none (fx_MQ D b 0 0 (fx_qv (fun N9 V9 => N = N9 ∧ JW D b N [(x + 6, x + 6, 0, 1000000)] V V9))) 0 [some (.ref (b + x)), some (.int n0), some (.int n1), some (.int n2)] [] N V 0 0
  refine aw_aload_n dX4_meanPerson_0 rfl ?_
  obtain ⟨s8_1, r8_1, h8_1, e_1, hs_1, hr_1⟩ := JW.get hJ0 (ctl_0 hx)
  refine aw_get dX4_meanPerson_1 fl_X4_42 e_1 (by omega) rfl ?_
  refine aw_iconst (v := 0) dX4_meanPerson_4 (by decide) ?_
  refine aw_iload_n dX4_meanPerson_5 rfl ?_
  obtain ⟨g_2, e_2⟩ := JW.get hJ0 (ctl_6 hx)
  refine aw_iast dX4_meanPerson_6 e_2 (by omega) (vp_in_nI (n := 0) (N := 10) (by decide) (by decide)) ?_
  refine aw_up hJ0 (ctl_6 hx) ⟨_, rfl⟩ (WA LM0 (by omega) (by omega)) (fun V_3 j_3 k_3 e_3 => ?_)
  refine aw_aload_n dX4_meanPerson_7 rfl ?_
  refine aw_get dX4_meanPerson_8 fl_X4_42 ((k_3 _ (by omega)).trans e_1) (by omega) rfl ?_
  refine aw_iconst (v := 4) dX4_meanPerson_11 (by decide) ?_
  refine aw_iload_n dX4_meanPerson_12 rfl ?_
  refine aw_iast dX4_meanPerson_13 e_3 (by omega) (vp_in_nI (n := 4) (N := 10) (by decide) (by decide)) ?_
  refine aw_up j_3 (ctl_6 hx) ⟨_, rfl⟩ (WA LM0 (by omega) (by omega)) (fun V_4 j_4 k_4 e_4 => ?_)
  refine aw_aload_n dX4_meanPerson_14 rfl ?_
  refine aw_get dX4_meanPerson_15 fl_X4_42 ((k_4 _ (by omega)).trans ((k_3 _ (by omega)).trans e_1)) (by omega) rfl ?_
  refine aw_bipush (v := 6) dX4_meanPerson_18 (by decide) ?_
  refine aw_iload_n dX4_meanPerson_20 rfl ?_
  refine aw_iast dX4_meanPerson_21 e_4 (by omega) (vp_in_nI (n := 6) (N := 10) (by decide) (by decide)) ?_
  refine aw_up j_4 (ctl_6 hx) ⟨_, rfl⟩ (WA LM0 (by omega) (by omega)) (fun V_5 j_5 k_5 e_5 => ?_)
  refine aw_vreti dX4_meanPerson_22 rfl (Nat.le_of_ble_eq_true rfl) (Nat.le_of_ble_eq_true rfl) ?_
  exact ⟨rfl, j_5⟩

set_option maxHeartbeats 4000000 in
set_option maxRecDepth 100000 in
theorem g_X4_meanOther (l : Launch) (D : va_G) (b : Nat) (N : Nat) (V : Wd) (hN : 100 ≤ N) (hW : CW D b V) (x : Nat) (hx : x = 57 ∨ x = 65) (n0 : Int32) (n1 : Int32) (n2 : Int32)  : MV l D b 0 jX4_meanOther [.ref (b + x), .int n0, .int n1, .int n2] N V 0 0 (fun N9 V9 => N = N9 ∧ JW D b N [(x + 6, x + 6, 0, 1000000)] V V9) := by
  have hJ0 : JW D b N [(x + 6, x + 6, 0, 1000000)] V V := JW.rf hW
  refine mw_of (by decide) (by simp [Value.category]) (Nat.le_of_ble_eq_true rfl) ?_
  show AW l D b jX4_meanOther (fx_rm 0 0 0) none (fx_MQ D b 0 0 (fx_qv (fun N9 V9 => N = N9 ∧ JW D b N [(x + 6, x + 6, 0, 1000000)] V V9))) 0 [some (.ref (b + x)), some (.int n0), some (.int n1), some (.int n2)] [] N V 0 0
  refine aw_aload_n dX4_meanOther_0 rfl ?_
  obtain ⟨s8_1, r8_1, h8_1, e_1, hs_1, hr_1⟩ := JW.get hJ0 (ctl_0 hx)
  refine aw_get dX4_meanOther_1 fl_X4_42 e_1 (by omega) rfl ?_
  refine aw_iconst (v := 1) dX4_meanOther_4 (by decide) ?_
  refine aw_iload_n dX4_meanOther_5 rfl ?_
  obtain ⟨g_2, e_2⟩ := JW.get hJ0 (ctl_6 hx)
  refine aw_iast dX4_meanOther_6 e_2 (by omega) (vp_in_nI (n := 1) (N := 10) (by decide) (by decide)) ?_
  refine aw_up hJ0 (ctl_6 hx) ⟨_, rfl⟩ (WA LM0 (by omega) (by omega)) (fun V_3 j_3 k_3 e_3 => ?_)
  refine aw_aload_n dX4_meanOther_7 rfl ?_
  refine aw_get dX4_meanOther_8 fl_X4_42 ((k_3 _ (by omega)).trans e_1) (by omega) rfl ?_
  refine aw_iconst (v := 2) dX4_meanOther_11 (by decide) ?_
  refine aw_iload_n dX4_meanOther_12 rfl ?_
  refine aw_iast dX4_meanOther_13 e_3 (by omega) (vp_in_nI (n := 2) (N := 10) (by decide) (by decide)) ?_
  refine aw_up j_3 (ctl_6 hx) ⟨_, rfl⟩ (WA LM0 (by omega) (by omega)) (fun V_4 j_4 k_4 e_4 => ?_)
  refine aw_aload_n dX4_meanOther_14 rfl ?_
  refine aw_get dX4_meanOther_15 fl_X4_42 ((k_4 _ (by omega)).trans ((k_3 _ (by omega)).trans e_1)) (by omega) rfl ?_
  refine aw_iconst (v := 3) dX4_meanOther_18 (by decide) ?_
  refine aw_iload_n dX4_meanOther_19 rfl ?_
  refine aw_iast dX4_meanOther_20 e_4 (by omega) (vp_in_nI (n := 3) (N := 10) (by decide) (by decide)) ?_
  refine aw_up j_4 (ctl_6 hx) ⟨_, rfl⟩ (WA LM0 (by omega) (by omega)) (fun V_5 j_5 k_5 e_5 => ?_)
  refine aw_vreti dX4_meanOther_21 rfl (Nat.le_of_ble_eq_true rfl) (Nat.le_of_ble_eq_true rfl) ?_
  exact ⟨rfl, j_5⟩

set_option maxHeartbeats 4000000 in
set_option maxRecDepth 100000 in
theorem g_X4_meanDoor (l : Launch) (D : va_G) (b : Nat) (N : Nat) (V : Wd) (hN : 100 ≤ N) (hW : CW D b V) (x : Nat) (hx : x = 57 ∨ x = 65) (n0 : Int32) (n1 : Int32)  : MV l D b 0 jX4_meanDoor [.ref (b + x), .int n0, .int n1] N V 0 0 (fun N9 V9 => N = N9 ∧ JW D b N [(x + 6, x + 6, 0, 1000000)] V V9) := by
  have hJ0 : JW D b N [(x + 6, x + 6, 0, 1000000)] V V := JW.rf hW
  refine mw_of (by decide) (by simp [Value.category]) (Nat.le_of_ble_eq_true rfl) ?_
  show AW l D b jX4_meanDoor (fx_rm 0 0 0) none (fx_MQ D b 0 0 (fx_qv (fun N9 V9 => N = N9 ∧ JW D b N [(x + 6, x + 6, 0, 1000000)] V V9))) 0 [some (.ref (b + x)), some (.int n0), some (.int n1)] [] N V 0 0
  refine aw_aload_n dX4_meanDoor_0 rfl ?_
  obtain ⟨s8_1, r8_1, h8_1, e_1, hs_1, hr_1⟩ := JW.get hJ0 (ctl_0 hx)
  refine aw_get dX4_meanDoor_1 fl_X4_42 e_1 (by omega) rfl ?_
  refine aw_iconst (v := 5) dX4_meanDoor_4 (by decide) ?_
  refine aw_iload_n dX4_meanDoor_5 rfl ?_
  obtain ⟨g_2, e_2⟩ := JW.get hJ0 (ctl_6 hx)
  refine aw_iast dX4_meanDoor_6 e_2 (by omega) (vp_in_nI (n := 5) (N := 10) (by decide) (by decide)) ?_
  refine aw_up hJ0 (ctl_6 hx) ⟨_, rfl⟩ (WA LM0 (by omega) (by omega)) (fun V_3 j_3 k_3 e_3 => ?_)
  refine aw_aload_n dX4_meanDoor_7 rfl ?_
  refine aw_get dX4_meanDoor_8 fl_X4_42 ((k_3 _ (by omega)).trans e_1) (by omega) rfl ?_
  refine aw_bipush (v := 7) dX4_meanDoor_11 (by decide) ?_
  refine aw_iload_n dX4_meanDoor_13 rfl ?_
  refine aw_iast dX4_meanDoor_14 e_3 (by omega) (vp_in_nI (n := 7) (N := 10) (by decide) (by decide)) ?_
  refine aw_up j_3 (ctl_6 hx) ⟨_, rfl⟩ (WA LM0 (by omega) (by omega)) (fun V_4 j_4 k_4 e_4 => ?_)
  refine aw_vreti dX4_meanDoor_15 rfl (Nat.le_of_ble_eq_true rfl) (Nat.le_of_ble_eq_true rfl) ?_
  exact ⟨rfl, j_4⟩

set_option maxHeartbeats 4000000 in
set_option maxRecDepth 100000 in
theorem g_X4_meanTime (l : Launch) (D : va_G) (b : Nat) (N : Nat) (V : Wd) (hN : 100 ≤ N) (hW : CW D b V) (x : Nat) (hx : x = 57 ∨ x = 65) (n0 : Int32) (n1 : Int32)  : MV l D b 0 jX4_meanTime [.ref (b + x), .int n0, .int n1] N V 0 0 (fun N9 V9 => N = N9 ∧ JW D b N [(x + 6, x + 6, 0, 1000000)] V V9) := by
  have hJ0 : JW D b N [(x + 6, x + 6, 0, 1000000)] V V := JW.rf hW
  refine mw_of (by decide) (by simp [Value.category]) (Nat.le_of_ble_eq_true rfl) ?_
  show AW l D b jX4_meanTime (fx_rm 0 0 0) none (fx_MQ D b 0 0 (fx_qv (fun N9 V9 => N = N9 ∧ JW D b N [(x + 6, x + 6, 0, 1000000)] V V9))) 0 [some (.ref (b + x)), some (.int n0), some (.int n1)] [] N V 0 0
  refine aw_aload_n dX4_meanTime_0 rfl ?_
  obtain ⟨s8_1, r8_1, h8_1, e_1, hs_1, hr_1⟩ := JW.get hJ0 (ctl_0 hx)
  refine aw_get dX4_meanTime_1 fl_X4_42 e_1 (by omega) rfl ?_
  refine aw_bipush (v := 8) dX4_meanTime_4 (by decide) ?_
  refine aw_iload_n dX4_meanTime_6 rfl ?_
  obtain ⟨g_2, e_2⟩ := JW.get hJ0 (ctl_6 hx)
  refine aw_iast dX4_meanTime_7 e_2 (by omega) (vp_in_nI (n := 8) (N := 10) (by decide) (by decide)) ?_
  refine aw_up hJ0 (ctl_6 hx) ⟨_, rfl⟩ (WA LM0 (by omega) (by omega)) (fun V_3 j_3 k_3 e_3 => ?_)
  refine aw_aload_n dX4_meanTime_8 rfl ?_
  refine aw_get dX4_meanTime_9 fl_X4_42 ((k_3 _ (by omega)).trans e_1) (by omega) rfl ?_
  refine aw_bipush (v := 9) dX4_meanTime_12 (by decide) ?_
  refine aw_iload_n dX4_meanTime_14 rfl ?_
  refine aw_iast dX4_meanTime_15 e_3 (by omega) (vp_in_nI (n := 9) (N := 10) (by decide) (by decide)) ?_
  refine aw_up j_3 (ctl_6 hx) ⟨_, rfl⟩ (WA LM0 (by omega) (by omega)) (fun V_4 j_4 k_4 e_4 => ?_)
  refine aw_vreti dX4_meanTime_16 rfl (Nat.le_of_ble_eq_true rfl) (Nat.le_of_ble_eq_true rfl) ?_
  exact ⟨rfl, j_4⟩

set_option maxHeartbeats 4000000 in
set_option maxRecDepth 100000 in
theorem g_X4_meaningOf (l : Launch) (D : va_G) (b : Nat) (N : Nat) (V : Wd) (hN : 100 ≤ N) (hW : CW D b V) (x : Nat) (hx : x = 57 ∨ x = 65) (n0 : Int32)  : MI l D b 0 jX4_meaningOf [.ref (b + x), .int n0] N V 0 0 (fun r N9 V9 => N = N9 ∧ V = V9) := by
  have hJ0 : JW D b N [] V V := JW.rf hW
  refine mw_of (by decide) (by simp [Value.category]) (Nat.le_of_ble_eq_true rfl) ?_
  show AW l D b jX4_meaningOf (fx_rm 0 0 0) none (fx_MQ D b 0 0 (fx_qi (fun r N9 V9 => N = N9 ∧ V = V9))) 0 [some (.ref (b + x)), some (.int n0)] [] N V 0 0
  refine aw_iload_n dX4_meaningOf_0 rfl ?_
  refine aw_if_lt (tgt := 22) dX4_meaningOf_1 (by decide) (fun c_1 => ?_) (fun c_1 => ?_)
  · skip
    refine aw_iconst (v := 0) dX4_meaningOf_22 (by decide) ?_
    refine aw_ireti dX4_meaningOf_23 rfl (Nat.le_of_ble_eq_true rfl) (Nat.le_of_ble_eq_true rfl) ?_
    exact ⟨rfl, rfl⟩
  · skip
    refine aw_iload_n dX4_meaningOf_4 rfl ?_
    refine aw_aload_n dX4_meaningOf_5 rfl ?_
    obtain ⟨s8_2, r8_2, h8_2, e_2, hs_2, hr_2⟩ := JW.get hJ0 (ctl_0 hx)
    refine aw_get dX4_meaningOf_6 fl_X4_42 e_2 (by omega) rfl ?_
    obtain ⟨g_3, e_3⟩ := JW.get hJ0 (ctl_6 hx)
    refine aw_alen (t0 := 0) (v := 10) dX4_meaningOf_9 e_3 (by omega) rfl rfl ?_
    refine aw_icmp_ge (tgt := 22) dX4_meaningOf_10 (by decide) (fun c_4 => ?_) (fun c_4 => ?_)
    · skip
      refine aw_iconst (v := 0) dX4_meaningOf_22 (by decide) ?_
      refine aw_ireti dX4_meaningOf_23 rfl (Nat.le_of_ble_eq_true rfl) (Nat.le_of_ble_eq_true rfl) ?_
      exact ⟨rfl, rfl⟩
    · skip
      refine aw_aload_n dX4_meaningOf_13 rfl ?_
      refine aw_get dX4_meaningOf_14 fl_X4_42 e_2 (by omega) rfl ?_
      refine aw_iload_n dX4_meaningOf_17 rfl ?_
      refine aw_iald (v := (g_3 (Int32.toNatClampNeg n0))) dX4_meaningOf_18 e_3 (by omega) (vi_in (Int32.not_lt.mp c_1) (vi_lt (n := 10) (Int32.not_le.mp c_4) (by decide)) (by decide)) rfl ?_
      refine aw_goto (tgt := 23) dX4_meaningOf_19 (by decide) ?_
      refine aw_ireti dX4_meaningOf_23 rfl (Nat.le_of_ble_eq_true rfl) (Nat.le_of_ble_eq_true rfl) ?_
      exact ⟨rfl, rfl⟩

set_option maxHeartbeats 4000000 in
set_option maxRecDepth 100000 in
theorem g_X4_leadHere (l : Launch) (D : va_G) (b : Nat) (N : Nat) (V : Wd) (hN : 100 ≤ N) (hW : CW D b V) (x : Nat) (hx : x = 57 ∨ x = 65) (n0 : Int32)  : MV l D b 0 jX4_leadHere [.ref (b + x), .int n0] N V 0 0 (fun N9 V9 => N = N9 ∧ JW D b N [(x + 2, x + 2, 0, 1000000)] V V9) := by
  have hJ0 : JW D b N [(x + 2, x + 2, 0, 1000000)] V V := JW.rf hW
  refine mw_of (by decide) (by simp [Value.category]) (Nat.le_of_ble_eq_true rfl) ?_
  show AW l D b jX4_leadHere (fx_rm 0 0 0) none (fx_MQ D b 0 0 (fx_qv (fun N9 V9 => N = N9 ∧ JW D b N [(x + 2, x + 2, 0, 1000000)] V V9))) 0 [some (.ref (b + x)), some (.int n0)] [] N V 0 0
  refine aw_iload_n dX4_leadHere_0 rfl ?_
  refine aw_if_lt (tgt := 21) dX4_leadHere_1 (by decide) (fun c_1 => ?_) (fun c_1 => ?_)
  · skip
    refine aw_vreti dX4_leadHere_21 rfl (Nat.le_of_ble_eq_true rfl) (Nat.le_of_ble_eq_true rfl) ?_
    exact ⟨rfl, hJ0⟩
  · skip
    refine aw_iload_n dX4_leadHere_4 rfl ?_
    refine aw_sipush (v := 256) dX4_leadHere_5 (by decide) ?_
    refine aw_icmp_ge (tgt := 21) dX4_leadHere_8 (by decide) (fun c_2 => ?_) (fun c_2 => ?_)
    · skip
      refine aw_vreti dX4_leadHere_21 rfl (Nat.le_of_ble_eq_true rfl) (Nat.le_of_ble_eq_true rfl) ?_
      exact ⟨rfl, hJ0⟩
    · skip
      refine aw_aload_n dX4_leadHere_11 rfl ?_
      obtain ⟨s8_3, r8_3, h8_3, e_3, hs_3, hr_3⟩ := JW.get hJ0 (ctl_0 hx)
      refine aw_get dX4_leadHere_12 fl_X4_15 e_3 (by omega) rfl ?_
      refine aw_iload_n dX4_leadHere_15 rfl ?_
      refine aw_aload_n dX4_leadHere_16 rfl ?_
      refine aw_get dX4_leadHere_17 fl_X4_18 e_3 (by omega) rfl ?_
      obtain ⟨g_4, e_4, p_4⟩ := JW.get hJ0 (ctl_2 hx)
      refine aw_iast dX4_leadHere_20 e_4 (by omega) (vi_in (Int32.not_lt.mp c_1) (vi_lt (n := 256) (Int32.not_le.mp c_2) (by decide)) (by decide)) ?_
      refine aw_up hJ0 (ctl_2 hx) ⟨_, rfl, isP_upd p_4 (nI_pos' (by omega))⟩ (WA LM0 (by omega) (by omega)) (fun V_5 j_5 k_5 e_5 => ?_)
      refine aw_vreti dX4_leadHere_21 rfl (Nat.le_of_ble_eq_true rfl) (Nat.le_of_ble_eq_true rfl) ?_
      exact ⟨rfl, j_5⟩

set_option maxHeartbeats 4000000 in
set_option maxRecDepth 100000 in
theorem g_X4_add (l : Launch) (D : va_G) (b : Nat) (N : Nat) (V : Wd) (hN : 100 ≤ N) (hW : CW D b V) (x : Nat) (hx : x = 57 ∨ x = 65) (n0 : Int32) (n1 : Int32) (hw : 0 ≤ n1) : MI l D b 0 jX4_add [.ref (b + x), .int n0, .int n1] N V 0 0 (fun r N9 V9 => N = N9 ∧ JW D b N [(x + 1, x + 1, 0, 1000000), (x + 2, x + 2, 0, 1000000), (x, x, 2, 2)] V V9) := by
  have hJ0 : JW D b N [(x + 1, x + 1, 0, 1000000), (x + 2, x + 2, 0, 1000000), (x, x, 2, 2)] V V := JW.rf hW
  refine mw_of (by decide) (by simp [Value.category]) (Nat.le_of_ble_eq_true rfl) ?_
  show AW l D b jX4_add (fx_rm 0 0 0) none (fx_MQ D b 0 0 (fx_qi (fun r N9 V9 => N = N9 ∧ JW D b N [(x + 1, x + 1, 0, 1000000), (x + 2, x + 2, 0, 1000000), (x, x, 2, 2)] V V9))) 0 [some (.ref (b + x)), some (.int n0), some (.int n1)] [] N V 0 0
  refine aw_aload_n dX4_add_0 rfl ?_
  obtain ⟨s8_1, r8_1, h8_1, e_1, hs_1, hr_1⟩ := JW.get hJ0 (ctl_0 hx)
  refine aw_get dX4_add_1 fl_X4_18 e_1 (by omega) rfl ?_
  refine aw_sipush (v := 256) dX4_add_4 (by decide) ?_
  refine aw_icmp_ge (tgt := 40) dX4_add_7 (by decide) (fun c_2 => ?_) (fun c_2 => ?_)
  · skip
    have nc_2 : 256 ≤ s8_1 := (nI_leI (a := 256) (b := s8_1) (by omega) (by omega)).mp c_2
    refine aw_aload_n dX4_add_40 rfl ?_
    refine aw_get dX4_add_41 fl_X4_18 e_1 (by omega) rfl ?_
    refine aw_iconst (v := 1) dX4_add_44 (by decide) ?_
    refine aw_isub dX4_add_45 ?_
    refine aw_ireti dX4_add_46 rfl (Nat.le_of_ble_eq_true rfl) (Nat.le_of_ble_eq_true rfl) ?_
    exact ⟨rfl, hJ0⟩
  · skip
    have nc_2 : ¬ (256 ≤ s8_1) := fun z => c_2 ((nI_leI (a := 256) (b := s8_1) (by omega) (by omega)).mpr z)
    refine aw_aload_n dX4_add_10 rfl ?_
    refine aw_get dX4_add_11 fl_X4_11 e_1 (by omega) rfl ?_
    refine aw_aload_n dX4_add_14 rfl ?_
    refine aw_get dX4_add_15 fl_X4_18 e_1 (by omega) rfl ?_
    refine aw_iload_n dX4_add_18 rfl ?_
    obtain ⟨g_3, e_3⟩ := JW.get hJ0 (ctl_1 hx)
    refine aw_iast dX4_add_19 e_3 (by omega) (vp_in_nI (n := s8_1) (by omega) (by omega)) ?_
    refine aw_up hJ0 (ctl_1 hx) ⟨_, rfl⟩ (WA LM0 (by omega) (by omega)) (fun V_4 j_4 k_4 e_4 => ?_)
    refine aw_aload_n dX4_add_20 rfl ?_
    refine aw_get dX4_add_21 fl_X4_15 ((k_4 _ (by omega)).trans e_1) (by omega) rfl ?_
    refine aw_aload_n dX4_add_24 rfl ?_
    refine aw_get dX4_add_25 fl_X4_18 ((k_4 _ (by omega)).trans e_1) (by omega) rfl ?_
    refine aw_iload_n dX4_add_28 rfl ?_
    obtain ⟨g_5, e_5, p_5⟩ := JW.get j_4 (ctl_2 hx)
    refine aw_iast dX4_add_29 e_5 (by omega) (vp_in_nI (n := s8_1) (by omega) (by omega)) ?_
    refine aw_up j_4 (ctl_2 hx) ⟨_, rfl, isP_upd p_5 hw⟩ (WA (LMs LM0) (by omega) (by omega)) (fun V_6 j_6 k_6 e_6 => ?_)
    refine aw_aload_n dX4_add_30 rfl ?_
    refine aw_dup dX4_add_31 rfl ?_
    refine aw_get dX4_add_32 fl_X4_18 ((k_6 _ (by omega)).trans ((k_4 _ (by omega)).trans e_1)) (by omega) rfl ?_
    refine aw_iconst (v := 1) dX4_add_35 (by decide) ?_
    refine aw_iadd dX4_add_36 ?_
    refine aw_eqi (y := nI (s8_1 + 1)) (nI_add _ _) ?_
    refine aw_put dX4_add_37 fp_X4_18 ((k_6 _ (by omega)).trans ((k_4 _ (by omega)).trans e_1)) (by omega) rfl rfl (Nat.le_of_ble_eq_true rfl) rfl ?_
    refine aw_up j_6 (ctl_0 hx) ⟨(s8_1 + 1), r8_1, _, rfl, (by first | omega | (split <;> omega)), (by first | omega | (split <;> omega))⟩ (WO (s := 2) (x := .int (nI (s8_1 + 1))) ((k_6 _ (by omega)).trans ((k_4 _ (by omega)).trans e_1)) rfl (LMs (LMs LM0)) (by omega) (by omega) (by decide) (Or.inl (by decide))) (fun V_7 j_7 k_7 e_7 => ?_)
    refine aw_aload_n dX4_add_40 rfl ?_
    refine aw_get dX4_add_41 fl_X4_18 e_7 (by omega) rfl ?_
    refine aw_iconst (v := 1) dX4_add_44 (by decide) ?_
    refine aw_isub dX4_add_45 ?_
    refine aw_ireti dX4_add_46 rfl (Nat.le_of_ble_eq_true rfl) (Nat.le_of_ble_eq_true rfl) ?_
    exact ⟨rfl, j_7⟩

set_option maxHeartbeats 4000000 in
set_option maxRecDepth 100000 in
theorem g_X4_endRule (l : Launch) (D : va_G) (b : Nat) (N : Nat) (V : Wd) (hN : 100 ≤ N) (hW : CW D b V) (x : Nat) (hx : x = 57 ∨ x = 65)  : MV l D b 0 jX4_endRule [.ref (b + x)] N V 0 0 (fun N9 V9 => N = N9 ∧ JW D b N [(x, x, 6, 6)] V V9) := by
  have hJ0 : JW D b N [(x, x, 6, 6)] V V := JW.rf hW
  refine mw_of (by decide) (by simp [Value.category]) (Nat.le_of_ble_eq_true rfl) ?_
  show AW l D b jX4_endRule (fx_rm 0 0 0) none (fx_MQ D b 0 0 (fx_qv (fun N9 V9 => N = N9 ∧ JW D b N [(x, x, 6, 6)] V V9))) 0 [some (.ref (b + x))] [] N V 0 0
  refine aw_aload_n dX4_endRule_0 rfl ?_
  refine aw_bipush (v := 16) dX4_endRule_1 (by decide) ?_
  refine aw_aload_n dX4_endRule_3 rfl ?_
  obtain ⟨s8_1, r8_1, h8_1, e_1, hs_1, hr_1⟩ := JW.get hJ0 (ctl_0 hx)
  refine aw_get dX4_endRule_4 fl_X4_31 e_1 (by omega) rfl ?_
  refine aw_iconst (v := 1) dX4_endRule_7 (by decide) ?_
  refine aw_iadd dX4_endRule_8 ?_
  refine aw_eqi (y := nI (r8_1 + 1)) (nI_add _ _) ?_
  refine aw_mmin dX4_endRule_9 tb_529 tb_382 tb_13 tb_383 ⟨Nat.le_of_ble_eq_true rfl, Nat.le_of_ble_eq_true rfl, Nat.le_of_ble_eq_true rfl, Nat.le_of_ble_eq_true rfl⟩ ?_
  refine aw_eqi (y := (nI (if r8_1 + 1 < 16 then r8_1 + 1 else 16))) (fx_min16 r8_1 (by omega)) ?_
  refine aw_put dX4_endRule_12 fp_X4_31 e_1 (by omega) rfl rfl (Nat.le_of_ble_eq_true rfl) rfl ?_
  refine aw_up hJ0 (ctl_0 hx) ⟨s8_1, (if r8_1 + 1 < 16 then r8_1 + 1 else 16), _, rfl, (by first | omega | (split <;> omega)), (by first | omega | (split <;> omega))⟩ (WO (s := 6) (x := .int (nI (if r8_1 + 1 < 16 then r8_1 + 1 else 16))) e_1 rfl LM0 (by omega) (by omega) (by decide) (Or.inl (by decide))) (fun V_2 j_2 k_2 e_2 => ?_)
  refine aw_vreti dX4_endRule_15 rfl (Nat.le_of_ble_eq_true rfl) (Nat.le_of_ble_eq_true rfl) ?_
  exact ⟨rfl, j_2⟩

set_option maxHeartbeats 4000000 in
set_option maxRecDepth 100000 in
theorem g_X4_push (l : Launch) (D : va_G) (b : Nat) (N : Nat) (V : Wd) (hN : 100 ≤ N) (hW : CW D b V) (x : Nat) (hx : x = 57 ∨ x = 65) (n0 : Int32)  : MV l D b 0 jX4_push [.ref (b + x), .int n0] N V 0 0 (fun N9 V9 => N = N9 ∧ JW D b N [(x + 7, x + 7, 0, 1000000), (x, x, 9, 9)] V V9) := by
  have hJ0 : JW D b N [(x + 7, x + 7, 0, 1000000), (x, x, 9, 9)] V V := JW.rf hW
  refine mw_of (by decide) (by simp [Value.category]) (Nat.le_of_ble_eq_true rfl) ?_
  show AW l D b jX4_push (fx_rm 0 0 0) none (fx_MQ D b 0 0 (fx_qv (fun N9 V9 => N = N9 ∧ JW D b N [(x + 7, x + 7, 0, 1000000), (x, x, 9, 9)] V V9))) 0 [some (.ref (b + x)), some (.int n0)] [] N V 0 0
  refine aw_aload_n dX4_push_0 rfl ?_
  obtain ⟨s8_1, r8_1, h8_1, e_1, hs_1, hr_1⟩ := JW.get hJ0 (ctl_0 hx)
  refine aw_get dX4_push_1 fl_X4_48 e_1 (by omega) rfl ?_
  refine aw_if_lt (tgt := 36) dX4_push_4 (by decide) (fun c_2 => ?_) (fun c_2 => ?_)
  · skip
    refine aw_vreti dX4_push_36 rfl (Nat.le_of_ble_eq_true rfl) (Nat.le_of_ble_eq_true rfl) ?_
    exact ⟨rfl, hJ0⟩
  · skip
    refine aw_aload_n dX4_push_7 rfl ?_
    refine aw_get dX4_push_8 fl_X4_48 e_1 (by omega) rfl ?_
    refine aw_bipush (v := 32) dX4_push_11 (by decide) ?_
    refine aw_icmp_ge (tgt := 36) dX4_push_13 (by decide) (fun c_3 => ?_) (fun c_3 => ?_)
    · skip
      refine aw_vreti dX4_push_36 rfl (Nat.le_of_ble_eq_true rfl) (Nat.le_of_ble_eq_true rfl) ?_
      exact ⟨rfl, hJ0⟩
    · skip
      refine aw_aload_n dX4_push_16 rfl ?_
      refine aw_get dX4_push_17 fl_X4_45 e_1 (by omega) rfl ?_
      refine aw_aload_n dX4_push_20 rfl ?_
      refine aw_get dX4_push_21 fl_X4_48 e_1 (by omega) rfl ?_
      refine aw_iload_n dX4_push_24 rfl ?_
      obtain ⟨g_4, e_4⟩ := JW.get hJ0 (ctl_7 hx)
      refine aw_iast dX4_push_25 e_4 (by omega) (vi_in (Int32.not_lt.mp c_2) (vi_lt (n := 32) (Int32.not_le.mp c_3) (by decide)) (by decide)) ?_
      refine aw_up hJ0 (ctl_7 hx) ⟨_, rfl⟩ (WA LM0 (by omega) (by omega)) (fun V_5 j_5 k_5 e_5 => ?_)
      refine aw_aload_n dX4_push_26 rfl ?_
      refine aw_dup dX4_push_27 rfl ?_
      refine aw_get dX4_push_28 fl_X4_48 ((k_5 _ (by omega)).trans e_1) (by omega) rfl ?_
      refine aw_iconst (v := 1) dX4_push_31 (by decide) ?_
      refine aw_iadd dX4_push_32 ?_
      refine aw_put dX4_push_33 fp_X4_48 ((k_5 _ (by omega)).trans e_1) (by omega) rfl rfl (Nat.le_of_ble_eq_true rfl) rfl ?_
      refine aw_up j_5 (ctl_0 hx) ⟨s8_1, r8_1, _, rfl, (by first | omega | (split <;> omega)), (by first | omega | (split <;> omega))⟩ (WO (s := 9) (x := .int (h8_1 + 1)) ((k_5 _ (by omega)).trans e_1) rfl (LMs LM0) (by omega) (by omega) (by decide) (Or.inl (by decide))) (fun V_6 j_6 k_6 e_6 => ?_)
      refine aw_vreti dX4_push_36 rfl (Nat.le_of_ble_eq_true rfl) (Nat.le_of_ble_eq_true rfl) ?_
      exact ⟨rfl, j_6⟩

set_option maxHeartbeats 4000000 in
set_option maxRecDepth 100000 in
theorem g_X4_pop (l : Launch) (D : va_G) (b : Nat) (N : Nat) (V : Wd) (hN : 100 ≤ N) (hW : CW D b V) (x : Nat) (hx : x = 57 ∨ x = 65)  : MI l D b 0 jX4_pop [.ref (b + x)] N V 0 0 (fun r N9 V9 => N = N9 ∧ JW D b N [(x, x, 9, 9)] V V9) := by
  have hJ0 : JW D b N [(x, x, 9, 9)] V V := JW.rf hW
  refine mw_of (by decide) (by simp [Value.category]) (Nat.le_of_ble_eq_true rfl) ?_
  show AW l D b jX4_pop (fx_rm 0 0 0) none (fx_MQ D b 0 0 (fx_qi (fun r N9 V9 => N = N9 ∧ JW D b N [(x, x, 9, 9)] V V9))) 0 [some (.ref (b + x))] [] N V 0 0
  refine aw_aload_n dX4_pop_0 rfl ?_
  obtain ⟨s8_1, r8_1, h8_1, e_1, hs_1, hr_1⟩ := JW.get hJ0 (ctl_0 hx)
  refine aw_get dX4_pop_1 fl_X4_48 e_1 (by omega) rfl ?_
  refine aw_if_le (tgt := 16) dX4_pop_4 (by decide) (fun c_2 => ?_) (fun c_2 => ?_)
  · skip
    refine aw_iconst (v := 0) dX4_pop_16 (by decide) ?_
    refine aw_ireti dX4_pop_17 rfl (Nat.le_of_ble_eq_true rfl) (Nat.le_of_ble_eq_true rfl) ?_
    exact ⟨rfl, hJ0⟩
  · skip
    refine aw_aload_n dX4_pop_7 rfl ?_
    refine aw_get dX4_pop_8 fl_X4_48 e_1 (by omega) rfl ?_
    refine aw_bipush (v := 32) dX4_pop_11 (by decide) ?_
    refine aw_icmp_le (tgt := 18) dX4_pop_13 (by decide) (fun c_3 => ?_) (fun c_3 => ?_)
    · skip
      refine aw_aload_n dX4_pop_18 rfl ?_
      refine aw_dup dX4_pop_19 rfl ?_
      refine aw_get dX4_pop_20 fl_X4_48 e_1 (by omega) rfl ?_
      refine aw_iconst (v := 1) dX4_pop_23 (by decide) ?_
      refine aw_isub dX4_pop_24 ?_
      refine aw_put dX4_pop_25 fp_X4_48 e_1 (by omega) rfl rfl (Nat.le_of_ble_eq_true rfl) rfl ?_
      refine aw_up hJ0 (ctl_0 hx) ⟨s8_1, r8_1, _, rfl, (by first | omega | (split <;> omega)), (by first | omega | (split <;> omega))⟩ (WO (s := 9) (x := .int (h8_1 - 1)) e_1 rfl LM0 (by omega) (by omega) (by decide) (Or.inl (by decide))) (fun V_4 j_4 k_4 e_4 => ?_)
      refine aw_aload_n dX4_pop_28 rfl ?_
      refine aw_get dX4_pop_29 fl_X4_45 e_4 (by omega) rfl ?_
      refine aw_aload_n dX4_pop_32 rfl ?_
      refine aw_get dX4_pop_33 fl_X4_48 e_4 (by omega) rfl ?_
      obtain ⟨g_5, e_5⟩ := JW.get j_4 (ctl_7 hx)
      refine aw_iald (v := (g_5 (Int32.toNatClampNeg (h8_1 - 1)))) dX4_pop_36 e_5 (by omega) (fx_pop32 c_2 (Int32.not_lt.mpr c_3)) rfl ?_
      refine aw_ireti dX4_pop_37 rfl (Nat.le_of_ble_eq_true rfl) (Nat.le_of_ble_eq_true rfl) ?_
      exact ⟨rfl, j_4⟩
    · skip
      refine aw_iconst (v := 0) dX4_pop_16 (by decide) ?_
      refine aw_ireti dX4_pop_17 rfl (Nat.le_of_ble_eq_true rfl) (Nat.le_of_ble_eq_true rfl) ?_
      exact ⟨rfl, hJ0⟩

set_option maxHeartbeats 4000000 in
set_option maxRecDepth 100000 in
theorem g_X4_joined (l : Launch) (D : va_G) (b : Nat) (N : Nat) (V : Wd) (hN : 100 ≤ N) (hW : CW D b V) (n0 : Int32) (n1 : Int32) (n2 : Int32)  : MI l D b 0 jX4_joined [.int n0, .int n1, .int n2] N V 0 0 (fun r N9 V9 => N = N9 ∧ V = V9) := by
  have hJ0 : JW D b N [] V V := JW.rf hW
  refine mw_of (by decide) (by simp [Value.category]) (Nat.le_of_ble_eq_true rfl) ?_
  show AW l D b jX4_joined (fx_rm 0 0 0) none (fx_MQ D b 0 0 (fx_qi (fun r N9 V9 => N = N9 ∧ V = V9))) 0 [some (.int n0), some (.int n1), some (.int n2)] [] N V 0 0
  refine aw_iload_n dX4_joined_0 rfl ?_
  by_cases sw_1 : n1 = 37
  · skip
    refine aw_eqi sw_1 ?_
    refine aw_lookup (off := 91) (tgt := 92) dX4_joined_1 (by decide) (by decide) (by decide) ?_
    refine aw_iload_n dX4_joined_92 rfl ?_
    refine aw_if_ne (tgt := 100) dX4_joined_93 (by decide) (fun c_2 => ?_) (fun c_2 => ?_)
    · skip
      refine aw_iload_n dX4_joined_100 rfl ?_
      refine aw_iload_n dX4_joined_101 rfl ?_
      refine aw_irem dX4_joined_102 c_2 ?_
      refine aw_ireti dX4_joined_103 rfl (Nat.le_of_ble_eq_true rfl) (Nat.le_of_ble_eq_true rfl) ?_
      exact ⟨rfl, rfl⟩
    · skip
      refine aw_iconst (v := 0) dX4_joined_96 (by decide) ?_
      refine aw_goto (tgt := 103) dX4_joined_97 (by decide) ?_
      refine aw_ireti dX4_joined_103 rfl (Nat.le_of_ble_eq_true rfl) (Nat.le_of_ble_eq_true rfl) ?_
      exact ⟨rfl, rfl⟩
  by_cases sw_3 : n1 = 42
  · skip
    refine aw_eqi sw_3 ?_
    refine aw_lookup (off := 75) (tgt := 76) dX4_joined_1 (by decide) (by decide) (by decide) ?_
    refine aw_iload_n dX4_joined_76 rfl ?_
    refine aw_iload_n dX4_joined_77 rfl ?_
    refine aw_imul dX4_joined_78 ?_
    refine aw_ireti dX4_joined_79 rfl (Nat.le_of_ble_eq_true rfl) (Nat.le_of_ble_eq_true rfl) ?_
    exact ⟨rfl, rfl⟩
  by_cases sw_4 : n1 = 43
  · skip
    refine aw_eqi sw_4 ?_
    refine aw_lookup (off := 67) (tgt := 68) dX4_joined_1 (by decide) (by decide) (by decide) ?_
    refine aw_iload_n dX4_joined_68 rfl ?_
    refine aw_iload_n dX4_joined_69 rfl ?_
    refine aw_iadd dX4_joined_70 ?_
    refine aw_ireti dX4_joined_71 rfl (Nat.le_of_ble_eq_true rfl) (Nat.le_of_ble_eq_true rfl) ?_
    exact ⟨rfl, rfl⟩
  by_cases sw_5 : n1 = 45
  · skip
    refine aw_eqi sw_5 ?_
    refine aw_lookup (off := 71) (tgt := 72) dX4_joined_1 (by decide) (by decide) (by decide) ?_
    refine aw_iload_n dX4_joined_72 rfl ?_
    refine aw_iload_n dX4_joined_73 rfl ?_
    refine aw_isub dX4_joined_74 ?_
    refine aw_ireti dX4_joined_75 rfl (Nat.le_of_ble_eq_true rfl) (Nat.le_of_ble_eq_true rfl) ?_
    exact ⟨rfl, rfl⟩
  by_cases sw_6 : n1 = 47
  · skip
    refine aw_eqi sw_6 ?_
    refine aw_lookup (off := 79) (tgt := 80) dX4_joined_1 (by decide) (by decide) (by decide) ?_
    refine aw_iload_n dX4_joined_80 rfl ?_
    refine aw_if_ne (tgt := 88) dX4_joined_81 (by decide) (fun c_7 => ?_) (fun c_7 => ?_)
    · skip
      refine aw_iload_n dX4_joined_88 rfl ?_
      refine aw_iload_n dX4_joined_89 rfl ?_
      refine aw_idiv dX4_joined_90 c_7 ?_
      refine aw_ireti dX4_joined_91 rfl (Nat.le_of_ble_eq_true rfl) (Nat.le_of_ble_eq_true rfl) ?_
      exact ⟨rfl, rfl⟩
    · skip
      refine aw_iconst (v := 0) dX4_joined_84 (by decide) ?_
      refine aw_goto (tgt := 91) dX4_joined_85 (by decide) ?_
      refine aw_ireti dX4_joined_91 rfl (Nat.le_of_ble_eq_true rfl) (Nat.le_of_ble_eq_true rfl) ?_
      exact ⟨rfl, rfl⟩
  by_cases sw_8 : n1 = 60
  · skip
    refine aw_eqi sw_8 ?_
    refine aw_lookup (off := 103) (tgt := 104) dX4_joined_1 (by decide) (by decide) (by decide) ?_
    refine aw_iload_n dX4_joined_104 rfl ?_
    refine aw_iload_n dX4_joined_105 rfl ?_
    refine aw_icmp_ge (tgt := 113) dX4_joined_106 (by decide) (fun c_9 => ?_) (fun c_9 => ?_)
    · skip
      refine aw_iconst (v := 0) dX4_joined_113 (by decide) ?_
      refine aw_ireti dX4_joined_114 rfl (Nat.le_of_ble_eq_true rfl) (Nat.le_of_ble_eq_true rfl) ?_
      exact ⟨rfl, rfl⟩
    · skip
      refine aw_iconst (v := 1) dX4_joined_109 (by decide) ?_
      refine aw_goto (tgt := 114) dX4_joined_110 (by decide) ?_
      refine aw_ireti dX4_joined_114 rfl (Nat.le_of_ble_eq_true rfl) (Nat.le_of_ble_eq_true rfl) ?_
      exact ⟨rfl, rfl⟩
  by_cases sw_10 : n1 = 62
  · skip
    refine aw_eqi sw_10 ?_
    refine aw_lookup (off := 114) (tgt := 115) dX4_joined_1 (by decide) (by decide) (by decide) ?_
    refine aw_iload_n dX4_joined_115 rfl ?_
    refine aw_iload_n dX4_joined_116 rfl ?_
    refine aw_icmp_le (tgt := 124) dX4_joined_117 (by decide) (fun c_11 => ?_) (fun c_11 => ?_)
    · skip
      refine aw_iconst (v := 0) dX4_joined_124 (by decide) ?_
      refine aw_ireti dX4_joined_125 rfl (Nat.le_of_ble_eq_true rfl) (Nat.le_of_ble_eq_true rfl) ?_
      exact ⟨rfl, rfl⟩
    · skip
      refine aw_iconst (v := 1) dX4_joined_120 (by decide) ?_
      refine aw_goto (tgt := 125) dX4_joined_121 (by decide) ?_
      refine aw_ireti dX4_joined_125 rfl (Nat.le_of_ble_eq_true rfl) (Nat.le_of_ble_eq_true rfl) ?_
      exact ⟨rfl, rfl⟩
  have tsw_1 : n1.toInt ≠ 37 := fx_tne sw_1
  have tsw_3 : n1.toInt ≠ 42 := fx_tne sw_3
  have tsw_4 : n1.toInt ≠ 43 := fx_tne sw_4
  have tsw_5 : n1.toInt ≠ 45 := fx_tne sw_5
  have tsw_6 : n1.toInt ≠ 47 := fx_tne sw_6
  have tsw_8 : n1.toInt ≠ 60 := fx_tne sw_8
  have tsw_10 : n1.toInt ≠ 62 := fx_tne sw_10
  refine aw_lookup (off := 125) (tgt := 126) dX4_joined_1 (by decide) (by show Op.lookupswitch.offset [(37, 91), (42, 75), (43, 67), (45, 71), (47, 79), (60, 103), (62, 114)] 125 n1.toInt = 125; simp only [Op.lookupswitch.offset_cons, Op.lookupswitch.offset_nil]; rw [if_neg (Ne.symm tsw_1), if_neg (Ne.symm tsw_3), if_neg (Ne.symm tsw_4), if_neg (Ne.symm tsw_5), if_neg (Ne.symm tsw_6), if_neg (Ne.symm tsw_8), if_neg (Ne.symm tsw_10)]) (by decide) ?_
  refine aw_iload_n dX4_joined_126 rfl ?_
  refine aw_iload_n dX4_joined_127 rfl ?_
  refine aw_icmp_ne (tgt := 135) dX4_joined_128 (by decide) (fun c_12 => ?_) (fun c_12 => ?_)
  · skip
    refine aw_iconst (v := 0) dX4_joined_135 (by decide) ?_
    refine aw_ireti dX4_joined_136 rfl (Nat.le_of_ble_eq_true rfl) (Nat.le_of_ble_eq_true rfl) ?_
    exact ⟨rfl, rfl⟩
  · skip
    refine aw_iconst (v := 1) dX4_joined_131 (by decide) ?_
    refine aw_goto (tgt := 136) dX4_joined_132 (by decide) ?_
    refine aw_ireti dX4_joined_136 rfl (Nat.le_of_ble_eq_true rfl) (Nat.le_of_ble_eq_true rfl) ?_
    exact ⟨rfl, rfl⟩

set_option maxHeartbeats 4000000 in
set_option maxRecDepth 100000 in
theorem g_X4_reckon (l : Launch) (D : va_G) (b : Nat) (N : Nat) (V : Wd) (hN : 100 ≤ N) (hW : CW D b V) (x : Nat) (hx : x = 57 ∨ x = 65) (n0 : Int32)  : MI l D b 1 jX4_reckon [.ref (b + x), .int n0] N V 0 0 (fun r N9 V9 => N = N9 ∧ JW D b N [(x, x, 9, 9), (x + 7, x + 7, 0, 1000000)] V V9) := by
  have hJ0 : JW D b N [(x, x, 9, 9), (x + 7, x + 7, 0, 1000000)] V V := JW.rf hW
  refine mw_of (by decide) (by simp [Value.category]) (Nat.le_of_ble_eq_true rfl) ?_
  show AW l D b jX4_reckon (fx_rm 1 0 0) none (fx_MQ D b 0 0 (fx_qi (fun r N9 V9 => N = N9 ∧ JW D b N [(x, x, 9, 9), (x + 7, x + 7, 0, 1000000)] V V9))) 0 [some (.ref (b + x)), some (.int n0), none, none, none, none] [] N V 0 0
  refine aw_aload_n dX4_reckon_0 rfl ?_
  refine aw_iconst (v := 0) dX4_reckon_1 (by decide) ?_
  obtain ⟨s8_1, r8_1, h8_1, e_1, hs_1, hr_1⟩ := JW.get hJ0 (ctl_0 hx)
  refine aw_put dX4_reckon_2 fp_X4_48 e_1 (by omega) rfl rfl (Nat.le_of_ble_eq_true rfl) rfl ?_
  refine aw_up hJ0 (ctl_0 hx) ⟨s8_1, r8_1, _, rfl, (by first | omega | (split <;> omega)), (by first | omega | (split <;> omega))⟩ (WO (s := 9) (x := .int 0) e_1 rfl LM0 (by omega) (by omega) (by decide) (Or.inl (by decide))) (fun V_2 j_2 k_2 e_2 => ?_)
  refine aw_iconst (v := 0) dX4_reckon_5 (by decide) ?_
  refine aw_iload_n dX4_reckon_6 rfl ?_
  refine aw_mmax dX4_reckon_7 tb_680 tb_385 tb_13 tb_386 ⟨Nat.le_of_ble_eq_true rfl, Nat.le_of_ble_eq_true rfl, Nat.le_of_ble_eq_true rfl, Nat.le_of_ble_eq_true rfl⟩ ?_
  refine aw_istore_n (ls' := [some (.ref (b + x)), some (.int n0), some (.int (if 0 < n0 then n0 else 0)), none, none, none]) dX4_reckon_10 (Nat.le_of_ble_eq_true rfl) rfl ?_
  have ml_11_3 : ∀ (m : Nat) (v11_2 : Int32) (V11 : Wd), m = (256 - v11_2.toInt).toNat → (JW D b N [(x, x, 9, 9), (x + 7, x + 7, 0, 1000000)] V V11) → (0 ≤ v11_2) → AW l D b jX4_reckon (fx_rm 1 0 0) none (fx_MQ D b 0 0 (fx_qi (fun r N9 V9 => N = N9 ∧ JW D b N [(x, x, 9, 9), (x + 7, x + 7, 0, 1000000)] V V9))) 11 [some (.ref (b + x)), some (.int n0), some (.int v11_2), none, none, none] [] N V11 0 0 := by
    intro m; refine Nat.strongRecOn m ?_
    intro m mih_11_3 v11_2 V11 hm11 i11_0 i11_1
    refine aw_iload_n dX4_reckon_11 rfl ?_
    refine aw_aload_n dX4_reckon_12 rfl ?_
    obtain ⟨s8_4, r8_4, h8_4, e_4, hs_4, hr_4⟩ := JW.get i11_0 (ctl_0 hx)
    refine aw_get dX4_reckon_13 fl_X4_18 e_4 (by omega) rfl ?_
    refine aw_icmp_ge (tgt := 224) dX4_reckon_16 (by decide) (fun c_5 => ?_) (fun c_5 => ?_)
    · skip
      refine aw_aload_n dX4_reckon_224 rfl ?_
      refine aw_callVi (J' := jX4_pop) (As := []) (st := []) dX4_reckon_225 tb_689 ok_X4_pop ⟨_, e_4⟩ (by omega) rfl rfl (g_X4_pop l D b N V11 hN i11_0.1 x hx) rfl (Nat.le_of_ble_eq_true rfl) ⟨Nat.le_of_ble_eq_true rfl, Nat.le_of_ble_eq_true rfl, Nat.le_of_ble_eq_true rfl, Nat.le_of_ble_eq_true rfl⟩ (fun r_9 N_10 V_8 q_11 => ?_)
      obtain ⟨rfl, q_6⟩ := q_11
      have j_7 := JW.trans i11_0 (JW.weak q_6 (Sub.cons LM0 (by omega) (by omega) (by decide) (Or.inr ⟨by decide, by decide⟩) Sub.nil))
      refine aw_ireti dX4_reckon_228 rfl (Nat.le_of_ble_eq_true rfl) (Nat.le_of_ble_eq_true rfl) ?_
      exact ⟨rfl, j_7⟩
    · skip
      refine aw_iload_n dX4_reckon_19 rfl ?_
      refine aw_sipush (v := 256) dX4_reckon_20 (by decide) ?_
      refine aw_icmp_ge (tgt := 224) dX4_reckon_23 (by decide) (fun c_12 => ?_) (fun c_12 => ?_)
      · skip
        refine aw_aload_n dX4_reckon_224 rfl ?_
        refine aw_callVi (J' := jX4_pop) (As := []) (st := []) dX4_reckon_225 tb_689 ok_X4_pop ⟨_, e_4⟩ (by omega) rfl rfl (g_X4_pop l D b N V11 hN i11_0.1 x hx) rfl (Nat.le_of_ble_eq_true rfl) ⟨Nat.le_of_ble_eq_true rfl, Nat.le_of_ble_eq_true rfl, Nat.le_of_ble_eq_true rfl, Nat.le_of_ble_eq_true rfl⟩ (fun r_16 N_17 V_15 q_18 => ?_)
        obtain ⟨rfl, q_13⟩ := q_18
        have j_14 := JW.trans i11_0 (JW.weak q_13 (Sub.cons LM0 (by omega) (by omega) (by decide) (Or.inr ⟨by decide, by decide⟩) Sub.nil))
        refine aw_ireti dX4_reckon_228 rfl (Nat.le_of_ble_eq_true rfl) (Nat.le_of_ble_eq_true rfl) ?_
        exact ⟨rfl, j_14⟩
      · skip
        refine aw_aload_n dX4_reckon_26 rfl ?_
        refine aw_get dX4_reckon_27 fl_X4_11 e_4 (by omega) rfl ?_
        refine aw_iload_n dX4_reckon_30 rfl ?_
        obtain ⟨g_19, e_19⟩ := JW.get i11_0 (ctl_1 hx)
        refine aw_iald (v := (g_19 (Int32.toNatClampNeg v11_2))) dX4_reckon_31 e_19 (by omega) (vi_in i11_1 (vi_lt (n := 256) (Int32.not_le.mp c_12) (by decide)) (by decide)) rfl ?_
        refine aw_bipush (v := 46) dX4_reckon_32 (by decide) ?_
        refine aw_icmp_eq (tgt := 224) dX4_reckon_34 (by decide) (fun c_20 => ?_) (fun c_20 => ?_)
        · skip
          refine aw_aload_n dX4_reckon_224 rfl ?_
          refine aw_callVi (J' := jX4_pop) (As := []) (st := []) dX4_reckon_225 tb_689 ok_X4_pop ⟨_, e_4⟩ (by omega) rfl rfl (g_X4_pop l D b N V11 hN i11_0.1 x hx) rfl (Nat.le_of_ble_eq_true rfl) ⟨Nat.le_of_ble_eq_true rfl, Nat.le_of_ble_eq_true rfl, Nat.le_of_ble_eq_true rfl, Nat.le_of_ble_eq_true rfl⟩ (fun r_24 N_25 V_23 q_26 => ?_)
          obtain ⟨rfl, q_21⟩ := q_26
          have j_22 := JW.trans i11_0 (JW.weak q_21 (Sub.cons LM0 (by omega) (by omega) (by decide) (Or.inr ⟨by decide, by decide⟩) Sub.nil))
          refine aw_ireti dX4_reckon_228 rfl (Nat.le_of_ble_eq_true rfl) (Nat.le_of_ble_eq_true rfl) ?_
          exact ⟨rfl, j_22⟩
        · skip
          refine aw_aload_n dX4_reckon_37 rfl ?_
          refine aw_get dX4_reckon_38 fl_X4_11 e_4 (by omega) rfl ?_
          refine aw_iload_n dX4_reckon_41 rfl ?_
          refine aw_iald (v := (g_19 (Int32.toNatClampNeg v11_2))) dX4_reckon_42 e_19 (by omega) (vi_in i11_1 (vi_lt (n := 256) (Int32.not_le.mp c_12) (by decide)) (by decide)) rfl ?_
          refine aw_istore_n (ls' := [some (.ref (b + x)), some (.int n0), some (.int v11_2), some (.int (g_19 (Int32.toNatClampNeg v11_2))), none, none]) dX4_reckon_43 (Nat.le_of_ble_eq_true rfl) rfl ?_
          refine aw_iload_n dX4_reckon_44 rfl ?_
          refine aw_bipush (v := 35) dX4_reckon_45 (by decide) ?_
          refine aw_icmp_ne (tgt := 63) dX4_reckon_47 (by decide) (fun c_27 => ?_) (fun c_27 => ?_)
          · skip
            refine aw_iload_n dX4_reckon_63 rfl ?_
            refine aw_bipush (v := 64) dX4_reckon_64 (by decide) ?_
            refine aw_icmp_ne (tgt := 86) dX4_reckon_66 (by decide) (fun c_28 => ?_) (fun c_28 => ?_)
            · skip
              refine aw_iload_n dX4_reckon_86 rfl ?_
              refine aw_bipush (v := 33) dX4_reckon_87 (by decide) ?_
              refine aw_icmp_ne (tgt := 111) dX4_reckon_89 (by decide) (fun c_29 => ?_) (fun c_29 => ?_)
              · skip
                refine aw_iload_n dX4_reckon_111 rfl ?_
                refine aw_bipush (v := 38) dX4_reckon_112 (by decide) ?_
                refine aw_icmp_eq (tgt := 123) dX4_reckon_114 (by decide) (fun c_30 => ?_) (fun c_30 => ?_)
                · skip
                  refine aw_aload_n dX4_reckon_123 rfl ?_
                  refine aw_callVi (J' := jX4_pop) (As := []) (st := []) dX4_reckon_124 tb_689 ok_X4_pop ⟨_, e_4⟩ (by omega) rfl rfl (g_X4_pop l D b N V11 hN i11_0.1 x hx) rfl (Nat.le_of_ble_eq_true rfl) ⟨Nat.le_of_ble_eq_true rfl, Nat.le_of_ble_eq_true rfl, Nat.le_of_ble_eq_true rfl, Nat.le_of_ble_eq_true rfl⟩ (fun r_34 N_35 V_33 q_36 => ?_)
                  obtain ⟨rfl, q_31⟩ := q_36
                  have j_32 := JW.trans i11_0 (JW.weak q_31 (Sub.cons LM0 (by omega) (by omega) (by decide) (Or.inr ⟨by decide, by decide⟩) Sub.nil))
                  refine aw_istore (ls' := [some (.ref (b + x)), some (.int n0), some (.int v11_2), some (.int (g_19 (Int32.toNatClampNeg v11_2))), some (.int r_34), none]) dX4_reckon_127 (Nat.le_of_ble_eq_true rfl) rfl ?_
                  refine aw_iload dX4_reckon_129 rfl ?_
                  refine aw_if_eq (tgt := 138) dX4_reckon_131 (by decide) (fun c_37 => ?_) (fun c_37 => ?_)
                  · skip
                    refine aw_iconst (v := 0) dX4_reckon_138 (by decide) ?_
                    refine aw_iload_n dX4_reckon_139 rfl ?_
                    refine aw_bipush (v := 124) dX4_reckon_140 (by decide) ?_
                    refine aw_icmp_ne (tgt := 149) dX4_reckon_142 (by decide) (fun c_38 => ?_) (fun c_38 => ?_)
                    · skip
                      refine aw_iconst (v := 0) dX4_reckon_149 (by decide) ?_
                      refine aw_icmp_ne (tgt := 172) dX4_reckon_150 (by decide) (fun c_39 => ?_) (fun c_39 => ?_)
                      · exact absurd rfl c_39
                      refine aw_aload_n dX4_reckon_153 rfl ?_
                      refine aw_iload dX4_reckon_154 rfl ?_
                      obtain ⟨s8_43, r8_43, h8_43, e_43, hs_43, hr_43⟩ := JW.get j_32 (ctl_0 hx)
                      refine aw_callVv (J' := jX4_push) (As := [.int r_34]) (st := []) dX4_reckon_156 tb_681 ok_X4_push ⟨_, e_43⟩ (by omega) rfl rfl (g_X4_push l D b N V_33 hN j_32.1 x hx r_34) rfl (Nat.le_of_ble_eq_true rfl) ⟨Nat.le_of_ble_eq_true rfl, Nat.le_of_ble_eq_true rfl, Nat.le_of_ble_eq_true rfl, Nat.le_of_ble_eq_true rfl⟩ (fun  N_44 V_42 q_45 => ?_)
                      obtain ⟨rfl, q_40⟩ := q_45
                      have j_41 := JW.trans j_32 (JW.weak q_40 (Sub.cons (LMs LM0) (by omega) (by omega) (by decide) (Or.inl rfl) (Sub.cons LM0 (by omega) (by omega) (by decide) (Or.inr ⟨by decide, by decide⟩) Sub.nil)))
                      refine aw_iload_n dX4_reckon_159 rfl ?_
                      refine aw_aload_n dX4_reckon_160 rfl ?_
                      obtain ⟨s8_46, r8_46, h8_46, e_46, hs_46, hr_46⟩ := JW.get j_41 (ctl_0 hx)
                      refine aw_get dX4_reckon_161 fl_X4_15 e_46 (by omega) rfl ?_
                      refine aw_iload_n dX4_reckon_164 rfl ?_
                      obtain ⟨g_47, e_47, p_47⟩ := JW.get j_41 (ctl_2 hx)
                      refine aw_iald (v := (g_47 (Int32.toNatClampNeg v11_2))) dX4_reckon_165 e_47 (by omega) (vi_in i11_1 (vi_lt (n := 256) (Int32.not_le.mp c_12) (by decide)) (by decide)) rfl ?_
                      refine aw_iconst (v := 1) dX4_reckon_166 (by decide) ?_
                      refine aw_isub dX4_reckon_167 ?_
                      refine aw_mmax dX4_reckon_168 tb_680 tb_385 tb_13 tb_386 ⟨Nat.le_of_ble_eq_true rfl, Nat.le_of_ble_eq_true rfl, Nat.le_of_ble_eq_true rfl, Nat.le_of_ble_eq_true rfl⟩ ?_
                      refine aw_topi (fun y171 ey171 => ?_)
                      refine aw_istore_n (ls' := [some (.ref (b + x)), some (.int n0), some (.int y171), some (.int (g_19 (Int32.toNatClampNeg v11_2))), some (.int r_34), none]) dX4_reckon_171 (Nat.le_of_ble_eq_true rfl) rfl ?_
                      refine aw_goto (tgt := 218) dX4_reckon_172 (by decide) ?_
                      refine aw_iinc (v := (y171 + 1)) (ls' := [some (.ref (b + x)), some (.int n0), some (.int (y171 + 1)), some (.int (g_19 (Int32.toNatClampNeg v11_2))), some (.int r_34), none]) dX4_reckon_218 rfl rfl (Nat.le_of_ble_eq_true rfl) rfl ?_
                      refine aw_goto (tgt := 11) dX4_reckon_221 (by decide) ?_
                      have k_48 := rk_step (k := y171) i11_1 c_12 (by rw [ey171]; exact (rk_max c_12 (rk_p p_47 (vi_in i11_1 (vi_lt (n := 256) (Int32.not_le.mp c_12) (by decide)) (by decide)))).1) (by rw [ey171]; exact (rk_max c_12 (rk_p p_47 (vi_in i11_1 (vi_lt (n := 256) (Int32.not_le.mp c_12) (by decide)) (by decide)))).2)
                      refine aw_le ?_ (mih_11_3 _ (by rw [hm11]; exact k_48.2) (y171 + 1) V_42 rfl (j_41) (k_48.1))
                      exact ⟨rfl, ⟨rfl, ⟨rfl, trivial⟩⟩⟩
                    · skip
                      refine aw_iconst (v := 1) dX4_reckon_145 (by decide) ?_
                      refine aw_goto (tgt := 150) dX4_reckon_146 (by decide) ?_
                      refine aw_icmp_ne (tgt := 172) dX4_reckon_150 (by decide) (fun c_49 => ?_) (fun c_49 => ?_)
                      rotate_left
                      · exact absurd c_49 (by decide)
                      refine aw_goto (tgt := 218) dX4_reckon_172 (by decide) ?_
                      refine aw_iinc (v := (v11_2 + 1)) (ls' := [some (.ref (b + x)), some (.int n0), some (.int (v11_2 + 1)), some (.int (g_19 (Int32.toNatClampNeg v11_2))), some (.int r_34), none]) dX4_reckon_218 rfl rfl (Nat.le_of_ble_eq_true rfl) rfl ?_
                      refine aw_goto (tgt := 11) dX4_reckon_221 (by decide) ?_
                      have k_50 := rk_step i11_1 c_12 (Int32.le_refl _) (rk_same c_12)
                      refine aw_le ?_ (mih_11_3 _ (by rw [hm11]; exact k_50.2) (v11_2 + 1) V_33 rfl (j_32) (k_50.1))
                      exact ⟨rfl, ⟨rfl, ⟨rfl, trivial⟩⟩⟩
                  · skip
                    refine aw_iconst (v := 1) dX4_reckon_134 (by decide) ?_
                    refine aw_goto (tgt := 139) dX4_reckon_135 (by decide) ?_
                    refine aw_iload_n dX4_reckon_139 rfl ?_
                    refine aw_bipush (v := 124) dX4_reckon_140 (by decide) ?_
                    refine aw_icmp_ne (tgt := 149) dX4_reckon_142 (by decide) (fun c_51 => ?_) (fun c_51 => ?_)
                    · skip
                      refine aw_iconst (v := 0) dX4_reckon_149 (by decide) ?_
                      refine aw_icmp_ne (tgt := 172) dX4_reckon_150 (by decide) (fun c_52 => ?_) (fun c_52 => ?_)
                      rotate_left
                      · exact absurd c_52 (by decide)
                      refine aw_goto (tgt := 218) dX4_reckon_172 (by decide) ?_
                      refine aw_iinc (v := (v11_2 + 1)) (ls' := [some (.ref (b + x)), some (.int n0), some (.int (v11_2 + 1)), some (.int (g_19 (Int32.toNatClampNeg v11_2))), some (.int r_34), none]) dX4_reckon_218 rfl rfl (Nat.le_of_ble_eq_true rfl) rfl ?_
                      refine aw_goto (tgt := 11) dX4_reckon_221 (by decide) ?_
                      have k_53 := rk_step i11_1 c_12 (Int32.le_refl _) (rk_same c_12)
                      refine aw_le ?_ (mih_11_3 _ (by rw [hm11]; exact k_53.2) (v11_2 + 1) V_33 rfl (j_32) (k_53.1))
                      exact ⟨rfl, ⟨rfl, ⟨rfl, trivial⟩⟩⟩
                    · skip
                      refine aw_iconst (v := 1) dX4_reckon_145 (by decide) ?_
                      refine aw_goto (tgt := 150) dX4_reckon_146 (by decide) ?_
                      refine aw_icmp_ne (tgt := 172) dX4_reckon_150 (by decide) (fun c_54 => ?_) (fun c_54 => ?_)
                      · exact absurd rfl c_54
                      refine aw_aload_n dX4_reckon_153 rfl ?_
                      refine aw_iload dX4_reckon_154 rfl ?_
                      obtain ⟨s8_58, r8_58, h8_58, e_58, hs_58, hr_58⟩ := JW.get j_32 (ctl_0 hx)
                      refine aw_callVv (J' := jX4_push) (As := [.int r_34]) (st := []) dX4_reckon_156 tb_681 ok_X4_push ⟨_, e_58⟩ (by omega) rfl rfl (g_X4_push l D b N V_33 hN j_32.1 x hx r_34) rfl (Nat.le_of_ble_eq_true rfl) ⟨Nat.le_of_ble_eq_true rfl, Nat.le_of_ble_eq_true rfl, Nat.le_of_ble_eq_true rfl, Nat.le_of_ble_eq_true rfl⟩ (fun  N_59 V_57 q_60 => ?_)
                      obtain ⟨rfl, q_55⟩ := q_60
                      have j_56 := JW.trans j_32 (JW.weak q_55 (Sub.cons (LMs LM0) (by omega) (by omega) (by decide) (Or.inl rfl) (Sub.cons LM0 (by omega) (by omega) (by decide) (Or.inr ⟨by decide, by decide⟩) Sub.nil)))
                      refine aw_iload_n dX4_reckon_159 rfl ?_
                      refine aw_aload_n dX4_reckon_160 rfl ?_
                      obtain ⟨s8_61, r8_61, h8_61, e_61, hs_61, hr_61⟩ := JW.get j_56 (ctl_0 hx)
                      refine aw_get dX4_reckon_161 fl_X4_15 e_61 (by omega) rfl ?_
                      refine aw_iload_n dX4_reckon_164 rfl ?_
                      obtain ⟨g_62, e_62, p_62⟩ := JW.get j_56 (ctl_2 hx)
                      refine aw_iald (v := (g_62 (Int32.toNatClampNeg v11_2))) dX4_reckon_165 e_62 (by omega) (vi_in i11_1 (vi_lt (n := 256) (Int32.not_le.mp c_12) (by decide)) (by decide)) rfl ?_
                      refine aw_iconst (v := 1) dX4_reckon_166 (by decide) ?_
                      refine aw_isub dX4_reckon_167 ?_
                      refine aw_mmax dX4_reckon_168 tb_680 tb_385 tb_13 tb_386 ⟨Nat.le_of_ble_eq_true rfl, Nat.le_of_ble_eq_true rfl, Nat.le_of_ble_eq_true rfl, Nat.le_of_ble_eq_true rfl⟩ ?_
                      refine aw_topi (fun y171 ey171 => ?_)
                      refine aw_istore_n (ls' := [some (.ref (b + x)), some (.int n0), some (.int y171), some (.int (g_19 (Int32.toNatClampNeg v11_2))), some (.int r_34), none]) dX4_reckon_171 (Nat.le_of_ble_eq_true rfl) rfl ?_
                      refine aw_goto (tgt := 218) dX4_reckon_172 (by decide) ?_
                      refine aw_iinc (v := (y171 + 1)) (ls' := [some (.ref (b + x)), some (.int n0), some (.int (y171 + 1)), some (.int (g_19 (Int32.toNatClampNeg v11_2))), some (.int r_34), none]) dX4_reckon_218 rfl rfl (Nat.le_of_ble_eq_true rfl) rfl ?_
                      refine aw_goto (tgt := 11) dX4_reckon_221 (by decide) ?_
                      have k_63 := rk_step (k := y171) i11_1 c_12 (by rw [ey171]; exact (rk_max c_12 (rk_p p_62 (vi_in i11_1 (vi_lt (n := 256) (Int32.not_le.mp c_12) (by decide)) (by decide)))).1) (by rw [ey171]; exact (rk_max c_12 (rk_p p_62 (vi_in i11_1 (vi_lt (n := 256) (Int32.not_le.mp c_12) (by decide)) (by decide)))).2)
                      refine aw_le ?_ (mih_11_3 _ (by rw [hm11]; exact k_63.2) (y171 + 1) V_57 rfl (j_56) (k_63.1))
                      exact ⟨rfl, ⟨rfl, ⟨rfl, trivial⟩⟩⟩
                · skip
                  refine aw_iload_n dX4_reckon_117 rfl ?_
                  refine aw_bipush (v := 124) dX4_reckon_118 (by decide) ?_
                  refine aw_icmp_ne (tgt := 175) dX4_reckon_120 (by decide) (fun c_64 => ?_) (fun c_64 => ?_)
                  · skip
                    refine aw_aload_n dX4_reckon_175 rfl ?_
                    refine aw_callVi (J' := jX4_pop) (As := []) (st := []) dX4_reckon_176 tb_689 ok_X4_pop ⟨_, e_4⟩ (by omega) rfl rfl (g_X4_pop l D b N V11 hN i11_0.1 x hx) rfl (Nat.le_of_ble_eq_true rfl) ⟨Nat.le_of_ble_eq_true rfl, Nat.le_of_ble_eq_true rfl, Nat.le_of_ble_eq_true rfl, Nat.le_of_ble_eq_true rfl⟩ (fun r_68 N_69 V_67 q_70 => ?_)
                    obtain ⟨rfl, q_65⟩ := q_70
                    have j_66 := JW.trans i11_0 (JW.weak q_65 (Sub.cons LM0 (by omega) (by omega) (by decide) (Or.inr ⟨by decide, by decide⟩) Sub.nil))
                    refine aw_istore (ls' := [some (.ref (b + x)), some (.int n0), some (.int v11_2), some (.int (g_19 (Int32.toNatClampNeg v11_2))), some (.int r_68), none]) dX4_reckon_179 (Nat.le_of_ble_eq_true rfl) rfl ?_
                    refine aw_aload_n dX4_reckon_181 rfl ?_
                    obtain ⟨s8_74, r8_74, h8_74, e_74, hs_74, hr_74⟩ := JW.get j_66 (ctl_0 hx)
                    refine aw_callVi (J' := jX4_pop) (As := []) (st := []) dX4_reckon_182 tb_689 ok_X4_pop ⟨_, e_74⟩ (by omega) rfl rfl (g_X4_pop l D b N V_67 hN j_66.1 x hx) rfl (Nat.le_of_ble_eq_true rfl) ⟨Nat.le_of_ble_eq_true rfl, Nat.le_of_ble_eq_true rfl, Nat.le_of_ble_eq_true rfl, Nat.le_of_ble_eq_true rfl⟩ (fun r_75 N_76 V_73 q_77 => ?_)
                    obtain ⟨rfl, q_71⟩ := q_77
                    have j_72 := JW.trans j_66 (JW.weak q_71 (Sub.cons LM0 (by omega) (by omega) (by decide) (Or.inr ⟨by decide, by decide⟩) Sub.nil))
                    refine aw_istore (ls' := [some (.ref (b + x)), some (.int n0), some (.int v11_2), some (.int (g_19 (Int32.toNatClampNeg v11_2))), some (.int r_68), some (.int r_75)]) dX4_reckon_185 (Nat.le_of_ble_eq_true rfl) rfl ?_
                    refine aw_iload dX4_reckon_187 rfl ?_
                    refine aw_if_ne (tgt := 206) dX4_reckon_189 (by decide) (fun c_78 => ?_) (fun c_78 => ?_)
                    · skip
                      refine aw_aload_n dX4_reckon_206 rfl ?_
                      refine aw_iload dX4_reckon_207 rfl ?_
                      refine aw_iload_n dX4_reckon_209 rfl ?_
                      refine aw_iload dX4_reckon_210 rfl ?_
                      refine aw_callSi (J' := jX4_joined) (As := [.int r_75, .int (g_19 (Int32.toNatClampNeg v11_2)), .int r_68]) (st := [.ref (b + x)]) dX4_reckon_212 tb_693 ok_X4_joined rfl (g_X4_joined l D b N V_73 hN j_72.1 r_75 (g_19 (Int32.toNatClampNeg v11_2)) r_68) rfl (Nat.le_of_ble_eq_true rfl) ⟨Nat.le_of_ble_eq_true rfl, Nat.le_of_ble_eq_true rfl, Nat.le_of_ble_eq_true rfl, Nat.le_of_ble_eq_true rfl⟩ (fun r_80 N_81 V_82 q_83 => ?_)
                      obtain ⟨rfl, rfl⟩ := q_83
                      obtain ⟨s8_87, r8_87, h8_87, e_87, hs_87, hr_87⟩ := JW.get j_72 (ctl_0 hx)
                      refine aw_callVv (J' := jX4_push) (As := [.int r_80]) (st := []) dX4_reckon_215 tb_681 ok_X4_push ⟨_, e_87⟩ (by omega) rfl rfl (g_X4_push l D b N V_73 hN j_72.1 x hx r_80) rfl (Nat.le_of_ble_eq_true rfl) ⟨Nat.le_of_ble_eq_true rfl, Nat.le_of_ble_eq_true rfl, Nat.le_of_ble_eq_true rfl, Nat.le_of_ble_eq_true rfl⟩ (fun  N_88 V_86 q_89 => ?_)
                      obtain ⟨rfl, q_84⟩ := q_89
                      have j_85 := JW.trans j_72 (JW.weak q_84 (Sub.cons (LMs LM0) (by omega) (by omega) (by decide) (Or.inl rfl) (Sub.cons LM0 (by omega) (by omega) (by decide) (Or.inr ⟨by decide, by decide⟩) Sub.nil)))
                      refine aw_iinc (v := (v11_2 + 1)) (ls' := [some (.ref (b + x)), some (.int n0), some (.int (v11_2 + 1)), some (.int (g_19 (Int32.toNatClampNeg v11_2))), some (.int r_68), some (.int r_75)]) dX4_reckon_218 rfl rfl (Nat.le_of_ble_eq_true rfl) rfl ?_
                      refine aw_goto (tgt := 11) dX4_reckon_221 (by decide) ?_
                      have k_90 := rk_step i11_1 c_12 (Int32.le_refl _) (rk_same c_12)
                      refine aw_le ?_ (mih_11_3 _ (by rw [hm11]; exact k_90.2) (v11_2 + 1) V_86 rfl (j_85) (k_90.1))
                      exact ⟨rfl, ⟨rfl, ⟨rfl, trivial⟩⟩⟩
                    · skip
                      refine aw_iload_n dX4_reckon_192 rfl ?_
                      refine aw_bipush (v := 47) dX4_reckon_193 (by decide) ?_
                      refine aw_icmp_eq (tgt := 204) dX4_reckon_195 (by decide) (fun c_91 => ?_) (fun c_91 => ?_)
                      · skip
                        refine aw_iconst (v := 0) dX4_reckon_204 (by decide) ?_
                        refine aw_ireti dX4_reckon_205 rfl (Nat.le_of_ble_eq_true rfl) (Nat.le_of_ble_eq_true rfl) ?_
                        exact ⟨rfl, j_72⟩
                      · skip
                        refine aw_iload_n dX4_reckon_198 rfl ?_
                        refine aw_bipush (v := 37) dX4_reckon_199 (by decide) ?_
                        refine aw_icmp_ne (tgt := 206) dX4_reckon_201 (by decide) (fun c_92 => ?_) (fun c_92 => ?_)
                        · skip
                          refine aw_aload_n dX4_reckon_206 rfl ?_
                          refine aw_iload dX4_reckon_207 rfl ?_
                          refine aw_iload_n dX4_reckon_209 rfl ?_
                          refine aw_iload dX4_reckon_210 rfl ?_
                          refine aw_callSi (J' := jX4_joined) (As := [.int r_75, .int (g_19 (Int32.toNatClampNeg v11_2)), .int r_68]) (st := [.ref (b + x)]) dX4_reckon_212 tb_693 ok_X4_joined rfl (g_X4_joined l D b N V_73 hN j_72.1 r_75 (g_19 (Int32.toNatClampNeg v11_2)) r_68) rfl (Nat.le_of_ble_eq_true rfl) ⟨Nat.le_of_ble_eq_true rfl, Nat.le_of_ble_eq_true rfl, Nat.le_of_ble_eq_true rfl, Nat.le_of_ble_eq_true rfl⟩ (fun r_94 N_95 V_96 q_97 => ?_)
                          obtain ⟨rfl, rfl⟩ := q_97
                          obtain ⟨s8_101, r8_101, h8_101, e_101, hs_101, hr_101⟩ := JW.get j_72 (ctl_0 hx)
                          refine aw_callVv (J' := jX4_push) (As := [.int r_94]) (st := []) dX4_reckon_215 tb_681 ok_X4_push ⟨_, e_101⟩ (by omega) rfl rfl (g_X4_push l D b N V_73 hN j_72.1 x hx r_94) rfl (Nat.le_of_ble_eq_true rfl) ⟨Nat.le_of_ble_eq_true rfl, Nat.le_of_ble_eq_true rfl, Nat.le_of_ble_eq_true rfl, Nat.le_of_ble_eq_true rfl⟩ (fun  N_102 V_100 q_103 => ?_)
                          obtain ⟨rfl, q_98⟩ := q_103
                          have j_99 := JW.trans j_72 (JW.weak q_98 (Sub.cons (LMs LM0) (by omega) (by omega) (by decide) (Or.inl rfl) (Sub.cons LM0 (by omega) (by omega) (by decide) (Or.inr ⟨by decide, by decide⟩) Sub.nil)))
                          refine aw_iinc (v := (v11_2 + 1)) (ls' := [some (.ref (b + x)), some (.int n0), some (.int (v11_2 + 1)), some (.int (g_19 (Int32.toNatClampNeg v11_2))), some (.int r_68), some (.int r_75)]) dX4_reckon_218 rfl rfl (Nat.le_of_ble_eq_true rfl) rfl ?_
                          refine aw_goto (tgt := 11) dX4_reckon_221 (by decide) ?_
                          have k_104 := rk_step i11_1 c_12 (Int32.le_refl _) (rk_same c_12)
                          refine aw_le ?_ (mih_11_3 _ (by rw [hm11]; exact k_104.2) (v11_2 + 1) V_100 rfl (j_99) (k_104.1))
                          exact ⟨rfl, ⟨rfl, ⟨rfl, trivial⟩⟩⟩
                        · skip
                          refine aw_iconst (v := 0) dX4_reckon_204 (by decide) ?_
                          refine aw_ireti dX4_reckon_205 rfl (Nat.le_of_ble_eq_true rfl) (Nat.le_of_ble_eq_true rfl) ?_
                          exact ⟨rfl, j_72⟩
                  · skip
                    refine aw_aload_n dX4_reckon_123 rfl ?_
                    refine aw_callVi (J' := jX4_pop) (As := []) (st := []) dX4_reckon_124 tb_689 ok_X4_pop ⟨_, e_4⟩ (by omega) rfl rfl (g_X4_pop l D b N V11 hN i11_0.1 x hx) rfl (Nat.le_of_ble_eq_true rfl) ⟨Nat.le_of_ble_eq_true rfl, Nat.le_of_ble_eq_true rfl, Nat.le_of_ble_eq_true rfl, Nat.le_of_ble_eq_true rfl⟩ (fun r_108 N_109 V_107 q_110 => ?_)
                    obtain ⟨rfl, q_105⟩ := q_110
                    have j_106 := JW.trans i11_0 (JW.weak q_105 (Sub.cons LM0 (by omega) (by omega) (by decide) (Or.inr ⟨by decide, by decide⟩) Sub.nil))
                    refine aw_istore (ls' := [some (.ref (b + x)), some (.int n0), some (.int v11_2), some (.int (g_19 (Int32.toNatClampNeg v11_2))), some (.int r_108), none]) dX4_reckon_127 (Nat.le_of_ble_eq_true rfl) rfl ?_
                    refine aw_iload dX4_reckon_129 rfl ?_
                    refine aw_if_eq (tgt := 138) dX4_reckon_131 (by decide) (fun c_111 => ?_) (fun c_111 => ?_)
                    · skip
                      refine aw_iconst (v := 0) dX4_reckon_138 (by decide) ?_
                      refine aw_iload_n dX4_reckon_139 rfl ?_
                      refine aw_bipush (v := 124) dX4_reckon_140 (by decide) ?_
                      refine aw_icmp_ne (tgt := 149) dX4_reckon_142 (by decide) (fun c_112 => ?_) (fun c_112 => ?_)
                      · first | exact absurd c_112 c_64 | exact absurd c_64 c_112 | exact absurd c_112 (Int32.not_lt.mpr c_64) | exact absurd c_64 (Int32.not_lt.mpr c_112) | exact c_64 (Int32.not_lt.mp c_112) | exact c_64 (Int32.not_le.mp c_112)
                      refine aw_iconst (v := 1) dX4_reckon_145 (by decide) ?_
                      refine aw_goto (tgt := 150) dX4_reckon_146 (by decide) ?_
                      refine aw_icmp_ne (tgt := 172) dX4_reckon_150 (by decide) (fun c_113 => ?_) (fun c_113 => ?_)
                      rotate_left
                      · exact absurd c_113 (by decide)
                      refine aw_goto (tgt := 218) dX4_reckon_172 (by decide) ?_
                      refine aw_iinc (v := (v11_2 + 1)) (ls' := [some (.ref (b + x)), some (.int n0), some (.int (v11_2 + 1)), some (.int (g_19 (Int32.toNatClampNeg v11_2))), some (.int r_108), none]) dX4_reckon_218 rfl rfl (Nat.le_of_ble_eq_true rfl) rfl ?_
                      refine aw_goto (tgt := 11) dX4_reckon_221 (by decide) ?_
                      have k_114 := rk_step i11_1 c_12 (Int32.le_refl _) (rk_same c_12)
                      refine aw_le ?_ (mih_11_3 _ (by rw [hm11]; exact k_114.2) (v11_2 + 1) V_107 rfl (j_106) (k_114.1))
                      exact ⟨rfl, ⟨rfl, ⟨rfl, trivial⟩⟩⟩
                    · skip
                      refine aw_iconst (v := 1) dX4_reckon_134 (by decide) ?_
                      refine aw_goto (tgt := 139) dX4_reckon_135 (by decide) ?_
                      refine aw_iload_n dX4_reckon_139 rfl ?_
                      refine aw_bipush (v := 124) dX4_reckon_140 (by decide) ?_
                      refine aw_icmp_ne (tgt := 149) dX4_reckon_142 (by decide) (fun c_115 => ?_) (fun c_115 => ?_)
                      · first | exact absurd c_115 c_64 | exact absurd c_64 c_115 | exact absurd c_115 (Int32.not_lt.mpr c_64) | exact absurd c_64 (Int32.not_lt.mpr c_115) | exact c_64 (Int32.not_lt.mp c_115) | exact c_64 (Int32.not_le.mp c_115)
                      refine aw_iconst (v := 1) dX4_reckon_145 (by decide) ?_
                      refine aw_goto (tgt := 150) dX4_reckon_146 (by decide) ?_
                      refine aw_icmp_ne (tgt := 172) dX4_reckon_150 (by decide) (fun c_116 => ?_) (fun c_116 => ?_)
                      · exact absurd rfl c_116
                      refine aw_aload_n dX4_reckon_153 rfl ?_
                      refine aw_iload dX4_reckon_154 rfl ?_
                      obtain ⟨s8_120, r8_120, h8_120, e_120, hs_120, hr_120⟩ := JW.get j_106 (ctl_0 hx)
                      refine aw_callVv (J' := jX4_push) (As := [.int r_108]) (st := []) dX4_reckon_156 tb_681 ok_X4_push ⟨_, e_120⟩ (by omega) rfl rfl (g_X4_push l D b N V_107 hN j_106.1 x hx r_108) rfl (Nat.le_of_ble_eq_true rfl) ⟨Nat.le_of_ble_eq_true rfl, Nat.le_of_ble_eq_true rfl, Nat.le_of_ble_eq_true rfl, Nat.le_of_ble_eq_true rfl⟩ (fun  N_121 V_119 q_122 => ?_)
                      obtain ⟨rfl, q_117⟩ := q_122
                      have j_118 := JW.trans j_106 (JW.weak q_117 (Sub.cons (LMs LM0) (by omega) (by omega) (by decide) (Or.inl rfl) (Sub.cons LM0 (by omega) (by omega) (by decide) (Or.inr ⟨by decide, by decide⟩) Sub.nil)))
                      refine aw_iload_n dX4_reckon_159 rfl ?_
                      refine aw_aload_n dX4_reckon_160 rfl ?_
                      obtain ⟨s8_123, r8_123, h8_123, e_123, hs_123, hr_123⟩ := JW.get j_118 (ctl_0 hx)
                      refine aw_get dX4_reckon_161 fl_X4_15 e_123 (by omega) rfl ?_
                      refine aw_iload_n dX4_reckon_164 rfl ?_
                      obtain ⟨g_124, e_124, p_124⟩ := JW.get j_118 (ctl_2 hx)
                      refine aw_iald (v := (g_124 (Int32.toNatClampNeg v11_2))) dX4_reckon_165 e_124 (by omega) (vi_in i11_1 (vi_lt (n := 256) (Int32.not_le.mp c_12) (by decide)) (by decide)) rfl ?_
                      refine aw_iconst (v := 1) dX4_reckon_166 (by decide) ?_
                      refine aw_isub dX4_reckon_167 ?_
                      refine aw_mmax dX4_reckon_168 tb_680 tb_385 tb_13 tb_386 ⟨Nat.le_of_ble_eq_true rfl, Nat.le_of_ble_eq_true rfl, Nat.le_of_ble_eq_true rfl, Nat.le_of_ble_eq_true rfl⟩ ?_
                      refine aw_topi (fun y171 ey171 => ?_)
                      refine aw_istore_n (ls' := [some (.ref (b + x)), some (.int n0), some (.int y171), some (.int (g_19 (Int32.toNatClampNeg v11_2))), some (.int r_108), none]) dX4_reckon_171 (Nat.le_of_ble_eq_true rfl) rfl ?_
                      refine aw_goto (tgt := 218) dX4_reckon_172 (by decide) ?_
                      refine aw_iinc (v := (y171 + 1)) (ls' := [some (.ref (b + x)), some (.int n0), some (.int (y171 + 1)), some (.int (g_19 (Int32.toNatClampNeg v11_2))), some (.int r_108), none]) dX4_reckon_218 rfl rfl (Nat.le_of_ble_eq_true rfl) rfl ?_
                      refine aw_goto (tgt := 11) dX4_reckon_221 (by decide) ?_
                      have k_125 := rk_step (k := y171) i11_1 c_12 (by rw [ey171]; exact (rk_max c_12 (rk_p p_124 (vi_in i11_1 (vi_lt (n := 256) (Int32.not_le.mp c_12) (by decide)) (by decide)))).1) (by rw [ey171]; exact (rk_max c_12 (rk_p p_124 (vi_in i11_1 (vi_lt (n := 256) (Int32.not_le.mp c_12) (by decide)) (by decide)))).2)
                      refine aw_le ?_ (mih_11_3 _ (by rw [hm11]; exact k_125.2) (y171 + 1) V_119 rfl (j_118) (k_125.1))
                      exact ⟨rfl, ⟨rfl, ⟨rfl, trivial⟩⟩⟩
              · skip
                refine aw_aload_n dX4_reckon_92 rfl ?_
                refine aw_aload_n dX4_reckon_93 rfl ?_
                refine aw_callVi (J' := jX4_pop) (As := []) (st := [.ref (b + x)]) dX4_reckon_94 tb_689 ok_X4_pop ⟨_, e_4⟩ (by omega) rfl rfl (g_X4_pop l D b N V11 hN i11_0.1 x hx) rfl (Nat.le_of_ble_eq_true rfl) ⟨Nat.le_of_ble_eq_true rfl, Nat.le_of_ble_eq_true rfl, Nat.le_of_ble_eq_true rfl, Nat.le_of_ble_eq_true rfl⟩ (fun r_129 N_130 V_128 q_131 => ?_)
                obtain ⟨rfl, q_126⟩ := q_131
                have j_127 := JW.trans i11_0 (JW.weak q_126 (Sub.cons LM0 (by omega) (by omega) (by decide) (Or.inr ⟨by decide, by decide⟩) Sub.nil))
                refine aw_if_ne (tgt := 104) dX4_reckon_97 (by decide) (fun c_132 => ?_) (fun c_132 => ?_)
                · skip
                  refine aw_iconst (v := 0) dX4_reckon_104 (by decide) ?_
                  obtain ⟨s8_136, r8_136, h8_136, e_136, hs_136, hr_136⟩ := JW.get j_127 (ctl_0 hx)
                  refine aw_callVv (J' := jX4_push) (As := [.int 0]) (st := []) dX4_reckon_105 tb_681 ok_X4_push ⟨_, e_136⟩ (by omega) rfl rfl (g_X4_push l D b N V_128 hN j_127.1 x hx 0) rfl (Nat.le_of_ble_eq_true rfl) ⟨Nat.le_of_ble_eq_true rfl, Nat.le_of_ble_eq_true rfl, Nat.le_of_ble_eq_true rfl, Nat.le_of_ble_eq_true rfl⟩ (fun  N_137 V_135 q_138 => ?_)
                  obtain ⟨rfl, q_133⟩ := q_138
                  have j_134 := JW.trans j_127 (JW.weak q_133 (Sub.cons (LMs LM0) (by omega) (by omega) (by decide) (Or.inl rfl) (Sub.cons LM0 (by omega) (by omega) (by decide) (Or.inr ⟨by decide, by decide⟩) Sub.nil)))
                  refine aw_goto (tgt := 218) dX4_reckon_108 (by decide) ?_
                  refine aw_iinc (v := (v11_2 + 1)) (ls' := [some (.ref (b + x)), some (.int n0), some (.int (v11_2 + 1)), some (.int (g_19 (Int32.toNatClampNeg v11_2))), none, none]) dX4_reckon_218 rfl rfl (Nat.le_of_ble_eq_true rfl) rfl ?_
                  refine aw_goto (tgt := 11) dX4_reckon_221 (by decide) ?_
                  have k_139 := rk_step i11_1 c_12 (Int32.le_refl _) (rk_same c_12)
                  refine aw_le ?_ (mih_11_3 _ (by rw [hm11]; exact k_139.2) (v11_2 + 1) V_135 rfl (j_134) (k_139.1))
                  exact ⟨rfl, ⟨rfl, ⟨rfl, trivial⟩⟩⟩
                · skip
                  refine aw_iconst (v := 1) dX4_reckon_100 (by decide) ?_
                  refine aw_goto (tgt := 105) dX4_reckon_101 (by decide) ?_
                  obtain ⟨s8_143, r8_143, h8_143, e_143, hs_143, hr_143⟩ := JW.get j_127 (ctl_0 hx)
                  refine aw_callVv (J' := jX4_push) (As := [.int 1]) (st := []) dX4_reckon_105 tb_681 ok_X4_push ⟨_, e_143⟩ (by omega) rfl rfl (g_X4_push l D b N V_128 hN j_127.1 x hx 1) rfl (Nat.le_of_ble_eq_true rfl) ⟨Nat.le_of_ble_eq_true rfl, Nat.le_of_ble_eq_true rfl, Nat.le_of_ble_eq_true rfl, Nat.le_of_ble_eq_true rfl⟩ (fun  N_144 V_142 q_145 => ?_)
                  obtain ⟨rfl, q_140⟩ := q_145
                  have j_141 := JW.trans j_127 (JW.weak q_140 (Sub.cons (LMs LM0) (by omega) (by omega) (by decide) (Or.inl rfl) (Sub.cons LM0 (by omega) (by omega) (by decide) (Or.inr ⟨by decide, by decide⟩) Sub.nil)))
                  refine aw_goto (tgt := 218) dX4_reckon_108 (by decide) ?_
                  refine aw_iinc (v := (v11_2 + 1)) (ls' := [some (.ref (b + x)), some (.int n0), some (.int (v11_2 + 1)), some (.int (g_19 (Int32.toNatClampNeg v11_2))), none, none]) dX4_reckon_218 rfl rfl (Nat.le_of_ble_eq_true rfl) rfl ?_
                  refine aw_goto (tgt := 11) dX4_reckon_221 (by decide) ?_
                  have k_146 := rk_step i11_1 c_12 (Int32.le_refl _) (rk_same c_12)
                  refine aw_le ?_ (mih_11_3 _ (by rw [hm11]; exact k_146.2) (v11_2 + 1) V_142 rfl (j_141) (k_146.1))
                  exact ⟨rfl, ⟨rfl, ⟨rfl, trivial⟩⟩⟩
            · skip
              refine aw_aload_n dX4_reckon_69 rfl ?_
              refine aw_aload_n dX4_reckon_70 rfl ?_
              refine aw_aload_n dX4_reckon_71 rfl ?_
              refine aw_get dX4_reckon_72 fl_X4_15 e_4 (by omega) rfl ?_
              refine aw_iload_n dX4_reckon_75 rfl ?_
              obtain ⟨g_147, e_147, p_147⟩ := JW.get i11_0 (ctl_2 hx)
              refine aw_iald (v := (g_147 (Int32.toNatClampNeg v11_2))) dX4_reckon_76 e_147 (by omega) (vi_in i11_1 (vi_lt (n := 256) (Int32.not_le.mp c_12) (by decide)) (by decide)) rfl ?_
              refine aw_callVi (J' := jX4_meaningOf) (As := [.int (g_147 (Int32.toNatClampNeg v11_2))]) (st := [.ref (b + x)]) dX4_reckon_77 tb_685 ok_X4_meaningOf ⟨_, e_4⟩ (by omega) rfl rfl (g_X4_meaningOf l D b N V11 hN i11_0.1 x hx (g_147 (Int32.toNatClampNeg v11_2))) rfl (Nat.le_of_ble_eq_true rfl) ⟨Nat.le_of_ble_eq_true rfl, Nat.le_of_ble_eq_true rfl, Nat.le_of_ble_eq_true rfl, Nat.le_of_ble_eq_true rfl⟩ (fun r_149 N_150 V_151 q_152 => ?_)
              obtain ⟨rfl, rfl⟩ := q_152
              refine aw_callVv (J' := jX4_push) (As := [.int r_149]) (st := []) dX4_reckon_80 tb_681 ok_X4_push ⟨_, e_4⟩ (by omega) rfl rfl (g_X4_push l D b N V11 hN i11_0.1 x hx r_149) rfl (Nat.le_of_ble_eq_true rfl) ⟨Nat.le_of_ble_eq_true rfl, Nat.le_of_ble_eq_true rfl, Nat.le_of_ble_eq_true rfl, Nat.le_of_ble_eq_true rfl⟩ (fun  N_156 V_155 q_157 => ?_)
              obtain ⟨rfl, q_153⟩ := q_157
              have j_154 := JW.trans i11_0 (JW.weak q_153 (Sub.cons (LMs LM0) (by omega) (by omega) (by decide) (Or.inl rfl) (Sub.cons LM0 (by omega) (by omega) (by decide) (Or.inr ⟨by decide, by decide⟩) Sub.nil)))
              refine aw_goto (tgt := 218) dX4_reckon_83 (by decide) ?_
              refine aw_iinc (v := (v11_2 + 1)) (ls' := [some (.ref (b + x)), some (.int n0), some (.int (v11_2 + 1)), some (.int (g_19 (Int32.toNatClampNeg v11_2))), none, none]) dX4_reckon_218 rfl rfl (Nat.le_of_ble_eq_true rfl) rfl ?_
              refine aw_goto (tgt := 11) dX4_reckon_221 (by decide) ?_
              have k_158 := rk_step i11_1 c_12 (Int32.le_refl _) (rk_same c_12)
              refine aw_le ?_ (mih_11_3 _ (by rw [hm11]; exact k_158.2) (v11_2 + 1) V_155 rfl (j_154) (k_158.1))
              exact ⟨rfl, ⟨rfl, ⟨rfl, trivial⟩⟩⟩
          · skip
            refine aw_aload_n dX4_reckon_50 rfl ?_
            refine aw_aload_n dX4_reckon_51 rfl ?_
            refine aw_get dX4_reckon_52 fl_X4_15 e_4 (by omega) rfl ?_
            refine aw_iload_n dX4_reckon_55 rfl ?_
            obtain ⟨g_159, e_159, p_159⟩ := JW.get i11_0 (ctl_2 hx)
            refine aw_iald (v := (g_159 (Int32.toNatClampNeg v11_2))) dX4_reckon_56 e_159 (by omega) (vi_in i11_1 (vi_lt (n := 256) (Int32.not_le.mp c_12) (by decide)) (by decide)) rfl ?_
            refine aw_callVv (J' := jX4_push) (As := [.int (g_159 (Int32.toNatClampNeg v11_2))]) (st := []) dX4_reckon_57 tb_681 ok_X4_push ⟨_, e_4⟩ (by omega) rfl rfl (g_X4_push l D b N V11 hN i11_0.1 x hx (g_159 (Int32.toNatClampNeg v11_2))) rfl (Nat.le_of_ble_eq_true rfl) ⟨Nat.le_of_ble_eq_true rfl, Nat.le_of_ble_eq_true rfl, Nat.le_of_ble_eq_true rfl, Nat.le_of_ble_eq_true rfl⟩ (fun  N_163 V_162 q_164 => ?_)
            obtain ⟨rfl, q_160⟩ := q_164
            have j_161 := JW.trans i11_0 (JW.weak q_160 (Sub.cons (LMs LM0) (by omega) (by omega) (by decide) (Or.inl rfl) (Sub.cons LM0 (by omega) (by omega) (by decide) (Or.inr ⟨by decide, by decide⟩) Sub.nil)))
            refine aw_goto (tgt := 218) dX4_reckon_60 (by decide) ?_
            refine aw_iinc (v := (v11_2 + 1)) (ls' := [some (.ref (b + x)), some (.int n0), some (.int (v11_2 + 1)), some (.int (g_19 (Int32.toNatClampNeg v11_2))), none, none]) dX4_reckon_218 rfl rfl (Nat.le_of_ble_eq_true rfl) rfl ?_
            refine aw_goto (tgt := 11) dX4_reckon_221 (by decide) ?_
            have k_165 := rk_step i11_1 c_12 (Int32.le_refl _) (rk_same c_12)
            refine aw_le ?_ (mih_11_3 _ (by rw [hm11]; exact k_165.2) (v11_2 + 1) V_162 rfl (j_161) (k_165.1))
            exact ⟨rfl, ⟨rfl, ⟨rfl, trivial⟩⟩⟩
  refine aw_le ?_ (ml_11_3 _ (if 0 < n0 then n0 else 0) V_2 rfl (j_2) (rk_max0 _))
  exact ⟨rfl, ⟨rfl, ⟨rfl, trivial⟩⟩⟩

set_option maxHeartbeats 4000000 in
set_option maxRecDepth 100000 in
theorem g_X4_anyHolds (l : Launch) (D : va_G) (b : Nat) (N : Nat) (V : Wd) (hN : 100 ≤ N) (hW : CW D b V) (x : Nat) (hx : x = 57 ∨ x = 65) (n0 : Int32)  : MI l D b 2 jX4_anyHolds [.ref (b + x), .int n0] N V 0 0 (fun r N9 V9 => (r = 0 ∨ r = 1) ∧ N = N9 ∧ JW D b N [(x, x, 9, 9), (x + 7, x + 7, 0, 1000000)] V V9) := by
  have hJ0 : JW D b N [(x, x, 9, 9), (x + 7, x + 7, 0, 1000000)] V V := JW.rf hW
  refine mw_of (by decide) (by simp [Value.category]) (Nat.le_of_ble_eq_true rfl) ?_
  show AW l D b jX4_anyHolds (fx_rm 2 0 0) none (fx_MQ D b 0 0 (fx_qi (fun r N9 V9 => (r = 0 ∨ r = 1) ∧ N = N9 ∧ JW D b N [(x, x, 9, 9), (x + 7, x + 7, 0, 1000000)] V V9))) 0 [some (.ref (b + x)), some (.int n0), none] [] N V 0 0
  refine aw_iconst (v := 0) dX4_anyHolds_0 (by decide) ?_
  refine aw_istore_n (ls' := [some (.ref (b + x)), some (.int n0), some (.int 0)]) dX4_anyHolds_1 (Nat.le_of_ble_eq_true rfl) rfl ?_
  have loop_2_0 : ∀ (g_2 : Nat), ∀ (j2 : Nat)  (V2 : Wd), j2 + g_2 = 16 → (JW D b N [(x, x, 9, 9), (x + 7, x + 7, 0, 1000000)] V V2) → AW l D b jX4_anyHolds (fx_rm 2 0 0) none (fx_MQ D b 0 0 (fx_qi (fun r N9 V9 => (r = 0 ∨ r = 1) ∧ N = N9 ∧ JW D b N [(x, x, 9, 9), (x + 7, x + 7, 0, 1000000)] V V9))) 2 [some (.ref (b + x)), some (.int n0), some (.int (nI j2))] [] N V2 0 0 := by
    intro g_2
    induction g_2 with
    | zero =>
      intro j2  V2 hj2 i2_0
      obtain rfl : j2 = 16 := by omega
      refine aw_iload_n dX4_anyHolds_2 rfl ?_
      refine aw_aload_n dX4_anyHolds_3 rfl ?_
      obtain ⟨s8_3, r8_3, h8_3, e_3, hs_3, hr_3⟩ := JW.get i2_0 (ctl_0 hx)
      refine aw_get dX4_anyHolds_4 fl_X4_31 e_3 (by omega) rfl ?_
      refine aw_icmp_ge (tgt := 47) dX4_anyHolds_7 (by decide) (fun c_4 => ?_) (fun c_4 => ?_)
      · skip
        have nc_4 : r8_3 ≤ 16 := (nI_leI (a := r8_3) (b := 16) (by omega) (by omega)).mp c_4
        refine aw_iconst (v := 0) dX4_anyHolds_47 (by decide) ?_
        refine aw_zreti dX4_anyHolds_48 rfl (by first | exact Or.inl rfl | exact Or.inr rfl | assumption) (Nat.le_of_ble_eq_true rfl) (Nat.le_of_ble_eq_true rfl) ?_
        exact ⟨(by first | exact Or.inl rfl | exact Or.inr rfl | assumption), rfl, i2_0⟩
      · skip
        have nc_4 : ¬ (r8_3 ≤ 16) := fun z => c_4 ((nI_leI (a := r8_3) (b := 16) (by omega) (by omega)).mpr z)
        refine aw_iload_n dX4_anyHolds_10 rfl ?_
        refine aw_bipush (v := 16) dX4_anyHolds_11 (by decide) ?_
        refine aw_icmp_ge (tgt := 47) dX4_anyHolds_13 (by decide) (fun c_5 => ?_) (fun c_5 => ?_)
        rotate_left
        · exact absurd (nI_le (a := 16) (b := 16) (Nat.le_refl _) (by omega)) c_5
        refine aw_iconst (v := 0) dX4_anyHolds_47 (by decide) ?_
        refine aw_zreti dX4_anyHolds_48 rfl (by first | exact Or.inl rfl | exact Or.inr rfl | assumption) (Nat.le_of_ble_eq_true rfl) (Nat.le_of_ble_eq_true rfl) ?_
        exact ⟨(by first | exact Or.inl rfl | exact Or.inr rfl | assumption), rfl, i2_0⟩
    | succ g_2 ih_2_1 =>
      intro j2  V2 hj2 i2_0
      have hlj2 : j2 < 16 := by omega
      refine aw_iload_n dX4_anyHolds_2 rfl ?_
      refine aw_aload_n dX4_anyHolds_3 rfl ?_
      obtain ⟨s8_6, r8_6, h8_6, e_6, hs_6, hr_6⟩ := JW.get i2_0 (ctl_0 hx)
      refine aw_get dX4_anyHolds_4 fl_X4_31 e_6 (by omega) rfl ?_
      refine aw_icmp_ge (tgt := 47) dX4_anyHolds_7 (by decide) (fun c_7 => ?_) (fun c_7 => ?_)
      · skip
        have nc_7 : r8_6 ≤ j2 := (nI_leI (a := r8_6) (b := j2) (by omega) (by omega)).mp c_7
        refine aw_iconst (v := 0) dX4_anyHolds_47 (by decide) ?_
        refine aw_zreti dX4_anyHolds_48 rfl (by first | exact Or.inl rfl | exact Or.inr rfl | assumption) (Nat.le_of_ble_eq_true rfl) (Nat.le_of_ble_eq_true rfl) ?_
        exact ⟨(by first | exact Or.inl rfl | exact Or.inr rfl | assumption), rfl, i2_0⟩
      · skip
        have nc_7 : ¬ (r8_6 ≤ j2) := fun z => c_7 ((nI_leI (a := r8_6) (b := j2) (by omega) (by omega)).mpr z)
        refine aw_iload_n dX4_anyHolds_10 rfl ?_
        refine aw_bipush (v := 16) dX4_anyHolds_11 (by decide) ?_
        refine aw_icmp_ge (tgt := 47) dX4_anyHolds_13 (by decide) (fun c_8 => ?_) (fun c_8 => ?_)
        · exact absurd c_8 (nI_ge (a := j2) (b := 16) (by omega) (by omega))
        refine aw_aload_n dX4_anyHolds_16 rfl ?_
        refine aw_get dX4_anyHolds_17 fl_X4_22 e_6 (by omega) rfl ?_
        refine aw_iload_n dX4_anyHolds_20 rfl ?_
        obtain ⟨g_9, e_9⟩ := JW.get i2_0 (ctl_3 hx)
        refine aw_iald (v := (g_9 j2)) dX4_anyHolds_21 e_9 (by omega) (vp_in_nI (n := j2) (by omega) (by omega)) (congrArg g_9 (nI_clamp (n := j2) (by omega))) ?_
        refine aw_iload_n dX4_anyHolds_22 rfl ?_
        refine aw_icmp_ne (tgt := 41) dX4_anyHolds_23 (by decide) (fun c_10 => ?_) (fun c_10 => ?_)
        · skip
          refine aw_iinc (v := (nI (j2 + 1))) (ls' := [some (.ref (b + x)), some (.int n0), some (.int (nI (j2 + 1)))]) dX4_anyHolds_41 rfl (fx_up_1 _) (Nat.le_of_ble_eq_true rfl) rfl ?_
          refine aw_goto (tgt := 2) dX4_anyHolds_44 (by decide) ?_
          refine aw_le ?_ (ih_2_1 (j2 + 1)  V2 (by omega) (i2_0))
          exact ⟨rfl, ⟨rfl, ⟨rfl, trivial⟩⟩⟩
        · skip
          refine aw_aload_n dX4_anyHolds_26 rfl ?_
          refine aw_aload_n dX4_anyHolds_27 rfl ?_
          refine aw_get dX4_anyHolds_28 fl_X4_28 e_6 (by omega) rfl ?_
          refine aw_iload_n dX4_anyHolds_31 rfl ?_
          obtain ⟨g_11, e_11⟩ := JW.get i2_0 (ctl_5 hx)
          refine aw_iald (v := (g_11 j2)) dX4_anyHolds_32 e_11 (by omega) (vp_in_nI (n := j2) (by omega) (by omega)) (congrArg g_11 (nI_clamp (n := j2) (by omega))) ?_
          refine aw_callVi (J' := jX4_reckon) (As := [.int (g_11 j2)]) (st := []) dX4_anyHolds_33 tb_676 ok_X4_reckon ⟨_, e_6⟩ (by omega) rfl rfl (g_X4_reckon l D b N V2 hN i2_0.1 x hx (g_11 j2)) rfl (Nat.le_of_ble_eq_true rfl) ⟨Nat.le_of_ble_eq_true rfl, Nat.le_of_ble_eq_true rfl, Nat.le_of_ble_eq_true rfl, Nat.le_of_ble_eq_true rfl⟩ (fun r_15 N_16 V_14 q_17 => ?_)
          obtain ⟨rfl, q_12⟩ := q_17
          have j_13 := JW.trans i2_0 (JW.weak q_12 (Sub.cons LM0 (by omega) (by omega) (by decide) (Or.inr ⟨by decide, by decide⟩) (Sub.cons (LMs LM0) (by omega) (by omega) (by decide) (Or.inl rfl) Sub.nil)))
          refine aw_if_eq (tgt := 41) dX4_anyHolds_36 (by decide) (fun c_18 => ?_) (fun c_18 => ?_)
          · skip
            refine aw_iinc (v := (nI (j2 + 1))) (ls' := [some (.ref (b + x)), some (.int n0), some (.int (nI (j2 + 1)))]) dX4_anyHolds_41 rfl (fx_up_1 _) (Nat.le_of_ble_eq_true rfl) rfl ?_
            refine aw_goto (tgt := 2) dX4_anyHolds_44 (by decide) ?_
            refine aw_le ?_ (ih_2_1 (j2 + 1)  V_14 (by omega) (j_13))
            exact ⟨rfl, ⟨rfl, ⟨rfl, trivial⟩⟩⟩
          · skip
            refine aw_iconst (v := 1) dX4_anyHolds_39 (by decide) ?_
            refine aw_zreti dX4_anyHolds_40 rfl (by first | exact Or.inl rfl | exact Or.inr rfl | assumption) (Nat.le_of_ble_eq_true rfl) (Nat.le_of_ble_eq_true rfl) ?_
            exact ⟨(by first | exact Or.inl rfl | exact Or.inr rfl | assumption), rfl, j_13⟩
  refine aw_le ?_ (loop_2_0 16 0  V (by omega) (hJ0))
  exact ⟨rfl, ⟨rfl, ⟨rfl, trivial⟩⟩⟩

set_option maxHeartbeats 4000000 in
set_option maxRecDepth 100000 in
theorem g_X4_worth (l : Launch) (D : va_G) (b : Nat) (N : Nat) (V : Wd) (hN : 100 ≤ N) (hW : CW D b V) (x : Nat) (hx : x = 57 ∨ x = 65) (n0 : Int32) (n1 : Int32)  : MI l D b 2 jX4_worth [.ref (b + x), .int n0, .int n1] N V 0 0 (fun r N9 V9 => N = N9 ∧ JW D b N [(x, x, 9, 9), (x + 7, x + 7, 0, 1000000)] V V9) := by
  have hJ0 : JW D b N [(x, x, 9, 9), (x + 7, x + 7, 0, 1000000)] V V := JW.rf hW
  refine mw_of (by decide) (by simp [Value.category]) (Nat.le_of_ble_eq_true rfl) ?_
  show AW l D b jX4_worth (fx_rm 2 0 0) none (fx_MQ D b 0 0 (fx_qi (fun r N9 V9 => N = N9 ∧ JW D b N [(x, x, 9, 9), (x + 7, x + 7, 0, 1000000)] V V9))) 0 [some (.ref (b + x)), some (.int n0), some (.int n1), none] [] N V 0 0
  refine aw_iconst (v := 0) dX4_worth_0 (by decide) ?_
  refine aw_istore_n (ls' := [some (.ref (b + x)), some (.int n0), some (.int n1), some (.int 0)]) dX4_worth_1 (Nat.le_of_ble_eq_true rfl) rfl ?_
  have loop_2_0 : ∀ (g_2 : Nat), ∀ (j2 : Nat)  (V2 : Wd), j2 + g_2 = 16 → (JW D b N [(x, x, 9, 9), (x + 7, x + 7, 0, 1000000)] V V2) → AW l D b jX4_worth (fx_rm 2 0 0) none (fx_MQ D b 0 0 (fx_qi (fun r N9 V9 => N = N9 ∧ JW D b N [(x, x, 9, 9), (x + 7, x + 7, 0, 1000000)] V V9))) 2 [some (.ref (b + x)), some (.int n0), some (.int n1), some (.int (nI j2))] [] N V2 0 0 := by
    intro g_2
    induction g_2 with
    | zero =>
      intro j2  V2 hj2 i2_0
      obtain rfl : j2 = 16 := by omega
      refine aw_iload_n dX4_worth_2 rfl ?_
      refine aw_aload_n dX4_worth_3 rfl ?_
      obtain ⟨s8_3, r8_3, h8_3, e_3, hs_3, hr_3⟩ := JW.get i2_0 (ctl_0 hx)
      refine aw_get dX4_worth_4 fl_X4_31 e_3 (by omega) rfl ?_
      refine aw_icmp_ge (tgt := 61) dX4_worth_7 (by decide) (fun c_4 => ?_) (fun c_4 => ?_)
      · skip
        have nc_4 : r8_3 ≤ 16 := (nI_leI (a := r8_3) (b := 16) (by omega) (by omega)).mp c_4
        refine aw_iconst (v := 0) dX4_worth_61 (by decide) ?_
        refine aw_ireti dX4_worth_62 rfl (Nat.le_of_ble_eq_true rfl) (Nat.le_of_ble_eq_true rfl) ?_
        exact ⟨rfl, i2_0⟩
      · skip
        have nc_4 : ¬ (r8_3 ≤ 16) := fun z => c_4 ((nI_leI (a := r8_3) (b := 16) (by omega) (by omega)).mpr z)
        refine aw_iload_n dX4_worth_10 rfl ?_
        refine aw_bipush (v := 16) dX4_worth_11 (by decide) ?_
        refine aw_icmp_ge (tgt := 61) dX4_worth_13 (by decide) (fun c_5 => ?_) (fun c_5 => ?_)
        rotate_left
        · exact absurd (nI_le (a := 16) (b := 16) (Nat.le_refl _) (by omega)) c_5
        refine aw_iconst (v := 0) dX4_worth_61 (by decide) ?_
        refine aw_ireti dX4_worth_62 rfl (Nat.le_of_ble_eq_true rfl) (Nat.le_of_ble_eq_true rfl) ?_
        exact ⟨rfl, i2_0⟩
    | succ g_2 ih_2_1 =>
      intro j2  V2 hj2 i2_0
      have hlj2 : j2 < 16 := by omega
      refine aw_iload_n dX4_worth_2 rfl ?_
      refine aw_aload_n dX4_worth_3 rfl ?_
      obtain ⟨s8_6, r8_6, h8_6, e_6, hs_6, hr_6⟩ := JW.get i2_0 (ctl_0 hx)
      refine aw_get dX4_worth_4 fl_X4_31 e_6 (by omega) rfl ?_
      refine aw_icmp_ge (tgt := 61) dX4_worth_7 (by decide) (fun c_7 => ?_) (fun c_7 => ?_)
      · skip
        have nc_7 : r8_6 ≤ j2 := (nI_leI (a := r8_6) (b := j2) (by omega) (by omega)).mp c_7
        refine aw_iconst (v := 0) dX4_worth_61 (by decide) ?_
        refine aw_ireti dX4_worth_62 rfl (Nat.le_of_ble_eq_true rfl) (Nat.le_of_ble_eq_true rfl) ?_
        exact ⟨rfl, i2_0⟩
      · skip
        have nc_7 : ¬ (r8_6 ≤ j2) := fun z => c_7 ((nI_leI (a := r8_6) (b := j2) (by omega) (by omega)).mpr z)
        refine aw_iload_n dX4_worth_10 rfl ?_
        refine aw_bipush (v := 16) dX4_worth_11 (by decide) ?_
        refine aw_icmp_ge (tgt := 61) dX4_worth_13 (by decide) (fun c_8 => ?_) (fun c_8 => ?_)
        · exact absurd c_8 (nI_ge (a := j2) (b := 16) (by omega) (by omega))
        refine aw_aload_n dX4_worth_16 rfl ?_
        refine aw_get dX4_worth_17 fl_X4_22 e_6 (by omega) rfl ?_
        refine aw_iload_n dX4_worth_20 rfl ?_
        obtain ⟨g_9, e_9⟩ := JW.get i2_0 (ctl_3 hx)
        refine aw_iald (v := (g_9 j2)) dX4_worth_21 e_9 (by omega) (vp_in_nI (n := j2) (by omega) (by omega)) (congrArg g_9 (nI_clamp (n := j2) (by omega))) ?_
        refine aw_iload_n dX4_worth_22 rfl ?_
        refine aw_icmp_ne (tgt := 55) dX4_worth_23 (by decide) (fun c_10 => ?_) (fun c_10 => ?_)
        · skip
          refine aw_iinc (v := (nI (j2 + 1))) (ls' := [some (.ref (b + x)), some (.int n0), some (.int n1), some (.int (nI (j2 + 1)))]) dX4_worth_55 rfl (fx_up_1 _) (Nat.le_of_ble_eq_true rfl) rfl ?_
          refine aw_goto (tgt := 2) dX4_worth_58 (by decide) ?_
          refine aw_le ?_ (ih_2_1 (j2 + 1)  V2 (by omega) (i2_0))
          exact ⟨rfl, ⟨rfl, ⟨rfl, ⟨rfl, trivial⟩⟩⟩⟩
        · skip
          refine aw_aload_n dX4_worth_26 rfl ?_
          refine aw_aload_n dX4_worth_27 rfl ?_
          refine aw_get dX4_worth_28 fl_X4_28 e_6 (by omega) rfl ?_
          refine aw_iload_n dX4_worth_31 rfl ?_
          obtain ⟨g_11, e_11⟩ := JW.get i2_0 (ctl_5 hx)
          refine aw_iald (v := (g_11 j2)) dX4_worth_32 e_11 (by omega) (vp_in_nI (n := j2) (by omega) (by omega)) (congrArg g_11 (nI_clamp (n := j2) (by omega))) ?_
          refine aw_callVi (J' := jX4_reckon) (As := [.int (g_11 j2)]) (st := []) dX4_worth_33 tb_676 ok_X4_reckon ⟨_, e_6⟩ (by omega) rfl rfl (g_X4_reckon l D b N V2 hN i2_0.1 x hx (g_11 j2)) rfl (Nat.le_of_ble_eq_true rfl) ⟨Nat.le_of_ble_eq_true rfl, Nat.le_of_ble_eq_true rfl, Nat.le_of_ble_eq_true rfl, Nat.le_of_ble_eq_true rfl⟩ (fun r_15 N_16 V_14 q_17 => ?_)
          obtain ⟨rfl, q_12⟩ := q_17
          have j_13 := JW.trans i2_0 (JW.weak q_12 (Sub.cons LM0 (by omega) (by omega) (by decide) (Or.inr ⟨by decide, by decide⟩) (Sub.cons (LMs LM0) (by omega) (by omega) (by decide) (Or.inl rfl) Sub.nil)))
          refine aw_if_eq (tgt := 55) dX4_worth_36 (by decide) (fun c_18 => ?_) (fun c_18 => ?_)
          · skip
            refine aw_iinc (v := (nI (j2 + 1))) (ls' := [some (.ref (b + x)), some (.int n0), some (.int n1), some (.int (nI (j2 + 1)))]) dX4_worth_55 rfl (fx_up_1 _) (Nat.le_of_ble_eq_true rfl) rfl ?_
            refine aw_goto (tgt := 2) dX4_worth_58 (by decide) ?_
            refine aw_le ?_ (ih_2_1 (j2 + 1)  V_14 (by omega) (j_13))
            exact ⟨rfl, ⟨rfl, ⟨rfl, ⟨rfl, trivial⟩⟩⟩⟩
          · skip
            refine aw_aload_n dX4_worth_39 rfl ?_
            refine aw_aload_n dX4_worth_40 rfl ?_
            obtain ⟨s8_19, r8_19, h8_19, e_19, hs_19, hr_19⟩ := JW.get j_13 (ctl_0 hx)
            refine aw_get dX4_worth_41 fl_X4_25 e_19 (by omega) rfl ?_
            refine aw_iload_n dX4_worth_44 rfl ?_
            obtain ⟨g_20, e_20⟩ := JW.get j_13 (ctl_4 hx)
            refine aw_iald (v := (g_20 j2)) dX4_worth_45 e_20 (by omega) (vp_in_nI (n := j2) (by omega) (by omega)) (congrArg g_20 (nI_clamp (n := j2) (by omega))) ?_
            refine aw_callVi (J' := jX4_reckon) (As := [.int (g_20 j2)]) (st := []) dX4_worth_46 tb_676 ok_X4_reckon ⟨_, e_19⟩ (by omega) rfl rfl (g_X4_reckon l D b N V_14 hN j_13.1 x hx (g_20 j2)) rfl (Nat.le_of_ble_eq_true rfl) ⟨Nat.le_of_ble_eq_true rfl, Nat.le_of_ble_eq_true rfl, Nat.le_of_ble_eq_true rfl, Nat.le_of_ble_eq_true rfl⟩ (fun r_24 N_25 V_23 q_26 => ?_)
            obtain ⟨rfl, q_21⟩ := q_26
            have j_22 := JW.trans j_13 (JW.weak q_21 (Sub.cons LM0 (by omega) (by omega) (by decide) (Or.inr ⟨by decide, by decide⟩) (Sub.cons (LMs LM0) (by omega) (by omega) (by decide) (Or.inl rfl) Sub.nil)))
            refine aw_iconst (v := 0) dX4_worth_49 (by decide) ?_
            refine aw_iload_n dX4_worth_50 rfl ?_
            refine aw_callSNi (J' := jX11_bounded) (As := [.int r_24, .int 0, .int n1]) (st := []) dX4_worth_51 tb_708 ok_X11_bounded rfl (g_X11_bounded l D b N V_23 hN j_22.1 r_24 0 n1) rfl (Nat.le_of_ble_eq_true rfl) ⟨Nat.le_of_ble_eq_true rfl, Nat.le_of_ble_eq_true rfl, Nat.le_of_ble_eq_true rfl, Nat.le_of_ble_eq_true rfl⟩ (fun r_28 N_29 V_30 q_31 => ?_)
            obtain ⟨rfl, rfl⟩ := q_31
            refine aw_ireti dX4_worth_54 rfl (Nat.le_of_ble_eq_true rfl) (Nat.le_of_ble_eq_true rfl) ?_
            exact ⟨rfl, j_22⟩
  refine aw_le ?_ (loop_2_0 16 0  V (by omega) (hJ0))
  exact ⟨rfl, ⟨rfl, ⟨rfl, ⟨rfl, trivial⟩⟩⟩⟩
