
theorem fx_gt0 {x lo : Int32} (h : 0 < lo) (h2 : ¬ x < lo) : 0 < x := Int32.lt_of_lt_of_le h (Int32.not_lt.mp h2)
set_option maxHeartbeats 4000000 in
set_option maxRecDepth 100000 in
theorem c_append (l : Launch) (D : va_G) (b : Nat) (N : Nat) (V : Wd) (hN : 100 ≤ N) (q : Nat) (hq : q + 4 ≤ 260) (e1 e2 e3 : Int32) (ht : V 1 = cO 9 [.ref (b + 2), .int (nI q), .int e1, .int e2, .int e3]) (g : Nat → Int32) (hg : V 2 = cI D 260 g) (x : Int32) : MV l D b 0 jX10_append [.ref (b + 1), .int x] N V 0 0 (fun N9 V9 => N = N9 ∧ V9 1 = cO 9 [.ref (b + 2), .int (nI (q + 4)), .int e1, .int e2, .int e3] ∧ (∃ g', V9 2 = cI D 260 g') ∧ ∀ i, (i < 1 ∨ 2 < i) → V9 i = V i) := by
  refine mw_of (by decide) (by simp [Value.category]) (Nat.le_of_ble_eq_true rfl) ?_
  show AW l D b jX10_append (fx_rm 0 0 0) none (fx_MQ D b 0 0 (fx_qv (fun N9 V9 => N = N9 ∧ V9 1 = cO 9 [.ref (b + 2), .int (nI (q + 4)), .int e1, .int e2, .int e3] ∧ (∃ g', V9 2 = cI D 260 g') ∧ ∀ i, (i < 1 ∨ 2 < i) → V9 i = V i))) 0 [some (.ref (b + 1)), some (.int x), none] [] N V 0 0
  refine aw_bipush (v := 24) dX10_append_0 (by decide) ?_
  refine aw_istore_n (ls' := [some (.ref (b + 1)), some (.int x), some (.int 24)]) dX10_append_2 (Nat.le_of_ble_eq_true rfl) rfl ?_
  refine aw_iload_n dX10_append_3 rfl ?_
  refine aw_if_lt (tgt := 58) dX10_append_4 (by decide) (fun c_1 => ?_) (fun c_1 => ?_)
  · exact absurd c_1 (by decide)
  refine aw_aload_n dX10_append_7 rfl ?_
  refine aw_get dX10_append_8 fl_X10_15 ht (by omega) rfl ?_
  refine aw_if_lt (tgt := 52) dX10_append_11 (by decide) (fun c_2 => ?_) (fun c_2 => ?_)
  · have nc_2 : q < 0 := (nI_ltI (a := q) (b := 0) (by omega) (by omega)).mp c_2
    omega
  have nc_2 : ¬ (q < 0) := fun z => c_2 ((nI_ltI (a := q) (b := 0) (by omega) (by omega)).mpr z)
  refine aw_aload_n dX10_append_14 rfl ?_
  refine aw_get dX10_append_15 fl_X10_15 ht (by omega) rfl ?_
  refine aw_aload_n dX10_append_18 rfl ?_
  refine aw_get dX10_append_19 fl_X10_9 ht (by omega) rfl ?_
  refine aw_alen (t0 := 0) (v := 260) dX10_append_22 hg (by omega) rfl rfl ?_
  refine aw_icmp_ge (tgt := 52) dX10_append_23 (by decide) (fun c_3 => ?_) (fun c_3 => ?_)
  · have nc_3 : 260 ≤ q := (nI_leI (a := 260) (b := q) (by omega) (by omega)).mp c_3
    omega
  have nc_3 : ¬ (260 ≤ q) := fun z => c_3 ((nI_leI (a := 260) (b := q) (by omega) (by omega)).mpr z)
  refine aw_aload_n dX10_append_26 rfl ?_
  refine aw_get dX10_append_27 fl_X10_9 ht (by omega) rfl ?_
  refine aw_aload_n dX10_append_30 rfl ?_
  refine aw_get dX10_append_31 fl_X10_15 ht (by omega) rfl ?_
  refine aw_iload_n dX10_append_34 rfl ?_
  refine aw_iload_n dX10_append_35 rfl ?_
  refine aw_ishr dX10_append_36 ?_
  refine aw_sipush (v := 255) dX10_append_37 (by decide) ?_
  refine aw_iand dX10_append_40 ?_
  refine aw_iast dX10_append_41 hg (by omega) (vp_in_nI (n := q) (by omega) (by omega)) ?_
  refine aw_aload_n dX10_append_42 rfl ?_
  refine aw_dup dX10_append_43 rfl ?_
  refine aw_get dX10_append_44 fl_X10_15 ((va_up_ne _ _ (by omega)).trans ht) (by omega) rfl ?_
  refine aw_iconst (v := 1) dX10_append_47 (by decide) ?_
  refine aw_iadd dX10_append_48 ?_
  refine aw_eqi (y := (nI (q + 1))) (nI_1 _) ?_
  refine aw_put dX10_append_49 fp_X10_15 ((va_up_ne _ _ (by omega)).trans ht) (by omega) rfl rfl (Nat.le_of_ble_eq_true rfl) rfl ?_
  refine aw_iinc (v := 16) (ls' := [some (.ref (b + 1)), some (.int x), some (.int 16)]) dX10_append_52 rfl (by decide) (Nat.le_of_ble_eq_true rfl) rfl ?_
  refine aw_goto (tgt := 3) dX10_append_55 (by decide) ?_
  refine aw_iload_n dX10_append_3 rfl ?_
  refine aw_if_lt (tgt := 58) dX10_append_4 (by decide) (fun c_4 => ?_) (fun c_4 => ?_)
  · exact absurd c_4 (by decide)
  refine aw_aload_n dX10_append_7 rfl ?_
  refine aw_get dX10_append_8 fl_X10_15 (va_up_self _ _ _) (by omega) rfl ?_
  refine aw_if_lt (tgt := 52) dX10_append_11 (by decide) (fun c_5 => ?_) (fun c_5 => ?_)
  · have nc_5 : (q + 1) < 0 := (nI_ltI (a := (q + 1)) (b := 0) (by omega) (by omega)).mp c_5
    omega
  have nc_5 : ¬ ((q + 1) < 0) := fun z => c_5 ((nI_ltI (a := (q + 1)) (b := 0) (by omega) (by omega)).mpr z)
  refine aw_aload_n dX10_append_14 rfl ?_
  refine aw_get dX10_append_15 fl_X10_15 (va_up_self _ _ _) (by omega) rfl ?_
  refine aw_aload_n dX10_append_18 rfl ?_
  refine aw_get dX10_append_19 fl_X10_9 (va_up_self _ _ _) (by omega) rfl ?_
  refine aw_alen (t0 := 0) (v := 260) dX10_append_22 ((va_up_ne _ _ (by omega)).trans (va_up_self _ _ _)) (by omega) rfl rfl ?_
  refine aw_icmp_ge (tgt := 52) dX10_append_23 (by decide) (fun c_6 => ?_) (fun c_6 => ?_)
  · have nc_6 : 260 ≤ (q + 1) := (nI_leI (a := 260) (b := (q + 1)) (by omega) (by omega)).mp c_6
    omega
  have nc_6 : ¬ (260 ≤ (q + 1)) := fun z => c_6 ((nI_leI (a := 260) (b := (q + 1)) (by omega) (by omega)).mpr z)
  refine aw_aload_n dX10_append_26 rfl ?_
  refine aw_get dX10_append_27 fl_X10_9 (va_up_self _ _ _) (by omega) rfl ?_
  refine aw_aload_n dX10_append_30 rfl ?_
  refine aw_get dX10_append_31 fl_X10_15 (va_up_self _ _ _) (by omega) rfl ?_
  refine aw_iload_n dX10_append_34 rfl ?_
  refine aw_iload_n dX10_append_35 rfl ?_
  refine aw_ishr dX10_append_36 ?_
  refine aw_sipush (v := 255) dX10_append_37 (by decide) ?_
  refine aw_iand dX10_append_40 ?_
  refine aw_iast dX10_append_41 ((va_up_ne _ _ (by omega)).trans (va_up_self _ _ _)) (by omega) (vp_in_nI (n := (q + 1)) (by omega) (by omega)) ?_
  refine aw_aload_n dX10_append_42 rfl ?_
  refine aw_dup dX10_append_43 rfl ?_
  refine aw_get dX10_append_44 fl_X10_15 ((va_up_ne _ _ (by omega)).trans (va_up_self _ _ _)) (by omega) rfl ?_
  refine aw_iconst (v := 1) dX10_append_47 (by decide) ?_
  refine aw_iadd dX10_append_48 ?_
  refine aw_eqi (y := (nI ((q + 1) + 1))) (nI_1 _) ?_
  refine aw_put dX10_append_49 fp_X10_15 ((va_up_ne _ _ (by omega)).trans (va_up_self _ _ _)) (by omega) rfl rfl (Nat.le_of_ble_eq_true rfl) rfl ?_
  refine aw_iinc (v := 8) (ls' := [some (.ref (b + 1)), some (.int x), some (.int 8)]) dX10_append_52 rfl (by decide) (Nat.le_of_ble_eq_true rfl) rfl ?_
  refine aw_goto (tgt := 3) dX10_append_55 (by decide) ?_
  refine aw_iload_n dX10_append_3 rfl ?_
  refine aw_if_lt (tgt := 58) dX10_append_4 (by decide) (fun c_7 => ?_) (fun c_7 => ?_)
  · exact absurd c_7 (by decide)
  refine aw_aload_n dX10_append_7 rfl ?_
  refine aw_get dX10_append_8 fl_X10_15 (va_up_self _ _ _) (by omega) rfl ?_
  refine aw_if_lt (tgt := 52) dX10_append_11 (by decide) (fun c_8 => ?_) (fun c_8 => ?_)
  · have nc_8 : ((q + 1) + 1) < 0 := (nI_ltI (a := ((q + 1) + 1)) (b := 0) (by omega) (by omega)).mp c_8
    omega
  have nc_8 : ¬ (((q + 1) + 1) < 0) := fun z => c_8 ((nI_ltI (a := ((q + 1) + 1)) (b := 0) (by omega) (by omega)).mpr z)
  refine aw_aload_n dX10_append_14 rfl ?_
  refine aw_get dX10_append_15 fl_X10_15 (va_up_self _ _ _) (by omega) rfl ?_
  refine aw_aload_n dX10_append_18 rfl ?_
  refine aw_get dX10_append_19 fl_X10_9 (va_up_self _ _ _) (by omega) rfl ?_
  refine aw_alen (t0 := 0) (v := 260) dX10_append_22 ((va_up_ne _ _ (by omega)).trans (va_up_self _ _ _)) (by omega) rfl rfl ?_
  refine aw_icmp_ge (tgt := 52) dX10_append_23 (by decide) (fun c_9 => ?_) (fun c_9 => ?_)
  · have nc_9 : 260 ≤ ((q + 1) + 1) := (nI_leI (a := 260) (b := ((q + 1) + 1)) (by omega) (by omega)).mp c_9
    omega
  have nc_9 : ¬ (260 ≤ ((q + 1) + 1)) := fun z => c_9 ((nI_leI (a := 260) (b := ((q + 1) + 1)) (by omega) (by omega)).mpr z)
  refine aw_aload_n dX10_append_26 rfl ?_
  refine aw_get dX10_append_27 fl_X10_9 (va_up_self _ _ _) (by omega) rfl ?_
  refine aw_aload_n dX10_append_30 rfl ?_
  refine aw_get dX10_append_31 fl_X10_15 (va_up_self _ _ _) (by omega) rfl ?_
  refine aw_iload_n dX10_append_34 rfl ?_
  refine aw_iload_n dX10_append_35 rfl ?_
  refine aw_ishr dX10_append_36 ?_
  refine aw_sipush (v := 255) dX10_append_37 (by decide) ?_
  refine aw_iand dX10_append_40 ?_
  refine aw_iast dX10_append_41 ((va_up_ne _ _ (by omega)).trans (va_up_self _ _ _)) (by omega) (vp_in_nI (n := ((q + 1) + 1)) (by omega) (by omega)) ?_
  refine aw_aload_n dX10_append_42 rfl ?_
  refine aw_dup dX10_append_43 rfl ?_
  refine aw_get dX10_append_44 fl_X10_15 ((va_up_ne _ _ (by omega)).trans (va_up_self _ _ _)) (by omega) rfl ?_
  refine aw_iconst (v := 1) dX10_append_47 (by decide) ?_
  refine aw_iadd dX10_append_48 ?_
  refine aw_eqi (y := (nI (((q + 1) + 1) + 1))) (nI_1 _) ?_
  refine aw_put dX10_append_49 fp_X10_15 ((va_up_ne _ _ (by omega)).trans (va_up_self _ _ _)) (by omega) rfl rfl (Nat.le_of_ble_eq_true rfl) rfl ?_
  refine aw_iinc (v := 0) (ls' := [some (.ref (b + 1)), some (.int x), some (.int 0)]) dX10_append_52 rfl (by decide) (Nat.le_of_ble_eq_true rfl) rfl ?_
  refine aw_goto (tgt := 3) dX10_append_55 (by decide) ?_
  refine aw_iload_n dX10_append_3 rfl ?_
  refine aw_if_lt (tgt := 58) dX10_append_4 (by decide) (fun c_10 => ?_) (fun c_10 => ?_)
  · exact absurd c_10 (by decide)
  refine aw_aload_n dX10_append_7 rfl ?_
  refine aw_get dX10_append_8 fl_X10_15 (va_up_self _ _ _) (by omega) rfl ?_
  refine aw_if_lt (tgt := 52) dX10_append_11 (by decide) (fun c_11 => ?_) (fun c_11 => ?_)
  · have nc_11 : (((q + 1) + 1) + 1) < 0 := (nI_ltI (a := (((q + 1) + 1) + 1)) (b := 0) (by omega) (by omega)).mp c_11
    omega
  have nc_11 : ¬ ((((q + 1) + 1) + 1) < 0) := fun z => c_11 ((nI_ltI (a := (((q + 1) + 1) + 1)) (b := 0) (by omega) (by omega)).mpr z)
  refine aw_aload_n dX10_append_14 rfl ?_
  refine aw_get dX10_append_15 fl_X10_15 (va_up_self _ _ _) (by omega) rfl ?_
  refine aw_aload_n dX10_append_18 rfl ?_
  refine aw_get dX10_append_19 fl_X10_9 (va_up_self _ _ _) (by omega) rfl ?_
  refine aw_alen (t0 := 0) (v := 260) dX10_append_22 ((va_up_ne _ _ (by omega)).trans (va_up_self _ _ _)) (by omega) rfl rfl ?_
  refine aw_icmp_ge (tgt := 52) dX10_append_23 (by decide) (fun c_12 => ?_) (fun c_12 => ?_)
  · have nc_12 : 260 ≤ (((q + 1) + 1) + 1) := (nI_leI (a := 260) (b := (((q + 1) + 1) + 1)) (by omega) (by omega)).mp c_12
    omega
  have nc_12 : ¬ (260 ≤ (((q + 1) + 1) + 1)) := fun z => c_12 ((nI_leI (a := 260) (b := (((q + 1) + 1) + 1)) (by omega) (by omega)).mpr z)
  refine aw_aload_n dX10_append_26 rfl ?_
  refine aw_get dX10_append_27 fl_X10_9 (va_up_self _ _ _) (by omega) rfl ?_
  refine aw_aload_n dX10_append_30 rfl ?_
  refine aw_get dX10_append_31 fl_X10_15 (va_up_self _ _ _) (by omega) rfl ?_
  refine aw_iload_n dX10_append_34 rfl ?_
  refine aw_iload_n dX10_append_35 rfl ?_
  refine aw_ishr dX10_append_36 ?_
  refine aw_sipush (v := 255) dX10_append_37 (by decide) ?_
  refine aw_iand dX10_append_40 ?_
  refine aw_iast dX10_append_41 ((va_up_ne _ _ (by omega)).trans (va_up_self _ _ _)) (by omega) (vp_in_nI (n := (((q + 1) + 1) + 1)) (by omega) (by omega)) ?_
  refine aw_aload_n dX10_append_42 rfl ?_
  refine aw_dup dX10_append_43 rfl ?_
  refine aw_get dX10_append_44 fl_X10_15 ((va_up_ne _ _ (by omega)).trans (va_up_self _ _ _)) (by omega) rfl ?_
  refine aw_iconst (v := 1) dX10_append_47 (by decide) ?_
  refine aw_iadd dX10_append_48 ?_
  refine aw_eqi (y := (nI ((((q + 1) + 1) + 1) + 1))) (nI_1 _) ?_
  refine aw_put dX10_append_49 fp_X10_15 ((va_up_ne _ _ (by omega)).trans (va_up_self _ _ _)) (by omega) rfl rfl (Nat.le_of_ble_eq_true rfl) rfl ?_
  refine aw_iinc (v := (-8)) (ls' := [some (.ref (b + 1)), some (.int x), some (.int (-8))]) dX10_append_52 rfl (by decide) (Nat.le_of_ble_eq_true rfl) rfl ?_
  refine aw_goto (tgt := 3) dX10_append_55 (by decide) ?_
  refine aw_iload_n dX10_append_3 rfl ?_
  refine aw_if_lt (tgt := 58) dX10_append_4 (by decide) (fun c_13 => ?_) (fun c_13 => ?_)
  rotate_left
  · exact absurd (by decide) c_13
  refine aw_vreti dX10_append_58 rfl (Nat.le_of_ble_eq_true rfl) (Nat.le_of_ble_eq_true rfl) ?_
  exact ⟨rfl, (va_up_self _ _ _), ⟨_, ((va_up_ne _ _ (by omega)).trans (va_up_self _ _ _))⟩, fun i hi => by simp only [va_up, if_neg (show ¬ i = 1 by omega), if_neg (show ¬ i = 2 by omega)]⟩

set_option maxHeartbeats 4000000 in
set_option maxRecDepth 100000 in
theorem c_holds0 (l : Launch) (D : va_G) (b : Nat) (N : Nat) (V : Wd) (hN : 100 ≤ N) (e1 e2 e3 : Int32) (ht : V 1 = cO 9 [.ref (b + 2), .int 0, .int e1, .int e2, .int e3]) (x lo hi : Int32) (hlo : 0 < lo) : MI l D b 0 jX10_holds [.ref (b + 1), .int x, .int lo, .int hi] N V 0 0 (fun r N9 V9 => r = 0 ∧ N = N9 ∧ V = V9) := by
  refine mw_of (by decide) (by simp [Value.category]) (Nat.le_of_ble_eq_true rfl) ?_
  show AW l D b jX10_holds (fx_rm 0 0 0) none (fx_MQ D b 0 0 (fx_qi (fun r N9 V9 => r = 0 ∧ N = N9 ∧ V = V9))) 0 [some (.ref (b + 1)), some (.int x), some (.int lo), some (.int hi)] [] N V 0 0
  refine aw_iload_n dX10_holds_0 rfl ?_
  refine aw_iload_n dX10_holds_1 rfl ?_
  refine aw_icmp_lt (tgt := 22) dX10_holds_2 (by decide) (fun c_1 => ?_) (fun c_1 => ?_)
  · skip
    refine aw_iconst (v := 0) dX10_holds_22 (by decide) ?_
    refine aw_zreti dX10_holds_23 rfl (Or.inl rfl) (Nat.le_of_ble_eq_true rfl) (Nat.le_of_ble_eq_true rfl) ?_
    exact ⟨rfl, rfl, rfl⟩
  · skip
    refine aw_iload_n dX10_holds_5 rfl ?_
    refine aw_iload_n dX10_holds_6 rfl ?_
    refine aw_icmp_gt (tgt := 22) dX10_holds_7 (by decide) (fun c_2 => ?_) (fun c_2 => ?_)
    · skip
      refine aw_iconst (v := 0) dX10_holds_22 (by decide) ?_
      refine aw_zreti dX10_holds_23 rfl (Or.inl rfl) (Nat.le_of_ble_eq_true rfl) (Nat.le_of_ble_eq_true rfl) ?_
      exact ⟨rfl, rfl, rfl⟩
    · skip
      refine aw_iload_n dX10_holds_10 rfl ?_
      refine aw_aload_n dX10_holds_11 rfl ?_
      refine aw_get dX10_holds_12 fl_X10_15 ht (by omega) rfl ?_
      refine aw_icmp_gt (tgt := 22) dX10_holds_15 (by decide) (fun c_3 => ?_) (fun c_3 => ?_)
      rotate_left
      · exact absurd (fx_gt0 hlo c_1) c_3
      refine aw_iconst (v := 0) dX10_holds_22 (by decide) ?_
      refine aw_zreti dX10_holds_23 rfl (Or.inl rfl) (Nat.le_of_ble_eq_true rfl) (Nat.le_of_ble_eq_true rfl) ?_
      exact ⟨rfl, rfl, rfl⟩

set_option maxHeartbeats 4000000 in
set_option maxRecDepth 100000 in
theorem c_holdsC (l : Launch) (D : va_G) (b : Nat) (N : Nat) (V : Wd) (hN : 100 ≤ N) (e1 e2 e3 : Int32) (ht : V 1 = cO 9 [.ref (b + 2), .int 0, .int e1, .int e2, .int e3]) (x : Int32) : MI l D b 0 jX10_holds [.ref (b + 1), .int x, .int 0, .int 12] N V 0 0 (fun r N9 V9 => r = (if x = 0 then 1 else 0) ∧ N = N9 ∧ V = V9) := by
  refine mw_of (by decide) (by simp [Value.category]) (Nat.le_of_ble_eq_true rfl) ?_
  show AW l D b jX10_holds (fx_rm 0 0 0) none (fx_MQ D b 0 0 (fx_qi (fun r N9 V9 => r = (if x = 0 then 1 else 0) ∧ N = N9 ∧ V = V9))) 0 [some (.ref (b + 1)), some (.int x), some (.int 0), some (.int 12)] [] N V 0 0
  refine aw_iload_n dX10_holds_0 rfl ?_
  refine aw_iload_n dX10_holds_1 rfl ?_
  refine aw_icmp_lt (tgt := 22) dX10_holds_2 (by decide) (fun c_1 => ?_) (fun c_1 => ?_)
  · skip
    refine aw_iconst (v := 0) dX10_holds_22 (by decide) ?_
    refine aw_zreti dX10_holds_23 rfl (Or.inl rfl) (Nat.le_of_ble_eq_true rfl) (Nat.le_of_ble_eq_true rfl) ?_
    refine ⟨(if_neg (fun hx => ?_)).symm, rfl, rfl⟩
    subst hx
    revert c_1
    decide
  · skip
    refine aw_iload_n dX10_holds_5 rfl ?_
    refine aw_iload_n dX10_holds_6 rfl ?_
    refine aw_icmp_gt (tgt := 22) dX10_holds_7 (by decide) (fun c_2 => ?_) (fun c_2 => ?_)
    · skip
      refine aw_iconst (v := 0) dX10_holds_22 (by decide) ?_
      refine aw_zreti dX10_holds_23 rfl (Or.inl rfl) (Nat.le_of_ble_eq_true rfl) (Nat.le_of_ble_eq_true rfl) ?_
      refine ⟨(if_neg (fun hx => ?_)).symm, rfl, rfl⟩
      subst hx
      revert c_2
      decide
    · skip
      refine aw_iload_n dX10_holds_10 rfl ?_
      refine aw_aload_n dX10_holds_11 rfl ?_
      refine aw_get dX10_holds_12 fl_X10_15 ht (by omega) rfl ?_
      refine aw_icmp_gt (tgt := 22) dX10_holds_15 (by decide) (fun c_3 => ?_) (fun c_3 => ?_)
      · skip
        refine aw_iconst (v := 0) dX10_holds_22 (by decide) ?_
        refine aw_zreti dX10_holds_23 rfl (Or.inl rfl) (Nat.le_of_ble_eq_true rfl) (Nat.le_of_ble_eq_true rfl) ?_
        refine ⟨(if_neg (fun hx => ?_)).symm, rfl, rfl⟩
        subst hx
        revert c_3
        decide
      · skip
        refine aw_iconst (v := 1) dX10_holds_18 (by decide) ?_
        refine aw_goto (tgt := 23) dX10_holds_19 (by decide) ?_
        refine aw_zreti dX10_holds_23 rfl (Or.inr rfl) (Nat.le_of_ble_eq_true rfl) (Nat.le_of_ble_eq_true rfl) ?_
        exact ⟨(if_pos (Int32.le_antisymm (Int32.not_lt.mp c_3) (Int32.not_lt.mp c_1))).symm, rfl, rfl⟩

set_option maxHeartbeats 4000000 in
set_option maxRecDepth 100000 in
theorem c_take (l : Launch) (D : va_G) (b : Nat) (N : Nat) (V : Wd) (hN : 100 ≤ N) (e0 e1 e2 e3 : Int32) (ht : V 1 = cO 9 [.ref (b + 2), .int e0, .int e1, .int e2, .int e3]) (x : Int32) : MV l D b 0 jX10_take [.ref (b + 1), .int x] N V 0 0 (fun N9 V9 => N = N9 ∧ ∀ i, i ≠ 1 → V9 i = V i) := by
  refine mw_of (by decide) (by simp [Value.category]) (Nat.le_of_ble_eq_true rfl) ?_
  show AW l D b jX10_take (fx_rm 0 0 0) none (fx_MQ D b 0 0 (fx_qv (fun N9 V9 => N = N9 ∧ ∀ i, i ≠ 1 → V9 i = V i))) 0 [some (.ref (b + 1)), some (.int x)] [] N V 0 0
  refine aw_aload_n dX10_take_0 rfl ?_
  refine aw_iload_n dX10_take_1 rfl ?_
  refine aw_put dX10_take_2 fp_X10_19 ht (by omega) rfl rfl (Nat.le_of_ble_eq_true rfl) rfl ?_
  refine aw_aload_n dX10_take_5 rfl ?_
  refine aw_iconst (v := 0) dX10_take_6 (by decide) ?_
  refine aw_put dX10_take_7 fp_X10_22 (va_up_self _ _ _) (by omega) rfl rfl (Nat.le_of_ble_eq_true rfl) rfl ?_
  refine aw_aload_n dX10_take_10 rfl ?_
  refine aw_iconst (v := 0) dX10_take_11 (by decide) ?_
  refine aw_put dX10_take_12 fp_X10_25 (va_up_self _ _ _) (by omega) rfl rfl (Nat.le_of_ble_eq_true rfl) rfl ?_
  refine aw_aload_n dX10_take_15 rfl ?_
  refine aw_iconst (v := 0) dX10_take_16 (by decide) ?_
  refine aw_put dX10_take_17 fp_X10_15 (va_up_self _ _ _) (by omega) rfl rfl (Nat.le_of_ble_eq_true rfl) rfl ?_
  refine aw_vreti dX10_take_20 rfl (Nat.le_of_ble_eq_true rfl) (Nat.le_of_ble_eq_true rfl) ?_
  exact ⟨rfl, fun i hi => by simp only [va_up, if_neg hi]⟩
