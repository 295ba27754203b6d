set_option maxHeartbeats 4000000 in
set_option maxRecDepth 100000 in
theorem c_havingFear (l : Launch) (D : va_G) (b : Nat) (c N : Nat) (V : Wd) (hN : c + 18 ≤ N) (hC : CZ D b c V) (f : Int32) (hf : ¬ f < 0) : MI l D b 3 jX0_havingFear [.ref (b + c), .int f] N V 0 0 (fun r N9 V9 => r = 0 ∧ N = N9 ∧ V = V9) := by
  obtain ⟨dr, kn, df, sg, op, ni, xx, ⟨h0, h1, h2, h3, h4, h5, h6⟩, z1, z2⟩ := id hC
  refine mw_of (by decide) (by simp [Value.category]) (Nat.le_of_ble_eq_true rfl) ?_
  show AW l D b jX0_havingFear (fx_rm 3 0 0) none (fx_MQ D b 0 0 (fx_qi (fun r N9 V9 => r = 0 ∧ N = N9 ∧ V = V9))) 0 [some (.ref (b + c)), some (.int f), none, none] [] N V 0 0
  refine aw_iconst (v := 0) dX0_havingFear_0 (by decide) ?_
  refine aw_istore_n (ls' := [some (.ref (b + c)), some (.int f), some (.int 0), none]) dX0_havingFear_1 (Nat.le_of_ble_eq_true rfl) rfl ?_
  refine aw_iconst (v := 0) dX0_havingFear_2 (by decide) ?_
  refine aw_istore_n (ls' := [some (.ref (b + c)), some (.int f), some (.int 0), some (.int 0)]) dX0_havingFear_3 (Nat.le_of_ble_eq_true rfl) rfl ?_
  have loop_4_0 : ∀ (g_4 : Nat), ∀ (j4 : Nat), j4 + g_4 = 12 → AW l D b jX0_havingFear (fx_rm 3 0 0) none (fx_MQ D b 0 0 (fx_qi (fun r N9 V9 => r = 0 ∧ N = N9 ∧ V = V9))) 4 [some (.ref (b + c)), some (.int f), some (.int 0), some (.int (nI j4))] [] N V 0 0 := by
    intro g_4
    induction g_4 with
    | zero =>
      intro j4  hj4
      obtain rfl : j4 = 12 := by omega
      refine aw_iload_n dX0_havingFear_4 rfl ?_
      refine aw_bipush (v := 12) dX0_havingFear_5 (by decide) ?_
      refine aw_icmp_ge (tgt := 31) dX0_havingFear_7 (by decide) (fun c_3 => ?_) (fun c_3 => ?_)
      rotate_left
      · exact absurd (nI_le (a := 12) (b := 12) (Nat.le_refl _) (by omega)) c_3
      refine aw_iload_n dX0_havingFear_31 rfl ?_
      refine aw_ireti dX0_havingFear_32 rfl (Nat.le_of_ble_eq_true rfl) (Nat.le_of_ble_eq_true rfl) ?_
      exact ⟨rfl, rfl, rfl⟩
    | succ g_4 ih_4_1 =>
      intro j4  hj4
      have hlj4 : j4 < 12 := by omega
      refine aw_iload_n dX0_havingFear_4 rfl ?_
      refine aw_bipush (v := 12) dX0_havingFear_5 (by decide) ?_
      refine aw_icmp_ge (tgt := 31) dX0_havingFear_7 (by decide) (fun c_4 => ?_) (fun c_4 => ?_)
      · exact absurd c_4 (nI_ge (a := j4) (b := 12) (by omega) (by omega))
      refine aw_aload_n dX0_havingFear_10 rfl ?_
      refine aw_iload_n dX0_havingFear_11 rfl ?_
      refine aw_callVi (J' := jX0_fearOf) (As := [.int (nI j4)]) (st := []) dX0_havingFear_12 tb_719 ok_X0_fearOf ⟨_, h0⟩ (by omega) rfl rfl (c_fearOf l D b c N V (by omega) hC (nI j4)) rfl (Nat.le_of_ble_eq_true rfl) ⟨Nat.le_of_ble_eq_true rfl, Nat.le_of_ble_eq_true rfl, Nat.le_of_ble_eq_true rfl, Nat.le_of_ble_eq_true rfl⟩ (fun r_5 N_6 V_7 q_8 => ?_)
      obtain ⟨rfl, rfl, rfl⟩ := q_8
      refine aw_iload_n dX0_havingFear_15 rfl ?_
      refine aw_icmp_ne (tgt := 25) dX0_havingFear_16 (by decide) (fun c_9 => ?_) (fun c_9 => ?_)
      rotate_left
      · exact absurd (show (-2 : Int32) < 0 by decide) (by rw [c_9]; exact hf)
      refine aw_iinc (v := (nI (j4 + 1))) (ls' := [some (.ref (b + c)), some (.int f), some (.int 0), some (.int (nI (j4 + 1)))]) dX0_havingFear_25 rfl (fx_up_1 _) (Nat.le_of_ble_eq_true rfl) rfl ?_
      refine aw_goto (tgt := 4) dX0_havingFear_28 (by decide) ?_
      refine aw_le ?_ (ih_4_1 (j4 + 1)   (by omega))
      exact ⟨rfl, ⟨rfl, ⟨rfl, ⟨rfl, trivial⟩⟩⟩⟩
  refine aw_le ?_ (loop_4_0 12 0   (by omega))
  exact ⟨rfl, ⟨rfl, ⟨rfl, ⟨rfl, trivial⟩⟩⟩⟩

set_option maxHeartbeats 4000000 in
set_option maxRecDepth 100000 in
theorem c_fearsFrom (l : Launch) (D : va_G) (b : Nat) (c N : Nat) (V : Wd) (hN : c + 18 ≤ N) (hC : CZ D b c V) (p m : Int32) (hm : ¬ m ≤ 0) : MI l D b 1 jX0_fearsFrom [.ref (b + c), .int p, .int m] N V 0 0 (fun r N9 V9 => r = 0 ∧ N = N9 ∧ V = V9) := by
  obtain ⟨dr, kn, df, sg, op, ni, xx, ⟨h0, h1, h2, h3, h4, h5, h6⟩, z1, z2⟩ := id hC
  refine mw_of (by decide) (by simp [Value.category]) (Nat.le_of_ble_eq_true rfl) ?_
  show AW l D b jX0_fearsFrom (fx_rm 1 0 0) none (fx_MQ D b 0 0 (fx_qi (fun r N9 V9 => r = 0 ∧ N = N9 ∧ V = V9))) 0 [some (.ref (b + c)), some (.int p), some (.int m), none, none] [] N V 0 0
  refine aw_iconst (v := 0) dX0_fearsFrom_0 (by decide) ?_
  refine aw_istore_n (ls' := [some (.ref (b + c)), some (.int p), some (.int m), some (.int 0), none]) dX0_fearsFrom_1 (Nat.le_of_ble_eq_true rfl) rfl ?_
  refine aw_iconst (v := 0) dX0_fearsFrom_2 (by decide) ?_
  refine aw_istore (ls' := [some (.ref (b + c)), some (.int p), some (.int m), some (.int 0), some (.int 0)]) dX0_fearsFrom_3 (Nat.le_of_ble_eq_true rfl) rfl ?_
  have loop_5_0 : ∀ (g_5 : Nat), ∀ (j5 : Nat), j5 + g_5 = 16 → AW l D b jX0_fearsFrom (fx_rm 1 0 0) none (fx_MQ D b 0 0 (fx_qi (fun r N9 V9 => r = 0 ∧ N = N9 ∧ V = V9))) 5 [some (.ref (b + c)), some (.int p), some (.int m), some (.int 0), some (.int (nI j5))] [] N V 0 0 := by
    intro g_5
    induction g_5 with
    | zero =>
      intro j5  hj5
      obtain rfl : j5 = 16 := by omega
      refine aw_iload dX0_fearsFrom_5 rfl ?_
      refine aw_bipush (v := 16) dX0_fearsFrom_7 (by decide) ?_
      refine aw_icmp_ge (tgt := 36) dX0_fearsFrom_9 (by decide) (fun c_3 => ?_) (fun c_3 => ?_)
      rotate_left
      · exact absurd (nI_le (a := 16) (b := 16) (Nat.le_refl _) (by omega)) c_3
      refine aw_iload_n dX0_fearsFrom_36 rfl ?_
      refine aw_ireti dX0_fearsFrom_37 rfl (Nat.le_of_ble_eq_true rfl) (Nat.le_of_ble_eq_true rfl) ?_
      exact ⟨rfl, rfl, rfl⟩
    | succ g_5 ih_5_1 =>
      intro j5  hj5
      have hlj5 : j5 < 16 := by omega
      refine aw_iload dX0_fearsFrom_5 rfl ?_
      refine aw_bipush (v := 16) dX0_fearsFrom_7 (by decide) ?_
      refine aw_icmp_ge (tgt := 36) dX0_fearsFrom_9 (by decide) (fun c_4 => ?_) (fun c_4 => ?_)
      · exact absurd c_4 (nI_ge (a := j5) (b := 16) (by omega) (by omega))
      refine aw_aload_n dX0_fearsFrom_12 rfl ?_
      refine aw_iload_n dX0_fearsFrom_13 rfl ?_
      refine aw_iload dX0_fearsFrom_14 rfl ?_
      refine aw_callVi (J' := jX0_dreadOf) (As := [.int p, .int (nI j5)]) (st := []) dX0_fearsFrom_16 tb_639 ok_X0_dreadOf ⟨_, h0⟩ (by omega) rfl rfl (c_dreadOf l D b c N V (by omega) hC p (nI j5)) rfl (Nat.le_of_ble_eq_true rfl) ⟨Nat.le_of_ble_eq_true rfl, Nat.le_of_ble_eq_true rfl, Nat.le_of_ble_eq_true rfl, Nat.le_of_ble_eq_true rfl⟩ (fun r_5 N_6 V_7 q_8 => ?_)
      obtain ⟨rfl, rfl, rfl⟩ := q_8
      refine aw_iload_n dX0_fearsFrom_19 rfl ?_
      refine aw_icmp_lt (tgt := 30) dX0_fearsFrom_20 (by decide) (fun c_9 => ?_) (fun c_9 => ?_)
      rotate_left
      · exact absurd (Int32.not_lt.mp c_9) hm
      refine aw_iinc (v := (nI (j5 + 1))) (ls' := [some (.ref (b + c)), some (.int p), some (.int m), some (.int 0), some (.int (nI (j5 + 1)))]) dX0_fearsFrom_30 rfl (fx_up_1 _) (Nat.le_of_ble_eq_true rfl) rfl ?_
      refine aw_goto (tgt := 5) dX0_fearsFrom_33 (by decide) ?_
      refine aw_le ?_ (ih_5_1 (j5 + 1)   (by omega))
      exact ⟨rfl, ⟨rfl, ⟨rfl, ⟨rfl, ⟨rfl, trivial⟩⟩⟩⟩⟩
  refine aw_le ?_ (loop_5_0 16 0   (by omega))
  exact ⟨rfl, ⟨rfl, ⟨rfl, ⟨rfl, ⟨rfl, trivial⟩⟩⟩⟩⟩

set_option maxHeartbeats 4000000 in
set_option maxRecDepth 100000 in
theorem c_nobodysFears (l : Launch) (D : va_G) (b : Nat) (c N : Nat) (V : Wd) (hN : c + 18 ≤ N) (hC : CZ D b c V) : MI l D b 2 jX0_nobodysFears [.ref (b + c)] N V 0 0 (fun r N9 V9 => r = 65535 ∧ N = N9 ∧ V = V9) := by
  obtain ⟨dr, kn, df, sg, op, ni, xx, ⟨h0, h1, h2, h3, h4, h5, h6⟩, z1, z2⟩ := id hC
  refine mw_of (by decide) (by simp [Value.category]) (Nat.le_of_ble_eq_true rfl) ?_
  show AW l D b jX0_nobodysFears (fx_rm 2 0 0) none (fx_MQ D b 0 0 (fx_qi (fun r N9 V9 => r = 65535 ∧ N = N9 ∧ V = V9))) 0 [some (.ref (b + c)), none, none] [] N V 0 0
  refine aw_ldc (v := 65535) dX0_nobodysFears_0 tb_857 ?_
  refine aw_istore_n (ls' := [some (.ref (b + c)), some (.int 65535), none]) dX0_nobodysFears_2 (Nat.le_of_ble_eq_true rfl) rfl ?_
  refine aw_iconst (v := 0) dX0_nobodysFears_3 (by decide) ?_
  refine aw_istore_n (ls' := [some (.ref (b + c)), some (.int 65535), some (.int 0)]) dX0_nobodysFears_4 (Nat.le_of_ble_eq_true rfl) rfl ?_
  have loop_5_0 : ∀ (g_5 : Nat), ∀ (j5 : Nat), j5 + g_5 = 12 → AW l D b jX0_nobodysFears (fx_rm 2 0 0) none (fx_MQ D b 0 0 (fx_qi (fun r N9 V9 => r = 65535 ∧ N = N9 ∧ V = V9))) 5 [some (.ref (b + c)), some (.int 65535), some (.int (nI j5))] [] N V 0 0 := by
    intro g_5
    induction g_5 with
    | zero =>
      intro j5  hj5
      obtain rfl : j5 = 12 := by omega
      refine aw_iload_n dX0_nobodysFears_5 rfl ?_
      refine aw_bipush (v := 12) dX0_nobodysFears_6 (by decide) ?_
      refine aw_icmp_ge (tgt := 28) dX0_nobodysFears_8 (by decide) (fun c_3 => ?_) (fun c_3 => ?_)
      rotate_left
      · exact absurd (nI_le (a := 12) (b := 12) (Nat.le_refl _) (by omega)) c_3
      refine aw_iload_n dX0_nobodysFears_28 rfl ?_
      refine aw_ireti dX0_nobodysFears_29 rfl (Nat.le_of_ble_eq_true rfl) (Nat.le_of_ble_eq_true rfl) ?_
      exact ⟨rfl, rfl, rfl⟩
    | succ g_5 ih_5_1 =>
      intro j5  hj5
      have hlj5 : j5 < 12 := by omega
      refine aw_iload_n dX0_nobodysFears_5 rfl ?_
      refine aw_bipush (v := 12) dX0_nobodysFears_6 (by decide) ?_
      refine aw_icmp_ge (tgt := 28) dX0_nobodysFears_8 (by decide) (fun c_4 => ?_) (fun c_4 => ?_)
      · exact absurd c_4 (nI_ge (a := j5) (b := 12) (by omega) (by omega))
      refine aw_iload_n dX0_nobodysFears_11 rfl ?_
      refine aw_aload_n dX0_nobodysFears_12 rfl ?_
      refine aw_iload_n dX0_nobodysFears_13 rfl ?_
      refine aw_iconst (v := 1) dX0_nobodysFears_14 (by decide) ?_
      refine aw_callVi (J' := jX0_fearsFrom) (As := [.int (nI j5), .int 1]) (st := [.int 65535]) dX0_nobodysFears_15 tb_858 ok_X0_fearsFrom ⟨_, h0⟩ (by omega) rfl rfl (c_fearsFrom l D b c N V (by omega) hC (nI j5) 1 (by decide)) rfl (Nat.le_of_ble_eq_true rfl) ⟨Nat.le_of_ble_eq_true rfl, Nat.le_of_ble_eq_true rfl, Nat.le_of_ble_eq_true rfl, Nat.le_of_ble_eq_true rfl⟩ (fun r_5 N_6 V_7 q_8 => ?_)
      obtain ⟨rfl, rfl, rfl⟩ := q_8
      refine aw_iconst (v := (-1)) dX0_nobodysFears_18 (by decide) ?_
      refine aw_ixor dX0_nobodysFears_19 ?_
      refine aw_eqi (y := (-1)) (by decide) ?_
      refine aw_iand dX0_nobodysFears_20 ?_
      refine aw_eqi (y := 65535) (by decide) ?_
      refine aw_istore_n (ls' := [some (.ref (b + c)), some (.int 65535), some (.int (nI j5))]) dX0_nobodysFears_21 (Nat.le_of_ble_eq_true rfl) rfl ?_
      refine aw_iinc (v := (nI (j5 + 1))) (ls' := [some (.ref (b + c)), some (.int 65535), some (.int (nI (j5 + 1)))]) dX0_nobodysFears_22 rfl (fx_up_1 _) (Nat.le_of_ble_eq_true rfl) rfl ?_
      refine aw_goto (tgt := 5) dX0_nobodysFears_25 (by decide) ?_
      refine aw_le ?_ (ih_5_1 (j5 + 1)   (by omega))
      exact ⟨rfl, ⟨rfl, ⟨rfl, trivial⟩⟩⟩
  refine aw_le ?_ (loop_5_0 12 0   (by omega))
  exact ⟨rfl, ⟨rfl, ⟨rfl, trivial⟩⟩⟩

set_option maxHeartbeats 4000000 in
set_option maxRecDepth 100000 in
theorem c_allsFears (l : Launch) (D : va_G) (b : Nat) (c N : Nat) (V : Wd) (hN : c + 18 ≤ N) (hC : CZ D b c V) : MI l D b 2 jX0_allsFears [.ref (b + c)] N V 0 0 (fun r N9 V9 => r = 65535 ∧ N = N9 ∧ V = V9) := by
  obtain ⟨dr, kn, df, sg, op, ni, xx, ⟨h0, h1, h2, h3, h4, h5, h6⟩, z1, z2⟩ := id hC
  refine mw_of (by decide) (by simp [Value.category]) (Nat.le_of_ble_eq_true rfl) ?_
  show AW l D b jX0_allsFears (fx_rm 2 0 0) none (fx_MQ D b 0 0 (fx_qi (fun r N9 V9 => r = 65535 ∧ N = N9 ∧ V = V9))) 0 [some (.ref (b + c)), none, none] [] N V 0 0
  refine aw_ldc (v := 65535) dX0_allsFears_0 tb_857 ?_
  refine aw_istore_n (ls' := [some (.ref (b + c)), some (.int 65535), none]) dX0_allsFears_2 (Nat.le_of_ble_eq_true rfl) rfl ?_
  refine aw_iconst (v := 0) dX0_allsFears_3 (by decide) ?_
  refine aw_istore_n (ls' := [some (.ref (b + c)), some (.int 65535), some (.int 0)]) dX0_allsFears_4 (Nat.le_of_ble_eq_true rfl) rfl ?_
  have loop_5_0 : ∀ (g_5 : Nat), ∀ (j5 : Nat), j5 + g_5 = 12 → AW l D b jX0_allsFears (fx_rm 2 0 0) none (fx_MQ D b 0 0 (fx_qi (fun r N9 V9 => r = 65535 ∧ N = N9 ∧ V = V9))) 5 [some (.ref (b + c)), some (.int 65535), some (.int (nI j5))] [] N V 0 0 := by
    intro g_5
    induction g_5 with
    | zero =>
      intro j5  hj5
      obtain rfl : j5 = 12 := by omega
      refine aw_iload_n dX0_allsFears_5 rfl ?_
      refine aw_bipush (v := 12) dX0_allsFears_6 (by decide) ?_
      refine aw_icmp_ge (tgt := 34) dX0_allsFears_8 (by decide) (fun c_3 => ?_) (fun c_3 => ?_)
      rotate_left
      · exact absurd (nI_le (a := 12) (b := 12) (Nat.le_refl _) (by omega)) c_3
      refine aw_iload_n dX0_allsFears_34 rfl ?_
      refine aw_ireti dX0_allsFears_35 rfl (Nat.le_of_ble_eq_true rfl) (Nat.le_of_ble_eq_true rfl) ?_
      exact ⟨rfl, rfl, rfl⟩
    | succ g_5 ih_5_1 =>
      intro j5  hj5
      have hlj5 : j5 < 12 := by omega
      refine aw_iload_n dX0_allsFears_5 rfl ?_
      refine aw_bipush (v := 12) dX0_allsFears_6 (by decide) ?_
      refine aw_icmp_ge (tgt := 34) dX0_allsFears_8 (by decide) (fun c_4 => ?_) (fun c_4 => ?_)
      · exact absurd c_4 (nI_ge (a := j5) (b := 12) (by omega) (by omega))
      refine aw_aload_n dX0_allsFears_11 rfl ?_
      refine aw_iload_n dX0_allsFears_12 rfl ?_
      refine aw_callVi (J' := jX0_isPerson) (As := [.int (nI j5)]) (st := []) dX0_allsFears_13 tb_717 ok_X0_isPerson ⟨_, h0⟩ (by omega) rfl rfl (c_isPerson l D b c N V (by omega) hC (nI j5)) rfl (Nat.le_of_ble_eq_true rfl) ⟨Nat.le_of_ble_eq_true rfl, Nat.le_of_ble_eq_true rfl, Nat.le_of_ble_eq_true rfl, Nat.le_of_ble_eq_true rfl⟩ (fun r_5 N_6 V_7 q_8 => ?_)
      obtain ⟨rfl, rfl, rfl⟩ := q_8
      refine aw_if_eq (tgt := 28) dX0_allsFears_16 (by decide) (fun c_9 => ?_) (fun c_9 => ?_)
      rotate_left
      · exact absurd (by decide) c_9
      refine aw_iinc (v := (nI (j5 + 1))) (ls' := [some (.ref (b + c)), some (.int 65535), some (.int (nI (j5 + 1)))]) dX0_allsFears_28 rfl (fx_up_1 _) (Nat.le_of_ble_eq_true rfl) rfl ?_
      refine aw_goto (tgt := 5) dX0_allsFears_31 (by decide) ?_
      refine aw_le ?_ (ih_5_1 (j5 + 1)   (by omega))
      exact ⟨rfl, ⟨rfl, ⟨rfl, trivial⟩⟩⟩
  refine aw_le ?_ (loop_5_0 12 0   (by omega))
  exact ⟨rfl, ⟨rfl, ⟨rfl, trivial⟩⟩⟩

set_option maxHeartbeats 4000000 in
set_option maxRecDepth 100000 in
theorem c_knownTo (l : Launch) (D : va_G) (b : Nat) (c N : Nat) (V : Wd) (hN : c + 18 ≤ N) (hC : CZ D b c V) (p : Int32) : MI l D b 0 jX0_knownTo [.ref (b + c), .int p] N V 0 0 (fun r N9 V9 => r = 0 ∧ N = N9 ∧ V = V9) := by
  obtain ⟨dr, kn, df, sg, op, ni, xx, ⟨h0, h1, h2, h3, h4, h5, h6⟩, z1, z2⟩ := id hC
  refine mw_of (by decide) (by simp [Value.category]) (Nat.le_of_ble_eq_true rfl) ?_
  show AW l D b jX0_knownTo (fx_rm 0 0 0) none (fx_MQ D b 0 0 (fx_qi (fun r N9 V9 => r = 0 ∧ N = N9 ∧ V = V9))) 0 [some (.ref (b + c)), some (.int p)] [] N V 0 0
  refine aw_iload_n dX0_knownTo_0 rfl ?_
  refine aw_if_lt (tgt := 19) dX0_knownTo_1 (by decide) (fun c_1 => ?_) (fun c_1 => ?_)
  · skip
    refine aw_iconst (v := 0) dX0_knownTo_19 (by decide) ?_
    refine aw_ireti dX0_knownTo_20 rfl (Nat.le_of_ble_eq_true rfl) (Nat.le_of_ble_eq_true rfl) ?_
    exact ⟨rfl, rfl, rfl⟩
  · skip
    refine aw_iload_n dX0_knownTo_4 rfl ?_
    refine aw_bipush (v := 12) dX0_knownTo_5 (by decide) ?_
    refine aw_icmp_ge (tgt := 19) dX0_knownTo_7 (by decide) (fun c_2 => ?_) (fun c_2 => ?_)
    · skip
      refine aw_iconst (v := 0) dX0_knownTo_19 (by decide) ?_
      refine aw_ireti dX0_knownTo_20 rfl (Nat.le_of_ble_eq_true rfl) (Nat.le_of_ble_eq_true rfl) ?_
      exact ⟨rfl, rfl, rfl⟩
    · skip
      obtain ⟨i1, hi1, rfl⟩ := (fx_ix (n := 12) (by decide) c_1 c_2)
      refine aw_aload_n dX0_knownTo_10 rfl ?_
      refine aw_get dX0_knownTo_11 fl_X0_16 h0 (by omega) rfl ?_
      refine aw_iload_n dX0_knownTo_14 rfl ?_
      refine aw_iald (v := 0) dX0_knownTo_15 h3 (by omega) (vp_in_nI (n := i1) (by omega) (by omega)) (by rw [nI_clamp (n := i1) (by omega)]; exact z2 i1 (by omega)) ?_
      refine aw_goto (tgt := 20) dX0_knownTo_16 (by decide) ?_
      refine aw_ireti dX0_knownTo_20 rfl (Nat.le_of_ble_eq_true rfl) (Nat.le_of_ble_eq_true rfl) ?_
      exact ⟨rfl, rfl, rfl⟩

set_option maxHeartbeats 4000000 in
set_option maxRecDepth 100000 in
theorem c_acquaintances (l : Launch) (D : va_G) (b : Nat) (c N : Nat) (V : Wd) (hN : c + 18 ≤ N) (hC : CZ D b c V) : MI l D b 1 jX0_acquaintances [.ref (b + c)] N V 0 0 (fun r N9 V9 => r = 0 ∧ N = N9 ∧ V = V9) := by
  obtain ⟨dr, kn, df, sg, op, ni, xx, ⟨h0, h1, h2, h3, h4, h5, h6⟩, z1, z2⟩ := id hC
  refine mw_of (by decide) (by simp [Value.category]) (Nat.le_of_ble_eq_true rfl) ?_
  show AW l D b jX0_acquaintances (fx_rm 1 0 0) none (fx_MQ D b 0 0 (fx_qi (fun r N9 V9 => r = 0 ∧ N = N9 ∧ V = V9))) 0 [some (.ref (b + c)), none, none] [] N V 0 0
  refine aw_iconst (v := 0) dX0_acquaintances_0 (by decide) ?_
  refine aw_istore_n (ls' := [some (.ref (b + c)), some (.int 0), none]) dX0_acquaintances_1 (Nat.le_of_ble_eq_true rfl) rfl ?_
  refine aw_iconst (v := 0) dX0_acquaintances_2 (by decide) ?_
  refine aw_istore_n (ls' := [some (.ref (b + c)), some (.int 0), some (.int 0)]) dX0_acquaintances_3 (Nat.le_of_ble_eq_true rfl) rfl ?_
  have loop_4_0 : ∀ (g_4 : Nat), ∀ (j4 : Nat), j4 + g_4 = 12 → AW l D b jX0_acquaintances (fx_rm 1 0 0) none (fx_MQ D b 0 0 (fx_qi (fun r N9 V9 => r = 0 ∧ N = N9 ∧ V = V9))) 4 [some (.ref (b + c)), some (.int 0), some (.int (nI j4))] [] N V 0 0 := by
    intro g_4
    induction g_4 with
    | zero =>
      intro j4  hj4
      obtain rfl : j4 = 12 := by omega
      refine aw_iload_n dX0_acquaintances_4 rfl ?_
      refine aw_bipush (v := 12) dX0_acquaintances_5 (by decide) ?_
      refine aw_icmp_ge (tgt := 28) dX0_acquaintances_7 (by decide) (fun c_3 => ?_) (fun c_3 => ?_)
      rotate_left
      · exact absurd (nI_le (a := 12) (b := 12) (Nat.le_refl _) (by omega)) c_3
      refine aw_iload_n dX0_acquaintances_28 rfl ?_
      refine aw_iconst (v := 2) dX0_acquaintances_29 (by decide) ?_
      refine aw_idiv dX0_acquaintances_30 (by decide) ?_
      refine aw_eqi (y := 0) (by decide) ?_
      refine aw_ireti dX0_acquaintances_31 rfl (Nat.le_of_ble_eq_true rfl) (Nat.le_of_ble_eq_true rfl) ?_
      exact ⟨rfl, rfl, rfl⟩
    | succ g_4 ih_4_1 =>
      intro j4  hj4
      have hlj4 : j4 < 12 := by omega
      refine aw_iload_n dX0_acquaintances_4 rfl ?_
      refine aw_bipush (v := 12) dX0_acquaintances_5 (by decide) ?_
      refine aw_icmp_ge (tgt := 28) dX0_acquaintances_7 (by decide) (fun c_4 => ?_) (fun c_4 => ?_)
      · exact absurd c_4 (nI_ge (a := j4) (b := 12) (by omega) (by omega))
      refine aw_iload_n dX0_acquaintances_10 rfl ?_
      refine aw_aload_n dX0_acquaintances_11 rfl ?_
      refine aw_get dX0_acquaintances_12 fl_X0_16 h0 (by omega) rfl ?_
      refine aw_iload_n dX0_acquaintances_15 rfl ?_
      refine aw_iald (v := 0) dX0_acquaintances_16 h3 (by omega) (vp_in_nI (n := j4) (by omega) (by omega)) (by rw [nI_clamp (n := j4) (by omega)]; exact z2 j4 (by omega)) ?_
      refine aw_callSi (J' := jJ6_bitCount_0f7a4) (As := [.int 0]) (st := [.int 0]) dX0_acquaintances_17 tb_1027 ok_J6_bitCount_0f7a4 rfl (c_bitCount l D b N V 0) rfl (Nat.le_of_ble_eq_true rfl) ⟨Nat.le_of_ble_eq_true rfl, Nat.le_of_ble_eq_true rfl, Nat.le_of_ble_eq_true rfl, Nat.le_of_ble_eq_true rfl⟩ (fun r_5 N_6 V_7 q_8 => ?_)
      obtain ⟨⟨hr_5, -⟩, rfl, rfl⟩ := q_8
      obtain rfl := hr_5 rfl
      refine aw_iadd dX0_acquaintances_20 ?_
      refine aw_eqi (y := 0) (by decide) ?_
      refine aw_istore_n (ls' := [some (.ref (b + c)), some (.int 0), some (.int (nI j4))]) dX0_acquaintances_21 (Nat.le_of_ble_eq_true rfl) rfl ?_
      refine aw_iinc (v := (nI (j4 + 1))) (ls' := [some (.ref (b + c)), some (.int 0), some (.int (nI (j4 + 1)))]) dX0_acquaintances_22 rfl (fx_up_1 _) (Nat.le_of_ble_eq_true rfl) rfl ?_
      refine aw_goto (tgt := 4) dX0_acquaintances_25 (by decide) ?_
      refine aw_le ?_ (ih_4_1 (j4 + 1)   (by omega))
      exact ⟨rfl, ⟨rfl, ⟨rfl, trivial⟩⟩⟩
  refine aw_le ?_ (loop_4_0 12 0   (by omega))
  exact ⟨rfl, ⟨rfl, ⟨rfl, trivial⟩⟩⟩

set_option maxHeartbeats 4000000 in
set_option maxRecDepth 100000 in
theorem c_opens (l : Launch) (D : va_G) (b : Nat) (c N : Nat) (V : Wd) (hN : c + 18 ≤ N) (hC : CZ D b c V) (p q : Int32) : MI l D b 2 jX0_opens [.ref (b + c), .int p, .int q] N V 0 0 (fun r N9 V9 => r = 0 ∧ N = N9 ∧ V = V9) := by
  obtain ⟨dr, kn, df, sg, op, ni, xx, ⟨h0, h1, h2, h3, h4, h5, h6⟩, z1, z2⟩ := id hC
  refine mw_of (by decide) (by simp [Value.category]) (Nat.le_of_ble_eq_true rfl) ?_
  show AW l D b jX0_opens (fx_rm 2 0 0) none (fx_MQ D b 0 0 (fx_qi (fun r N9 V9 => r = 0 ∧ N = N9 ∧ V = V9))) 0 [some (.ref (b + c)), some (.int p), some (.int q)] [] N V 0 0
  refine aw_aload_n dX0_opens_0 rfl ?_
  refine aw_iload_n dX0_opens_1 rfl ?_
  refine aw_callVi (J' := jX0_isPerson) (As := [.int p]) (st := []) dX0_opens_2 tb_717 ok_X0_isPerson ⟨_, h0⟩ (by omega) rfl rfl (c_isPerson l D b c N V (by omega) hC p) rfl (Nat.le_of_ble_eq_true rfl) ⟨Nat.le_of_ble_eq_true rfl, Nat.le_of_ble_eq_true rfl, Nat.le_of_ble_eq_true rfl, Nat.le_of_ble_eq_true rfl⟩ (fun r_1 N_2 V_3 q_4 => ?_)
  obtain ⟨rfl, rfl, rfl⟩ := q_4
  refine aw_if_eq (tgt := 54) dX0_opens_5 (by decide) (fun c_5 => ?_) (fun c_5 => ?_)
  rotate_left
  · exact absurd (by decide) c_5
  refine aw_iconst (v := 0) dX0_opens_54 (by decide) ?_
  refine aw_zreti dX0_opens_55 rfl (Or.inl rfl) (Nat.le_of_ble_eq_true rfl) (Nat.le_of_ble_eq_true rfl) ?_
  exact ⟨rfl, rfl, rfl⟩

set_option maxHeartbeats 4000000 in
set_option maxRecDepth 100000 in
theorem c_doorsOpenTo (l : Launch) (D : va_G) (b : Nat) (c N : Nat) (V : Wd) (hN : c + 18 ≤ N) (hC : CZ D b c V) (p : Int32) : MI l D b 3 jX0_doorsOpenTo [.ref (b + c), .int p] N V 0 0 (fun r N9 V9 => r = 0 ∧ N = N9 ∧ V = V9) := by
  obtain ⟨dr, kn, df, sg, op, ni, xx, ⟨h0, h1, h2, h3, h4, h5, h6⟩, z1, z2⟩ := id hC
  refine mw_of (by decide) (by simp [Value.category]) (Nat.le_of_ble_eq_true rfl) ?_
  show AW l D b jX0_doorsOpenTo (fx_rm 3 0 0) none (fx_MQ D b 0 0 (fx_qi (fun r N9 V9 => r = 0 ∧ N = N9 ∧ V = V9))) 0 [some (.ref (b + c)), some (.int p), none, none] [] N V 0 0
  refine aw_iconst (v := 0) dX0_doorsOpenTo_0 (by decide) ?_
  refine aw_istore_n (ls' := [some (.ref (b + c)), some (.int p), some (.int 0), none]) dX0_doorsOpenTo_1 (Nat.le_of_ble_eq_true rfl) rfl ?_
  refine aw_iconst (v := 0) dX0_doorsOpenTo_2 (by decide) ?_
  refine aw_istore_n (ls' := [some (.ref (b + c)), some (.int p), some (.int 0), some (.int 0)]) dX0_doorsOpenTo_3 (Nat.le_of_ble_eq_true rfl) rfl ?_
  have loop_4_0 : ∀ (g_4 : Nat), ∀ (j4 : Nat), j4 + g_4 = 16 → AW l D b jX0_doorsOpenTo (fx_rm 3 0 0) none (fx_MQ D b 0 0 (fx_qi (fun r N9 V9 => r = 0 ∧ N = N9 ∧ V = V9))) 4 [some (.ref (b + c)), some (.int p), some (.int 0), some (.int (nI j4))] [] N V 0 0 := by
    intro g_4
    induction g_4 with
    | zero =>
      intro j4  hj4
      obtain rfl : j4 = 16 := by omega
      refine aw_iload_n dX0_doorsOpenTo_4 rfl ?_
      refine aw_bipush (v := 16) dX0_doorsOpenTo_5 (by decide) ?_
      refine aw_icmp_ge (tgt := 31) dX0_doorsOpenTo_7 (by decide) (fun c_3 => ?_) (fun c_3 => ?_)
      rotate_left
      · exact absurd (nI_le (a := 16) (b := 16) (Nat.le_refl _) (by omega)) c_3
      refine aw_iload_n dX0_doorsOpenTo_31 rfl ?_
      refine aw_ireti dX0_doorsOpenTo_32 rfl (Nat.le_of_ble_eq_true rfl) (Nat.le_of_ble_eq_true rfl) ?_
      exact ⟨rfl, rfl, rfl⟩
    | succ g_4 ih_4_1 =>
      intro j4  hj4
      have hlj4 : j4 < 16 := by omega
      refine aw_iload_n dX0_doorsOpenTo_4 rfl ?_
      refine aw_bipush (v := 16) dX0_doorsOpenTo_5 (by decide) ?_
      refine aw_icmp_ge (tgt := 31) dX0_doorsOpenTo_7 (by decide) (fun c_4 => ?_) (fun c_4 => ?_)
      · exact absurd c_4 (nI_ge (a := j4) (b := 16) (by omega) (by omega))
      refine aw_aload_n dX0_doorsOpenTo_10 rfl ?_
      refine aw_iload_n dX0_doorsOpenTo_11 rfl ?_
      refine aw_iload_n dX0_doorsOpenTo_12 rfl ?_
      refine aw_callVi (J' := jX0_opens) (As := [.int p, .int (nI j4)]) (st := []) dX0_doorsOpenTo_13 tb_763 ok_X0_opens ⟨_, h0⟩ (by omega) rfl rfl (c_opens l D b c N V (by omega) hC p (nI j4)) rfl (Nat.le_of_ble_eq_true rfl) ⟨Nat.le_of_ble_eq_true rfl, Nat.le_of_ble_eq_true rfl, Nat.le_of_ble_eq_true rfl, Nat.le_of_ble_eq_true rfl⟩ (fun r_5 N_6 V_7 q_8 => ?_)
      obtain ⟨rfl, rfl, rfl⟩ := q_8
      refine aw_if_eq (tgt := 25) dX0_doorsOpenTo_16 (by decide) (fun c_9 => ?_) (fun c_9 => ?_)
      rotate_left
      · exact absurd (by decide) c_9
      refine aw_iinc (v := (nI (j4 + 1))) (ls' := [some (.ref (b + c)), some (.int p), some (.int 0), some (.int (nI (j4 + 1)))]) dX0_doorsOpenTo_25 rfl (fx_up_1 _) (Nat.le_of_ble_eq_true rfl) rfl ?_
      refine aw_goto (tgt := 4) dX0_doorsOpenTo_28 (by decide) ?_
      refine aw_le ?_ (ih_4_1 (j4 + 1)   (by omega))
      exact ⟨rfl, ⟨rfl, ⟨rfl, ⟨rfl, trivial⟩⟩⟩⟩
  refine aw_le ?_ (loop_4_0 16 0   (by omega))
  exact ⟨rfl, ⟨rfl, ⟨rfl, ⟨rfl, trivial⟩⟩⟩⟩

set_option maxHeartbeats 4000000 in
set_option maxRecDepth 100000 in
theorem c_openedInAll (l : Launch) (D : va_G) (b : Nat) (c N : Nat) (V : Wd) (hN : c + 18 ≤ N) (dr : Nat → Nat → Int32) (kn df sg op : Nat → Int32) (ni xx : Int32) (hCA : CA D b c V dr kn df sg op 0 0 ni xx) (zo : ∀ i, i < 16 → op i = 0) : MI l D b 0 jX0_openedInAll [.ref (b + c)] N V 0 0 (fun r N9 V9 => r = 0 ∧ N = N9 ∧ V = V9) := by
  obtain ⟨h0, h1, h2, h3, h4, h5, h6⟩ := id hCA
  refine mw_of (by decide) (by simp [Value.category]) (Nat.le_of_ble_eq_true rfl) ?_
  show AW l D b jX0_openedInAll (fx_rm 0 0 0) none (fx_MQ D b 0 0 (fx_qi (fun r N9 V9 => r = 0 ∧ N = N9 ∧ V = V9))) 0 [some (.ref (b + c)), none, none] [] N V 0 0
  refine aw_iconst (v := 0) dX0_openedInAll_0 (by decide) ?_
  refine aw_istore_n (ls' := [some (.ref (b + c)), some (.int 0), none]) dX0_openedInAll_1 (Nat.le_of_ble_eq_true rfl) rfl ?_
  refine aw_iconst (v := 0) dX0_openedInAll_2 (by decide) ?_
  refine aw_istore_n (ls' := [some (.ref (b + c)), some (.int 0), some (.int 0)]) dX0_openedInAll_3 (Nat.le_of_ble_eq_true rfl) rfl ?_
  have loop_4_0 : ∀ (g_4 : Nat), ∀ (j4 : Nat), j4 + g_4 = 16 → AW l D b jX0_openedInAll (fx_rm 0 0 0) none (fx_MQ D b 0 0 (fx_qi (fun r N9 V9 => r = 0 ∧ N = N9 ∧ V = V9))) 4 [some (.ref (b + c)), some (.int 0), some (.int (nI j4))] [] N V 0 0 := by
    intro g_4
    induction g_4 with
    | zero =>
      intro j4  hj4
      obtain rfl : j4 = 16 := by omega
      refine aw_iload_n dX0_openedInAll_4 rfl ?_
      refine aw_bipush (v := 16) dX0_openedInAll_5 (by decide) ?_
      refine aw_icmp_ge (tgt := 25) dX0_openedInAll_7 (by decide) (fun c_3 => ?_) (fun c_3 => ?_)
      rotate_left
      · exact absurd (nI_le (a := 16) (b := 16) (Nat.le_refl _) (by omega)) c_3
      refine aw_iload_n dX0_openedInAll_25 rfl ?_
      refine aw_ireti dX0_openedInAll_26 rfl (Nat.le_of_ble_eq_true rfl) (Nat.le_of_ble_eq_true rfl) ?_
      exact ⟨rfl, rfl, rfl⟩
    | succ g_4 ih_4_1 =>
      intro j4  hj4
      have hlj4 : j4 < 16 := by omega
      refine aw_iload_n dX0_openedInAll_4 rfl ?_
      refine aw_bipush (v := 16) dX0_openedInAll_5 (by decide) ?_
      refine aw_icmp_ge (tgt := 25) dX0_openedInAll_7 (by decide) (fun c_4 => ?_) (fun c_4 => ?_)
      · exact absurd c_4 (nI_ge (a := j4) (b := 16) (by omega) (by omega))
      refine aw_iload_n dX0_openedInAll_10 rfl ?_
      refine aw_aload_n dX0_openedInAll_11 rfl ?_
      refine aw_get dX0_openedInAll_12 fl_X0_26 h0 (by omega) rfl ?_
      refine aw_iload_n dX0_openedInAll_15 rfl ?_
      refine aw_iald (v := 0) dX0_openedInAll_16 h6 (by omega) (vp_in_nI (n := j4) (by omega) (by omega)) (by rw [nI_clamp (n := j4) (by omega)]; exact zo j4 (by omega)) ?_
      refine aw_iadd dX0_openedInAll_17 ?_
      refine aw_eqi (y := 0) (by decide) ?_
      refine aw_istore_n (ls' := [some (.ref (b + c)), some (.int 0), some (.int (nI j4))]) dX0_openedInAll_18 (Nat.le_of_ble_eq_true rfl) rfl ?_
      refine aw_iinc (v := (nI (j4 + 1))) (ls' := [some (.ref (b + c)), some (.int 0), some (.int (nI (j4 + 1)))]) dX0_openedInAll_19 rfl (fx_up_1 _) (Nat.le_of_ble_eq_true rfl) rfl ?_
      refine aw_goto (tgt := 4) dX0_openedInAll_22 (by decide) ?_
      refine aw_le ?_ (ih_4_1 (j4 + 1)   (by omega))
      exact ⟨rfl, ⟨rfl, ⟨rfl, trivial⟩⟩⟩
  refine aw_le ?_ (loop_4_0 16 0   (by omega))
  exact ⟨rfl, ⟨rfl, ⟨rfl, trivial⟩⟩⟩

set_option maxHeartbeats 4000000 in
set_option maxRecDepth 100000 in
theorem c_mostLet (l : Launch) (D : va_G) (b : Nat) (c N : Nat) (V : Wd) (hN : c + 18 ≤ N) (hC : CZ D b c V) : MI l D b 2 jX3_mostLet [.ref (b + c)] N V 0 0 (fun r N9 V9 => r = 0 ∧ N = N9 ∧ V = V9) := by
  obtain ⟨dr, kn, df, sg, op, ni, xx, ⟨h0, h1, h2, h3, h4, h5, h6⟩, z1, z2⟩ := id hC
  refine mw_of (by decide) (by simp [Value.category]) (Nat.le_of_ble_eq_true rfl) ?_
  show AW l D b jX3_mostLet (fx_rm 2 0 0) none (fx_MQ D b 0 0 (fx_qi (fun r N9 V9 => r = 0 ∧ N = N9 ∧ V = V9))) 0 [some (.ref (b + c)), none, none, none, none] [] N V 0 0
  refine aw_iconst (v := 0) dX3_mostLet_0 (by decide) ?_
  refine aw_istore_n (ls' := [some (.ref (b + c)), some (.int 0), none, none, none]) dX3_mostLet_1 (Nat.le_of_ble_eq_true rfl) rfl ?_
  refine aw_bipush (v := 99) dX3_mostLet_2 (by decide) ?_
  refine aw_istore_n (ls' := [some (.ref (b + c)), some (.int 0), some (.int 99), none, none]) dX3_mostLet_4 (Nat.le_of_ble_eq_true rfl) rfl ?_
  have loop_5_0 : ∀ (j5 : Nat), j5 ≤ 100 → AW l D b jX3_mostLet (fx_rm 2 0 0) none (fx_MQ D b 0 0 (fx_qi (fun r N9 V9 => r = 0 ∧ N = N9 ∧ V = V9))) 5 [some (.ref (b + c)), some (.int 0), some (.int (fx_dn j5)), none, none] [] N V 0 0 := by
    intro j5
    induction j5 with
    | zero =>
      intro hj5
      show AW l D b jX3_mostLet (fx_rm 2 0 0) none (fx_MQ D b 0 0 (fx_qi (fun r N9 V9 => r = 0 ∧ N = N9 ∧ V = V9))) 5 [some (.ref (b + c)), some (.int 0), some (.int (-1)), none, none] [] N V 0 0
      refine aw_iload_n dX3_mostLet_5 rfl ?_
      refine aw_if_lt (tgt := 67) dX3_mostLet_6 (by decide) (fun c_3 => ?_) (fun c_3 => ?_)
      rotate_left
      · exact absurd (by decide) c_3
      refine aw_iload_n dX3_mostLet_67 rfl ?_
      refine aw_callSi (J' := jJ6_bitCount_0f7a4) (As := [.int 0]) (st := []) dX3_mostLet_68 tb_799 ok_J6_bitCount_0f7a4 rfl (c_bitCount l D b N V 0) rfl (Nat.le_of_ble_eq_true rfl) ⟨Nat.le_of_ble_eq_true rfl, Nat.le_of_ble_eq_true rfl, Nat.le_of_ble_eq_true rfl, Nat.le_of_ble_eq_true rfl⟩ (fun r_4 N_5 V_6 q_7 => ?_)
      obtain ⟨⟨hr_4, -⟩, rfl, rfl⟩ := q_7
      obtain rfl := hr_4 rfl
      refine aw_ireti dX3_mostLet_71 rfl (Nat.le_of_ble_eq_true rfl) (Nat.le_of_ble_eq_true rfl) ?_
      exact ⟨rfl, rfl, rfl⟩
    | succ j5 ih_5_1 =>
      intro hj5
      show AW l D b jX3_mostLet (fx_rm 2 0 0) none (fx_MQ D b 0 0 (fx_qi (fun r N9 V9 => r = 0 ∧ N = N9 ∧ V = V9))) 5 [some (.ref (b + c)), some (.int 0), some (.int (nI j5)), none, none] [] N V 0 0
      refine aw_iload_n dX3_mostLet_5 rfl ?_
      refine aw_if_lt (tgt := 67) dX3_mostLet_6 (by decide) (fun c_8 => ?_) (fun c_8 => ?_)
      · exact absurd c_8 (nI_pos (by omega))
      refine aw_iconst (v := 0) dX3_mostLet_9 (by decide) ?_
      refine aw_istore_n (ls' := [some (.ref (b + c)), some (.int 0), some (.int (nI j5)), some (.int 0), none]) dX3_mostLet_10 (Nat.le_of_ble_eq_true rfl) rfl ?_
      have loop_11_8 : ∀ (g_11 : Nat), ∀ (j11 : Nat), j11 + g_11 = 16 → AW l D b jX3_mostLet (fx_rm 2 0 0) none (fx_MQ D b 0 0 (fx_qi (fun r N9 V9 => r = 0 ∧ N = N9 ∧ V = V9))) 11 [some (.ref (b + c)), some (.int 0), some (.int (nI j5)), some (.int (nI j11)), none] [] N V 0 0 := by
        intro g_11
        induction g_11 with
        | zero =>
          intro j11  hj11
          obtain rfl : j11 = 16 := by omega
          refine aw_iload_n dX3_mostLet_11 rfl ?_
          refine aw_bipush (v := 16) dX3_mostLet_12 (by decide) ?_
          refine aw_icmp_ge (tgt := 61) dX3_mostLet_14 (by decide) (fun c_11 => ?_) (fun c_11 => ?_)
          rotate_left
          · exact absurd (nI_le (a := 16) (b := 16) (Nat.le_refl _) (by omega)) c_11
          refine aw_iinc (v := (fx_dn j5)) (ls' := [some (.ref (b + c)), some (.int 0), some (.int (fx_dn j5)), some (.int (nI 16)), none]) dX3_mostLet_61 rfl (fx_dn_1 _) (Nat.le_of_ble_eq_true rfl) rfl ?_
          refine aw_goto (tgt := 5) dX3_mostLet_64 (by decide) ?_
          refine aw_le ?_ (ih_5_1   (by omega))
          exact ⟨rfl, ⟨rfl, ⟨rfl, trivial⟩⟩⟩
        | succ g_11 ih_11_9 =>
          intro j11  hj11
          have hlj11 : j11 < 16 := by omega
          refine aw_iload_n dX3_mostLet_11 rfl ?_
          refine aw_bipush (v := 16) dX3_mostLet_12 (by decide) ?_
          refine aw_icmp_ge (tgt := 61) dX3_mostLet_14 (by decide) (fun c_12 => ?_) (fun c_12 => ?_)
          · exact absurd c_12 (nI_ge (a := j11) (b := 16) (by omega) (by omega))
          refine aw_aload_n dX3_mostLet_17 rfl ?_
          refine aw_iload_n dX3_mostLet_18 rfl ?_
          refine aw_callVi (J' := jX0_isDoor) (As := [.int (nI j11)]) (st := []) dX3_mostLet_19 tb_783 ok_X0_isDoor ⟨_, h0⟩ (by omega) rfl rfl (c_isDoor l D b c N V (by omega) hC (nI j11)) rfl (Nat.le_of_ble_eq_true rfl) ⟨Nat.le_of_ble_eq_true rfl, Nat.le_of_ble_eq_true rfl, Nat.le_of_ble_eq_true rfl, Nat.le_of_ble_eq_true rfl⟩ (fun r_13 N_14 V_15 q_16 => ?_)
          obtain ⟨rfl, rfl, rfl⟩ := q_16
          refine aw_if_eq (tgt := 55) dX3_mostLet_22 (by decide) (fun c_17 => ?_) (fun c_17 => ?_)
          rotate_left
          · exact absurd (by decide) c_17
          refine aw_iinc (v := (nI (j11 + 1))) (ls' := [some (.ref (b + c)), some (.int 0), some (.int (nI j5)), some (.int (nI (j11 + 1))), none]) dX3_mostLet_55 rfl (fx_up_1 _) (Nat.le_of_ble_eq_true rfl) rfl ?_
          refine aw_goto (tgt := 11) dX3_mostLet_58 (by decide) ?_
          refine aw_le ?_ (ih_11_9 (j11 + 1)   (by omega))
          exact ⟨rfl, ⟨rfl, ⟨rfl, ⟨rfl, trivial⟩⟩⟩⟩
      refine aw_le ?_ (loop_11_8 16 0   (by omega))
      exact ⟨rfl, ⟨rfl, ⟨rfl, ⟨rfl, trivial⟩⟩⟩⟩
  refine aw_le ?_ (loop_5_0 100   (by omega))
  exact ⟨rfl, ⟨rfl, ⟨rfl, trivial⟩⟩⟩

set_option maxHeartbeats 4000000 in
set_option maxRecDepth 100000 in
theorem c_bestToSend (l : Launch) (D : va_G) (b : Nat) (c N : Nat) (V : Wd) (hN : c + 18 ≤ N) (hC : CZ D b c V) (fs : Int32) : MI l D b 2 jX3_bestToSend [.ref (b + c), .int fs] N V 0 0 (fun r N9 V9 => r = (-2) ∧ N = N9 ∧ V = V9) := by
  obtain ⟨dr, kn, df, sg, op, ni, xx, ⟨h0, h1, h2, h3, h4, h5, h6⟩, z1, z2⟩ := id hC
  refine mw_of (by decide) (by simp [Value.category]) (Nat.le_of_ble_eq_true rfl) ?_
  show AW l D b jX3_bestToSend (fx_rm 2 0 0) none (fx_MQ D b 0 0 (fx_qi (fun r N9 V9 => r = (-2) ∧ N = N9 ∧ V = V9))) 0 [some (.ref (b + c)), some (.int fs), none, none, none] [] N V 0 0
  refine aw_bipush (v := (-2)) dX3_bestToSend_0 (by decide) ?_
  refine aw_istore_n (ls' := [some (.ref (b + c)), some (.int fs), some (.int (-2)), none, none]) dX3_bestToSend_2 (Nat.le_of_ble_eq_true rfl) rfl ?_
  refine aw_bipush (v := 17) dX3_bestToSend_3 (by decide) ?_
  refine aw_istore_n (ls' := [some (.ref (b + c)), some (.int fs), some (.int (-2)), some (.int 17), none]) dX3_bestToSend_5 (Nat.le_of_ble_eq_true rfl) rfl ?_
  refine aw_iconst (v := 0) dX3_bestToSend_6 (by decide) ?_
  refine aw_istore (ls' := [some (.ref (b + c)), some (.int fs), some (.int (-2)), some (.int 17), some (.int 0)]) dX3_bestToSend_7 (Nat.le_of_ble_eq_true rfl) rfl ?_
  have loop_9_0 : ∀ (g_9 : Nat), ∀ (j9 : Nat), j9 + g_9 = 12 → AW l D b jX3_bestToSend (fx_rm 2 0 0) none (fx_MQ D b 0 0 (fx_qi (fun r N9 V9 => r = (-2) ∧ N = N9 ∧ V = V9))) 9 [some (.ref (b + c)), some (.int fs), some (.int (-2)), some (.int 17), some (.int (nI j9))] [] N V 0 0 := by
    intro g_9
    induction g_9 with
    | zero =>
      intro j9  hj9
      obtain rfl : j9 = 12 := by omega
      refine aw_iload dX3_bestToSend_9 rfl ?_
      refine aw_bipush (v := 12) dX3_bestToSend_11 (by decide) ?_
      refine aw_icmp_ge (tgt := 53) dX3_bestToSend_13 (by decide) (fun c_3 => ?_) (fun c_3 => ?_)
      rotate_left
      · exact absurd (nI_le (a := 12) (b := 12) (Nat.le_refl _) (by omega)) c_3
      refine aw_iload_n dX3_bestToSend_53 rfl ?_
      refine aw_ireti dX3_bestToSend_54 rfl (Nat.le_of_ble_eq_true rfl) (Nat.le_of_ble_eq_true rfl) ?_
      exact ⟨rfl, rfl, rfl⟩
    | succ g_9 ih_9_1 =>
      intro j9  hj9
      have hlj9 : j9 < 12 := by omega
      refine aw_iload dX3_bestToSend_9 rfl ?_
      refine aw_bipush (v := 12) dX3_bestToSend_11 (by decide) ?_
      refine aw_icmp_ge (tgt := 53) dX3_bestToSend_13 (by decide) (fun c_4 => ?_) (fun c_4 => ?_)
      · exact absurd c_4 (nI_ge (a := j9) (b := 12) (by omega) (by omega))
      refine aw_aload_n dX3_bestToSend_16 rfl ?_
      refine aw_iload dX3_bestToSend_17 rfl ?_
      refine aw_callVi (J' := jX0_isPerson) (As := [.int (nI j9)]) (st := []) dX3_bestToSend_19 tb_929 ok_X0_isPerson ⟨_, h0⟩ (by omega) rfl rfl (c_isPerson l D b c N V (by omega) hC (nI j9)) rfl (Nat.le_of_ble_eq_true rfl) ⟨Nat.le_of_ble_eq_true rfl, Nat.le_of_ble_eq_true rfl, Nat.le_of_ble_eq_true rfl, Nat.le_of_ble_eq_true rfl⟩ (fun r_5 N_6 V_7 q_8 => ?_)
      obtain ⟨rfl, rfl, rfl⟩ := q_8
      refine aw_if_eq (tgt := 47) dX3_bestToSend_22 (by decide) (fun c_9 => ?_) (fun c_9 => ?_)
      rotate_left
      · exact absurd (by decide) c_9
      refine aw_iinc (v := (nI (j9 + 1))) (ls' := [some (.ref (b + c)), some (.int fs), some (.int (-2)), some (.int 17), some (.int (nI (j9 + 1)))]) dX3_bestToSend_47 rfl (fx_up_1 _) (Nat.le_of_ble_eq_true rfl) rfl ?_
      refine aw_goto (tgt := 9) dX3_bestToSend_50 (by decide) ?_
      refine aw_le ?_ (ih_9_1 (j9 + 1)   (by omega))
      exact ⟨rfl, ⟨rfl, ⟨rfl, ⟨rfl, ⟨rfl, trivial⟩⟩⟩⟩⟩
  refine aw_le ?_ (loop_9_0 12 0   (by omega))
  exact ⟨rfl, ⟨rfl, ⟨rfl, ⟨rfl, ⟨rfl, trivial⟩⟩⟩⟩⟩

set_option maxHeartbeats 4000000 in
set_option maxRecDepth 100000 in
theorem c_beside0 (l : Launch) (D : va_G) (b : Nat) (N : Nat) (V : Wd) (a : Nat) (g : Nat → Int32) (ha : a < N) (hg : V a = cI D 12 g) : MI l D b 1 jX1_beside [.ref (b + a), .int 0] N V 0 0 (fun r N9 V9 => r = 0 ∧ N = N9 ∧ V = V9) := by
  refine mw_of (by decide) (by simp [Value.category]) (Nat.le_of_ble_eq_true rfl) ?_
  show AW l D b jX1_beside (fx_rm 1 0 0) none (fx_MQ D b 0 0 (fx_qi (fun r N9 V9 => r = 0 ∧ N = N9 ∧ V = V9))) 0 [some (.ref (b + a)), some (.int 0), none, none] [] N V 0 0
  refine aw_iconst (v := 0) dX1_beside_0 (by decide) ?_
  refine aw_istore_n (ls' := [some (.ref (b + a)), some (.int 0), some (.int 0), none]) dX1_beside_1 (Nat.le_of_ble_eq_true rfl) rfl ?_
  refine aw_iconst (v := 0) dX1_beside_2 (by decide) ?_
  refine aw_istore_n (ls' := [some (.ref (b + a)), some (.int 0), some (.int 0), some (.int 0)]) dX1_beside_3 (Nat.le_of_ble_eq_true rfl) rfl ?_
  have loop_4_0 : ∀ (g_4 : Nat), ∀ (j4 : Nat), j4 + g_4 = 12 → AW l D b jX1_beside (fx_rm 1 0 0) none (fx_MQ D b 0 0 (fx_qi (fun r N9 V9 => r = 0 ∧ N = N9 ∧ V = V9))) 4 [some (.ref (b + a)), some (.int 0), some (.int 0), some (.int (nI j4))] [] N V 0 0 := by
    intro g_4
    induction g_4 with
    | zero =>
      intro j4  hj4
      obtain rfl : j4 = 12 := by omega
      refine aw_iload_n dX1_beside_4 rfl ?_
      refine aw_aload_n dX1_beside_5 rfl ?_
      refine aw_alen (t0 := 0) (v := 12) dX1_beside_6 hg (by omega) rfl rfl ?_
      refine aw_icmp_ge (tgt := 30) dX1_beside_7 (by decide) (fun c_3 => ?_) (fun c_3 => ?_)
      rotate_left
      · exact absurd (nI_le (a := 12) (b := 12) (Nat.le_refl _) (by omega)) c_3
      refine aw_iload_n dX1_beside_30 rfl ?_
      refine aw_ireti dX1_beside_31 rfl (Nat.le_of_ble_eq_true rfl) (Nat.le_of_ble_eq_true rfl) ?_
      exact ⟨rfl, rfl, rfl⟩
    | succ g_4 ih_4_1 =>
      intro j4  hj4
      have hlj4 : j4 < 12 := by omega
      refine aw_iload_n dX1_beside_4 rfl ?_
      refine aw_aload_n dX1_beside_5 rfl ?_
      refine aw_alen (t0 := 0) (v := 12) dX1_beside_6 hg (by omega) rfl rfl ?_
      refine aw_icmp_ge (tgt := 30) dX1_beside_7 (by decide) (fun c_4 => ?_) (fun c_4 => ?_)
      · exact absurd c_4 (nI_ge (a := j4) (b := 12) (by omega) (by omega))
      refine aw_iload_n dX1_beside_10 rfl ?_
      refine aw_iload_n dX1_beside_11 rfl ?_
      refine aw_callSNi (J' := jX11_has) (As := [.int 0, .int (nI j4)]) (st := []) dX1_beside_12 tb_834 ok_X11_has rfl (c_has0 l D b N V (nI j4)) rfl (Nat.le_of_ble_eq_true rfl) ⟨Nat.le_of_ble_eq_true rfl, Nat.le_of_ble_eq_true rfl, Nat.le_of_ble_eq_true rfl, Nat.le_of_ble_eq_true rfl⟩ (fun r_5 N_6 V_7 q_8 => ?_)
      obtain ⟨rfl, rfl, rfl⟩ := q_8
      refine aw_if_eq (tgt := 24) dX1_beside_15 (by decide) (fun c_9 => ?_) (fun c_9 => ?_)
      rotate_left
      · exact absurd (by decide) c_9
      refine aw_iinc (v := (nI (j4 + 1))) (ls' := [some (.ref (b + a)), some (.int 0), some (.int 0), some (.int (nI (j4 + 1)))]) dX1_beside_24 rfl (fx_up_1 _) (Nat.le_of_ble_eq_true rfl) rfl ?_
      refine aw_goto (tgt := 4) dX1_beside_27 (by decide) ?_
      refine aw_le ?_ (ih_4_1 (j4 + 1)   (by omega))
      exact ⟨rfl, ⟨rfl, ⟨rfl, ⟨rfl, trivial⟩⟩⟩⟩
  refine aw_le ?_ (loop_4_0 12 0   (by omega))
  exact ⟨rfl, ⟨rfl, ⟨rfl, ⟨rfl, trivial⟩⟩⟩⟩

set_option maxHeartbeats 4000000 in
set_option maxRecDepth 100000 in
theorem c_reached0 (l : Launch) (D : va_G) (b : Nat) (N : Nat) (V : Wd) (a : Nat) (g : Nat → Int32) (ha : a < N) (hg : V a = cI D 12 g) : MI l D b 2 jX1_reached [.ref (b + a), .int 0, .int 0] N V 0 0 (fun r N9 V9 => r = 0 ∧ N = N9 ∧ V = V9) := by
  refine mw_of (by decide) (by simp [Value.category]) (Nat.le_of_ble_eq_true rfl) ?_
  show AW l D b jX1_reached (fx_rm 2 0 0) none (fx_MQ D b 0 0 (fx_qi (fun r N9 V9 => r = 0 ∧ N = N9 ∧ V = V9))) 0 [some (.ref (b + a)), some (.int 0), some (.int 0), none, none] [] N V 0 0
  refine aw_iload_n dX1_reached_0 rfl ?_
  refine aw_iload_n dX1_reached_1 rfl ?_
  refine aw_iand dX1_reached_2 ?_
  refine aw_eqi (y := 0) (by decide) ?_
  refine aw_istore_n (ls' := [some (.ref (b + a)), some (.int 0), some (.int 0), some (.int 0), none]) dX1_reached_3 (Nat.le_of_ble_eq_true rfl) rfl ?_
  refine aw_iconst (v := 0) dX1_reached_4 (by decide) ?_
  refine aw_istore (ls' := [some (.ref (b + a)), some (.int 0), some (.int 0), some (.int 0), some (.int 0)]) dX1_reached_5 (Nat.le_of_ble_eq_true rfl) rfl ?_
  have loop_7_0 : ∀ (g_7 : Nat), ∀ (j7 : Nat), j7 + g_7 = 12 → AW l D b jX1_reached (fx_rm 2 0 0) none (fx_MQ D b 0 0 (fx_qi (fun r N9 V9 => r = 0 ∧ N = N9 ∧ V = V9))) 7 [some (.ref (b + a)), some (.int 0), some (.int 0), some (.int 0), some (.int (nI j7))] [] N V 0 0 := by
    intro g_7
    induction g_7 with
    | zero =>
      intro j7  hj7
      obtain rfl : j7 = 12 := by omega
      refine aw_iload dX1_reached_7 rfl ?_
      refine aw_bipush (v := 12) dX1_reached_9 (by decide) ?_
      refine aw_icmp_ge (tgt := 30) dX1_reached_11 (by decide) (fun c_3 => ?_) (fun c_3 => ?_)
      rotate_left
      · exact absurd (nI_le (a := 12) (b := 12) (Nat.le_refl _) (by omega)) c_3
      refine aw_iload_n dX1_reached_30 rfl ?_
      refine aw_ireti dX1_reached_31 rfl (Nat.le_of_ble_eq_true rfl) (Nat.le_of_ble_eq_true rfl) ?_
      exact ⟨rfl, rfl, rfl⟩
    | succ g_7 ih_7_1 =>
      intro j7  hj7
      have hlj7 : j7 < 12 := by omega
      refine aw_iload dX1_reached_7 rfl ?_
      refine aw_bipush (v := 12) dX1_reached_9 (by decide) ?_
      refine aw_icmp_ge (tgt := 30) dX1_reached_11 (by decide) (fun c_4 => ?_) (fun c_4 => ?_)
      · exact absurd c_4 (nI_ge (a := j7) (b := 12) (by omega) (by omega))
      refine aw_iload_n dX1_reached_14 rfl ?_
      refine aw_aload_n dX1_reached_15 rfl ?_
      refine aw_iload_n dX1_reached_16 rfl ?_
      refine aw_callSi (J' := jX1_beside) (As := [.ref (b + a), .int 0]) (st := [.int 0]) dX1_reached_17 tb_900 ok_X1_beside rfl (c_beside0 l D b N V a g ha hg) rfl (Nat.le_of_ble_eq_true rfl) ⟨Nat.le_of_ble_eq_true rfl, Nat.le_of_ble_eq_true rfl, Nat.le_of_ble_eq_true rfl, Nat.le_of_ble_eq_true rfl⟩ (fun r_5 N_6 V_7 q_8 => ?_)
      obtain ⟨rfl, rfl, rfl⟩ := q_8
      refine aw_iload_n dX1_reached_20 rfl ?_
      refine aw_iand dX1_reached_21 ?_
      refine aw_eqi (y := 0) (by decide) ?_
      refine aw_ior dX1_reached_22 ?_
      refine aw_eqi (y := 0) (by decide) ?_
      refine aw_istore_n (ls' := [some (.ref (b + a)), some (.int 0), some (.int 0), some (.int 0), some (.int (nI j7))]) dX1_reached_23 (Nat.le_of_ble_eq_true rfl) rfl ?_
      refine aw_iinc (v := (nI (j7 + 1))) (ls' := [some (.ref (b + a)), some (.int 0), some (.int 0), some (.int 0), some (.int (nI (j7 + 1)))]) dX1_reached_24 rfl (fx_up_1 _) (Nat.le_of_ble_eq_true rfl) rfl ?_
      refine aw_goto (tgt := 7) dX1_reached_27 (by decide) ?_
      refine aw_le ?_ (ih_7_1 (j7 + 1)   (by omega))
      exact ⟨rfl, ⟨rfl, ⟨rfl, ⟨rfl, ⟨rfl, trivial⟩⟩⟩⟩⟩
  refine aw_le ?_ (loop_7_0 12 0   (by omega))
  exact ⟨rfl, ⟨rfl, ⟨rfl, ⟨rfl, ⟨rfl, trivial⟩⟩⟩⟩⟩

set_option maxHeartbeats 4000000 in
set_option maxRecDepth 100000 in
theorem c_holdersTogether (l : Launch) (D : va_G) (b : Nat) (c N : Nat) (V : Wd) (hN : c + 18 ≤ N) (hC : CZ D b c V) : MI l D b 3 jX1_holdersTogether [.ref (b + c)] N V 0 0 (fun r N9 V9 => r = 0 ∧ N = N9 ∧ V = V9) := by
  obtain ⟨dr, kn, df, sg, op, ni, xx, ⟨h0, h1, h2, h3, h4, h5, h6⟩, z1, z2⟩ := id hC
  refine mw_of (by decide) (by simp [Value.category]) (Nat.le_of_ble_eq_true rfl) ?_
  show AW l D b jX1_holdersTogether (fx_rm 3 0 0) none (fx_MQ D b 0 0 (fx_qi (fun r N9 V9 => r = 0 ∧ N = N9 ∧ V = V9))) 0 [some (.ref (b + c)), none, none, none, none, none] [] N V 0 0
  refine aw_iconst (v := 0) dX1_holdersTogether_0 (by decide) ?_
  refine aw_istore_n (ls' := [some (.ref (b + c)), some (.int 0), none, none, none, none]) dX1_holdersTogether_1 (Nat.le_of_ble_eq_true rfl) rfl ?_
  refine aw_iconst (v := 0) dX1_holdersTogether_2 (by decide) ?_
  refine aw_istore_n (ls' := [some (.ref (b + c)), some (.int 0), some (.int 0), none, none, none]) dX1_holdersTogether_3 (Nat.le_of_ble_eq_true rfl) rfl ?_
  have loop_4_0 : ∀ (g_4 : Nat), ∀ (j4 : Nat), j4 + g_4 = 12 → AW l D b jX1_holdersTogether (fx_rm 3 0 0) none (fx_MQ D b 0 0 (fx_qi (fun r N9 V9 => r = 0 ∧ N = N9 ∧ V = V9))) 4 [some (.ref (b + c)), some (.int 0), some (.int (nI j4)), none, none, none] [] N V 0 0 := by
    intro g_4
    induction g_4 with
    | zero =>
      intro j4  hj4
      obtain rfl : j4 = 12 := by omega
      refine aw_iload_n dX1_holdersTogether_4 rfl ?_
      refine aw_bipush (v := 12) dX1_holdersTogether_5 (by decide) ?_
      refine aw_icmp_ge (tgt := 68) dX1_holdersTogether_7 (by decide) (fun c_3 => ?_) (fun c_3 => ?_)
      rotate_left
      · exact absurd (nI_le (a := 12) (b := 12) (Nat.le_refl _) (by omega)) c_3
      refine aw_iload_n dX1_holdersTogether_68 rfl ?_
      refine aw_ireti dX1_holdersTogether_69 rfl (Nat.le_of_ble_eq_true rfl) (Nat.le_of_ble_eq_true rfl) ?_
      exact ⟨rfl, rfl, rfl⟩
    | succ g_4 ih_4_1 =>
      intro j4  hj4
      have hlj4 : j4 < 12 := by omega
      refine aw_iload_n dX1_holdersTogether_4 rfl ?_
      refine aw_bipush (v := 12) dX1_holdersTogether_5 (by decide) ?_
      refine aw_icmp_ge (tgt := 68) dX1_holdersTogether_7 (by decide) (fun c_4 => ?_) (fun c_4 => ?_)
      · exact absurd c_4 (nI_ge (a := j4) (b := 12) (by omega) (by omega))
      refine aw_aload_n dX1_holdersTogether_10 rfl ?_
      refine aw_get dX1_holdersTogether_11 fl_X1_26 h0 (by omega) rfl ?_
      refine aw_iconst (v := 1) dX1_holdersTogether_14 (by decide) ?_
      refine aw_iload_n dX1_holdersTogether_15 rfl ?_
      refine aw_ishl dX1_holdersTogether_16 ?_
      refine aw_iconst (v := (-1)) dX1_holdersTogether_17 (by decide) ?_
      refine aw_ixor dX1_holdersTogether_18 ?_
      refine aw_iand dX1_holdersTogether_19 ?_
      refine aw_eqi (y := 0) (Int32.zero_and) ?_
      refine aw_istore_n (ls' := [some (.ref (b + c)), some (.int 0), some (.int (nI j4)), some (.int 0), none, none]) dX1_holdersTogether_20 (Nat.le_of_ble_eq_true rfl) rfl ?_
      refine aw_aload_n dX1_holdersTogether_21 rfl ?_
      refine aw_iload_n dX1_holdersTogether_22 rfl ?_
      refine aw_callVi (J' := jX0_knownTo) (As := [.int (nI j4)]) (st := []) dX1_holdersTogether_23 tb_847 ok_X0_knownTo ⟨_, h0⟩ (by omega) rfl rfl (c_knownTo l D b c N V (by omega) hC (nI j4)) rfl (Nat.le_of_ble_eq_true rfl) ⟨Nat.le_of_ble_eq_true rfl, Nat.le_of_ble_eq_true rfl, Nat.le_of_ble_eq_true rfl, Nat.le_of_ble_eq_true rfl⟩ (fun r_5 N_6 V_7 q_8 => ?_)
      obtain ⟨rfl, rfl, rfl⟩ := q_8
      refine aw_iload_n dX1_holdersTogether_26 rfl ?_
      refine aw_iand dX1_holdersTogether_27 ?_
      refine aw_eqi (y := 0) (by decide) ?_
      refine aw_istore (ls' := [some (.ref (b + c)), some (.int 0), some (.int (nI j4)), some (.int 0), some (.int 0), none]) dX1_holdersTogether_28 (Nat.le_of_ble_eq_true rfl) rfl ?_
      refine aw_iload dX1_holdersTogether_30 rfl ?_
      refine aw_iload dX1_holdersTogether_32 rfl ?_
      refine aw_ineg dX1_holdersTogether_34 ?_
      refine aw_eqi (y := 0) (by decide) ?_
      refine aw_iand dX1_holdersTogether_35 ?_
      refine aw_eqi (y := 0) (by decide) ?_
      refine aw_istore (ls' := [some (.ref (b + c)), some (.int 0), some (.int (nI j4)), some (.int 0), some (.int 0), some (.int 0)]) dX1_holdersTogether_36 (Nat.le_of_ble_eq_true rfl) rfl ?_
      refine aw_iload dX1_holdersTogether_38 rfl ?_
      refine aw_aload_n dX1_holdersTogether_40 rfl ?_
      refine aw_get dX1_holdersTogether_41 fl_X1_36 h0 (by omega) rfl ?_
      refine aw_iload dX1_holdersTogether_44 rfl ?_
      refine aw_iload_n dX1_holdersTogether_46 rfl ?_
      refine aw_callSi (J' := jX1_reached) (As := [.ref (b + (c + 14)), .int 0, .int 0]) (st := [.int 0]) dX1_holdersTogether_47 tb_897 ok_X1_reached rfl (c_reached0 l D b N V (c + 14) kn (by omega) h3) rfl (Nat.le_of_ble_eq_true rfl) ⟨Nat.le_of_ble_eq_true rfl, Nat.le_of_ble_eq_true rfl, Nat.le_of_ble_eq_true rfl, Nat.le_of_ble_eq_true rfl⟩ (fun r_9 N_10 V_11 q_12 => ?_)
      obtain ⟨rfl, rfl, rfl⟩ := q_12
      refine aw_iconst (v := (-1)) dX1_holdersTogether_50 (by decide) ?_
      refine aw_ixor dX1_holdersTogether_51 ?_
      refine aw_eqi (y := (-1)) (by decide) ?_
      refine aw_iand dX1_holdersTogether_52 ?_
      refine aw_eqi (y := 0) (by decide) ?_
      refine aw_if_eq (tgt := 62) dX1_holdersTogether_53 (by decide) (fun c_13 => ?_) (fun c_13 => ?_)
      rotate_left
      · exact absurd (by decide) c_13
      refine aw_iinc (v := (nI (j4 + 1))) (ls' := [some (.ref (b + c)), some (.int 0), some (.int (nI (j4 + 1))), some (.int 0), some (.int 0), some (.int 0)]) dX1_holdersTogether_62 rfl (fx_up_1 _) (Nat.le_of_ble_eq_true rfl) rfl ?_
      refine aw_goto (tgt := 4) dX1_holdersTogether_65 (by decide) ?_
      refine aw_le ?_ (ih_4_1 (j4 + 1)   (by omega))
      exact ⟨rfl, ⟨rfl, ⟨rfl, trivial⟩⟩⟩
  refine aw_le ?_ (loop_4_0 12 0   (by omega))
  exact ⟨rfl, ⟨rfl, ⟨rfl, trivial⟩⟩⟩

set_option maxHeartbeats 4000000 in
set_option maxRecDepth 100000 in
theorem c_grownFashion0 (l : Launch) (D : va_G) (b : Nat) (c N : Nat) (V : Wd) (hN : c + 18 ≤ N) (hC : CZ D b c V) (m : Int32) (hm : 0 < m) : MI l D b 1 jX1_grownFashion [.ref (b + c), .int 0, .int m] N V 0 0 (fun r N9 V9 => r = 0 ∧ N = N9 ∧ V = V9) := by
  obtain ⟨dr, kn, df, sg, op, ni, xx, ⟨h0, h1, h2, h3, h4, h5, h6⟩, z1, z2⟩ := id hC
  refine mw_of (by decide) (by simp [Value.category]) (Nat.le_of_ble_eq_true rfl) ?_
  show AW l D b jX1_grownFashion (fx_rm 1 0 0) none (fx_MQ D b 0 0 (fx_qi (fun r N9 V9 => r = 0 ∧ N = N9 ∧ V = V9))) 0 [some (.ref (b + c)), some (.int 0), some (.int m), none, none] [] N V 0 0
  refine aw_iload_n dX1_grownFashion_0 rfl ?_
  refine aw_istore_n (ls' := [some (.ref (b + c)), some (.int 0), some (.int m), some (.int 0), none]) dX1_grownFashion_1 (Nat.le_of_ble_eq_true rfl) rfl ?_
  refine aw_iconst (v := 0) dX1_grownFashion_2 (by decide) ?_
  refine aw_istore (ls' := [some (.ref (b + c)), some (.int 0), some (.int m), some (.int 0), some (.int 0)]) dX1_grownFashion_3 (Nat.le_of_ble_eq_true rfl) rfl ?_
  have loop_5_0 : ∀ (g_5 : Nat), ∀ (j5 : Nat), j5 + g_5 = 12 → AW l D b jX1_grownFashion (fx_rm 1 0 0) none (fx_MQ D b 0 0 (fx_qi (fun r N9 V9 => r = 0 ∧ N = N9 ∧ V = V9))) 5 [some (.ref (b + c)), some (.int 0), some (.int m), some (.int 0), some (.int (nI j5))] [] N V 0 0 := by
    intro g_5
    induction g_5 with
    | zero =>
      intro j5  hj5
      obtain rfl : j5 = 12 := by omega
      refine aw_iload dX1_grownFashion_5 rfl ?_
      refine aw_bipush (v := 12) dX1_grownFashion_7 (by decide) ?_
      refine aw_icmp_ge (tgt := 40) dX1_grownFashion_9 (by decide) (fun c_3 => ?_) (fun c_3 => ?_)
      rotate_left
      · exact absurd (nI_le (a := 12) (b := 12) (Nat.le_refl _) (by omega)) c_3
      refine aw_iload_n dX1_grownFashion_40 rfl ?_
      refine aw_ireti dX1_grownFashion_41 rfl (Nat.le_of_ble_eq_true rfl) (Nat.le_of_ble_eq_true rfl) ?_
      exact ⟨rfl, rfl, rfl⟩
    | succ g_5 ih_5_1 =>
      intro j5  hj5
      have hlj5 : j5 < 12 := by omega
      refine aw_iload dX1_grownFashion_5 rfl ?_
      refine aw_bipush (v := 12) dX1_grownFashion_7 (by decide) ?_
      refine aw_icmp_ge (tgt := 40) dX1_grownFashion_9 (by decide) (fun c_4 => ?_) (fun c_4 => ?_)
      · exact absurd c_4 (nI_ge (a := j5) (b := 12) (by omega) (by omega))
      refine aw_aload_n dX1_grownFashion_12 rfl ?_
      refine aw_iload dX1_grownFashion_13 rfl ?_
      refine aw_callVi (J' := jX0_knownTo) (As := [.int (nI j5)]) (st := []) dX1_grownFashion_15 tb_847 ok_X0_knownTo ⟨_, h0⟩ (by omega) rfl rfl (c_knownTo l D b c N V (by omega) hC (nI j5)) rfl (Nat.le_of_ble_eq_true rfl) ⟨Nat.le_of_ble_eq_true rfl, Nat.le_of_ble_eq_true rfl, Nat.le_of_ble_eq_true rfl, Nat.le_of_ble_eq_true rfl⟩ (fun r_5 N_6 V_7 q_8 => ?_)
      obtain ⟨rfl, rfl, rfl⟩ := q_8
      refine aw_iload_n dX1_grownFashion_18 rfl ?_
      refine aw_iand dX1_grownFashion_19 ?_
      refine aw_eqi (y := 0) (by decide) ?_
      refine aw_callSi (J' := jJ6_bitCount_0f7a4) (As := [.int 0]) (st := []) dX1_grownFashion_20 tb_848 ok_J6_bitCount_0f7a4 rfl (c_bitCount l D b N V 0) rfl (Nat.le_of_ble_eq_true rfl) ⟨Nat.le_of_ble_eq_true rfl, Nat.le_of_ble_eq_true rfl, Nat.le_of_ble_eq_true rfl, Nat.le_of_ble_eq_true rfl⟩ (fun r_9 N_10 V_11 q_12 => ?_)
      obtain ⟨⟨hr_9, -⟩, rfl, rfl⟩ := q_12
      obtain rfl := hr_9 rfl
      refine aw_iload_n dX1_grownFashion_23 rfl ?_
      refine aw_icmp_lt (tgt := 34) dX1_grownFashion_24 (by decide) (fun c_13 => ?_) (fun c_13 => ?_)
      rotate_left
      · exact absurd hm c_13
      refine aw_iinc (v := (nI (j5 + 1))) (ls' := [some (.ref (b + c)), some (.int 0), some (.int m), some (.int 0), some (.int (nI (j5 + 1)))]) dX1_grownFashion_34 rfl (fx_up_1 _) (Nat.le_of_ble_eq_true rfl) rfl ?_
      refine aw_goto (tgt := 5) dX1_grownFashion_37 (by decide) ?_
      refine aw_le ?_ (ih_5_1 (j5 + 1)   (by omega))
      exact ⟨rfl, ⟨rfl, ⟨rfl, ⟨rfl, ⟨rfl, trivial⟩⟩⟩⟩⟩
  refine aw_le ?_ (loop_5_0 12 0   (by omega))
  exact ⟨rfl, ⟨rfl, ⟨rfl, ⟨rfl, ⟨rfl, trivial⟩⟩⟩⟩⟩

set_option maxHeartbeats 4000000 in
set_option maxRecDepth 100000 in
theorem c_circlesOf0 (l : Launch) (D : va_G) (b : Nat) (N : Nat) (V : Wd) : MI l D b 1 jX1_circlesOf [.ref (b + 94), .int 0] N V 0 0 (fun r N9 V9 => r = 0 ∧ N = N9 ∧ V = V9) := by
  refine mw_of (by decide) (by simp [Value.category]) (Nat.le_of_ble_eq_true rfl) ?_
  show AW l D b jX1_circlesOf (fx_rm 1 0 0) none (fx_MQ D b 0 0 (fx_qi (fun r N9 V9 => r = 0 ∧ N = N9 ∧ V = V9))) 0 [some (.ref (b + 94)), some (.int 0), none, none, none] [] N V 0 0
  refine aw_iconst (v := 0) dX1_circlesOf_0 (by decide) ?_
  refine aw_istore_n (ls' := [some (.ref (b + 94)), some (.int 0), some (.int 0), none, none]) dX1_circlesOf_1 (Nat.le_of_ble_eq_true rfl) rfl ?_
  refine aw_iload_n dX1_circlesOf_2 rfl ?_
  refine aw_istore_n (ls' := [some (.ref (b + 94)), some (.int 0), some (.int 0), some (.int 0), none]) dX1_circlesOf_3 (Nat.le_of_ble_eq_true rfl) rfl ?_
  refine aw_iconst (v := 0) dX1_circlesOf_4 (by decide) ?_
  refine aw_istore (ls' := [some (.ref (b + 94)), some (.int 0), some (.int 0), some (.int 0), some (.int 0)]) dX1_circlesOf_5 (Nat.le_of_ble_eq_true rfl) rfl ?_
  have loop_7_0 : ∀ (g_7 : Nat), ∀ (j7 : Nat), j7 + g_7 = 12 → AW l D b jX1_circlesOf (fx_rm 1 0 0) none (fx_MQ D b 0 0 (fx_qi (fun r N9 V9 => r = 0 ∧ N = N9 ∧ V = V9))) 7 [some (.ref (b + 94)), some (.int 0), some (.int 0), some (.int 0), some (.int (nI j7))] [] N V 0 0 := by
    intro g_7
    induction g_7 with
    | zero =>
      intro j7  hj7
      obtain rfl : j7 = 12 := by omega
      refine aw_iload dX1_circlesOf_7 rfl ?_
      refine aw_bipush (v := 12) dX1_circlesOf_9 (by decide) ?_
      refine aw_icmp_ge (tgt := 44) dX1_circlesOf_11 (by decide) (fun c_3 => ?_) (fun c_3 => ?_)
      rotate_left
      · exact absurd (nI_le (a := 12) (b := 12) (Nat.le_refl _) (by omega)) c_3
      refine aw_iload_n dX1_circlesOf_44 rfl ?_
      refine aw_ireti dX1_circlesOf_45 rfl (Nat.le_of_ble_eq_true rfl) (Nat.le_of_ble_eq_true rfl) ?_
      exact ⟨rfl, rfl, rfl⟩
    | succ g_7 ih_7_1 =>
      intro j7  hj7
      have hlj7 : j7 < 12 := by omega
      refine aw_iload dX1_circlesOf_7 rfl ?_
      refine aw_bipush (v := 12) dX1_circlesOf_9 (by decide) ?_
      refine aw_icmp_ge (tgt := 44) dX1_circlesOf_11 (by decide) (fun c_4 => ?_) (fun c_4 => ?_)
      · exact absurd c_4 (nI_ge (a := j7) (b := 12) (by omega) (by omega))
      refine aw_iload_n dX1_circlesOf_14 rfl ?_
      refine aw_iload dX1_circlesOf_15 rfl ?_
      refine aw_callSNi (J' := jX11_has) (As := [.int 0, .int (nI j7)]) (st := []) dX1_circlesOf_17 tb_834 ok_X11_has rfl (c_has0 l D b N V (nI j7)) rfl (Nat.le_of_ble_eq_true rfl) ⟨Nat.le_of_ble_eq_true rfl, Nat.le_of_ble_eq_true rfl, Nat.le_of_ble_eq_true rfl, Nat.le_of_ble_eq_true rfl⟩ (fun r_5 N_6 V_7 q_8 => ?_)
      obtain ⟨rfl, rfl, rfl⟩ := q_8
      refine aw_if_eq (tgt := 38) dX1_circlesOf_20 (by decide) (fun c_9 => ?_) (fun c_9 => ?_)
      rotate_left
      · exact absurd (by decide) c_9
      refine aw_iinc (v := (nI (j7 + 1))) (ls' := [some (.ref (b + 94)), some (.int 0), some (.int 0), some (.int 0), some (.int (nI (j7 + 1)))]) dX1_circlesOf_38 rfl (fx_up_1 _) (Nat.le_of_ble_eq_true rfl) rfl ?_
      refine aw_goto (tgt := 7) dX1_circlesOf_41 (by decide) ?_
      refine aw_le ?_ (ih_7_1 (j7 + 1)   (by omega))
      exact ⟨rfl, ⟨rfl, ⟨rfl, ⟨rfl, ⟨rfl, trivial⟩⟩⟩⟩⟩
  refine aw_le ?_ (loop_7_0 12 0   (by omega))
  exact ⟨rfl, ⟨rfl, ⟨rfl, ⟨rfl, ⟨rfl, trivial⟩⟩⟩⟩⟩
