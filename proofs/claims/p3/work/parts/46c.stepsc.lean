set_option maxHeartbeats 4000000 in
set_option maxRecDepth 100000 in
theorem g_X11_hasS4 (l : Launch) (D : va_G) (b : Nat) (N : Nat) (V : Wd) (hN : 100 ≤ N) (hW : CW D b V) (n0 : Int32) (n1 : Int32) (hk : 0 ≤ n1 ∧ n1 < 32) : MI l D b 0 jX11_has [.int n0, .int n1] N V 0 0 (fun r N9 V9 => ((r = 0 ∨ r = 1) ∧ ((bt n0 n1 = true ∧ r = 1) ∨ (bt n0 n1 = false ∧ r = 0))) ∧ N = N9 ∧ V = V9) := by
  have hJ0 : JW D b N [] V V := JW.rf hW
  refine mw_of (by decide) (by simp [Value.category]) (Nat.le_of_ble_eq_true rfl) ?_
  show AW l D b jX11_has (fx_rm 0 0 0) none (fx_MQ D b 0 0 (fx_qi (fun r N9 V9 => ((r = 0 ∨ r = 1) ∧ ((bt n0 n1 = true ∧ r = 1) ∨ (bt n0 n1 = false ∧ r = 0))) ∧ N = N9 ∧ V = V9))) 0 [some (.int n0), some (.int n1)] [] N V 0 0
  refine aw_iload_n dX11_has_0 rfl ?_
  refine aw_if_lt (tgt := 22) dX11_has_1 (by decide) (fun c_1 => ?_) (fun c_1 => ?_)
  · exact absurd c_1 (Int32.not_lt.mpr hk.1)
  refine aw_iload_n dX11_has_4 rfl ?_
  refine aw_bipush (v := 32) dX11_has_5 (by decide) ?_
  refine aw_icmp_ge (tgt := 22) dX11_has_7 (by decide) (fun c_2 => ?_) (fun c_2 => ?_)
  · exact absurd hk.2 (Int32.not_lt.mpr c_2)
  refine aw_iload_n dX11_has_10 rfl ?_
  refine aw_iload_n dX11_has_11 rfl ?_
  refine aw_ishr dX11_has_12 ?_
  refine aw_iconst (v := 1) dX11_has_13 (by decide) ?_
  refine aw_iand dX11_has_14 ?_
  refine aw_if_eq (tgt := 22) dX11_has_15 (by decide) (fun c_3 => ?_) (fun c_3 => ?_)
  · skip
    refine aw_iconst (v := 0) dX11_has_22 (by decide) ?_
    refine aw_zreti dX11_has_23 rfl (by first | exact Or.inl rfl | exact Or.inr rfl | assumption) (Nat.le_of_ble_eq_true rfl) (Nat.le_of_ble_eq_true rfl) ?_
    exact ⟨⟨(by first | exact Or.inl rfl | exact Or.inr rfl | assumption), Or.inr ⟨bt_f c_3, rfl⟩⟩, rfl, rfl⟩
  · skip
    refine aw_iconst (v := 1) dX11_has_18 (by decide) ?_
    refine aw_goto (tgt := 23) dX11_has_19 (by decide) ?_
    refine aw_zreti dX11_has_23 rfl (by first | exact Or.inl rfl | exact Or.inr rfl | assumption) (Nat.le_of_ble_eq_true rfl) (Nat.le_of_ble_eq_true rfl) ?_
    exact ⟨⟨(by first | exact Or.inl rfl | exact Or.inr rfl | assumption), Or.inl ⟨bt_t c_3, rfl⟩⟩, rfl, rfl⟩

set_option maxHeartbeats 4000000 in
set_option maxRecDepth 100000 in
theorem g_X1_besideS (l : Launch) (D : va_G) (b : Nat) (N : Nat) (V : Wd) (hN : 100 ≤ N) (hW : CW D b V) (a : Nat) (ha : (ctL D b)[a]? = some (isI D 12)) (n0 : Int32) (kn : Nat → Nat) (hk : ∀ i, i < 12 → kn i < 4096 ∧ fI (V a) i = nI (kn i)) (s9 : Nat) (hs9 : s9 < 4096) (e09 : n0 = nI s9) : MI l D b 1 jX1_beside [.ref (b + a), .int n0] N V 0 0 (fun r N9 V9 => (r = nI (bs kn s9 12)) ∧ N = N9 ∧ V = V9) := by
  subst e09
  have hJ0 : JW D b N [] V V := JW.rf hW
  have hlt_a := ct_lt ha
  refine mw_of (by decide) (by simp [Value.category]) (Nat.le_of_ble_eq_true rfl) ?_
  show AW l D b jX1_beside (fx_rm 1 0 0) none (fx_MQ D b 0 0 (fx_qi (fun r N9 V9 => (r = nI (bs kn s9 12)) ∧ N = N9 ∧ V = V9))) 0 [some (.ref (b + a)), some (.int (nI s9)), none, none] [] N V 0 0
  refine aw_iconst (v := 0) dX1_beside_0 (by decide) ?_
  refine aw_istore_n (ls' := [some (.ref (b + a)), some (.int (nI s9)), some (.int 0), none]) dX1_beside_1 (Nat.le_of_ble_eq_true rfl) rfl ?_
  refine aw_iconst (v := 0) dX1_beside_2 (by decide) ?_
  refine aw_istore_n (ls' := [some (.ref (b + a)), some (.int (nI s9)), some (.int 0), some (.int 0)]) dX1_beside_3 (Nat.le_of_ble_eq_true rfl) rfl ?_
  obtain ⟨g_1, e_1⟩ := JW.get hJ0 ha
  have loop_4_1 : ∀ (g_4 : Nat), ∀ (j4 : Nat) (v4_2 : Int32), j4 + g_4 = 12 → (v4_2 = nI (bs kn s9 j4)) → AW l D b jX1_beside (fx_rm 1 0 0) none (fx_MQ D b 0 0 (fx_qi (fun r N9 V9 => (r = nI (bs kn s9 12)) ∧ N = N9 ∧ V = V9))) 4 [some (.ref (b + a)), some (.int (nI s9)), some (.int v4_2), some (.int (nI j4))] [] N V 0 0 := by
    intro g_4
    induction g_4 with
    | zero =>
      intro j4 v4_2 hj4 i4_0
      obtain rfl : j4 = 12 := by omega
      refine aw_iload_n dX1_beside_4 rfl ?_
      refine aw_aload_n dX1_beside_5 rfl ?_
      refine aw_alen (t0 := 0) (v := 12) dX1_beside_6 e_1 (by omega) rfl rfl ?_
      refine aw_icmp_ge (tgt := 30) dX1_beside_7 (by decide) (fun c_4 => ?_) (fun c_4 => ?_)
      rotate_left
      · exact absurd (nI_le (a := 12) (b := 12) (Nat.le_refl _) (by omega)) c_4
      refine aw_iload_n dX1_beside_30 rfl ?_
      refine aw_ireti dX1_beside_31 rfl (Nat.le_of_ble_eq_true rfl) (Nat.le_of_ble_eq_true rfl) ?_
      exact ⟨i4_0, rfl, rfl⟩
    | succ g_4 ih_4_2 =>
      intro j4 v4_2 hj4 i4_0
      have hlj4 : j4 < 12 := by omega
      refine aw_iload_n dX1_beside_4 rfl ?_
      refine aw_aload_n dX1_beside_5 rfl ?_
      refine aw_alen (t0 := 0) (v := 12) dX1_beside_6 e_1 (by omega) rfl rfl ?_
      refine aw_icmp_ge (tgt := 30) dX1_beside_7 (by decide) (fun c_5 => ?_) (fun c_5 => ?_)
      · exact absurd c_5 (nI_ge (a := j4) (b := 12) (by omega) (by omega))
      refine aw_iload_n dX1_beside_10 rfl ?_
      refine aw_iload_n dX1_beside_11 rfl ?_
      refine aw_callSNi (J' := jX11_has) (As := [.int (nI s9), .int (nI j4)]) (st := []) dX1_beside_12 tb_834 ok_X11_has rfl (g_X11_hasS4 l D b N V hN hJ0.1 (nI s9) (nI j4) ⟨nI_pos' (by omega), (nI_ltI (b := 32) (by omega) (by omega)).mpr (by omega)⟩) rfl (Nat.le_of_ble_eq_true rfl) ⟨Nat.le_of_ble_eq_true rfl, Nat.le_of_ble_eq_true rfl, Nat.le_of_ble_eq_true rfl, Nat.le_of_ble_eq_true rfl⟩ (fun r_9 N_10 V_11 q_12 => ?_)
      obtain ⟨⟨z_8, h_7⟩, rfl, rfl⟩ := q_12
      rcases h_7 with ⟨hy_13, e_14⟩ | ⟨hn_15, e_16⟩
      · skip
        refine aw_eqi (y := 1) e_14 ?_
        refine aw_if_eq (tgt := 24) dX1_beside_15 (by decide) (fun c_17 => ?_) (fun c_17 => ?_)
        · exact absurd c_17 (by decide)
        refine aw_iload_n dX1_beside_18 rfl ?_
        refine aw_aload_n dX1_beside_19 rfl ?_
        refine aw_iload_n dX1_beside_20 rfl ?_
        refine aw_iald (v := (g_1 j4)) dX1_beside_21 e_1 (by omega) (vp_in_nI (n := j4) (by omega) (by omega)) (congrArg g_1 (nI_clamp (n := j4) (by omega))) ?_
        refine aw_ior dX1_beside_22 ?_
        refine aw_istore_n (ls' := [some (.ref (b + a)), some (.int (nI s9)), some (.int (v4_2 ||| (g_1 j4))), some (.int (nI j4))]) dX1_beside_23 (Nat.le_of_ble_eq_true rfl) rfl ?_
        refine aw_iinc (v := (nI (j4 + 1))) (ls' := [some (.ref (b + a)), some (.int (nI s9)), some (.int (v4_2 ||| (g_1 j4))), some (.int (nI (j4 + 1)))]) dX1_beside_24 rfl (fx_up_1 _) (Nat.le_of_ble_eq_true rfl) rfl ?_
        refine aw_goto (tgt := 4) dX1_beside_27 (by decide) ?_
        refine aw_le ?_ (ih_4_2 (j4 + 1) (v4_2 ||| (g_1 j4))  (by omega) (bs_yes hs9 (by omega) i4_0 (((congrArg (fun z => fI z j4) e_1).symm.trans (hk j4 (by omega)).2) : (g_1 j4) = nI (kn j4)) hy_13))
        exact ⟨rfl, ⟨rfl, ⟨rfl, ⟨rfl, trivial⟩⟩⟩⟩
      · skip
        refine aw_eqi (y := 0) e_16 ?_
        refine aw_if_eq (tgt := 24) dX1_beside_15 (by decide) (fun c_18 => ?_) (fun c_18 => ?_)
        rotate_left
        · exact absurd (by decide) c_18
        refine aw_iinc (v := (nI (j4 + 1))) (ls' := [some (.ref (b + a)), some (.int (nI s9)), some (.int v4_2), some (.int (nI (j4 + 1)))]) dX1_beside_24 rfl (fx_up_1 _) (Nat.le_of_ble_eq_true rfl) rfl ?_
        refine aw_goto (tgt := 4) dX1_beside_27 (by decide) ?_
        refine aw_le ?_ (ih_4_2 (j4 + 1) v4_2  (by omega) (bs_not hs9 (by omega) i4_0 hn_15))
        exact ⟨rfl, ⟨rfl, ⟨rfl, ⟨rfl, trivial⟩⟩⟩⟩
  refine aw_le ?_ (loop_4_1 12 0 0  (by omega) (rfl))
  exact ⟨rfl, ⟨rfl, ⟨rfl, ⟨rfl, trivial⟩⟩⟩⟩

set_option maxHeartbeats 4000000 in
set_option maxRecDepth 100000 in
theorem g_X1_stepsBetweenS (l : Launch) (D : va_G) (b : Nat) (N : Nat) (V : Wd) (hN : 100 ≤ N) (hW : CW D b V) (c : Nat) (hc : c = 3 ∨ c = 21 ∨ c = 39 ∨ c = 74) (n0 : Int32) (n1 : Int32) (kn : Nat → Nat) (hk : ∀ i, i < 12 → kn i < 4096 ∧ fI (V (c + 14)) i = nI (kn i)) (p9 q9 : Nat) (hp9 : p9 < 12) (hq9 : q9 < 12) (e09 : n0 = nI p9) (e19 : n1 = nI q9) : MI l D b 2 jX1_stepsBetween [.ref (b + c), .int n0, .int n1] N V 0 0 (fun r N9 V9 => (STA kn p9 q9 r) ∧ N = N9 ∧ V = V9) := by
  subst e09
  subst e19
  have hJ0 : JW D b N [] V V := JW.rf hW
  refine mw_of (by decide) (by simp [Value.category]) (Nat.le_of_ble_eq_true rfl) ?_
  show AW l D b jX1_stepsBetween (fx_rm 2 0 0) none (fx_MQ D b 0 0 (fx_qi (fun r N9 V9 => (STA kn p9 q9 r) ∧ N = N9 ∧ V = V9))) 0 [some (.ref (b + c)), some (.int (nI p9)), some (.int (nI q9)), none, none] [] N V 0 0
  refine aw_iconst (v := 1) dX1_stepsBetween_0 (by decide) ?_
  refine aw_iload_n dX1_stepsBetween_1 rfl ?_
  refine aw_ishl dX1_stepsBetween_2 ?_
  refine aw_eqi (y := (nI (2 ^ p9))) (fx_shl12 p9 (by omega)) ?_
  refine aw_istore_n (ls' := [some (.ref (b + c)), some (.int (nI p9)), some (.int (nI q9)), some (.int (nI (2 ^ p9))), none]) dX1_stepsBetween_3 (Nat.le_of_ble_eq_true rfl) rfl ?_
  refine aw_iconst (v := 0) dX1_stepsBetween_4 (by decide) ?_
  refine aw_istore (ls' := [some (.ref (b + c)), some (.int (nI p9)), some (.int (nI q9)), some (.int (nI (2 ^ p9))), some (.int 0)]) dX1_stepsBetween_5 (Nat.le_of_ble_eq_true rfl) rfl ?_
  have loop_7_0 : ∀ (g_7 : Nat), ∀ (j7 : Nat) (v7_3 : Int32), j7 + g_7 = 12 → (v7_3 = nI (itm kn 4095 j7 (2 ^ p9))) → (∀ i, i < j7 → (itm kn 4095 i (2 ^ p9)).testBit q9 = false) → AW l D b jX1_stepsBetween (fx_rm 2 0 0) none (fx_MQ D b 0 0 (fx_qi (fun r N9 V9 => (STA kn p9 q9 r) ∧ N = N9 ∧ V = V9))) 7 [some (.ref (b + c)), some (.int (nI p9)), some (.int (nI q9)), some (.int v7_3), some (.int (nI j7))] [] N V 0 0 := by
    intro g_7
    induction g_7 with
    | zero =>
      intro j7 v7_3 hj7 i7_0 i7_1
      obtain rfl : j7 = 12 := by omega
      refine aw_iload dX1_stepsBetween_7 rfl ?_
      refine aw_bipush (v := 12) dX1_stepsBetween_9 (by decide) ?_
      refine aw_icmp_ge (tgt := 42) dX1_stepsBetween_11 (by decide) (fun c_3 => ?_) (fun c_3 => ?_)
      rotate_left
      · exact absurd (nI_le (a := 12) (b := 12) (Nat.le_refl _) (by omega)) c_3
      refine aw_bipush (v := (-2)) dX1_stepsBetween_42 (by decide) ?_
      refine aw_ireti dX1_stepsBetween_44 rfl (Nat.le_of_ble_eq_true rfl) (Nat.le_of_ble_eq_true rfl) ?_
      exact ⟨Or.inr ⟨rfl, it12 (fun i hi => (hk i hi).1) hp9 hq9 i7_1⟩, rfl, rfl⟩
    | succ g_7 ih_7_1 =>
      intro j7 v7_3 hj7 i7_0 i7_1
      have hlj7 : j7 < 12 := by omega
      refine aw_iload dX1_stepsBetween_7 rfl ?_
      refine aw_bipush (v := 12) dX1_stepsBetween_9 (by decide) ?_
      refine aw_icmp_ge (tgt := 42) dX1_stepsBetween_11 (by decide) (fun c_4 => ?_) (fun c_4 => ?_)
      · exact absurd c_4 (nI_ge (a := j7) (b := 12) (by omega) (by omega))
      refine aw_iload_n dX1_stepsBetween_14 rfl ?_
      refine aw_iload_n dX1_stepsBetween_15 rfl ?_
      refine aw_callSNi (J' := jX11_has) (As := [.int v7_3, .int (nI q9)]) (st := []) dX1_stepsBetween_16 tb_834 ok_X11_has rfl (g_X11_hasS4 l D b N V hN hJ0.1 v7_3 (nI q9) ⟨nI_pos' (by omega), (nI_ltI (b := 32) (by omega) (by omega)).mpr (by omega)⟩) rfl (Nat.le_of_ble_eq_true rfl) ⟨Nat.le_of_ble_eq_true rfl, Nat.le_of_ble_eq_true rfl, Nat.le_of_ble_eq_true rfl, Nat.le_of_ble_eq_true rfl⟩ (fun r_8 N_9 V_10 q_11 => ?_)
      obtain ⟨⟨z_7, h_6⟩, rfl, rfl⟩ := q_11
      rcases h_6 with ⟨hy_12, e_13⟩ | ⟨hn_14, e_15⟩
      · skip
        refine aw_eqi (y := 1) e_13 ?_
        refine aw_if_eq (tgt := 25) dX1_stepsBetween_19 (by decide) (fun c_16 => ?_) (fun c_16 => ?_)
        · exact absurd c_16 (by decide)
        refine aw_iload dX1_stepsBetween_22 rfl ?_
        refine aw_ireti dX1_stepsBetween_24 rfl (Nat.le_of_ble_eq_true rfl) (Nat.le_of_ble_eq_true rfl) ?_
        exact ⟨Or.inl ⟨j7, by omega, rfl, bt_it i7_0 (itm_lt (fun i hi => (hk i hi).1) (fx_pow12 hp9) j7) hq9 hy_12, i7_1⟩, rfl, rfl⟩
      · skip
        refine aw_eqi (y := 0) e_15 ?_
        refine aw_if_eq (tgt := 25) dX1_stepsBetween_19 (by decide) (fun c_17 => ?_) (fun c_17 => ?_)
        rotate_left
        · exact absurd (by decide) c_17
        refine aw_iload_n dX1_stepsBetween_25 rfl ?_
        refine aw_aload_n dX1_stepsBetween_26 rfl ?_
        obtain ⟨pe_18, dd_18, ni_18, xx_18, e_18⟩ := JW.get hJ0 (ctc_0 hc)
        refine aw_get dX1_stepsBetween_27 fl_X1_36 e_18 (by omega) rfl ?_
        refine aw_iload_n dX1_stepsBetween_30 rfl ?_
        refine aw_callSi (J' := jX1_beside) (As := [.ref (b + (c + 14)), .int v7_3]) (st := [.int v7_3]) dX1_stepsBetween_31 tb_900 ok_X1_beside rfl (g_X1_besideS l D b N V hN hJ0.1 (c + 14) (ctc_14 hc) v7_3 kn hk (itm kn 4095 j7 (2 ^ p9)) (itm_lt (fun i hi => (hk i hi).1) (fx_pow12 hp9) j7) i7_0) rfl (Nat.le_of_ble_eq_true rfl) ⟨Nat.le_of_ble_eq_true rfl, Nat.le_of_ble_eq_true rfl, Nat.le_of_ble_eq_true rfl, Nat.le_of_ble_eq_true rfl⟩ (fun r_21 N_22 V_23 q_24 => ?_)
        obtain ⟨h_20, rfl, rfl⟩ := q_24
        refine aw_ior dX1_stepsBetween_34 ?_
        refine aw_istore_n (ls' := [some (.ref (b + c)), some (.int (nI p9)), some (.int (nI q9)), some (.int (v7_3 ||| r_21)), some (.int (nI j7))]) dX1_stepsBetween_35 (Nat.le_of_ble_eq_true rfl) rfl ?_
        refine aw_iinc (v := (nI (j7 + 1))) (ls' := [some (.ref (b + c)), some (.int (nI p9)), some (.int (nI q9)), some (.int (v7_3 ||| r_21)), some (.int (nI (j7 + 1)))]) dX1_stepsBetween_36 rfl (fx_up_1 _) (Nat.le_of_ble_eq_true rfl) rfl ?_
        refine aw_goto (tgt := 7) dX1_stepsBetween_39 (by decide) ?_
        refine aw_le ?_ (ih_7_1 (j7 + 1) (v7_3 ||| r_21)  (by omega) (it_next (fun i hi => (hk i hi).1) (itm_lt (fun i hi => (hk i hi).1) (fx_pow12 hp9) j7) i7_0 h_20) (it_lt i7_1 (bt_it i7_0 (itm_lt (fun i hi => (hk i hi).1) (fx_pow12 hp9) j7) hq9 hn_14)))
        exact ⟨rfl, ⟨rfl, ⟨rfl, ⟨rfl, ⟨rfl, trivial⟩⟩⟩⟩⟩
  refine aw_le ?_ (loop_7_0 12 0 (nI (2 ^ p9))  (by omega) (rfl) (fun i h => absurd h (Nat.not_lt_zero i)))
  exact ⟨rfl, ⟨rfl, ⟨rfl, ⟨rfl, ⟨rfl, trivial⟩⟩⟩⟩⟩

set_option maxHeartbeats 4000000 in
set_option maxRecDepth 100000 in
theorem g_X11_stepsS (l : Launch) (D : va_G) (b : Nat) (N : Nat) (V : Wd) (hN : 100 ≤ N) (hW : CW D b V) (n0 : Int32) (n1 : Int32) (kn : Nat → Nat) (hk : ∀ i, i < 12 → kn i < 4096 ∧ fI (V 17) i = nI (kn i)) : MI l D b 3 jX11_steps [.ref (b + 0), .int n0, .int n1] N V 0 0 (fun r N9 V9 => (STP kn (fI (V 3) 5) n0 n1 r) ∧ N = N9 ∧ V = V9) := by
  have hJ0 : JW D b N [] V V := JW.rf hW
  refine mw_of (by decide) (by simp [Value.category]) (Nat.le_of_ble_eq_true rfl) ?_
  show AW l D b jX11_steps (fx_rm 3 0 0) none (fx_MQ D b 0 0 (fx_qi (fun r N9 V9 => (STP kn (fI (V 3) 5) n0 n1 r) ∧ N = N9 ∧ V = V9))) 0 [some (.ref (b + 0)), some (.int n0), some (.int n1)] [] N V 0 0
  refine aw_aload_n dX11_steps_0 rfl ?_
  obtain ⟨ek_1, x_1, y_1, e_1, hx_1, hy_1⟩ := JW.get hJ0 ct_0
  refine aw_get dX11_steps_1 fl_X11_19 e_1 (by omega) rfl ?_
  refine aw_iload_n dX11_steps_4 rfl ?_
  obtain ⟨pe_5, dd_5, ni_5, xx_5, e_5⟩ := JW.get hJ0 (ctc_0 cA_3)
  refine aw_callVi (J' := jX0_isPerson) (As := [.int n0]) (st := []) dX11_steps_5 tb_745 ok_X0_isPerson ⟨_, e_5⟩ (by omega) rfl rfl (g_X0_isPersonS l D b N V hN hJ0.1 3 cA_3 n0 (fI (V 3) 5) (Eq.refl (fI (V 3) 5))) rfl (Nat.le_of_ble_eq_true rfl) ⟨Nat.le_of_ble_eq_true rfl, Nat.le_of_ble_eq_true rfl, Nat.le_of_ble_eq_true rfl, Nat.le_of_ble_eq_true rfl⟩ (fun r_6 N_7 V_8 q_9 => ?_)
  obtain ⟨⟨z_4, h_3⟩, rfl, rfl⟩ := q_9
  rcases h_3 with ⟨hy_10, e_11⟩ | ⟨hn_12, e_13⟩
  · skip
    refine aw_eqi (y := 1) e_11 ?_
    refine aw_if_eq (tgt := 22) dX11_steps_8 (by decide) (fun c_14 => ?_) (fun c_14 => ?_)
    · exact absurd c_14 (by decide)
    refine aw_aload_n dX11_steps_11 rfl ?_
    refine aw_get dX11_steps_12 fl_X11_19 e_1 (by omega) rfl ?_
    refine aw_iload_n dX11_steps_15 rfl ?_
    refine aw_callVi (J' := jX0_isPerson) (As := [.int n1]) (st := []) dX11_steps_16 tb_745 ok_X0_isPerson ⟨_, e_5⟩ (by omega) rfl rfl (g_X0_isPersonS l D b N V hN hJ0.1 3 cA_3 n1 (fI (V 3) 5) (Eq.refl (fI (V 3) 5))) rfl (Nat.le_of_ble_eq_true rfl) ⟨Nat.le_of_ble_eq_true rfl, Nat.le_of_ble_eq_true rfl, Nat.le_of_ble_eq_true rfl, Nat.le_of_ble_eq_true rfl⟩ (fun r_18 N_19 V_20 q_21 => ?_)
    obtain ⟨⟨z_17, h_16⟩, rfl, rfl⟩ := q_21
    rcases h_16 with ⟨hy_22, e_23⟩ | ⟨hn_24, e_25⟩
    · skip
      refine aw_eqi (y := 1) e_23 ?_
      refine aw_if_ne (tgt := 24) dX11_steps_19 (by decide) (fun c_26 => ?_) (fun c_26 => ?_)
      rotate_left
      · exact absurd c_26 (by decide)
      refine aw_aload_n dX11_steps_24 rfl ?_
      refine aw_get dX11_steps_25 fl_X11_19 e_1 (by omega) rfl ?_
      refine aw_iload_n dX11_steps_28 rfl ?_
      refine aw_iload_n dX11_steps_29 rfl ?_
      obtain ⟨p9, hp9, ep9⟩ := told_nat hy_10
      obtain ⟨q9, hq9, eq9⟩ := told_nat hy_22
      refine aw_callSi (J' := jX1_stepsBetween) (As := [.ref (b + 3), .int n0, .int n1]) (st := []) dX11_steps_30 tb_915 ok_X1_stepsBetween rfl (g_X1_stepsBetweenS l D b N V hN hJ0.1 3 cA_3 n0 n1 kn hk p9 q9 hp9 hq9 ep9 eq9) rfl (Nat.le_of_ble_eq_true rfl) ⟨Nat.le_of_ble_eq_true rfl, Nat.le_of_ble_eq_true rfl, Nat.le_of_ble_eq_true rfl, Nat.le_of_ble_eq_true rfl⟩ (fun r_29 N_30 V_31 q_32 => ?_)
      obtain ⟨h_28, rfl, rfl⟩ := q_32
      refine aw_ireti dX11_steps_33 rfl (Nat.le_of_ble_eq_true rfl) (Nat.le_of_ble_eq_true rfl) ?_
      exact ⟨Or.inl ⟨hy_10, hy_22, p9, q9, hp9, hq9, ep9, eq9, h_28⟩, rfl, rfl⟩
    · skip
      refine aw_eqi (y := 0) e_25 ?_
      refine aw_if_ne (tgt := 24) dX11_steps_19 (by decide) (fun c_33 => ?_) (fun c_33 => ?_)
      · exact absurd rfl c_33
      refine aw_iconst (v := (-1)) dX11_steps_22 (by decide) ?_
      refine aw_ireti dX11_steps_23 rfl (Nat.le_of_ble_eq_true rfl) (Nat.le_of_ble_eq_true rfl) ?_
      exact ⟨Or.inr ⟨fun z => bool_tf z.2 hn_24, rfl⟩, rfl, rfl⟩
  · skip
    refine aw_eqi (y := 0) e_13 ?_
    refine aw_if_eq (tgt := 22) dX11_steps_8 (by decide) (fun c_34 => ?_) (fun c_34 => ?_)
    rotate_left
    · exact absurd (by decide) c_34
    refine aw_iconst (v := (-1)) dX11_steps_22 (by decide) ?_
    refine aw_ireti dX11_steps_23 rfl (Nat.le_of_ble_eq_true rfl) (Nat.le_of_ble_eq_true rfl) ?_
    exact ⟨Or.inr ⟨fun z => bool_tf z.1 hn_12, rfl⟩, rfl, rfl⟩

