set_option maxHeartbeats 4000000 in
set_option maxRecDepth 100000 in
theorem g_X1_reachedS (l : Launch) (D : va_G) (b : Nat) (N : Nat) (V : Wd) (hN : 100 ≤ N) (hW : CW D b V) (a : Nat) (ha : (ctL D b)[a]? = some (isI D 12)) (n0 : Int32) (n1 : Int32) (kn : Nat → Nat) (hk : ∀ i, i < 12 → kn i < 4096 ∧ fI (V a) i = nI (kn i)) (g9 m9 : Nat) (hg9 : g9 < 4096) (e09 : n0 = nI g9) (e19 : n1 = nI m9) : MI l D b 2 jX1_reached [.ref (b + a), .int n0, .int n1] N V 0 0 (fun r N9 V9 => (r = nI (clo kn m9 (g9 &&& m9))) ∧ N = N9 ∧ V = V9) := by
  subst e09
  subst e19
  have hJ0 : JW D b N [] V V := JW.rf hW
  have hlt_a := ct_lt ha
  refine mw_of (by decide) (by simp [Value.category]) (Nat.le_of_ble_eq_true rfl) ?_
  show AW l D b jX1_reached (fx_rm 2 0 0) none (fx_MQ D b 0 0 (fx_qi (fun r N9 V9 => (r = nI (clo kn m9 (g9 &&& m9))) ∧ N = N9 ∧ V = V9))) 0 [some (.ref (b + a)), some (.int (nI g9)), some (.int (nI m9)), none, none] [] N V 0 0
  refine aw_iload_n dX1_reached_0 rfl ?_
  refine aw_iload_n dX1_reached_1 rfl ?_
  refine aw_iand dX1_reached_2 ?_
  refine aw_eqi (y := (nI (g9 &&& m9))) (fx_andI _ _) ?_
  refine aw_istore_n (ls' := [some (.ref (b + a)), some (.int (nI g9)), some (.int (nI m9)), some (.int (nI (g9 &&& m9))), none]) dX1_reached_3 (Nat.le_of_ble_eq_true rfl) rfl ?_
  refine aw_iconst (v := 0) dX1_reached_4 (by decide) ?_
  refine aw_istore (ls' := [some (.ref (b + a)), some (.int (nI g9)), some (.int (nI m9)), some (.int (nI (g9 &&& m9))), some (.int 0)]) dX1_reached_5 (Nat.le_of_ble_eq_true rfl) rfl ?_
  have loop_7_0 : ∀ (g_7 : Nat), ∀ (j7 : Nat) (v7_3 : Int32), j7 + g_7 = 12 → (v7_3 = nI (itm kn m9 j7 (g9 &&& m9))) → AW l D b jX1_reached (fx_rm 2 0 0) none (fx_MQ D b 0 0 (fx_qi (fun r N9 V9 => (r = nI (clo kn m9 (g9 &&& m9))) ∧ N = N9 ∧ V = V9))) 7 [some (.ref (b + a)), some (.int (nI g9)), some (.int (nI m9)), some (.int v7_3), some (.int (nI j7))] [] N V 0 0 := by
    intro g_7
    induction g_7 with
    | zero =>
      intro j7 v7_3 hj7 i7_0
      obtain rfl : j7 = 12 := by omega
      refine aw_iload dX1_reached_7 rfl ?_
      refine aw_bipush (v := 12) dX1_reached_9 (by decide) ?_
      refine aw_icmp_ge (tgt := 30) dX1_reached_11 (by decide) (fun c_3 => ?_) (fun c_3 => ?_)
      rotate_left
      · exact absurd (nI_le (a := 12) (b := 12) (Nat.le_refl _) (by omega)) c_3
      refine aw_iload_n dX1_reached_30 rfl ?_
      refine aw_ireti dX1_reached_31 rfl (Nat.le_of_ble_eq_true rfl) (Nat.le_of_ble_eq_true rfl) ?_
      exact ⟨i7_0, rfl, rfl⟩
    | succ g_7 ih_7_1 =>
      intro j7 v7_3 hj7 i7_0
      have hlj7 : j7 < 12 := by omega
      refine aw_iload dX1_reached_7 rfl ?_
      refine aw_bipush (v := 12) dX1_reached_9 (by decide) ?_
      refine aw_icmp_ge (tgt := 30) dX1_reached_11 (by decide) (fun c_4 => ?_) (fun c_4 => ?_)
      · exact absurd c_4 (nI_ge (a := j7) (b := 12) (by omega) (by omega))
      refine aw_iload_n dX1_reached_14 rfl ?_
      refine aw_aload_n dX1_reached_15 rfl ?_
      refine aw_iload_n dX1_reached_16 rfl ?_
      refine aw_callSi (J' := jX1_beside) (As := [.ref (b + a), .int v7_3]) (st := [.int v7_3]) dX1_reached_17 tb_900 ok_X1_beside rfl (g_X1_besideS l D b N V hN hJ0.1 a ha v7_3 kn hk (itm kn m9 j7 (g9 &&& m9)) (itm_lt (fun i hi => (hk i hi).1) (Nat.lt_of_le_of_lt Nat.and_le_left hg9) j7) i7_0) rfl (Nat.le_of_ble_eq_true rfl) ⟨Nat.le_of_ble_eq_true rfl, Nat.le_of_ble_eq_true rfl, Nat.le_of_ble_eq_true rfl, Nat.le_of_ble_eq_true rfl⟩ (fun r_7 N_8 V_9 q_10 => ?_)
      obtain ⟨h_6, rfl, rfl⟩ := q_10
      refine aw_iload_n dX1_reached_20 rfl ?_
      refine aw_iand dX1_reached_21 ?_
      refine aw_ior dX1_reached_22 ?_
      refine aw_istore_n (ls' := [some (.ref (b + a)), some (.int (nI g9)), some (.int (nI m9)), some (.int (v7_3 ||| (r_7 &&& (nI m9)))), some (.int (nI j7))]) dX1_reached_23 (Nat.le_of_ble_eq_true rfl) rfl ?_
      refine aw_iinc (v := (nI (j7 + 1))) (ls' := [some (.ref (b + a)), some (.int (nI g9)), some (.int (nI m9)), some (.int (v7_3 ||| (r_7 &&& (nI m9)))), some (.int (nI (j7 + 1)))]) dX1_reached_24 rfl (fx_up_1 _) (Nat.le_of_ble_eq_true rfl) rfl ?_
      refine aw_goto (tgt := 7) dX1_reached_27 (by decide) ?_
      refine aw_le ?_ (ih_7_1 (j7 + 1) (v7_3 ||| (r_7 &&& (nI m9)))  (by omega) (rch_next i7_0 h_6))
      exact ⟨rfl, ⟨rfl, ⟨rfl, ⟨rfl, ⟨rfl, trivial⟩⟩⟩⟩⟩
  refine aw_le ?_ (loop_7_0 12 0 (nI (g9 &&& m9))  (by omega) (rfl))
  exact ⟨rfl, ⟨rfl, ⟨rfl, ⟨rfl, ⟨rfl, trivial⟩⟩⟩⟩⟩

set_option maxHeartbeats 4000000 in
set_option maxRecDepth 100000 in
theorem g_X0_knownToS (l : Launch) (D : va_G) (b : Nat) (N : Nat) (V : Wd) (hN : 100 ≤ N) (hW : CW D b V) (c : Nat) (hc : c = 3 ∨ c = 21 ∨ c = 39 ∨ c = 74) (n0 : Int32) (kn : Nat → Nat) (hk : ∀ i, i < 12 → kn i < 4096 ∧ fI (V (c + 14)) i = nI (kn i)) (p9 : Nat) (hp9 : p9 < 12) (e09 : n0 = nI p9) : MI l D b 0 jX0_knownTo [.ref (b + c), .int n0] N V 0 0 (fun r N9 V9 => (r = nI (kn p9)) ∧ N = N9 ∧ V = V9) := by
  subst e09
  have hJ0 : JW D b N [] V V := JW.rf hW
  refine mw_of (by decide) (by simp [Value.category]) (Nat.le_of_ble_eq_true rfl) ?_
  show AW l D b jX0_knownTo (fx_rm 0 0 0) none (fx_MQ D b 0 0 (fx_qi (fun r N9 V9 => (r = nI (kn p9)) ∧ N = N9 ∧ V = V9))) 0 [some (.ref (b + c)), some (.int (nI p9))] [] N V 0 0
  refine aw_iload_n dX0_knownTo_0 rfl ?_
  refine aw_if_lt (tgt := 19) dX0_knownTo_1 (by decide) (fun c_1 => ?_) (fun c_1 => ?_)
  · have nc_1 : p9 < 0 := (nI_ltI (a := p9) (b := 0) (by omega) (by omega)).mp c_1
    omega
  have nc_1 : ¬ (p9 < 0) := fun z => c_1 ((nI_ltI (a := p9) (b := 0) (by omega) (by omega)).mpr z)
  refine aw_iload_n dX0_knownTo_4 rfl ?_
  refine aw_bipush (v := 12) dX0_knownTo_5 (by decide) ?_
  refine aw_icmp_ge (tgt := 19) dX0_knownTo_7 (by decide) (fun c_2 => ?_) (fun c_2 => ?_)
  · have nc_2 : 12 ≤ p9 := (nI_leI (a := 12) (b := p9) (by omega) (by omega)).mp c_2
    omega
  have nc_2 : ¬ (12 ≤ p9) := fun z => c_2 ((nI_leI (a := 12) (b := p9) (by omega) (by omega)).mpr z)
  refine aw_aload_n dX0_knownTo_10 rfl ?_
  obtain ⟨pe_3, dd_3, ni_3, xx_3, e_3⟩ := JW.get hJ0 (ctc_0 hc)
  refine aw_get dX0_knownTo_11 fl_X0_16 e_3 (by omega) rfl ?_
  refine aw_iload_n dX0_knownTo_14 rfl ?_
  obtain ⟨g_4, e_4⟩ := JW.get hJ0 (ctc_14 hc)
  refine aw_iald (v := (g_4 p9)) dX0_knownTo_15 e_4 (by omega) (vp_in_nI (n := p9) (by omega) (by omega)) (congrArg g_4 (nI_clamp (n := p9) (by omega))) ?_
  refine aw_goto (tgt := 20) dX0_knownTo_16 (by decide) ?_
  refine aw_ireti dX0_knownTo_20 rfl (Nat.le_of_ble_eq_true rfl) (Nat.le_of_ble_eq_true rfl) ?_
  exact ⟨((congrArg (fun z => fI z p9) e_4).symm.trans (hk p9 hp9).2), rfl, rfl⟩

set_option maxHeartbeats 4000000 in
set_option maxRecDepth 100000 in
theorem g_X1_holdersTogetherS (l : Launch) (D : va_G) (b : Nat) (N : Nat) (V : Wd) (hN : 100 ≤ N) (hW : CW D b V) (c : Nat) (hc : c = 3 ∨ c = 21 ∨ c = 39 ∨ c = 74) (kn : Nat → Nat) (hk : ∀ i, i < 12 → kn i < 4096 ∧ fI (V (c + 14)) i = nI (kn i)) (Pn : Nat) (hPn : Pn < 4096 ∧ fI (V c) 5 = nI Pn) (hS : SYM kn Pn) : MI l D b 3 jX1_holdersTogether [.ref (b + c)] N V 0 0 (fun r N9 V9 => (HLD kn Pn 12 r) ∧ N = N9 ∧ V = V9) := by
  have hJ0 : JW D b N [] V V := JW.rf hW
  refine mw_of (by decide) (by simp [Value.category]) (Nat.le_of_ble_eq_true rfl) ?_
  show AW l D b jX1_holdersTogether (fx_rm 3 0 0) none (fx_MQ D b 0 0 (fx_qi (fun r N9 V9 => (HLD kn Pn 12 r) ∧ N = N9 ∧ V = V9))) 0 [some (.ref (b + c)), none, none, none, none, none] [] N V 0 0
  refine aw_iconst (v := 0) dX1_holdersTogether_0 (by decide) ?_
  refine aw_istore_n (ls' := [some (.ref (b + c)), some (.int 0), none, none, none, none]) dX1_holdersTogether_1 (Nat.le_of_ble_eq_true rfl) rfl ?_
  refine aw_iconst (v := 0) dX1_holdersTogether_2 (by decide) ?_
  refine aw_istore_n (ls' := [some (.ref (b + c)), some (.int 0), some (.int 0), none, none, none]) dX1_holdersTogether_3 (Nat.le_of_ble_eq_true rfl) rfl ?_
  have loop_4_0 : ∀ (g_4 : Nat), ∀ (j4 : Nat) (v4_1 : Int32), j4 + g_4 = 12 → (HLD kn Pn j4 v4_1) → AW l D b jX1_holdersTogether (fx_rm 3 0 0) none (fx_MQ D b 0 0 (fx_qi (fun r N9 V9 => (HLD kn Pn 12 r) ∧ N = N9 ∧ V = V9))) 4 [some (.ref (b + c)), some (.int v4_1), some (.int (nI j4)), none, none, none] [] N V 0 0 := by
    intro g_4
    induction g_4 with
    | zero =>
      intro j4 v4_1 hj4 i4_0
      obtain rfl : j4 = 12 := by omega
      refine aw_iload_n dX1_holdersTogether_4 rfl ?_
      refine aw_bipush (v := 12) dX1_holdersTogether_5 (by decide) ?_
      refine aw_icmp_ge (tgt := 68) dX1_holdersTogether_7 (by decide) (fun c_3 => ?_) (fun c_3 => ?_)
      rotate_left
      · exact absurd (nI_le (a := 12) (b := 12) (Nat.le_refl _) (by omega)) c_3
      refine aw_iload_n dX1_holdersTogether_68 rfl ?_
      refine aw_ireti dX1_holdersTogether_69 rfl (Nat.le_of_ble_eq_true rfl) (Nat.le_of_ble_eq_true rfl) ?_
      exact ⟨i4_0, rfl, rfl⟩
    | succ g_4 ih_4_1 =>
      intro j4 v4_1 hj4 i4_0
      have hlj4 : j4 < 12 := by omega
      refine aw_iload_n dX1_holdersTogether_4 rfl ?_
      refine aw_bipush (v := 12) dX1_holdersTogether_5 (by decide) ?_
      refine aw_icmp_ge (tgt := 68) dX1_holdersTogether_7 (by decide) (fun c_4 => ?_) (fun c_4 => ?_)
      · exact absurd c_4 (nI_ge (a := j4) (b := 12) (by omega) (by omega))
      refine aw_aload_n dX1_holdersTogether_10 rfl ?_
      obtain ⟨pe_5, dd_5, ni_5, xx_5, e_5⟩ := JW.get hJ0 (ctc_0 hc)
      refine aw_get dX1_holdersTogether_11 fl_X1_26 e_5 (by omega) rfl ?_
      refine aw_eqi (y := (nI Pn)) ((Eq.symm (congrArg (fun z => fI z 5) e_5)).trans hPn.2) ?_
      refine aw_iconst (v := 1) dX1_holdersTogether_14 (by decide) ?_
      refine aw_iload_n dX1_holdersTogether_15 rfl ?_
      refine aw_ishl dX1_holdersTogether_16 ?_
      refine aw_eqi (y := (nI (2 ^ j4))) (fx_shl12 j4 (by omega)) ?_
      refine aw_iconst (v := (-1)) dX1_holdersTogether_17 (by decide) ?_
      refine aw_ixor dX1_holdersTogether_18 ?_
      refine aw_iand dX1_holdersTogether_19 ?_
      refine aw_eqi (y := (nI (Pn &&& no j4))) (fx_cm hPn.1) ?_
      refine aw_istore_n (ls' := [some (.ref (b + c)), some (.int v4_1), some (.int (nI j4)), some (.int (nI (Pn &&& no j4))), none, none]) dX1_holdersTogether_20 (Nat.le_of_ble_eq_true rfl) rfl ?_
      refine aw_aload_n dX1_holdersTogether_21 rfl ?_
      refine aw_iload_n dX1_holdersTogether_22 rfl ?_
      refine aw_callVi (J' := jX0_knownTo) (As := [.int (nI j4)]) (st := []) dX1_holdersTogether_23 tb_847 ok_X0_knownTo ⟨_, e_5⟩ (by omega) rfl rfl (g_X0_knownToS l D b N V hN hJ0.1 c hc (nI j4) kn hk j4 (by omega) rfl) rfl (Nat.le_of_ble_eq_true rfl) ⟨Nat.le_of_ble_eq_true rfl, Nat.le_of_ble_eq_true rfl, Nat.le_of_ble_eq_true rfl, Nat.le_of_ble_eq_true rfl⟩ (fun r_8 N_9 V_10 q_11 => ?_)
      obtain ⟨h_7, rfl, rfl⟩ := q_11
      refine aw_eqi (y := nI (kn j4)) h_7 ?_
      refine aw_iload_n dX1_holdersTogether_26 rfl ?_
      refine aw_iand dX1_holdersTogether_27 ?_
      refine aw_eqi (y := (nI (kn j4 &&& (Pn &&& no j4)))) (fx_andI _ _) ?_
      refine aw_istore (ls' := [some (.ref (b + c)), some (.int v4_1), some (.int (nI j4)), some (.int (nI (Pn &&& no j4))), some (.int (nI (kn j4 &&& (Pn &&& no j4)))), none]) dX1_holdersTogether_28 (Nat.le_of_ble_eq_true rfl) rfl ?_
      refine aw_iload dX1_holdersTogether_30 rfl ?_
      refine aw_iload dX1_holdersTogether_32 rfl ?_
      refine aw_ineg dX1_holdersTogether_34 ?_
      refine aw_iand dX1_holdersTogether_35 ?_
      refine aw_eqi (y := (nI (fstb (kn j4 &&& (Pn &&& no j4))))) (low_fst (Nat.lt_of_le_of_lt Nat.and_le_left (hk j4 (by omega)).1)) ?_
      refine aw_istore (ls' := [some (.ref (b + c)), some (.int v4_1), some (.int (nI j4)), some (.int (nI (Pn &&& no j4))), some (.int (nI (kn j4 &&& (Pn &&& no j4)))), some (.int (nI (fstb (kn j4 &&& (Pn &&& no j4)))))]) dX1_holdersTogether_36 (Nat.le_of_ble_eq_true rfl) rfl ?_
      refine aw_iload dX1_holdersTogether_38 rfl ?_
      refine aw_aload_n dX1_holdersTogether_40 rfl ?_
      refine aw_get dX1_holdersTogether_41 fl_X1_36 e_5 (by omega) rfl ?_
      refine aw_iload dX1_holdersTogether_44 rfl ?_
      refine aw_iload_n dX1_holdersTogether_46 rfl ?_
      refine aw_callSi (J' := jX1_reached) (As := [.ref (b + (c + 14)), .int (nI (fstb (kn j4 &&& (Pn &&& no j4)))), .int (nI (Pn &&& no j4))]) (st := [.int (nI (kn j4 &&& (Pn &&& no j4)))]) dX1_holdersTogether_47 tb_897 ok_X1_reached rfl (g_X1_reachedS l D b N V hN hJ0.1 (c + 14) (ctc_14 hc) (nI (fstb (kn j4 &&& (Pn &&& no j4)))) (nI (Pn &&& no j4)) kn hk (fstb (kn j4 &&& (Pn &&& no j4))) (Pn &&& no j4) (fst_lt (Nat.lt_of_le_of_lt Nat.and_le_left (hk j4 (by omega)).1)) rfl rfl) rfl (Nat.le_of_ble_eq_true rfl) ⟨Nat.le_of_ble_eq_true rfl, Nat.le_of_ble_eq_true rfl, Nat.le_of_ble_eq_true rfl, Nat.le_of_ble_eq_true rfl⟩ (fun r_14 N_15 V_16 q_17 => ?_)
      obtain ⟨h_13, rfl, rfl⟩ := q_17
      refine aw_eqi (y := nI (clo kn (Pn &&& no j4) ((fstb (kn j4 &&& (Pn &&& no j4))) &&& (Pn &&& no j4)))) h_13 ?_
      refine aw_iconst (v := (-1)) dX1_holdersTogether_50 (by decide) ?_
      refine aw_ixor dX1_holdersTogether_51 ?_
      refine aw_iand dX1_holdersTogether_52 ?_
      refine aw_eqi (y := (nI ((kn j4 &&& (Pn &&& no j4)) &&& (4095 ^^^ (clo kn (Pn &&& no j4) (fstb (kn j4 &&& (Pn &&& no j4)) &&& (Pn &&& no j4))))))) (fx_cm (Nat.lt_of_le_of_lt Nat.and_le_left (hk j4 (by omega)).1)) ?_
      have hxl : ((kn j4 &&& (Pn &&& no j4)) &&& (4095 ^^^ (clo kn (Pn &&& no j4) (fstb (kn j4 &&& (Pn &&& no j4)) &&& (Pn &&& no j4))))) < 4096 := Nat.lt_of_le_of_lt Nat.and_le_left (Nat.lt_of_le_of_lt Nat.and_le_left (hk j4 (by omega)).1)
      refine aw_if_eq (tgt := 62) dX1_holdersTogether_53 (by decide) (fun c_18 => ?_) (fun c_18 => ?_)
      · skip
        have nc_18 : ((kn j4 &&& (Pn &&& no j4)) &&& (4095 ^^^ (clo kn (Pn &&& no j4) (fstb (kn j4 &&& (Pn &&& no j4)) &&& (Pn &&& no j4))))) = 0 := (nI_eq (a := ((kn j4 &&& (Pn &&& no j4)) &&& (4095 ^^^ (clo kn (Pn &&& no j4) (fstb (kn j4 &&& (Pn &&& no j4)) &&& (Pn &&& no j4)))))) (b := 0) (by omega) (by omega)).mp c_18
        refine aw_iinc (v := (nI (j4 + 1))) (ls' := [some (.ref (b + c)), some (.int v4_1), some (.int (nI (j4 + 1))), some (.int (nI (Pn &&& no j4))), some (.int (nI (kn j4 &&& (Pn &&& no j4)))), some (.int (nI (fstb (kn j4 &&& (Pn &&& no j4)))))]) dX1_holdersTogether_62 rfl (fx_up_1 _) (Nat.le_of_ble_eq_true rfl) rfl ?_
        refine aw_goto (tgt := 4) dX1_holdersTogether_65 (by decide) ?_
        refine aw_le ?_ (ih_4_1 (j4 + 1) v4_1  (by omega) (hk_stay i4_0 c_18 (Nat.lt_of_le_of_lt Nat.and_le_left (Nat.lt_of_le_of_lt Nat.and_le_left (hk j4 (by omega)).1)) (hold_c (fun i hi => (hk i hi).1) hS hPn.1 (by omega) rfl)))
        exact ⟨rfl, ⟨rfl, ⟨rfl, trivial⟩⟩⟩
      · skip
        have nc_18 : ¬ (((kn j4 &&& (Pn &&& no j4)) &&& (4095 ^^^ (clo kn (Pn &&& no j4) (fstb (kn j4 &&& (Pn &&& no j4)) &&& (Pn &&& no j4))))) = 0) := fun z => c_18 ((nI_eq (a := ((kn j4 &&& (Pn &&& no j4)) &&& (4095 ^^^ (clo kn (Pn &&& no j4) (fstb (kn j4 &&& (Pn &&& no j4)) &&& (Pn &&& no j4)))))) (b := 0) (by omega) (by omega)).mpr z)
        refine aw_iload_n dX1_holdersTogether_56 rfl ?_
        refine aw_iconst (v := 1) dX1_holdersTogether_57 (by decide) ?_
        refine aw_iload_n dX1_holdersTogether_58 rfl ?_
        refine aw_ishl dX1_holdersTogether_59 ?_
        refine aw_eqi (y := (nI (2 ^ j4))) (fx_shl12 j4 (by omega)) ?_
        refine aw_ior dX1_holdersTogether_60 ?_
        refine aw_istore_n (ls' := [some (.ref (b + c)), some (.int (v4_1 ||| (nI (2 ^ j4)))), some (.int (nI j4)), some (.int (nI (Pn &&& no j4))), some (.int (nI (kn j4 &&& (Pn &&& no j4)))), some (.int (nI (fstb (kn j4 &&& (Pn &&& no j4)))))]) dX1_holdersTogether_61 (Nat.le_of_ble_eq_true rfl) rfl ?_
        refine aw_iinc (v := (nI (j4 + 1))) (ls' := [some (.ref (b + c)), some (.int (v4_1 ||| (nI (2 ^ j4)))), some (.int (nI (j4 + 1))), some (.int (nI (Pn &&& no j4))), some (.int (nI (kn j4 &&& (Pn &&& no j4)))), some (.int (nI (fstb (kn j4 &&& (Pn &&& no j4)))))]) dX1_holdersTogether_62 rfl (fx_up_1 _) (Nat.le_of_ble_eq_true rfl) rfl ?_
        refine aw_goto (tgt := 4) dX1_holdersTogether_65 (by decide) ?_
        refine aw_le ?_ (ih_4_1 (j4 + 1) (v4_1 ||| (nI (2 ^ j4)))  (by omega) (hk_step i4_0 (by omega) c_18 (Nat.lt_of_le_of_lt Nat.and_le_left (Nat.lt_of_le_of_lt Nat.and_le_left (hk j4 (by omega)).1)) (hold_c (fun i hi => (hk i hi).1) hS hPn.1 (by omega) rfl)))
        exact ⟨rfl, ⟨rfl, ⟨rfl, trivial⟩⟩⟩
  refine aw_le ?_ (loop_4_0 12 0 0  (by omega) (HLD.zero))
  exact ⟨rfl, ⟨rfl, ⟨rfl, trivial⟩⟩⟩

set_option maxHeartbeats 4000000 in
set_option maxRecDepth 100000 in
theorem g_X11_keystonesS (l : Launch) (D : va_G) (b : Nat) (N : Nat) (V : Wd) (hN : 100 ≤ N) (hW : CW D b V)  (kn : Nat → Nat) (hk : ∀ i, i < 12 → kn i < 4096 ∧ fI (V 17) i = nI (kn i)) (Pn : Nat) (hPn : Pn < 4096 ∧ fI (V 3) 5 = nI Pn) (hS : SYM kn Pn) : MI l D b 4 jX11_keystones [.ref (b + 0)] N V 0 0 (fun r N9 V9 => (HLD kn Pn 12 r) ∧ N = N9 ∧ V = V9) := by
  have hJ0 : JW D b N [] V V := JW.rf hW
  refine mw_of (by decide) (by simp [Value.category]) (Nat.le_of_ble_eq_true rfl) ?_
  show AW l D b jX11_keystones (fx_rm 4 0 0) none (fx_MQ D b 0 0 (fx_qi (fun r N9 V9 => (HLD kn Pn 12 r) ∧ N = N9 ∧ V = V9))) 0 [some (.ref (b + 0))] [] N V 0 0
  refine aw_aload_n dX11_keystones_0 rfl ?_
  obtain ⟨ek_1, x_1, y_1, e_1, hx_1, hy_1⟩ := JW.get hJ0 ct_0
  refine aw_get dX11_keystones_1 fl_X11_19 e_1 (by omega) rfl ?_
  refine aw_callSi (J' := jX1_holdersTogether) (As := [.ref (b + 3)]) (st := []) dX11_keystones_4 tb_908 ok_X1_holdersTogether rfl (g_X1_holdersTogetherS l D b N V hN hJ0.1 3 cA_3 kn hk Pn hPn hS) rfl (Nat.le_of_ble_eq_true rfl) ⟨Nat.le_of_ble_eq_true rfl, Nat.le_of_ble_eq_true rfl, Nat.le_of_ble_eq_true rfl, Nat.le_of_ble_eq_true rfl⟩ (fun r_4 N_5 V_6 q_7 => ?_)
  obtain ⟨h_3, rfl, rfl⟩ := q_7
  refine aw_ireti dX11_keystones_7 rfl (Nat.le_of_ble_eq_true rfl) (Nat.le_of_ble_eq_true rfl) ?_
  exact ⟨h_3, rfl, rfl⟩

