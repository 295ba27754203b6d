set_option maxHeartbeats 4000000 in
set_option maxRecDepth 100000 in
theorem g_X10_byteAtS (l : Launch) (D : va_G) (b : Nat) (N : Nat) (V : Wd) (hN : 100 ≤ N) (hW : CW D b V) (n0 : Int32) (g : Nat → Int32) (hg : V 2 = cI D 260 g) (n9 : Nat) (hE : fI (V 1) 2 = nI n9) (hn9 : 1 ≤ n9 ∧ n9 ≤ 12) (i9 : Nat) (hi9 : i9 < n9) (e09 : n0 = nI i9) : MI l D b 0 jX10_byteAt [.ref (b + 1), .int n0] N V 0 0 (fun r N9 V9 => (r = g i9) ∧ N = N9 ∧ V = V9) := by
  subst e09
  have hJ0 : JW D b N [] V V := JW.rf hW
  refine mw_of (by decide) (by simp [Value.category]) (Nat.le_of_ble_eq_true rfl) ?_
  show AW l D b jX10_byteAt (fx_rm 0 0 0) none (fx_MQ D b 0 0 (fx_qi (fun r N9 V9 => (r = g i9) ∧ N = N9 ∧ V = V9))) 0 [some (.ref (b + 1)), some (.int (nI i9))] [] N V 0 0
  refine aw_iload_n dX10_byteAt_0 rfl ?_
  refine aw_if_lt (tgt := 21) dX10_byteAt_1 (by decide) (fun c_1 => ?_) (fun c_1 => ?_)
  · have nc_1 : i9 < 0 := (nI_ltI (a := i9) (b := 0) (by omega) (by omega)).mp c_1
    omega
  have nc_1 : ¬ (i9 < 0) := fun z => c_1 ((nI_ltI (a := i9) (b := 0) (by omega) (by omega)).mpr z)
  refine aw_iload_n dX10_byteAt_4 rfl ?_
  refine aw_aload_n dX10_byteAt_5 rfl ?_
  obtain ⟨ts_2, tn_2, tf_2, ta_2, e_2, hta_2⟩ := JW.get hJ0 ct_1
  refine aw_get dX10_byteAt_6 fl_X10_19 e_2 (by omega) rfl ?_
  refine aw_eqi (y := (nI n9)) ((Eq.symm (congrArg (fun z => fI z 2) e_2)).trans hE) ?_
  refine aw_icmp_ge (tgt := 21) dX10_byteAt_9 (by decide) (fun c_3 => ?_) (fun c_3 => ?_)
  · have nc_3 : n9 ≤ i9 := (nI_leI (a := n9) (b := i9) (by omega) (by omega)).mp c_3
    omega
  have nc_3 : ¬ (n9 ≤ i9) := fun z => c_3 ((nI_leI (a := n9) (b := i9) (by omega) (by omega)).mpr z)
  refine aw_iload_n dX10_byteAt_12 rfl ?_
  refine aw_aload_n dX10_byteAt_13 rfl ?_
  refine aw_get dX10_byteAt_14 fl_X10_9 e_2 (by omega) rfl ?_
  refine aw_alen (t0 := 0) (v := 260) dX10_byteAt_17 hg (by omega) rfl rfl ?_
  refine aw_icmp_lt (tgt := 23) dX10_byteAt_18 (by decide) (fun c_4 => ?_) (fun c_4 => ?_)
  rotate_left
  · have nc_4 : ¬ (i9 < 260) := fun z => c_4 ((nI_ltI (a := i9) (b := 260) (by omega) (by omega)).mpr z)
    omega
  have nc_4 : i9 < 260 := (nI_ltI (a := i9) (b := 260) (by omega) (by omega)).mp c_4
  refine aw_aload_n dX10_byteAt_23 rfl ?_
  refine aw_get dX10_byteAt_24 fl_X10_9 e_2 (by omega) rfl ?_
  refine aw_iload_n dX10_byteAt_27 rfl ?_
  refine aw_iald (v := (g i9)) dX10_byteAt_28 hg (by omega) (vp_in_nI (n := i9) (by omega) (by omega)) (congrArg g (nI_clamp (n := i9) (by omega))) ?_
  refine aw_ireti dX10_byteAt_29 rfl (Nat.le_of_ble_eq_true rfl) (Nat.le_of_ble_eq_true rfl) ?_
  exact ⟨rfl, rfl, rfl⟩

set_option maxHeartbeats 4000000 in
set_option maxRecDepth 100000 in
theorem g_X11_boundedS (l : Launch) (D : va_G) (b : Nat) (N : Nat) (V : Wd) (hN : 100 ≤ N) (hW : CW D b V) (n0 : Int32) (n1 : Int32) (n2 : Int32)  : MI l D b 0 jX11_bounded [.int n0, .int n1, .int n2] N V 0 0 (fun r N9 V9 => (r = (if n1 < (if n0 < n2 then n0 else n2) then (if n0 < n2 then n0 else n2) else n1)) ∧ N = N9 ∧ V = V9) := by
  have hJ0 : JW D b N [] V V := JW.rf hW
  refine mw_of (by decide) (by simp [Value.category]) (Nat.le_of_ble_eq_true rfl) ?_
  show AW l D b jX11_bounded (fx_rm 0 0 0) none (fx_MQ D b 0 0 (fx_qi (fun r N9 V9 => (r = (if n1 < (if n0 < n2 then n0 else n2) then (if n0 < n2 then n0 else n2) else n1)) ∧ N = N9 ∧ V = V9))) 0 [some (.int n0), some (.int n1), some (.int n2)] [] N V 0 0
  refine aw_iload_n dX11_bounded_0 rfl ?_
  refine aw_iload_n dX11_bounded_1 rfl ?_
  refine aw_iload_n dX11_bounded_2 rfl ?_
  refine aw_mmin dX11_bounded_3 tb_381 tb_382 tb_13 tb_383 ⟨Nat.le_of_ble_eq_true rfl, Nat.le_of_ble_eq_true rfl, Nat.le_of_ble_eq_true rfl, Nat.le_of_ble_eq_true rfl⟩ ?_
  refine aw_mmax dX11_bounded_6 tb_384 tb_385 tb_13 tb_386 ⟨Nat.le_of_ble_eq_true rfl, Nat.le_of_ble_eq_true rfl, Nat.le_of_ble_eq_true rfl, Nat.le_of_ble_eq_true rfl⟩ ?_
  refine aw_ireti dX11_bounded_9 rfl (Nat.le_of_ble_eq_true rfl) (Nat.le_of_ble_eq_true rfl) ?_
  exact ⟨rfl, rfl, rfl⟩

set_option maxHeartbeats 4000000 in
set_option maxRecDepth 100000 in
theorem g_X9_roomsOfCommonestS (l : Launch) (D : va_G) (b : Nat) (N : Nat) (V : Wd) (hN : 100 ≤ N) (hW : CW D b V) (n0 : Int32) (g : Nat → Int32) (hg : V 2 = cI D 260 g) (n9 : Nat) (hE : fI (V 1) 2 = nI n9) (hn9 : 1 ≤ n9 ∧ n9 ≤ 12) (hB : BY g) (e09 : n0 = nI n9) : MI l D b 1 jX9_roomsOfCommonest [.ref (b + 1), .int n0] N V 0 0 (fun r N9 V9 => (r = nI (mx (fun x => ct (cof g) x n9) 16)) ∧ N = N9 ∧ V = V9) := by
  subst e09
  have hJ0 : JW D b N [] V V := JW.rf hW
  refine mw_of (by decide) (by simp [Value.category]) (Nat.le_of_ble_eq_true rfl) ?_
  show AW l D b jX9_roomsOfCommonest (fx_rm 1 0 0) none (fx_MQ D b 0 0 (fx_qi (fun r N9 V9 => (r = nI (mx (fun x => ct (cof g) x n9) 16)) ∧ N = N9 ∧ V = V9))) 0 [some (.ref (b + 1)), some (.int (nI n9)), none, none, none, none] [] N V 0 0
  refine aw_iconst (v := 0) dX9_roomsOfCommonest_0 (by decide) ?_
  refine aw_istore_n (ls' := [some (.ref (b + 1)), some (.int (nI n9)), some (.int 0), none, none, none]) dX9_roomsOfCommonest_1 (Nat.le_of_ble_eq_true rfl) rfl ?_
  refine aw_iconst (v := 0) dX9_roomsOfCommonest_2 (by decide) ?_
  refine aw_istore_n (ls' := [some (.ref (b + 1)), some (.int (nI n9)), some (.int 0), some (.int 0), none, none]) dX9_roomsOfCommonest_3 (Nat.le_of_ble_eq_true rfl) rfl ?_
  have loop_4_0 : ∀ (g_4 : Nat), ∀ (j4 : Nat) (v4_2 : Int32), j4 + g_4 = 16 → (v4_2 = nI (mx (fun x => ct (cof g) x n9) j4)) → AW l D b jX9_roomsOfCommonest (fx_rm 1 0 0) none (fx_MQ D b 0 0 (fx_qi (fun r N9 V9 => (r = nI (mx (fun x => ct (cof g) x n9) 16)) ∧ N = N9 ∧ V = V9))) 4 [some (.ref (b + 1)), some (.int (nI n9)), some (.int v4_2), some (.int (nI j4)), none, none] [] N V 0 0 := by
    intro g_4
    induction g_4 with
    | zero =>
      intro j4 v4_2 hj4 i4_0
      obtain rfl : j4 = 16 := by omega
      refine aw_iload_n dX9_roomsOfCommonest_4 rfl ?_
      refine aw_bipush (v := 16) dX9_roomsOfCommonest_5 (by decide) ?_
      refine aw_icmp_ge (tgt := 54) dX9_roomsOfCommonest_7 (by decide) (fun c_3 => ?_) (fun c_3 => ?_)
      rotate_left
      · exact absurd (nI_le (a := 16) (b := 16) (Nat.le_refl _) (by omega)) c_3
      refine aw_iload_n dX9_roomsOfCommonest_54 rfl ?_
      refine aw_ireti dX9_roomsOfCommonest_55 rfl (Nat.le_of_ble_eq_true rfl) (Nat.le_of_ble_eq_true rfl) ?_
      exact ⟨i4_0, rfl, rfl⟩
    | succ g_4 ih_4_1 =>
      intro j4 v4_2 hj4 i4_0
      have hlj4 : j4 < 16 := by omega
      refine aw_iload_n dX9_roomsOfCommonest_4 rfl ?_
      refine aw_bipush (v := 16) dX9_roomsOfCommonest_5 (by decide) ?_
      refine aw_icmp_ge (tgt := 54) dX9_roomsOfCommonest_7 (by decide) (fun c_4 => ?_) (fun c_4 => ?_)
      · exact absurd c_4 (nI_ge (a := j4) (b := 16) (by omega) (by omega))
      refine aw_iconst (v := 0) dX9_roomsOfCommonest_10 (by decide) ?_
      refine aw_istore (ls' := [some (.ref (b + 1)), some (.int (nI n9)), some (.int v4_2), some (.int (nI j4)), some (.int 0), none]) dX9_roomsOfCommonest_11 (Nat.le_of_ble_eq_true rfl) rfl ?_
      refine aw_iconst (v := 0) dX9_roomsOfCommonest_13 (by decide) ?_
      refine aw_istore (ls' := [some (.ref (b + 1)), some (.int (nI n9)), some (.int v4_2), some (.int (nI j4)), some (.int 0), some (.int 0)]) dX9_roomsOfCommonest_14 (Nat.le_of_ble_eq_true rfl) rfl ?_
      have loop_16_4 : ∀ (g_16 : Nat), ∀ (j16 : Nat) (v16_4 : Int32), j16 + g_16 = n9 → (v16_4 = nI (ct (cof g) j4 j16)) → AW l D b jX9_roomsOfCommonest (fx_rm 1 0 0) none (fx_MQ D b 0 0 (fx_qi (fun r N9 V9 => (r = nI (mx (fun x => ct (cof g) x n9) 16)) ∧ N = N9 ∧ V = V9))) 16 [some (.ref (b + 1)), some (.int (nI n9)), some (.int v4_2), some (.int (nI j4)), some (.int v16_4), some (.int (nI j16))] [] N V 0 0 := by
        intro g_16
        induction g_16 with
        | zero =>
          intro j16 v16_4 hj16 i16_0
          obtain rfl : n9 = j16 := by omega
          refine aw_iload dX9_roomsOfCommonest_16 rfl ?_
          refine aw_iload_n dX9_roomsOfCommonest_18 rfl ?_
          refine aw_icmp_ge (tgt := 41) dX9_roomsOfCommonest_19 (by decide) (fun c_7 => ?_) (fun c_7 => ?_)
          rotate_left
          · exact absurd (nI_le (a := n9) (b := n9) (Nat.le_refl _) (by omega)) c_7
          refine aw_iload_n dX9_roomsOfCommonest_41 rfl ?_
          refine aw_iload dX9_roomsOfCommonest_42 rfl ?_
          refine aw_mmax dX9_roomsOfCommonest_44 tb_997 tb_385 tb_13 tb_386 ⟨Nat.le_of_ble_eq_true rfl, Nat.le_of_ble_eq_true rfl, Nat.le_of_ble_eq_true rfl, Nat.le_of_ble_eq_true rfl⟩ ?_
          refine aw_istore_n (ls' := [some (.ref (b + 1)), some (.int (nI n9)), some (.int (if v4_2 < v16_4 then v16_4 else v4_2)), some (.int (nI j4)), some (.int v16_4), some (.int (nI n9))]) dX9_roomsOfCommonest_47 (Nat.le_of_ble_eq_true rfl) rfl ?_
          refine aw_iinc (v := (nI (j4 + 1))) (ls' := [some (.ref (b + 1)), some (.int (nI n9)), some (.int (if v4_2 < v16_4 then v16_4 else v4_2)), some (.int (nI (j4 + 1))), some (.int v16_4), some (.int (nI n9))]) dX9_roomsOfCommonest_48 rfl (fx_up_1 _) (Nat.le_of_ble_eq_true rfl) rfl ?_
          refine aw_goto (tgt := 4) dX9_roomsOfCommonest_51 (by decide) ?_
          refine aw_le ?_ (ih_4_1 (j4 + 1) (if v4_2 < v16_4 then v16_4 else v4_2)  (by omega) (mx_step i4_0 i16_0 (mx_s hn9.2) (ct_s hn9.2)))
          exact ⟨rfl, ⟨rfl, ⟨rfl, ⟨rfl, trivial⟩⟩⟩⟩
        | succ g_16 ih_16_5 =>
          intro j16 v16_4 hj16 i16_0
          have hlj16 : j16 < n9 := by omega
          refine aw_iload dX9_roomsOfCommonest_16 rfl ?_
          refine aw_iload_n dX9_roomsOfCommonest_18 rfl ?_
          refine aw_icmp_ge (tgt := 41) dX9_roomsOfCommonest_19 (by decide) (fun c_8 => ?_) (fun c_8 => ?_)
          · exact absurd c_8 (nI_ge (a := j16) (b := n9) (by omega) (by omega))
          refine aw_aload_n dX9_roomsOfCommonest_22 rfl ?_
          refine aw_iload dX9_roomsOfCommonest_23 rfl ?_
          obtain ⟨ts_11, tn_11, tf_11, ta_11, e_11, hta_11⟩ := JW.get hJ0 ct_1
          refine aw_callVi (J' := jX10_byteAt) (As := [.int (nI j16)]) (st := []) dX9_roomsOfCommonest_25 tb_962 ok_X10_byteAt ⟨_, e_11⟩ (by omega) rfl rfl (g_X10_byteAtS l D b N V hN hJ0.1 (nI j16) g hg n9 hE ⟨by omega, by omega⟩ j16 (by omega) rfl) rfl (Nat.le_of_ble_eq_true rfl) ⟨Nat.le_of_ble_eq_true rfl, Nat.le_of_ble_eq_true rfl, Nat.le_of_ble_eq_true rfl, Nat.le_of_ble_eq_true rfl⟩ (fun r_12 N_13 V_14 q_15 => ?_)
          obtain ⟨h_10, rfl, rfl⟩ := q_15
          refine aw_eqi (y := (g j16)) h_10 ?_
          refine aw_iload_n dX9_roomsOfCommonest_28 rfl ?_
          refine aw_icmp_ne (tgt := 35) dX9_roomsOfCommonest_29 (by decide) (fun c_16 => ?_) (fun c_16 => ?_)
          · skip
            refine aw_iinc (v := (nI (j16 + 1))) (ls' := [some (.ref (b + 1)), some (.int (nI n9)), some (.int v4_2), some (.int (nI j4)), some (.int v16_4), some (.int (nI (j16 + 1)))]) dX9_roomsOfCommonest_35 rfl (fx_up_1 _) (Nat.le_of_ble_eq_true rfl) rfl ?_
            refine aw_goto (tgt := 16) dX9_roomsOfCommonest_38 (by decide) ?_
            refine aw_le ?_ (ih_16_5 (j16 + 1) v16_4  (by omega) (ct_no hB (by omega) i16_0 c_16))
            exact ⟨rfl, ⟨rfl, ⟨rfl, ⟨rfl, ⟨rfl, ⟨rfl, trivial⟩⟩⟩⟩⟩⟩
          · skip
            refine aw_iinc (v := (v16_4 + 1)) (ls' := [some (.ref (b + 1)), some (.int (nI n9)), some (.int v4_2), some (.int (nI j4)), some (.int (v16_4 + 1)), some (.int (nI j16))]) dX9_roomsOfCommonest_32 rfl rfl (Nat.le_of_ble_eq_true rfl) rfl ?_
            refine aw_iinc (v := (nI (j16 + 1))) (ls' := [some (.ref (b + 1)), some (.int (nI n9)), some (.int v4_2), some (.int (nI j4)), some (.int (v16_4 + 1)), some (.int (nI (j16 + 1)))]) dX9_roomsOfCommonest_35 rfl (fx_up_1 _) (Nat.le_of_ble_eq_true rfl) rfl ?_
            refine aw_goto (tgt := 16) dX9_roomsOfCommonest_38 (by decide) ?_
            refine aw_le ?_ (ih_16_5 (j16 + 1) (v16_4 + 1)  (by omega) (ct_yes hB (by omega) i16_0 c_16))
            exact ⟨rfl, ⟨rfl, ⟨rfl, ⟨rfl, ⟨rfl, ⟨rfl, trivial⟩⟩⟩⟩⟩⟩
      refine aw_le ?_ (loop_16_4 n9 0 0  (by omega) (rfl))
      exact ⟨rfl, ⟨rfl, ⟨rfl, ⟨rfl, ⟨rfl, ⟨rfl, trivial⟩⟩⟩⟩⟩⟩
  refine aw_le ?_ (loop_4_0 16 0 0  (by omega) (rfl))
  exact ⟨rfl, ⟨rfl, ⟨rfl, ⟨rfl, trivial⟩⟩⟩⟩

set_option maxHeartbeats 4000000 in
set_option maxRecDepth 100000 in
theorem g_X9_leastDreadBehindRoomsS (l : Launch) (D : va_G) (b : Nat) (N : Nat) (V : Wd) (hN : 100 ≤ N) (hW : CW D b V) (n0 : Int32) (n1 : Int32) (g : Nat → Int32) (hg : V 2 = cI D 260 g) (n9 : Nat) (hE : fI (V 1) 2 = nI n9) (hn9 : 1 ≤ n9 ∧ n9 ≤ 12) (hB : BY g) (e09 : n0 = nI n9) (d9 : Nat) (hd9 : d9 ≤ 99) (e19 : n1 = nI d9) : MI l D b 2 jX9_leastDreadBehindRooms [.ref (b + 1), .int n0, .int n1] N V 0 0 (fun r N9 V9 => (r = nI (roomsA (cof g) n9 d9)) ∧ N = N9 ∧ V = V9) := by
  subst e09
  subst e19
  have hJ0 : JW D b N [] V V := JW.rf hW
  refine mw_of (by decide) (by simp [Value.category]) (Nat.le_of_ble_eq_true rfl) ?_
  show AW l D b jX9_leastDreadBehindRooms (fx_rm 2 0 0) none (fx_MQ D b 0 0 (fx_qi (fun r N9 V9 => (r = nI (roomsA (cof g) n9 d9)) ∧ N = N9 ∧ V = V9))) 0 [some (.ref (b + 1)), some (.int (nI n9)), some (.int (nI d9)), none, none, none] [] N V 0 0
  refine aw_iconst (v := 0) dX9_leastDreadBehindRooms_0 (by decide) ?_
  refine aw_iconst (v := 2) dX9_leastDreadBehindRooms_1 (by decide) ?_
  refine aw_aload_n dX9_leastDreadBehindRooms_2 rfl ?_
  refine aw_iload_n dX9_leastDreadBehindRooms_3 rfl ?_
  refine aw_callSi (J' := jX9_roomsOfCommonest) (As := [.ref (b + 1), .int (nI n9)]) (st := [.int 2, .int 0]) dX9_leastDreadBehindRooms_4 tb_994 ok_X9_roomsOfCommonest rfl (g_X9_roomsOfCommonestS l D b N V hN hJ0.1 (nI n9) g hg n9 hE ⟨by omega, by omega⟩ hB rfl) rfl (Nat.le_of_ble_eq_true rfl) ⟨Nat.le_of_ble_eq_true rfl, Nat.le_of_ble_eq_true rfl, Nat.le_of_ble_eq_true rfl, Nat.le_of_ble_eq_true rfl⟩ (fun r_3 N_4 V_5 q_6 => ?_)
  obtain ⟨h_2, rfl, rfl⟩ := q_6
  obtain ⟨M9, eM9⟩ : ∃ M, mx (fun x => ct (cof g) x n9) 16 = M := ⟨_, rfl⟩
  have hM9 : M9 ≤ n9 := eM9 ▸ mx_ct
  refine aw_eqi (y := nI M9) (h_2.trans (congrArg nI eM9)) ?_
  refine aw_imul dX9_leastDreadBehindRooms_7 ?_
  refine aw_eqi (y := (nI (2 * M9))) (two_mul9 M9 (by omega)) ?_
  refine aw_iload_n dX9_leastDreadBehindRooms_8 rfl ?_
  refine aw_isub dX9_leastDreadBehindRooms_9 ?_
  refine aw_iconst (v := 1) dX9_leastDreadBehindRooms_10 (by decide) ?_
  refine aw_isub dX9_leastDreadBehindRooms_11 ?_
  refine aw_mmax dX9_leastDreadBehindRooms_12 tb_997 tb_385 tb_13 tb_386 ⟨Nat.le_of_ble_eq_true rfl, Nat.le_of_ble_eq_true rfl, Nat.le_of_ble_eq_true rfl, Nat.le_of_ble_eq_true rfl⟩ ?_
  refine aw_eqi (y := (nI (2 * M9 - n9 - 1))) (same9 M9 (by omega) n9 (by omega)) ?_
  refine aw_istore_n (ls' := [some (.ref (b + 1)), some (.int (nI n9)), some (.int (nI d9)), some (.int (nI (2 * M9 - n9 - 1))), none, none]) dX9_leastDreadBehindRooms_15 (Nat.le_of_ble_eq_true rfl) rfl ?_
  refine aw_iload_n dX9_leastDreadBehindRooms_16 rfl ?_
  refine aw_istore (ls' := [some (.ref (b + 1)), some (.int (nI n9)), some (.int (nI d9)), some (.int (nI (2 * M9 - n9 - 1))), some (.int (nI d9)), none]) dX9_leastDreadBehindRooms_17 (Nat.le_of_ble_eq_true rfl) rfl ?_
  refine aw_iconst (v := 1) dX9_leastDreadBehindRooms_19 (by decide) ?_
  refine aw_istore (ls' := [some (.ref (b + 1)), some (.int (nI n9)), some (.int (nI d9)), some (.int (nI (2 * M9 - n9 - 1))), some (.int (nI d9)), some (.int 1)]) dX9_leastDreadBehindRooms_20 (Nat.le_of_ble_eq_true rfl) rfl ?_
  have loop_22_6 : ∀ (g_22 : Nat), ∀ (j22 : Nat) (v22_4 : Int32), j22 + g_22 = n9 → (v22_4 = nI (rF d9 (min (2 * M9 - n9 - 1) (j22 - 1)) (j22 - 1))) → (1 ≤ j22) → AW l D b jX9_leastDreadBehindRooms (fx_rm 2 0 0) none (fx_MQ D b 0 0 (fx_qi (fun r N9 V9 => (r = nI (roomsA (cof g) n9 d9)) ∧ N = N9 ∧ V = V9))) 22 [some (.ref (b + 1)), some (.int (nI n9)), some (.int (nI d9)), some (.int (nI (2 * M9 - n9 - 1))), some (.int v22_4), some (.int (nI j22))] [] N V 0 0 := by
    intro g_22
    induction g_22 with
    | zero =>
      intro j22 v22_4 hj22 i22_0 i22_1
      obtain rfl : n9 = j22 := by omega
      refine aw_iload dX9_leastDreadBehindRooms_22 rfl ?_
      refine aw_iload_n dX9_leastDreadBehindRooms_24 rfl ?_
      refine aw_icmp_ge (tgt := 60) dX9_leastDreadBehindRooms_25 (by decide) (fun c_9 => ?_) (fun c_9 => ?_)
      rotate_left
      · exact absurd (nI_le (a := n9) (b := n9) (Nat.le_refl _) (by omega)) c_9
      refine aw_iload dX9_leastDreadBehindRooms_60 rfl ?_
      refine aw_ireti dX9_leastDreadBehindRooms_62 rfl (Nat.le_of_ble_eq_true rfl) (Nat.le_of_ble_eq_true rfl) ?_
      exact ⟨(rooms_end hn9.1 eM9 hM9 i22_0), rfl, rfl⟩
    | succ g_22 ih_22_7 =>
      intro j22 v22_4 hj22 i22_0 i22_1
      have hlj22 : j22 < n9 := by omega
      refine aw_iload dX9_leastDreadBehindRooms_22 rfl ?_
      refine aw_iload_n dX9_leastDreadBehindRooms_24 rfl ?_
      refine aw_icmp_ge (tgt := 60) dX9_leastDreadBehindRooms_25 (by decide) (fun c_10 => ?_) (fun c_10 => ?_)
      · exact absurd c_10 (nI_ge (a := j22) (b := n9) (by omega) (by omega))
      refine aw_iload dX9_leastDreadBehindRooms_28 rfl ?_
      refine aw_iload_n dX9_leastDreadBehindRooms_30 rfl ?_
      refine aw_icmp_gt (tgt := 42) dX9_leastDreadBehindRooms_31 (by decide) (fun c_11 => ?_) (fun c_11 => ?_)
      · skip
        have nc_11 : (2 * M9 - n9 - 1) < j22 := (nI_ltI (a := (2 * M9 - n9 - 1)) (b := j22) (by omega) (by omega)).mp c_11
        refine aw_iload dX9_leastDreadBehindRooms_42 rfl ?_
        refine aw_iconst (v := 5) dX9_leastDreadBehindRooms_44 (by decide) ?_
        refine aw_isub dX9_leastDreadBehindRooms_45 ?_
        refine aw_iconst (v := 0) dX9_leastDreadBehindRooms_46 (by decide) ?_
        refine aw_bipush (v := 99) dX9_leastDreadBehindRooms_47 (by decide) ?_
        refine aw_callSNi (J' := jX11_bounded) (As := [.int (v22_4 - 5), .int 0, .int 99]) (st := []) dX9_leastDreadBehindRooms_49 tb_998 ok_X11_bounded rfl (g_X11_boundedS l D b N V hN hJ0.1 (v22_4 - 5) 0 99) rfl (Nat.le_of_ble_eq_true rfl) ⟨Nat.le_of_ble_eq_true rfl, Nat.le_of_ble_eq_true rfl, Nat.le_of_ble_eq_true rfl, Nat.le_of_ble_eq_true rfl⟩ (fun r_14 N_15 V_16 q_17 => ?_)
        obtain ⟨h_13, rfl, rfl⟩ := q_17
        refine aw_istore (ls' := [some (.ref (b + 1)), some (.int (nI n9)), some (.int (nI d9)), some (.int (nI (2 * M9 - n9 - 1))), some (.int r_14), some (.int (nI j22))]) dX9_leastDreadBehindRooms_52 (Nat.le_of_ble_eq_true rfl) rfl ?_
        refine aw_iinc (v := (nI (j22 + 1))) (ls' := [some (.ref (b + 1)), some (.int (nI n9)), some (.int (nI d9)), some (.int (nI (2 * M9 - n9 - 1))), some (.int r_14), some (.int (nI (j22 + 1)))]) dX9_leastDreadBehindRooms_54 rfl (fx_up_1 _) (Nat.le_of_ble_eq_true rfl) rfl ?_
        refine aw_goto (tgt := 22) dX9_leastDreadBehindRooms_57 (by decide) ?_
        refine aw_le ?_ (ih_22_7 (j22 + 1) r_14  (by omega) (bnd_dn hd9 i22_0 (by omega) (by omega) h_13) (by omega))
        exact ⟨rfl, ⟨rfl, ⟨rfl, ⟨rfl, ⟨rfl, ⟨rfl, trivial⟩⟩⟩⟩⟩⟩
      · skip
        have nc_11 : ¬ ((2 * M9 - n9 - 1) < j22) := fun z => c_11 ((nI_ltI (a := (2 * M9 - n9 - 1)) (b := j22) (by omega) (by omega)).mpr z)
        refine aw_iload dX9_leastDreadBehindRooms_34 rfl ?_
        refine aw_bipush (v := 7) dX9_leastDreadBehindRooms_36 (by decide) ?_
        refine aw_iadd dX9_leastDreadBehindRooms_38 ?_
        refine aw_goto (tgt := 46) dX9_leastDreadBehindRooms_39 (by decide) ?_
        refine aw_iconst (v := 0) dX9_leastDreadBehindRooms_46 (by decide) ?_
        refine aw_bipush (v := 99) dX9_leastDreadBehindRooms_47 (by decide) ?_
        refine aw_callSNi (J' := jX11_bounded) (As := [.int (v22_4 + 7), .int 0, .int 99]) (st := []) dX9_leastDreadBehindRooms_49 tb_998 ok_X11_bounded rfl (g_X11_boundedS l D b N V hN hJ0.1 (v22_4 + 7) 0 99) rfl (Nat.le_of_ble_eq_true rfl) ⟨Nat.le_of_ble_eq_true rfl, Nat.le_of_ble_eq_true rfl, Nat.le_of_ble_eq_true rfl, Nat.le_of_ble_eq_true rfl⟩ (fun r_20 N_21 V_22 q_23 => ?_)
        obtain ⟨h_19, rfl, rfl⟩ := q_23
        refine aw_istore (ls' := [some (.ref (b + 1)), some (.int (nI n9)), some (.int (nI d9)), some (.int (nI (2 * M9 - n9 - 1))), some (.int r_20), some (.int (nI j22))]) dX9_leastDreadBehindRooms_52 (Nat.le_of_ble_eq_true rfl) rfl ?_
        refine aw_iinc (v := (nI (j22 + 1))) (ls' := [some (.ref (b + 1)), some (.int (nI n9)), some (.int (nI d9)), some (.int (nI (2 * M9 - n9 - 1))), some (.int r_20), some (.int (nI (j22 + 1)))]) dX9_leastDreadBehindRooms_54 rfl (fx_up_1 _) (Nat.le_of_ble_eq_true rfl) rfl ?_
        refine aw_goto (tgt := 22) dX9_leastDreadBehindRooms_57 (by decide) ?_
        refine aw_le ?_ (ih_22_7 (j22 + 1) r_20  (by omega) (bnd_up hd9 i22_0 (by omega) (by omega) h_19) (by omega))
        exact ⟨rfl, ⟨rfl, ⟨rfl, ⟨rfl, ⟨rfl, ⟨rfl, trivial⟩⟩⟩⟩⟩⟩
  refine aw_le ?_ (loop_22_6 (n9 - 1) 1 (nI d9)  (by omega) (congrArg nI rF_00.symm) (Nat.le_refl 1))
  exact ⟨rfl, ⟨rfl, ⟨rfl, ⟨rfl, ⟨rfl, ⟨rfl, trivial⟩⟩⟩⟩⟩⟩

set_option maxHeartbeats 4000000 in
set_option maxRecDepth 100000 in
theorem g_X11_roomsS (l : Launch) (D : va_G) (b : Nat) (N : Nat) (V : Wd) (hN : 100 ≤ N) (hW : CW D b V) (n0 : Int32) (n1 : Int32) (hB : BY (fI (V 2))) : MI l D b 3 jX11_rooms [.ref (b + 0), .int n0, .int n1] N V 0 0 (fun r N9 V9 => (ANS (cRo n0 n1 (fI (V 1) 1)) r (roomsF (fI (V 2)) n0 n1) ∧ TKS (cRo n0 n1 (fI (V 1) 1)) (fI (V 1) 1) (fI (V9 1) 1)) ∧ N = N9 ∧ JW D b N [(1, 1, 2, 2), (1, 1, 3, 3), (1, 1, 4, 4), (1, 1, 1, 1)] V V9) := by
  have hJ0 : JW D b N [(1, 1, 2, 2), (1, 1, 3, 3), (1, 1, 4, 4), (1, 1, 1, 1)] V V := JW.rf hW
  refine mw_of (by decide) (by simp [Value.category]) (Nat.le_of_ble_eq_true rfl) ?_
  show AW l D b jX11_rooms (fx_rm 3 0 0) none (fx_MQ D b 0 0 (fx_qi (fun r N9 V9 => (ANS (cRo n0 n1 (fI (V 1) 1)) r (roomsF (fI (V 2)) n0 n1) ∧ TKS (cRo n0 n1 (fI (V 1) 1)) (fI (V 1) 1) (fI (V9 1) 1)) ∧ N = N9 ∧ JW D b N [(1, 1, 2, 2), (1, 1, 3, 3), (1, 1, 4, 4), (1, 1, 1, 1)] V V9))) 0 [some (.ref (b + 0)), some (.int n0), some (.int n1), none] [] N V 0 0
  obtain ⟨g_1, e_1⟩ := JW.get hJ0 ct_2
  refine aw_iload_n dX11_rooms_0 rfl ?_
  refine aw_if_lt (tgt := 24) dX11_rooms_1 (by decide) (fun c_2 => ?_) (fun c_2 => ?_)
  · skip
    refine aw_iconst (v := (-1)) dX11_rooms_24 (by decide) ?_
    refine aw_ireti dX11_rooms_25 rfl (Nat.le_of_ble_eq_true rfl) (Nat.le_of_ble_eq_true rfl) ?_
    exact ⟨⟨Or.inr ⟨(by have e0 : (0 : Int32).toInt = 0 := (by decide); have e1 : (1 : Int32).toInt = 1 := (by decide); have e12 : (12 : Int32).toInt = 12 := (by decide); have e99 : (99 : Int32).toInt = 99 := (by decide); have q0 := c_2; simp only [cRo, ← Int32.toInt_inj, Int32.le_iff_toInt_le, Int32.lt_iff_toInt_lt] at q0 ⊢; omega), rfl⟩, Or.inr ⟨(by have e0 : (0 : Int32).toInt = 0 := (by decide); have e1 : (1 : Int32).toInt = 1 := (by decide); have e12 : (12 : Int32).toInt = 12 := (by decide); have e99 : (99 : Int32).toInt = 99 := (by decide); have q0 := c_2; simp only [cRo, ← Int32.toInt_inj, Int32.le_iff_toInt_le, Int32.lt_iff_toInt_lt] at q0 ⊢; omega), (Eq.refl (fI (V 1) 1))⟩⟩, rfl, hJ0⟩
  · skip
    refine aw_iload_n dX11_rooms_4 rfl ?_
    refine aw_bipush (v := 99) dX11_rooms_5 (by decide) ?_
    refine aw_icmp_gt (tgt := 24) dX11_rooms_7 (by decide) (fun c_3 => ?_) (fun c_3 => ?_)
    · skip
      refine aw_iconst (v := (-1)) dX11_rooms_24 (by decide) ?_
      refine aw_ireti dX11_rooms_25 rfl (Nat.le_of_ble_eq_true rfl) (Nat.le_of_ble_eq_true rfl) ?_
      exact ⟨⟨Or.inr ⟨(by have e0 : (0 : Int32).toInt = 0 := (by decide); have e1 : (1 : Int32).toInt = 1 := (by decide); have e12 : (12 : Int32).toInt = 12 := (by decide); have e99 : (99 : Int32).toInt = 99 := (by decide); have q0 := c_2; have q1 := c_3; simp only [cRo, ← Int32.toInt_inj, Int32.le_iff_toInt_le, Int32.lt_iff_toInt_lt] at q0 q1 ⊢; omega), rfl⟩, Or.inr ⟨(by have e0 : (0 : Int32).toInt = 0 := (by decide); have e1 : (1 : Int32).toInt = 1 := (by decide); have e12 : (12 : Int32).toInt = 12 := (by decide); have e99 : (99 : Int32).toInt = 99 := (by decide); have q0 := c_2; have q1 := c_3; simp only [cRo, ← Int32.toInt_inj, Int32.le_iff_toInt_le, Int32.lt_iff_toInt_lt] at q0 q1 ⊢; omega), (Eq.refl (fI (V 1) 1))⟩⟩, rfl, hJ0⟩
    · skip
      refine aw_aload_n dX11_rooms_10 rfl ?_
      obtain ⟨ek_4, x_4, y_4, e_4, hx_4, hy_4⟩ := JW.get hJ0 ct_0
      refine aw_get dX11_rooms_11 fl_X11_12 e_4 (by omega) rfl ?_
      refine aw_iload_n dX11_rooms_14 rfl ?_
      refine aw_iconst (v := 1) dX11_rooms_15 (by decide) ?_
      refine aw_bipush (v := 12) dX11_rooms_16 (by decide) ?_
      obtain ⟨ts_8, tn_8, tf_8, ta_8, e_8, hta_8⟩ := JW.get hJ0 ct_1
      refine aw_callVi (J' := jX10_holds) (As := [.int n0, .int 1, .int 12]) (st := []) dX11_rooms_18 tb_267 ok_X10_holds ⟨_, e_8⟩ (by omega) rfl rfl (g_X10_holdsK l D b N V hN hJ0.1 n0 1 12) rfl (Nat.le_of_ble_eq_true rfl) ⟨Nat.le_of_ble_eq_true rfl, Nat.le_of_ble_eq_true rfl, Nat.le_of_ble_eq_true rfl, Nat.le_of_ble_eq_true rfl⟩ (fun r_9 N_10 V_11 q_12 => ?_)
      obtain ⟨⟨z_7, h_6⟩, rfl, rfl⟩ := q_12
      refine aw_if_ne (tgt := 26) dX11_rooms_21 (by decide) (fun c_13 => ?_) (fun c_13 => ?_)
      · skip
        have hh9 := (h_6.resolve_right (fun z => c_13 z.1)).2
        have hd0 := Int32.not_lt.mp c_2
        have hd1 := Int32.not_lt.mp c_3
        have hc9 : cRo n0 n1 (fI (V 1) 1) := ⟨hd0, hd1, hh9.1, hh9.2.1, hh9.2.2⟩
        obtain ⟨m9, m9a, m9b, rfl⟩ := in_nat (a := 1) (b := 12) (by decide) ⟨hh9.1, hh9.2.1⟩
        obtain ⟨d9, d9a, d9b, rfl⟩ := in_nat (a := 0) (b := 99) (by decide) ⟨hd0, hd1⟩
        have hgf : fI (V 2) = g_1 := fI_cI e_1
        have hB9 : BY g_1 := hgf ▸ hB
        refine aw_aload_n dX11_rooms_26 rfl ?_
        refine aw_get dX11_rooms_27 fl_X11_12 e_4 (by omega) rfl ?_
        refine aw_iload_n dX11_rooms_30 rfl ?_
        refine aw_callVv (J' := jX10_take) (As := [.int (nI m9)]) (st := []) dX11_rooms_31 tb_271 ok_X10_take ⟨_, e_8⟩ (by omega) rfl rfl (g_X10_takeS l D b N V hN hJ0.1 (nI m9)) rfl (Nat.le_of_ble_eq_true rfl) ⟨Nat.le_of_ble_eq_true rfl, Nat.le_of_ble_eq_true rfl, Nat.le_of_ble_eq_true rfl, Nat.le_of_ble_eq_true rfl⟩ (fun  N_18 V_17 q_19 => ?_)
        obtain ⟨h_15, rfl, q_14⟩ := q_19
        have j_16 := JW.trans hJ0 (JW.weak q_14 (Sub.cons LM0 (by decide) (by decide) (by decide) (Or.inr ⟨by decide, by decide⟩) (Sub.cons (LMs LM0) (by decide) (by decide) (by decide) (Or.inr ⟨by decide, by decide⟩) (Sub.cons (LMs (LMs LM0)) (by decide) (by decide) (by decide) (Or.inr ⟨by decide, by decide⟩) (Sub.cons (LMs (LMs (LMs LM0))) (by decide) (by decide) (by decide) (Or.inr ⟨by decide, by decide⟩) Sub.nil)))))
        refine aw_iconst (v := 0) dX11_rooms_34 (by decide) ?_
        refine aw_istore_n (ls' := [some (.ref (b + 0)), some (.int (nI m9)), some (.int (nI d9)), some (.int 0)]) dX11_rooms_35 (Nat.le_of_ble_eq_true rfl) rfl ?_
        have loop_36_19 : ∀ (g_36 : Nat), ∀ (j36 : Nat), j36 + g_36 = m9 → (∀ i, i < j36 → cof g_1 i < 16) → AW l D b jX11_rooms (fx_rm 3 0 0) none (fx_MQ D b 0 0 (fx_qi (fun r N9 V9 => (ANS (cRo (nI m9) (nI d9) (fI (V 1) 1)) r (roomsF (fI (V 2)) (nI m9) (nI d9)) ∧ TKS (cRo (nI m9) (nI d9) (fI (V 1) 1)) (fI (V 1) 1) (fI (V9 1) 1)) ∧ N = N9 ∧ JW D b N [(1, 1, 2, 2), (1, 1, 3, 3), (1, 1, 4, 4), (1, 1, 1, 1)] V V9))) 36 [some (.ref (b + 0)), some (.int (nI m9)), some (.int (nI d9)), some (.int (nI j36))] [] N V_17 0 0 := by
          intro g_36
          induction g_36 with
          | zero =>
            intro j36  hj36 i36_0
            obtain rfl : m9 = j36 := by omega
            refine aw_iload_n dX11_rooms_36 rfl ?_
            refine aw_iload_n dX11_rooms_37 rfl ?_
            refine aw_icmp_ge (tgt := 63) dX11_rooms_38 (by decide) (fun c_22 => ?_) (fun c_22 => ?_)
            rotate_left
            · exact absurd (nI_le (a := m9) (b := m9) (Nat.le_refl _) (by omega)) c_22
            refine aw_aload_n dX11_rooms_63 rfl ?_
            obtain ⟨ek_23, x_23, y_23, e_23, hx_23, hy_23⟩ := JW.get j_16 ct_0
            refine aw_get dX11_rooms_64 fl_X11_12 e_23 (by omega) rfl ?_
            refine aw_iload_n dX11_rooms_67 rfl ?_
            refine aw_iload_n dX11_rooms_68 rfl ?_
            refine aw_callSi (J' := jX9_leastDreadBehindRooms) (As := [.ref (b + 1), .int (nI m9), .int (nI d9)]) (st := []) dX11_rooms_69 tb_991 ok_X9_leastDreadBehindRooms rfl (g_X9_leastDreadBehindRoomsS l D b N V_17 hN j_16.1 (nI m9) (nI d9) g_1 ((JW.same q_14 (by decide) (fun k => (nfc (by omega) (nfc (by omega) (nfc (by omega) (nfc (by omega) nf0)))))).trans e_1) m9 (h_15.2.1.trans rfl) ⟨by omega, by omega⟩ hB9 rfl d9 (by omega) rfl) rfl (Nat.le_of_ble_eq_true rfl) ⟨Nat.le_of_ble_eq_true rfl, Nat.le_of_ble_eq_true rfl, Nat.le_of_ble_eq_true rfl, Nat.le_of_ble_eq_true rfl⟩ (fun r_26 N_27 V_28 q_29 => ?_)
            obtain ⟨h_25, rfl, rfl⟩ := q_29
            refine aw_ireti dX11_rooms_72 rfl (Nat.le_of_ble_eq_true rfl) (Nat.le_of_ble_eq_true rfl) ?_
            exact ⟨⟨Or.inl ⟨hc9, by rw [hgf]; exact h_25.trans (roomsF_ok m9b d9b i36_0).symm⟩, Or.inl ⟨hc9, h_15.1⟩⟩, rfl, j_16⟩
          | succ g_36 ih_36_20 =>
            intro j36  hj36 i36_0
            have hlj36 : j36 < m9 := by omega
            refine aw_iload_n dX11_rooms_36 rfl ?_
            refine aw_iload_n dX11_rooms_37 rfl ?_
            refine aw_icmp_ge (tgt := 63) dX11_rooms_38 (by decide) (fun c_30 => ?_) (fun c_30 => ?_)
            · exact absurd c_30 (nI_ge (a := j36) (b := m9) (by omega) (by omega))
            refine aw_aload_n dX11_rooms_41 rfl ?_
            obtain ⟨ek_31, x_31, y_31, e_31, hx_31, hy_31⟩ := JW.get j_16 ct_0
            refine aw_get dX11_rooms_42 fl_X11_12 e_31 (by omega) rfl ?_
            refine aw_iload_n dX11_rooms_45 rfl ?_
            obtain ⟨ts_34, tn_34, tf_34, ta_34, e_34, hta_34⟩ := JW.get j_16 ct_1
            refine aw_callVi (J' := jX10_byteAt) (As := [.int (nI j36)]) (st := []) dX11_rooms_46 tb_990 ok_X10_byteAt ⟨_, e_34⟩ (by omega) rfl rfl (g_X10_byteAtS l D b N V_17 hN j_16.1 (nI j36) g_1 ((JW.same q_14 (by decide) (fun k => (nfc (by omega) (nfc (by omega) (nfc (by omega) (nfc (by omega) nf0)))))).trans e_1) m9 (h_15.2.1.trans rfl) ⟨by omega, by omega⟩ j36 (by omega) rfl) rfl (Nat.le_of_ble_eq_true rfl) ⟨Nat.le_of_ble_eq_true rfl, Nat.le_of_ble_eq_true rfl, Nat.le_of_ble_eq_true rfl, Nat.le_of_ble_eq_true rfl⟩ (fun r_35 N_36 V_37 q_38 => ?_)
            obtain ⟨h_33, rfl, rfl⟩ := q_38
            refine aw_eqi (y := (g_1 j36)) h_33 ?_
            refine aw_bipush (v := 16) dX11_rooms_49 (by decide) ?_
            refine aw_icmp_lt (tgt := 57) dX11_rooms_51 (by decide) (fun c_39 => ?_) (fun c_39 => ?_)
            · skip
              refine aw_iinc (v := (nI (j36 + 1))) (ls' := [some (.ref (b + 0)), some (.int (nI m9)), some (.int (nI d9)), some (.int (nI (j36 + 1)))]) dX11_rooms_57 rfl (fx_up_1 _) (Nat.le_of_ble_eq_true rfl) rfl ?_
              refine aw_goto (tgt := 36) dX11_rooms_60 (by decide) ?_
              refine aw_le ?_ (ih_36_20 (j36 + 1)   (by omega) (it_lt i36_0 (cof_lt hB9 c_39)))
              exact ⟨rfl, ⟨rfl, ⟨rfl, ⟨rfl, trivial⟩⟩⟩⟩
            · skip
              refine aw_bipush (v := (-3)) dX11_rooms_54 (by decide) ?_
              refine aw_ireti dX11_rooms_56 rfl (Nat.le_of_ble_eq_true rfl) (Nat.le_of_ble_eq_true rfl) ?_
              exact ⟨⟨Or.inl ⟨hc9, by rw [hgf]; exact (roomsF_no m9b (by omega) (cof_ge hB9 c_39)).symm⟩, Or.inl ⟨hc9, h_15.1⟩⟩, rfl, j_16⟩
        refine aw_le ?_ (loop_36_19 m9 0   (by omega) (fun i h => absurd h (Nat.not_lt_zero i)))
        exact ⟨rfl, ⟨rfl, ⟨rfl, ⟨rfl, trivial⟩⟩⟩⟩
      · skip
        refine aw_iconst (v := (-1)) dX11_rooms_24 (by decide) ?_
        refine aw_ireti dX11_rooms_25 rfl (Nat.le_of_ble_eq_true rfl) (Nat.le_of_ble_eq_true rfl) ?_
        exact ⟨⟨Or.inr ⟨(by have e0 : (0 : Int32).toInt = 0 := (by decide); have e1 : (1 : Int32).toInt = 1 := (by decide); have e12 : (12 : Int32).toInt = 12 := (by decide); have e99 : (99 : Int32).toInt = 99 := (by decide); have q0 := c_2; have q1 := c_3; have q2 := c_13; have q3 := h_6; simp only [cRo, ← Int32.toInt_inj, Int32.le_iff_toInt_le, Int32.lt_iff_toInt_lt] at q0 q1 q2 q3 ⊢; omega), rfl⟩, Or.inr ⟨(by have e0 : (0 : Int32).toInt = 0 := (by decide); have e1 : (1 : Int32).toInt = 1 := (by decide); have e12 : (12 : Int32).toInt = 12 := (by decide); have e99 : (99 : Int32).toInt = 99 := (by decide); have q0 := c_2; have q1 := c_3; have q2 := c_13; have q3 := h_6; simp only [cRo, ← Int32.toInt_inj, Int32.le_iff_toInt_le, Int32.lt_iff_toInt_lt] at q0 q1 q2 q3 ⊢; omega), (Eq.refl (fI (V 1) 1))⟩⟩, rfl, hJ0⟩

