set_option maxHeartbeats 4000000 in
set_option maxRecDepth 100000 in
theorem g_X9_wordsWithOneMore (l : Launch) (D : va_G) (b : Nat) (N : Nat) (V : Wd) (hN : 100 ≤ N) (hW : CW D b V) (n0 : Int32) (n1 : Int32)  : ML l D b 1 jX9_wordsWithOneMore [.ref (b + 97), .int n0, .int n1] N V 0 0 (fun r N9 V9 => N = N9 ∧ V = V9) := by
  have hJ0 : JW D b N [] V V := JW.rf hW
  refine mw_of (by decide) (by simp [Value.category]) (Nat.le_of_ble_eq_true rfl) ?_
  show AW l D b jX9_wordsWithOneMore (fx_rm 1 0 0) none (fx_MQ D b 0 0 (fx_ql (fun r N9 V9 => N = N9 ∧ V = V9))) 0 [some (.ref (b + 97)), some (.int n0), some (.int n1), none, none, none, none] [] N V 0 0
  refine aw_lconst (v := 0) dX9_wordsWithOneMore_0 (by decide) ?_
  refine aw_lstore_n (ls' := [some (.ref (b + 97)), some (.int n0), some (.int n1), some (.long 0), none, none, none]) dX9_wordsWithOneMore_1 (Nat.le_of_ble_eq_true rfl) rfl ?_
  refine aw_iconst (v := 0) dX9_wordsWithOneMore_2 (by decide) ?_
  refine aw_istore (ls' := [some (.ref (b + 97)), some (.int n0), some (.int n1), some (.long 0), none, some (.int 0), none]) dX9_wordsWithOneMore_3 (Nat.le_of_ble_eq_true rfl) rfl ?_
  have loop_5_0 : ∀ (g_5 : Nat), ∀ (j5 : Nat) (v5_3 : Int64), j5 + g_5 = 16 → AW l D b jX9_wordsWithOneMore (fx_rm 1 0 0) none (fx_MQ D b 0 0 (fx_ql (fun r N9 V9 => N = N9 ∧ V = V9))) 5 [some (.ref (b + 97)), some (.int n0), some (.int n1), some (.long v5_3), none, some (.int (nI j5)), none] [] N V 0 0 := by
    intro g_5
    induction g_5 with
    | zero =>
      intro j5 v5_3 hj5
      obtain rfl : j5 = 16 := by omega
      refine aw_iload dX9_wordsWithOneMore_5 rfl ?_
      refine aw_bipush (v := 16) dX9_wordsWithOneMore_7 (by decide) ?_
      refine aw_icmp_ge (tgt := 60) dX9_wordsWithOneMore_9 (by decide) (fun c_3 => ?_) (fun c_3 => ?_)
      rotate_left
      · exact absurd (nI_le (a := 16) (b := 16) (Nat.le_refl _) (by omega)) c_3
      refine aw_lload_n dX9_wordsWithOneMore_60 rfl ?_
      refine aw_lreti dX9_wordsWithOneMore_61 rfl (Nat.le_of_ble_eq_true rfl) (Nat.le_of_ble_eq_true rfl) ?_
      exact ⟨rfl, rfl⟩
    | succ g_5 ih_5_1 =>
      intro j5 v5_3 hj5
      have hlj5 : j5 < 16 := by omega
      refine aw_iload dX9_wordsWithOneMore_5 rfl ?_
      refine aw_bipush (v := 16) dX9_wordsWithOneMore_7 (by decide) ?_
      refine aw_icmp_ge (tgt := 60) dX9_wordsWithOneMore_9 (by decide) (fun c_4 => ?_) (fun c_4 => ?_)
      · exact absurd c_4 (nI_ge (a := j5) (b := 16) (by omega) (by omega))
      refine aw_iload_n dX9_wordsWithOneMore_12 rfl ?_
      refine aw_iload dX9_wordsWithOneMore_13 rfl ?_
      refine aw_iconst (v := 1) dX9_wordsWithOneMore_15 (by decide) ?_
      refine aw_iadd dX9_wordsWithOneMore_16 ?_
      refine aw_eqi (y := nI (j5 + 1)) (nI_add _ _) ?_
      refine aw_isub dX9_wordsWithOneMore_17 ?_
      refine aw_istore (ls' := [some (.ref (b + 97)), some (.int n0), some (.int n1), some (.long v5_3), none, some (.int (nI j5)), some (.int (n1 - (nI (j5 + 1))))]) dX9_wordsWithOneMore_18 (Nat.le_of_ble_eq_true rfl) rfl ?_
      refine aw_iload_n dX9_wordsWithOneMore_20 rfl ?_
      refine aw_iload dX9_wordsWithOneMore_21 rfl ?_
      refine aw_callSNi (J' := jX11_has) (As := [.int n0, .int (nI j5)]) (st := []) dX9_wordsWithOneMore_23 tb_964 ok_X11_has rfl (g_X11_has l D b N V hN hJ0.1 n0 (nI j5)) rfl (Nat.le_of_ble_eq_true rfl) ⟨Nat.le_of_ble_eq_true rfl, Nat.le_of_ble_eq_true rfl, Nat.le_of_ble_eq_true rfl, Nat.le_of_ble_eq_true rfl⟩ (fun r_7 N_8 V_9 q_10 => ?_)
      obtain ⟨h_6, rfl, rfl⟩ := q_10
      refine aw_if_eq (tgt := 54) dX9_wordsWithOneMore_26 (by decide) (fun c_11 => ?_) (fun c_11 => ?_)
      · skip
        refine aw_iinc (v := (nI (j5 + 1))) (ls' := [some (.ref (b + 97)), some (.int n0), some (.int n1), some (.long v5_3), none, some (.int (nI (j5 + 1))), some (.int (n1 - (nI (j5 + 1))))]) dX9_wordsWithOneMore_54 rfl (fx_up_1 _) (Nat.le_of_ble_eq_true rfl) rfl ?_
        refine aw_goto (tgt := 5) dX9_wordsWithOneMore_57 (by decide) ?_
        refine aw_le ?_ (ih_5_1 (j5 + 1) v5_3  (by omega))
        exact ⟨rfl, ⟨rfl, ⟨rfl, ⟨rfl, ⟨rfl, trivial⟩⟩⟩⟩⟩
      · skip
        refine aw_iload dX9_wordsWithOneMore_29 rfl ?_
        refine aw_if_lt (tgt := 54) dX9_wordsWithOneMore_31 (by decide) (fun c_12 => ?_) (fun c_12 => ?_)
        · skip
          refine aw_iinc (v := (nI (j5 + 1))) (ls' := [some (.ref (b + 97)), some (.int n0), some (.int n1), some (.long v5_3), none, some (.int (nI (j5 + 1))), some (.int (n1 - (nI (j5 + 1))))]) dX9_wordsWithOneMore_54 rfl (fx_up_1 _) (Nat.le_of_ble_eq_true rfl) rfl ?_
          refine aw_goto (tgt := 5) dX9_wordsWithOneMore_57 (by decide) ?_
          refine aw_le ?_ (ih_5_1 (j5 + 1) v5_3  (by omega))
          exact ⟨rfl, ⟨rfl, ⟨rfl, ⟨rfl, ⟨rfl, trivial⟩⟩⟩⟩⟩
        · skip
          refine aw_iload dX9_wordsWithOneMore_34 rfl ?_
          refine aw_aload_n dX9_wordsWithOneMore_36 rfl ?_
          have e_13 := JW.get hJ0 ct_97
          refine aw_get dX9_wordsWithOneMore_37 fl_X9_15 e_13 (by omega) rfl ?_
          obtain ⟨g_14, e_14⟩ := JW.get hJ0 ct_99
          refine aw_alen (t0 := 1) (v := 129) dX9_wordsWithOneMore_40 e_14 (by omega) rfl rfl ?_
          refine aw_icmp_ge (tgt := 54) dX9_wordsWithOneMore_41 (by decide) (fun c_15 => ?_) (fun c_15 => ?_)
          · skip
            refine aw_iinc (v := (nI (j5 + 1))) (ls' := [some (.ref (b + 97)), some (.int n0), some (.int n1), some (.long v5_3), none, some (.int (nI (j5 + 1))), some (.int (n1 - (nI (j5 + 1))))]) dX9_wordsWithOneMore_54 rfl (fx_up_1 _) (Nat.le_of_ble_eq_true rfl) rfl ?_
            refine aw_goto (tgt := 5) dX9_wordsWithOneMore_57 (by decide) ?_
            refine aw_le ?_ (ih_5_1 (j5 + 1) v5_3  (by omega))
            exact ⟨rfl, ⟨rfl, ⟨rfl, ⟨rfl, ⟨rfl, trivial⟩⟩⟩⟩⟩
          · skip
            refine aw_lload_n dX9_wordsWithOneMore_44 rfl ?_
            refine aw_aload_n dX9_wordsWithOneMore_45 rfl ?_
            refine aw_get dX9_wordsWithOneMore_46 fl_X9_15 e_13 (by omega) rfl ?_
            refine aw_iload dX9_wordsWithOneMore_49 rfl ?_
            refine aw_lald (v := (g_14 (Int32.toNatClampNeg (n1 - (nI (j5 + 1)))))) dX9_wordsWithOneMore_51 e_14 (by omega) (vi_in (Int32.not_lt.mp c_12) (vi_lt (n := 129) (Int32.not_le.mp c_15) (by decide)) (by decide)) rfl ?_
            refine aw_ladd dX9_wordsWithOneMore_52 ?_
            refine aw_lstore_n (ls' := [some (.ref (b + 97)), some (.int n0), some (.int n1), some (.long (v5_3 + (g_14 (Int32.toNatClampNeg (n1 - (nI (j5 + 1))))))), none, some (.int (nI j5)), some (.int (n1 - (nI (j5 + 1))))]) dX9_wordsWithOneMore_53 (Nat.le_of_ble_eq_true rfl) rfl ?_
            refine aw_iinc (v := (nI (j5 + 1))) (ls' := [some (.ref (b + 97)), some (.int n0), some (.int n1), some (.long (v5_3 + (g_14 (Int32.toNatClampNeg (n1 - (nI (j5 + 1))))))), none, some (.int (nI (j5 + 1))), some (.int (n1 - (nI (j5 + 1))))]) dX9_wordsWithOneMore_54 rfl (fx_up_1 _) (Nat.le_of_ble_eq_true rfl) rfl ?_
            refine aw_goto (tgt := 5) dX9_wordsWithOneMore_57 (by decide) ?_
            refine aw_le ?_ (ih_5_1 (j5 + 1) (v5_3 + (g_14 (Int32.toNatClampNeg (n1 - (nI (j5 + 1))))))  (by omega))
            exact ⟨rfl, ⟨rfl, ⟨rfl, ⟨rfl, ⟨rfl, trivial⟩⟩⟩⟩⟩
  refine aw_le ?_ (loop_5_0 16 0 0  (by omega))
  exact ⟨rfl, ⟨rfl, ⟨rfl, ⟨rfl, ⟨rfl, trivial⟩⟩⟩⟩⟩

set_option maxHeartbeats 4000000 in
set_option maxRecDepth 100000 in
theorem g_X9_wordsWeighing (l : Launch) (D : va_G) (b : Nat) (N : Nat) (V : Wd) (hN : 100 ≤ N) (hW : CW D b V) (n0 : Int32) (n1 : Int32) (n2 : Int32)  : ML l D b 2 jX9_wordsWeighing [.ref (b + 97), .int n0, .int n1, .int n2] N V 0 0 (fun r N9 V9 => N = N9 ∧ JW D b N [(99, 99, 0, 1000000)] V V9) := by
  have hJ0 : JW D b N [(99, 99, 0, 1000000)] V V := JW.rf hW
  refine mw_of (by decide) (by simp [Value.category]) (Nat.le_of_ble_eq_true rfl) ?_
  show AW l D b jX9_wordsWeighing (fx_rm 2 0 0) none (fx_MQ D b 0 0 (fx_ql (fun r N9 V9 => N = N9 ∧ JW D b N [(99, 99, 0, 1000000)] V V9))) 0 [some (.ref (b + 97)), some (.int n0), some (.int n1), some (.int n2), none, none] [] N V 0 0
  refine aw_iconst (v := 0) dX9_wordsWeighing_0 (by decide) ?_
  refine aw_istore (ls' := [some (.ref (b + 97)), some (.int n0), some (.int n1), some (.int n2), some (.int 0), none]) dX9_wordsWeighing_1 (Nat.le_of_ble_eq_true rfl) rfl ?_
  have e_1 := JW.get hJ0 ct_97
  obtain ⟨g_2, e_2⟩ := JW.get hJ0 ct_99
  have loop_3_2 : ∀ (g_3 : Nat), ∀ (j3 : Nat)  (V3 : Wd), j3 + g_3 = 129 → (JW D b N [(99, 99, 0, 1000000)] V V3) → AW l D b jX9_wordsWeighing (fx_rm 2 0 0) none (fx_MQ D b 0 0 (fx_ql (fun r N9 V9 => N = N9 ∧ JW D b N [(99, 99, 0, 1000000)] V V9))) 3 [some (.ref (b + 97)), some (.int n0), some (.int n1), some (.int n2), some (.int (nI j3)), none] [] N V3 0 0 := by
    intro g_3
    induction g_3 with
    | zero =>
      intro j3  V3 hj3 i3_0
      obtain rfl : j3 = 129 := by omega
      refine aw_iload dX9_wordsWeighing_3 rfl ?_
      refine aw_aload_n dX9_wordsWeighing_5 rfl ?_
      have e_5 := JW.get i3_0 ct_97
      refine aw_get dX9_wordsWeighing_6 fl_X9_15 e_5 (by omega) rfl ?_
      obtain ⟨g_6, e_6⟩ := JW.get i3_0 ct_99
      refine aw_alen (t0 := 1) (v := 129) dX9_wordsWeighing_9 e_6 (by omega) rfl rfl ?_
      refine aw_icmp_ge (tgt := 27) dX9_wordsWeighing_10 (by decide) (fun c_7 => ?_) (fun c_7 => ?_)
      rotate_left
      · exact absurd (nI_le (a := 129) (b := 129) (Nat.le_refl _) (by omega)) c_7
      refine aw_aload_n dX9_wordsWeighing_27 rfl ?_
      refine aw_get dX9_wordsWeighing_28 fl_X9_15 e_5 (by omega) rfl ?_
      refine aw_iconst (v := 0) dX9_wordsWeighing_31 (by decide) ?_
      refine aw_lconst (v := 1) dX9_wordsWeighing_32 (by decide) ?_
      refine aw_last dX9_wordsWeighing_33 e_6 (by omega) (vp_in_nI (n := 0) (N := 129) (by decide) (by decide)) ?_
      refine aw_up i3_0 ct_99 ⟨_, rfl⟩ (WA LM0 (by decide) (by decide)) (fun V_8 j_8 k_8 e_8 => ?_)
      refine aw_iconst (v := 0) dX9_wordsWeighing_34 (by decide) ?_
      refine aw_istore (ls' := [some (.ref (b + 97)), some (.int n0), some (.int n1), some (.int n2), some (.int 0), none]) dX9_wordsWeighing_35 (Nat.le_of_ble_eq_true rfl) rfl ?_
      have hb_9 := fx_clt n0
      have loop_37_9 : ∀ (g_37 : Nat), ∀ (j37 : Nat)  (V37 : Wd), j37 + g_37 = (Int32.toNatClampNeg n0) → (JW D b N [(99, 99, 0, 1000000)] V V37) → AW l D b jX9_wordsWeighing (fx_rm 2 0 0) none (fx_MQ D b 0 0 (fx_ql (fun r N9 V9 => N = N9 ∧ JW D b N [(99, 99, 0, 1000000)] V V9))) 37 [some (.ref (b + 97)), some (.int n0), some (.int n1), some (.int n2), some (.int (nI j37)), none] [] N V37 0 0 := by
        intro g_37
        induction g_37 with
        | zero =>
          intro j37  V37 hj37 i37_0
          obtain rfl : j37 = (Int32.toNatClampNeg n0) := by omega
          refine aw_iload dX9_wordsWeighing_37 rfl ?_
          refine aw_iload_n dX9_wordsWeighing_39 rfl ?_
          refine aw_icmp_ge (tgt := 83) dX9_wordsWeighing_40 (by decide) (fun c_12 => ?_) (fun c_12 => ?_)
          rotate_left
          · exact absurd (fx_gec n0) c_12
          refine aw_iload_n dX9_wordsWeighing_83 rfl ?_
          refine aw_if_lt (tgt := 105) dX9_wordsWeighing_84 (by decide) (fun c_13 => ?_) (fun c_13 => ?_)
          · skip
            refine aw_lconst (v := 0) dX9_wordsWeighing_105 (by decide) ?_
            refine aw_lreti dX9_wordsWeighing_106 rfl (Nat.le_of_ble_eq_true rfl) (Nat.le_of_ble_eq_true rfl) ?_
            exact ⟨rfl, i37_0⟩
          · skip
            refine aw_iload_n dX9_wordsWeighing_87 rfl ?_
            refine aw_aload_n dX9_wordsWeighing_88 rfl ?_
            have e_14 := JW.get i37_0 ct_97
            refine aw_get dX9_wordsWeighing_89 fl_X9_15 e_14 (by omega) rfl ?_
            obtain ⟨g_15, e_15⟩ := JW.get i37_0 ct_99
            refine aw_alen (t0 := 1) (v := 129) dX9_wordsWeighing_92 e_15 (by omega) rfl rfl ?_
            refine aw_icmp_ge (tgt := 105) dX9_wordsWeighing_93 (by decide) (fun c_16 => ?_) (fun c_16 => ?_)
            · skip
              refine aw_lconst (v := 0) dX9_wordsWeighing_105 (by decide) ?_
              refine aw_lreti dX9_wordsWeighing_106 rfl (Nat.le_of_ble_eq_true rfl) (Nat.le_of_ble_eq_true rfl) ?_
              exact ⟨rfl, i37_0⟩
            · skip
              refine aw_aload_n dX9_wordsWeighing_96 rfl ?_
              refine aw_get dX9_wordsWeighing_97 fl_X9_15 e_14 (by omega) rfl ?_
              refine aw_iload_n dX9_wordsWeighing_100 rfl ?_
              refine aw_lald (v := (g_15 (Int32.toNatClampNeg n2))) dX9_wordsWeighing_101 e_15 (by omega) (vi_in (Int32.not_lt.mp c_13) (vi_lt (n := 129) (Int32.not_le.mp c_16) (by decide)) (by decide)) rfl ?_
              refine aw_goto (tgt := 106) dX9_wordsWeighing_102 (by decide) ?_
              refine aw_lreti dX9_wordsWeighing_106 rfl (Nat.le_of_ble_eq_true rfl) (Nat.le_of_ble_eq_true rfl) ?_
              exact ⟨rfl, i37_0⟩
        | succ g_37 ih_37_10 =>
          intro j37  V37 hj37 i37_0
          have hlj37 : j37 < (Int32.toNatClampNeg n0) := by omega
          refine aw_iload dX9_wordsWeighing_37 rfl ?_
          refine aw_iload_n dX9_wordsWeighing_39 rfl ?_
          refine aw_icmp_ge (tgt := 83) dX9_wordsWeighing_40 (by decide) (fun c_17 => ?_) (fun c_17 => ?_)
          · exact absurd c_17 (fx_gej (by omega))
          refine aw_aload_n dX9_wordsWeighing_43 rfl ?_
          have e_18 := JW.get i37_0 ct_97
          refine aw_get dX9_wordsWeighing_44 fl_X9_15 e_18 (by omega) rfl ?_
          obtain ⟨g_19, e_19⟩ := JW.get i37_0 ct_99
          refine aw_alen (t0 := 1) (v := 129) dX9_wordsWeighing_47 e_19 (by omega) rfl rfl ?_
          refine aw_iconst (v := 1) dX9_wordsWeighing_48 (by decide) ?_
          refine aw_isub dX9_wordsWeighing_49 ?_
          refine aw_eqi (y := 128) (by decide) ?_
          refine aw_istore (ls' := [some (.ref (b + 97)), some (.int n0), some (.int n1), some (.int n2), some (.int (nI j37)), some (.int 128)]) dX9_wordsWeighing_50 (Nat.le_of_ble_eq_true rfl) rfl ?_
          have loop_52_19 : ∀ (j52 : Nat), ∀ (V52 : Wd), j52 ≤ 129 → (JW D b N [(99, 99, 0, 1000000)] V V52) → AW l D b jX9_wordsWeighing (fx_rm 2 0 0) none (fx_MQ D b 0 0 (fx_ql (fun r N9 V9 => N = N9 ∧ JW D b N [(99, 99, 0, 1000000)] V V9))) 52 [some (.ref (b + 97)), some (.int n0), some (.int n1), some (.int n2), some (.int (nI j37)), some (.int (fx_dn j52))] [] N V52 0 0 := by
            intro j52
            induction j52 with
            | zero =>
              intro V52 hj52 i52_0
              show AW l D b jX9_wordsWeighing (fx_rm 2 0 0) none (fx_MQ D b 0 0 (fx_ql (fun r N9 V9 => N = N9 ∧ JW D b N [(99, 99, 0, 1000000)] V V9))) 52 [some (.ref (b + 97)), some (.int n0), some (.int n1), some (.int n2), some (.int (nI j37)), some (.int (-1))] [] N V52 0 0
              refine aw_iload dX9_wordsWeighing_52 rfl ?_
              refine aw_if_lt (tgt := 77) dX9_wordsWeighing_54 (by decide) (fun c_22 => ?_) (fun c_22 => ?_)
              rotate_left
              · exact absurd (by decide) c_22
              refine aw_iinc (v := (nI (j37 + 1))) (ls' := [some (.ref (b + 97)), some (.int n0), some (.int n1), some (.int n2), some (.int (nI (j37 + 1))), some (.int (-1))]) dX9_wordsWeighing_77 rfl (fx_up_1 _) (Nat.le_of_ble_eq_true rfl) rfl ?_
              refine aw_goto (tgt := 37) dX9_wordsWeighing_80 (by decide) ?_
              refine aw_le ?_ (ih_37_10 (j37 + 1)  V52 (by omega) (i52_0))
              exact ⟨rfl, ⟨rfl, ⟨rfl, ⟨rfl, ⟨rfl, trivial⟩⟩⟩⟩⟩
            | succ j52 ih_52_20 =>
              intro V52 hj52 i52_0
              show AW l D b jX9_wordsWeighing (fx_rm 2 0 0) none (fx_MQ D b 0 0 (fx_ql (fun r N9 V9 => N = N9 ∧ JW D b N [(99, 99, 0, 1000000)] V V9))) 52 [some (.ref (b + 97)), some (.int n0), some (.int n1), some (.int n2), some (.int (nI j37)), some (.int (nI j52))] [] N V52 0 0
              refine aw_iload dX9_wordsWeighing_52 rfl ?_
              refine aw_if_lt (tgt := 77) dX9_wordsWeighing_54 (by decide) (fun c_23 => ?_) (fun c_23 => ?_)
              · exact absurd c_23 (nI_pos (by omega))
              refine aw_aload_n dX9_wordsWeighing_57 rfl ?_
              have e_24 := JW.get i52_0 ct_97
              refine aw_get dX9_wordsWeighing_58 fl_X9_15 e_24 (by omega) rfl ?_
              refine aw_iload dX9_wordsWeighing_61 rfl ?_
              refine aw_aload_n dX9_wordsWeighing_63 rfl ?_
              refine aw_iload_n dX9_wordsWeighing_64 rfl ?_
              refine aw_iload dX9_wordsWeighing_65 rfl ?_
              refine aw_callVl (J' := jX9_wordsWithOneMore) (As := [.int n1, .int (nI j52)]) (st := [.int (nI j52), .ref (b + 99)]) dX9_wordsWeighing_67 tb_982 ok_X9_wordsWithOneMore ⟨_, e_24⟩ (by omega) rfl rfl (g_X9_wordsWithOneMore l D b N V52 hN i52_0.1 n1 (nI j52)) rfl (Nat.le_of_ble_eq_true rfl) ⟨Nat.le_of_ble_eq_true rfl, Nat.le_of_ble_eq_true rfl, Nat.le_of_ble_eq_true rfl, Nat.le_of_ble_eq_true rfl⟩ (fun r_26 N_27 V_28 q_29 => ?_)
              obtain ⟨rfl, rfl⟩ := q_29
              obtain ⟨g_30, e_30⟩ := JW.get i52_0 ct_99
              refine aw_last dX9_wordsWeighing_70 e_30 (by omega) (vp_in_nI (n := j52) (by omega) (by omega)) ?_
              refine aw_up i52_0 ct_99 ⟨_, rfl⟩ (WA LM0 (by decide) (by decide)) (fun V_31 j_31 k_31 e_31 => ?_)
              refine aw_iinc (v := (fx_dn j52)) (ls' := [some (.ref (b + 97)), some (.int n0), some (.int n1), some (.int n2), some (.int (nI j37)), some (.int (fx_dn j52))]) dX9_wordsWeighing_71 rfl (fx_dn_1 _) (Nat.le_of_ble_eq_true rfl) rfl ?_
              refine aw_goto (tgt := 52) dX9_wordsWeighing_74 (by decide) ?_
              refine aw_le ?_ (ih_52_20  V_31 (by omega) (j_31))
              exact ⟨rfl, ⟨rfl, ⟨rfl, ⟨rfl, ⟨rfl, ⟨rfl, trivial⟩⟩⟩⟩⟩⟩
          refine aw_le ?_ (loop_52_19 129  V37 (by omega) (i37_0))
          exact ⟨rfl, ⟨rfl, ⟨rfl, ⟨rfl, ⟨rfl, ⟨rfl, trivial⟩⟩⟩⟩⟩⟩
      refine aw_le ?_ (loop_37_9 (Int32.toNatClampNeg n0) 0  V_8 (by omega) (j_8))
      exact ⟨rfl, ⟨rfl, ⟨rfl, ⟨rfl, ⟨rfl, trivial⟩⟩⟩⟩⟩
    | succ g_3 ih_3_3 =>
      intro j3  V3 hj3 i3_0
      have hlj3 : j3 < 129 := by omega
      refine aw_iload dX9_wordsWeighing_3 rfl ?_
      refine aw_aload_n dX9_wordsWeighing_5 rfl ?_
      have e_32 := JW.get i3_0 ct_97
      refine aw_get dX9_wordsWeighing_6 fl_X9_15 e_32 (by omega) rfl ?_
      obtain ⟨g_33, e_33⟩ := JW.get i3_0 ct_99
      refine aw_alen (t0 := 1) (v := 129) dX9_wordsWeighing_9 e_33 (by omega) rfl rfl ?_
      refine aw_icmp_ge (tgt := 27) dX9_wordsWeighing_10 (by decide) (fun c_34 => ?_) (fun c_34 => ?_)
      · exact absurd c_34 (nI_ge (a := j3) (b := 129) (by omega) (by omega))
      refine aw_aload_n dX9_wordsWeighing_13 rfl ?_
      refine aw_get dX9_wordsWeighing_14 fl_X9_15 e_32 (by omega) rfl ?_
      refine aw_iload dX9_wordsWeighing_17 rfl ?_
      refine aw_lconst (v := 0) dX9_wordsWeighing_19 (by decide) ?_
      refine aw_last dX9_wordsWeighing_20 e_33 (by omega) (vp_in_nI (n := j3) (by omega) (by omega)) ?_
      refine aw_up i3_0 ct_99 ⟨_, rfl⟩ (WA LM0 (by decide) (by decide)) (fun V_35 j_35 k_35 e_35 => ?_)
      refine aw_iinc (v := (nI (j3 + 1))) (ls' := [some (.ref (b + 97)), some (.int n0), some (.int n1), some (.int n2), some (.int (nI (j3 + 1))), none]) dX9_wordsWeighing_21 rfl (fx_up_1 _) (Nat.le_of_ble_eq_true rfl) rfl ?_
      refine aw_goto (tgt := 3) dX9_wordsWeighing_24 (by decide) ?_
      refine aw_le ?_ (ih_3_3 (j3 + 1)  V_35 (by omega) (j_35))
      exact ⟨rfl, ⟨rfl, ⟨rfl, ⟨rfl, ⟨rfl, trivial⟩⟩⟩⟩⟩
  refine aw_le ?_ (loop_3_2 129 0  V (by omega) (hJ0))
  exact ⟨rfl, ⟨rfl, ⟨rfl, ⟨rfl, ⟨rfl, trivial⟩⟩⟩⟩⟩

set_option maxHeartbeats 4000000 in
set_option maxRecDepth 100000 in
theorem g_X9_roomsOfCommonest (l : Launch) (D : va_G) (b : Nat) (N : Nat) (V : Wd) (hN : 100 ≤ N) (hW : CW D b V) (n0 : Int32)  : MI l D b 1 jX9_roomsOfCommonest [.ref (b + 1), .int n0] N V 0 0 (fun r N9 V9 => N = N9 ∧ V = V9) := by
  have hJ0 : JW D b N [] V V := JW.rf hW
  refine mw_of (by decide) (by simp [Value.category]) (Nat.le_of_ble_eq_true rfl) ?_
  show AW l D b jX9_roomsOfCommonest (fx_rm 1 0 0) none (fx_MQ D b 0 0 (fx_qi (fun r N9 V9 => N = N9 ∧ V = V9))) 0 [some (.ref (b + 1)), some (.int n0), none, none, none, none] [] N V 0 0
  refine aw_iconst (v := 0) dX9_roomsOfCommonest_0 (by decide) ?_
  refine aw_istore_n (ls' := [some (.ref (b + 1)), some (.int n0), some (.int 0), none, none, none]) dX9_roomsOfCommonest_1 (Nat.le_of_ble_eq_true rfl) rfl ?_
  refine aw_iconst (v := 0) dX9_roomsOfCommonest_2 (by decide) ?_
  refine aw_istore_n (ls' := [some (.ref (b + 1)), some (.int n0), some (.int 0), some (.int 0), none, none]) dX9_roomsOfCommonest_3 (Nat.le_of_ble_eq_true rfl) rfl ?_
  have loop_4_0 : ∀ (g_4 : Nat), ∀ (j4 : Nat) (v4_2 : Int32), j4 + g_4 = 16 → AW l D b jX9_roomsOfCommonest (fx_rm 1 0 0) none (fx_MQ D b 0 0 (fx_qi (fun r N9 V9 => N = N9 ∧ V = V9))) 4 [some (.ref (b + 1)), some (.int n0), some (.int v4_2), some (.int (nI j4)), none, none] [] N V 0 0 := by
    intro g_4
    induction g_4 with
    | zero =>
      intro j4 v4_2 hj4
      obtain rfl : j4 = 16 := by omega
      refine aw_iload_n dX9_roomsOfCommonest_4 rfl ?_
      refine aw_bipush (v := 16) dX9_roomsOfCommonest_5 (by decide) ?_
      refine aw_icmp_ge (tgt := 54) dX9_roomsOfCommonest_7 (by decide) (fun c_3 => ?_) (fun c_3 => ?_)
      rotate_left
      · exact absurd (nI_le (a := 16) (b := 16) (Nat.le_refl _) (by omega)) c_3
      refine aw_iload_n dX9_roomsOfCommonest_54 rfl ?_
      refine aw_ireti dX9_roomsOfCommonest_55 rfl (Nat.le_of_ble_eq_true rfl) (Nat.le_of_ble_eq_true rfl) ?_
      exact ⟨rfl, rfl⟩
    | succ g_4 ih_4_1 =>
      intro j4 v4_2 hj4
      have hlj4 : j4 < 16 := by omega
      refine aw_iload_n dX9_roomsOfCommonest_4 rfl ?_
      refine aw_bipush (v := 16) dX9_roomsOfCommonest_5 (by decide) ?_
      refine aw_icmp_ge (tgt := 54) dX9_roomsOfCommonest_7 (by decide) (fun c_4 => ?_) (fun c_4 => ?_)
      · exact absurd c_4 (nI_ge (a := j4) (b := 16) (by omega) (by omega))
      refine aw_iconst (v := 0) dX9_roomsOfCommonest_10 (by decide) ?_
      refine aw_istore (ls' := [some (.ref (b + 1)), some (.int n0), some (.int v4_2), some (.int (nI j4)), some (.int 0), none]) dX9_roomsOfCommonest_11 (Nat.le_of_ble_eq_true rfl) rfl ?_
      refine aw_iconst (v := 0) dX9_roomsOfCommonest_13 (by decide) ?_
      refine aw_istore (ls' := [some (.ref (b + 1)), some (.int n0), some (.int v4_2), some (.int (nI j4)), some (.int 0), some (.int 0)]) dX9_roomsOfCommonest_14 (Nat.le_of_ble_eq_true rfl) rfl ?_
      have hb_5 := fx_clt n0
      have loop_16_5 : ∀ (g_16 : Nat), ∀ (j16 : Nat) (v16_4 : Int32), j16 + g_16 = (Int32.toNatClampNeg n0) → AW l D b jX9_roomsOfCommonest (fx_rm 1 0 0) none (fx_MQ D b 0 0 (fx_qi (fun r N9 V9 => N = N9 ∧ V = V9))) 16 [some (.ref (b + 1)), some (.int n0), some (.int v4_2), some (.int (nI j4)), some (.int v16_4), some (.int (nI j16))] [] N V 0 0 := by
        intro g_16
        induction g_16 with
        | zero =>
          intro j16 v16_4 hj16
          obtain rfl : j16 = (Int32.toNatClampNeg n0) := by omega
          refine aw_iload dX9_roomsOfCommonest_16 rfl ?_
          refine aw_iload_n dX9_roomsOfCommonest_18 rfl ?_
          refine aw_icmp_ge (tgt := 41) dX9_roomsOfCommonest_19 (by decide) (fun c_8 => ?_) (fun c_8 => ?_)
          rotate_left
          · exact absurd (fx_gec n0) c_8
          refine aw_iload_n dX9_roomsOfCommonest_41 rfl ?_
          refine aw_iload dX9_roomsOfCommonest_42 rfl ?_
          refine aw_mmax dX9_roomsOfCommonest_44 tb_997 tb_385 tb_13 tb_386 ⟨Nat.le_of_ble_eq_true rfl, Nat.le_of_ble_eq_true rfl, Nat.le_of_ble_eq_true rfl, Nat.le_of_ble_eq_true rfl⟩ ?_
          refine aw_istore_n (ls' := [some (.ref (b + 1)), some (.int n0), some (.int (if v4_2 < v16_4 then v16_4 else v4_2)), some (.int (nI j4)), some (.int v16_4), some (.int (nI (Int32.toNatClampNeg n0)))]) dX9_roomsOfCommonest_47 (Nat.le_of_ble_eq_true rfl) rfl ?_
          refine aw_iinc (v := (nI (j4 + 1))) (ls' := [some (.ref (b + 1)), some (.int n0), some (.int (if v4_2 < v16_4 then v16_4 else v4_2)), some (.int (nI (j4 + 1))), some (.int v16_4), some (.int (nI (Int32.toNatClampNeg n0)))]) dX9_roomsOfCommonest_48 rfl (fx_up_1 _) (Nat.le_of_ble_eq_true rfl) rfl ?_
          refine aw_goto (tgt := 4) dX9_roomsOfCommonest_51 (by decide) ?_
          refine aw_le ?_ (ih_4_1 (j4 + 1) (if v4_2 < v16_4 then v16_4 else v4_2)  (by omega))
          exact ⟨rfl, ⟨rfl, ⟨rfl, ⟨rfl, trivial⟩⟩⟩⟩
        | succ g_16 ih_16_6 =>
          intro j16 v16_4 hj16
          have hlj16 : j16 < (Int32.toNatClampNeg n0) := by omega
          refine aw_iload dX9_roomsOfCommonest_16 rfl ?_
          refine aw_iload_n dX9_roomsOfCommonest_18 rfl ?_
          refine aw_icmp_ge (tgt := 41) dX9_roomsOfCommonest_19 (by decide) (fun c_9 => ?_) (fun c_9 => ?_)
          · exact absurd c_9 (fx_gej (by omega))
          refine aw_aload_n dX9_roomsOfCommonest_22 rfl ?_
          refine aw_iload dX9_roomsOfCommonest_23 rfl ?_
          obtain ⟨ts_11, tn_11, tf_11, ta_11, e_11, hta_11⟩ := JW.get hJ0 ct_1
          refine aw_callVi (J' := jX10_byteAt) (As := [.int (nI j16)]) (st := []) dX9_roomsOfCommonest_25 tb_962 ok_X10_byteAt ⟨_, e_11⟩ (by omega) rfl rfl (g_X10_byteAt l D b N V hN hJ0.1 (nI j16)) rfl (Nat.le_of_ble_eq_true rfl) ⟨Nat.le_of_ble_eq_true rfl, Nat.le_of_ble_eq_true rfl, Nat.le_of_ble_eq_true rfl, Nat.le_of_ble_eq_true rfl⟩ (fun r_12 N_13 V_14 q_15 => ?_)
          obtain ⟨rfl, rfl⟩ := q_15
          refine aw_iload_n dX9_roomsOfCommonest_28 rfl ?_
          refine aw_icmp_ne (tgt := 35) dX9_roomsOfCommonest_29 (by decide) (fun c_16 => ?_) (fun c_16 => ?_)
          · skip
            refine aw_iinc (v := (nI (j16 + 1))) (ls' := [some (.ref (b + 1)), some (.int n0), some (.int v4_2), some (.int (nI j4)), some (.int v16_4), some (.int (nI (j16 + 1)))]) dX9_roomsOfCommonest_35 rfl (fx_up_1 _) (Nat.le_of_ble_eq_true rfl) rfl ?_
            refine aw_goto (tgt := 16) dX9_roomsOfCommonest_38 (by decide) ?_
            refine aw_le ?_ (ih_16_6 (j16 + 1) v16_4  (by omega))
            exact ⟨rfl, ⟨rfl, ⟨rfl, ⟨rfl, ⟨rfl, ⟨rfl, trivial⟩⟩⟩⟩⟩⟩
          · skip
            refine aw_iinc (v := (v16_4 + 1)) (ls' := [some (.ref (b + 1)), some (.int n0), some (.int v4_2), some (.int (nI j4)), some (.int (v16_4 + 1)), some (.int (nI j16))]) dX9_roomsOfCommonest_32 rfl rfl (Nat.le_of_ble_eq_true rfl) rfl ?_
            refine aw_iinc (v := (nI (j16 + 1))) (ls' := [some (.ref (b + 1)), some (.int n0), some (.int v4_2), some (.int (nI j4)), some (.int (v16_4 + 1)), some (.int (nI (j16 + 1)))]) dX9_roomsOfCommonest_35 rfl (fx_up_1 _) (Nat.le_of_ble_eq_true rfl) rfl ?_
            refine aw_goto (tgt := 16) dX9_roomsOfCommonest_38 (by decide) ?_
            refine aw_le ?_ (ih_16_6 (j16 + 1) (v16_4 + 1)  (by omega))
            exact ⟨rfl, ⟨rfl, ⟨rfl, ⟨rfl, ⟨rfl, ⟨rfl, trivial⟩⟩⟩⟩⟩⟩
      refine aw_le ?_ (loop_16_5 (Int32.toNatClampNeg n0) 0 0  (by omega))
      exact ⟨rfl, ⟨rfl, ⟨rfl, ⟨rfl, ⟨rfl, ⟨rfl, trivial⟩⟩⟩⟩⟩⟩
  refine aw_le ?_ (loop_4_0 16 0 0  (by omega))
  exact ⟨rfl, ⟨rfl, ⟨rfl, ⟨rfl, trivial⟩⟩⟩⟩

set_option maxHeartbeats 4000000 in
set_option maxRecDepth 100000 in
theorem g_X9_leastDreadBehindRooms (l : Launch) (D : va_G) (b : Nat) (N : Nat) (V : Wd) (hN : 100 ≤ N) (hW : CW D b V) (n0 : Int32) (n1 : Int32)  : MI l D b 2 jX9_leastDreadBehindRooms [.ref (b + 1), .int n0, .int n1] N V 0 0 (fun r N9 V9 => N = N9 ∧ V = V9) := by
  have hJ0 : JW D b N [] V V := JW.rf hW
  refine mw_of (by decide) (by simp [Value.category]) (Nat.le_of_ble_eq_true rfl) ?_
  show AW l D b jX9_leastDreadBehindRooms (fx_rm 2 0 0) none (fx_MQ D b 0 0 (fx_qi (fun r N9 V9 => N = N9 ∧ V = V9))) 0 [some (.ref (b + 1)), some (.int n0), some (.int n1), none, none, none] [] N V 0 0
  refine aw_iconst (v := 0) dX9_leastDreadBehindRooms_0 (by decide) ?_
  refine aw_iconst (v := 2) dX9_leastDreadBehindRooms_1 (by decide) ?_
  refine aw_aload_n dX9_leastDreadBehindRooms_2 rfl ?_
  refine aw_iload_n dX9_leastDreadBehindRooms_3 rfl ?_
  refine aw_callSi (J' := jX9_roomsOfCommonest) (As := [.ref (b + 1), .int n0]) (st := [.int 2, .int 0]) dX9_leastDreadBehindRooms_4 tb_994 ok_X9_roomsOfCommonest rfl (g_X9_roomsOfCommonest l D b N V hN hJ0.1 n0) rfl (Nat.le_of_ble_eq_true rfl) ⟨Nat.le_of_ble_eq_true rfl, Nat.le_of_ble_eq_true rfl, Nat.le_of_ble_eq_true rfl, Nat.le_of_ble_eq_true rfl⟩ (fun r_2 N_3 V_4 q_5 => ?_)
  obtain ⟨rfl, rfl⟩ := q_5
  refine aw_imul dX9_leastDreadBehindRooms_7 ?_
  refine aw_iload_n dX9_leastDreadBehindRooms_8 rfl ?_
  refine aw_isub dX9_leastDreadBehindRooms_9 ?_
  refine aw_iconst (v := 1) dX9_leastDreadBehindRooms_10 (by decide) ?_
  refine aw_isub dX9_leastDreadBehindRooms_11 ?_
  refine aw_mmax dX9_leastDreadBehindRooms_12 tb_997 tb_385 tb_13 tb_386 ⟨Nat.le_of_ble_eq_true rfl, Nat.le_of_ble_eq_true rfl, Nat.le_of_ble_eq_true rfl, Nat.le_of_ble_eq_true rfl⟩ ?_
  refine aw_istore_n (ls' := [some (.ref (b + 1)), some (.int n0), some (.int n1), some (.int (if 0 < (((2 * r_2) - n0) - 1) then (((2 * r_2) - n0) - 1) else 0)), none, none]) dX9_leastDreadBehindRooms_15 (Nat.le_of_ble_eq_true rfl) rfl ?_
  refine aw_iload_n dX9_leastDreadBehindRooms_16 rfl ?_
  refine aw_istore (ls' := [some (.ref (b + 1)), some (.int n0), some (.int n1), some (.int (if 0 < (((2 * r_2) - n0) - 1) then (((2 * r_2) - n0) - 1) else 0)), some (.int n1), none]) dX9_leastDreadBehindRooms_17 (Nat.le_of_ble_eq_true rfl) rfl ?_
  refine aw_iconst (v := 1) dX9_leastDreadBehindRooms_19 (by decide) ?_
  refine aw_istore (ls' := [some (.ref (b + 1)), some (.int n0), some (.int n1), some (.int (if 0 < (((2 * r_2) - n0) - 1) then (((2 * r_2) - n0) - 1) else 0)), some (.int n1), some (.int 1)]) dX9_leastDreadBehindRooms_20 (Nat.le_of_ble_eq_true rfl) rfl ?_
  have hb_6 := fx_clt n0
  have loop_22_6 : ∀ (g_22 : Nat), ∀ (j22 : Nat) (v22_4 : Int32), j22 + g_22 = (max 1 (Int32.toNatClampNeg n0)) → AW l D b jX9_leastDreadBehindRooms (fx_rm 2 0 0) none (fx_MQ D b 0 0 (fx_qi (fun r N9 V9 => N = N9 ∧ V = V9))) 22 [some (.ref (b + 1)), some (.int n0), some (.int n1), some (.int (if 0 < (((2 * r_2) - n0) - 1) then (((2 * r_2) - n0) - 1) else 0)), some (.int v22_4), some (.int (nI j22))] [] N V 0 0 := by
    intro g_22
    induction g_22 with
    | zero =>
      intro j22 v22_4 hj22
      obtain rfl : j22 = (max 1 (Int32.toNatClampNeg n0)) := by omega
      refine aw_iload dX9_leastDreadBehindRooms_22 rfl ?_
      refine aw_iload_n dX9_leastDreadBehindRooms_24 rfl ?_
      refine aw_icmp_ge (tgt := 60) dX9_leastDreadBehindRooms_25 (by decide) (fun c_9 => ?_) (fun c_9 => ?_)
      rotate_left
      · exact absurd (fx_gecm n0 (by omega)) c_9
      refine aw_iload dX9_leastDreadBehindRooms_60 rfl ?_
      refine aw_ireti dX9_leastDreadBehindRooms_62 rfl (Nat.le_of_ble_eq_true rfl) (Nat.le_of_ble_eq_true rfl) ?_
      exact ⟨rfl, rfl⟩
    | succ g_22 ih_22_7 =>
      intro j22 v22_4 hj22
      have hlj22 : j22 < (max 1 (Int32.toNatClampNeg n0)) := by omega
      refine aw_iload dX9_leastDreadBehindRooms_22 rfl ?_
      refine aw_iload_n dX9_leastDreadBehindRooms_24 rfl ?_
      refine aw_icmp_ge (tgt := 60) dX9_leastDreadBehindRooms_25 (by decide) (fun c_10 => ?_) (fun c_10 => ?_)
      · skip
        refine aw_iload dX9_leastDreadBehindRooms_60 rfl ?_
        refine aw_ireti dX9_leastDreadBehindRooms_62 rfl (Nat.le_of_ble_eq_true rfl) (Nat.le_of_ble_eq_true rfl) ?_
        exact ⟨rfl, rfl⟩
      · skip
        refine aw_iload dX9_leastDreadBehindRooms_28 rfl ?_
        refine aw_iload_n dX9_leastDreadBehindRooms_30 rfl ?_
        refine aw_icmp_gt (tgt := 42) dX9_leastDreadBehindRooms_31 (by decide) (fun c_11 => ?_) (fun c_11 => ?_)
        · skip
          refine aw_iload dX9_leastDreadBehindRooms_42 rfl ?_
          refine aw_iconst (v := 5) dX9_leastDreadBehindRooms_44 (by decide) ?_
          refine aw_isub dX9_leastDreadBehindRooms_45 ?_
          refine aw_iconst (v := 0) dX9_leastDreadBehindRooms_46 (by decide) ?_
          refine aw_bipush (v := 99) dX9_leastDreadBehindRooms_47 (by decide) ?_
          refine aw_callSNi (J' := jX11_bounded) (As := [.int (v22_4 - 5), .int 0, .int 99]) (st := []) dX9_leastDreadBehindRooms_49 tb_998 ok_X11_bounded rfl (g_X11_bounded l D b N V hN hJ0.1 (v22_4 - 5) 0 99) rfl (Nat.le_of_ble_eq_true rfl) ⟨Nat.le_of_ble_eq_true rfl, Nat.le_of_ble_eq_true rfl, Nat.le_of_ble_eq_true rfl, Nat.le_of_ble_eq_true rfl⟩ (fun r_13 N_14 V_15 q_16 => ?_)
          obtain ⟨rfl, rfl⟩ := q_16
          refine aw_istore (ls' := [some (.ref (b + 1)), some (.int n0), some (.int n1), some (.int (if 0 < (((2 * r_2) - n0) - 1) then (((2 * r_2) - n0) - 1) else 0)), some (.int r_13), some (.int (nI j22))]) dX9_leastDreadBehindRooms_52 (Nat.le_of_ble_eq_true rfl) rfl ?_
          refine aw_iinc (v := (nI (j22 + 1))) (ls' := [some (.ref (b + 1)), some (.int n0), some (.int n1), some (.int (if 0 < (((2 * r_2) - n0) - 1) then (((2 * r_2) - n0) - 1) else 0)), some (.int r_13), some (.int (nI (j22 + 1)))]) dX9_leastDreadBehindRooms_54 rfl (fx_up_1 _) (Nat.le_of_ble_eq_true rfl) rfl ?_
          refine aw_goto (tgt := 22) dX9_leastDreadBehindRooms_57 (by decide) ?_
          refine aw_le ?_ (ih_22_7 (j22 + 1) r_13  (by omega))
          exact ⟨rfl, ⟨rfl, ⟨rfl, ⟨rfl, ⟨rfl, ⟨rfl, trivial⟩⟩⟩⟩⟩⟩
        · skip
          refine aw_iload dX9_leastDreadBehindRooms_34 rfl ?_
          refine aw_bipush (v := 7) dX9_leastDreadBehindRooms_36 (by decide) ?_
          refine aw_iadd dX9_leastDreadBehindRooms_38 ?_
          refine aw_goto (tgt := 46) dX9_leastDreadBehindRooms_39 (by decide) ?_
          refine aw_iconst (v := 0) dX9_leastDreadBehindRooms_46 (by decide) ?_
          refine aw_bipush (v := 99) dX9_leastDreadBehindRooms_47 (by decide) ?_
          refine aw_callSNi (J' := jX11_bounded) (As := [.int (v22_4 + 7), .int 0, .int 99]) (st := []) dX9_leastDreadBehindRooms_49 tb_998 ok_X11_bounded rfl (g_X11_bounded l D b N V hN hJ0.1 (v22_4 + 7) 0 99) rfl (Nat.le_of_ble_eq_true rfl) ⟨Nat.le_of_ble_eq_true rfl, Nat.le_of_ble_eq_true rfl, Nat.le_of_ble_eq_true rfl, Nat.le_of_ble_eq_true rfl⟩ (fun r_18 N_19 V_20 q_21 => ?_)
          obtain ⟨rfl, rfl⟩ := q_21
          refine aw_istore (ls' := [some (.ref (b + 1)), some (.int n0), some (.int n1), some (.int (if 0 < (((2 * r_2) - n0) - 1) then (((2 * r_2) - n0) - 1) else 0)), some (.int r_18), some (.int (nI j22))]) dX9_leastDreadBehindRooms_52 (Nat.le_of_ble_eq_true rfl) rfl ?_
          refine aw_iinc (v := (nI (j22 + 1))) (ls' := [some (.ref (b + 1)), some (.int n0), some (.int n1), some (.int (if 0 < (((2 * r_2) - n0) - 1) then (((2 * r_2) - n0) - 1) else 0)), some (.int r_18), some (.int (nI (j22 + 1)))]) dX9_leastDreadBehindRooms_54 rfl (fx_up_1 _) (Nat.le_of_ble_eq_true rfl) rfl ?_
          refine aw_goto (tgt := 22) dX9_leastDreadBehindRooms_57 (by decide) ?_
          refine aw_le ?_ (ih_22_7 (j22 + 1) r_18  (by omega))
          exact ⟨rfl, ⟨rfl, ⟨rfl, ⟨rfl, ⟨rfl, ⟨rfl, trivial⟩⟩⟩⟩⟩⟩
  refine aw_le ?_ (loop_22_6 ((max 1 (Int32.toNatClampNeg n0)) - 1) 1 n1  (by omega))
  exact ⟨rfl, ⟨rfl, ⟨rfl, ⟨rfl, ⟨rfl, ⟨rfl, trivial⟩⟩⟩⟩⟩⟩

set_option maxHeartbeats 4000000 in
set_option maxRecDepth 100000 in
theorem g_has6 (l : Launch) (D : va_G) (b : Nat) (N : Nat) (V : Wd) (n0 n1 : Int32) : MI l D b 0 jX11_has [.int n0, .int n1] N V 0 0 (fun r N9 V9 => ((r = 0 ∨ r = 1) ∧ ∀ x j : Nat, x < 64 → j < 6 → n0 = nI x → n1 = nI j → r = 0 → x.testBit j = false) ∧ N = N9 ∧ V = V9) := by
  refine mw_of (by decide) (by simp [Value.category]) (Nat.le_of_ble_eq_true rfl) ?_
  show AW l D b jX11_has (fx_rm 0 0 0) none (fx_MQ D b 0 0 (fx_qi (fun r N9 V9 => ((r = 0 ∨ r = 1) ∧ ∀ x j : Nat, x < 64 → j < 6 → n0 = nI x → n1 = nI j → r = 0 → x.testBit j = false) ∧ N = N9 ∧ V = V9))) 0 [some (.int n0), some (.int n1)] [] N V 0 0
  refine aw_iload_n dX11_has_0 rfl ?_
  refine aw_if_lt (tgt := 22) dX11_has_1 (by decide) (fun c_1 => ?_) (fun c_1 => ?_)
  · skip
    refine aw_iconst (v := 0) dX11_has_22 (by decide) ?_
    refine aw_zreti dX11_has_23 rfl (by first | exact Or.inl rfl | exact Or.inr rfl) (Nat.le_of_ble_eq_true rfl) (Nat.le_of_ble_eq_true rfl) ?_
    exact ⟨⟨by first | exact Or.inl rfl | exact Or.inr rfl, fun x j hx hj e1 e2 e3 => absurd c_1 (by rw [e2]; exact nI_pos (by omega))⟩, rfl, rfl⟩
  · skip
    refine aw_iload_n dX11_has_4 rfl ?_
    refine aw_bipush (v := 32) dX11_has_5 (by decide) ?_
    refine aw_icmp_ge (tgt := 22) dX11_has_7 (by decide) (fun c_2 => ?_) (fun c_2 => ?_)
    · skip
      refine aw_iconst (v := 0) dX11_has_22 (by decide) ?_
      refine aw_zreti dX11_has_23 rfl (by first | exact Or.inl rfl | exact Or.inr rfl) (Nat.le_of_ble_eq_true rfl) (Nat.le_of_ble_eq_true rfl) ?_
      exact ⟨⟨by first | exact Or.inl rfl | exact Or.inr rfl, fun x j hx hj e1 e2 e3 => absurd c_2 (by rw [e2]; exact nI_ge (b := 32) (by omega) (by decide))⟩, rfl, rfl⟩
    · skip
      refine aw_iload_n dX11_has_10 rfl ?_
      refine aw_iload_n dX11_has_11 rfl ?_
      refine aw_ishr dX11_has_12 ?_
      refine aw_iconst (v := 1) dX11_has_13 (by decide) ?_
      refine aw_iand dX11_has_14 ?_
      refine aw_if_eq (tgt := 22) dX11_has_15 (by decide) (fun c_3 => ?_) (fun c_3 => ?_)
      · skip
        refine aw_iconst (v := 0) dX11_has_22 (by decide) ?_
        refine aw_zreti dX11_has_23 rfl (by first | exact Or.inl rfl | exact Or.inr rfl) (Nat.le_of_ble_eq_true rfl) (Nat.le_of_ble_eq_true rfl) ?_
        exact ⟨⟨by first | exact Or.inl rfl | exact Or.inr rfl, fun x j hx hj e1 e2 e3 => fx_hs6 x hx j hj (by rw [← e1, ← e2]; first | exact c_3 | exact Decidable.not_not.mp c_3)⟩, rfl, rfl⟩
      · skip
        refine aw_iconst (v := 1) dX11_has_18 (by decide) ?_
        refine aw_goto (tgt := 23) dX11_has_19 (by decide) ?_
        refine aw_zreti dX11_has_23 rfl (by first | exact Or.inl rfl | exact Or.inr rfl) (Nat.le_of_ble_eq_true rfl) (Nat.le_of_ble_eq_true rfl) ?_
        exact ⟨⟨by first | exact Or.inl rfl | exact Or.inr rfl, fun x j hx hj e1 e2 e3 => absurd e3 (by decide)⟩, rfl, rfl⟩

set_option maxHeartbeats 4000000 in
set_option maxRecDepth 100000 in
theorem g_X9_canStandTogether (l : Launch) (D : va_G) (b : Nat) (N : Nat) (V : Wd) (hN : 100 ≤ N) (hW : CW D b V) (a : Nat) (ha : (ctL D b)[a]? = some (isI D 6)) (n0 : Int32) (n1 : Int32)  : MI l D b 0 jX9_canStandTogether [.ref (b + a), .int n0, .int n1] N V 0 0 (fun r N9 V9 => ((r = 0 ∨ r = 1) ∧ (r = 0 ∨ ∃ j : Nat, j < 6 ∧ n1 = nI j)) ∧ N = N9 ∧ V = V9) := by
  have hJ0 : JW D b N [] V V := JW.rf hW
  have hlt_a := ct_lt ha
  refine mw_of (by decide) (by simp [Value.category]) (Nat.le_of_ble_eq_true rfl) ?_
  show AW l D b jX9_canStandTogether (fx_rm 0 0 0) none (fx_MQ D b 0 0 (fx_qi (fun r N9 V9 => ((r = 0 ∨ r = 1) ∧ (r = 0 ∨ ∃ j : Nat, j < 6 ∧ n1 = nI j)) ∧ N = N9 ∧ V = V9))) 0 [some (.ref (b + a)), some (.int n0), some (.int n1)] [] N V 0 0
  refine aw_iload_n dX9_canStandTogether_0 rfl ?_
  refine aw_if_lt (tgt := 20) dX9_canStandTogether_1 (by decide) (fun c_1 => ?_) (fun c_1 => ?_)
  · skip
    refine aw_iconst (v := 0) dX9_canStandTogether_20 (by decide) ?_
    refine aw_zreti dX9_canStandTogether_21 rfl (by first | exact Or.inl rfl | exact Or.inr rfl | assumption) (Nat.le_of_ble_eq_true rfl) (Nat.le_of_ble_eq_true rfl) ?_
    exact ⟨⟨(by first | exact Or.inl rfl | exact Or.inr rfl | assumption), Or.inl rfl⟩, rfl, rfl⟩
  · skip
    refine aw_iload_n dX9_canStandTogether_4 rfl ?_
    refine aw_aload_n dX9_canStandTogether_5 rfl ?_
    obtain ⟨g_2, e_2⟩ := JW.get hJ0 ha
    refine aw_alen (t0 := 0) (v := 6) dX9_canStandTogether_6 e_2 (by omega) rfl rfl ?_
    refine aw_icmp_ge (tgt := 20) dX9_canStandTogether_7 (by decide) (fun c_3 => ?_) (fun c_3 => ?_)
    · skip
      refine aw_iconst (v := 0) dX9_canStandTogether_20 (by decide) ?_
      refine aw_zreti dX9_canStandTogether_21 rfl (by first | exact Or.inl rfl | exact Or.inr rfl | assumption) (Nat.le_of_ble_eq_true rfl) (Nat.le_of_ble_eq_true rfl) ?_
      exact ⟨⟨(by first | exact Or.inl rfl | exact Or.inr rfl | assumption), Or.inl rfl⟩, rfl, rfl⟩
    · skip
      refine aw_iload_n dX9_canStandTogether_10 rfl ?_
      refine aw_if_lt (tgt := 20) dX9_canStandTogether_11 (by decide) (fun c_4 => ?_) (fun c_4 => ?_)
      · skip
        refine aw_iconst (v := 0) dX9_canStandTogether_20 (by decide) ?_
        refine aw_zreti dX9_canStandTogether_21 rfl (by first | exact Or.inl rfl | exact Or.inr rfl | assumption) (Nat.le_of_ble_eq_true rfl) (Nat.le_of_ble_eq_true rfl) ?_
        exact ⟨⟨(by first | exact Or.inl rfl | exact Or.inr rfl | assumption), Or.inl rfl⟩, rfl, rfl⟩
      · skip
        refine aw_iload_n dX9_canStandTogether_14 rfl ?_
        refine aw_aload_n dX9_canStandTogether_15 rfl ?_
        refine aw_alen (t0 := 0) (v := 6) dX9_canStandTogether_16 e_2 (by omega) rfl rfl ?_
        refine aw_icmp_lt (tgt := 22) dX9_canStandTogether_17 (by decide) (fun c_5 => ?_) (fun c_5 => ?_)
        · skip
          refine aw_aload_n dX9_canStandTogether_22 rfl ?_
          refine aw_iload_n dX9_canStandTogether_23 rfl ?_
          refine aw_iald (v := (g_2 (Int32.toNatClampNeg n0))) dX9_canStandTogether_24 e_2 (by omega) (vi_in (Int32.not_lt.mp c_1) (vi_lt (n := 6) (Int32.not_le.mp c_3) (by decide)) (by decide)) rfl ?_
          refine aw_if_lt (tgt := 37) dX9_canStandTogether_25 (by decide) (fun c_6 => ?_) (fun c_6 => ?_)
          · skip
            refine aw_iconst (v := 1) dX9_canStandTogether_37 (by decide) ?_
            refine aw_goto (tgt := 42) dX9_canStandTogether_38 (by decide) ?_
            refine aw_zreti dX9_canStandTogether_42 rfl (by first | exact Or.inl rfl | exact Or.inr rfl | assumption) (Nat.le_of_ble_eq_true rfl) (Nat.le_of_ble_eq_true rfl) ?_
            exact ⟨⟨(by first | exact Or.inl rfl | exact Or.inr rfl | assumption), Or.inr (vi_nat (vi_in (Int32.not_lt.mp c_4) (vi_lt (n := 6) c_5 (by decide)) (by decide)) (by decide))⟩, rfl, rfl⟩
          · skip
            refine aw_aload_n dX9_canStandTogether_28 rfl ?_
            refine aw_iload_n dX9_canStandTogether_29 rfl ?_
            refine aw_iald (v := (g_2 (Int32.toNatClampNeg n0))) dX9_canStandTogether_30 e_2 (by omega) (vi_in (Int32.not_lt.mp c_1) (vi_lt (n := 6) (Int32.not_le.mp c_3) (by decide)) (by decide)) rfl ?_
            refine aw_aload_n dX9_canStandTogether_31 rfl ?_
            refine aw_iload_n dX9_canStandTogether_32 rfl ?_
            refine aw_iald (v := (g_2 (Int32.toNatClampNeg n1))) dX9_canStandTogether_33 e_2 (by omega) (vi_in (Int32.not_lt.mp c_4) (vi_lt (n := 6) c_5 (by decide)) (by decide)) rfl ?_
            refine aw_icmp_eq (tgt := 41) dX9_canStandTogether_34 (by decide) (fun c_7 => ?_) (fun c_7 => ?_)
            · skip
              refine aw_iconst (v := 0) dX9_canStandTogether_41 (by decide) ?_
              refine aw_zreti dX9_canStandTogether_42 rfl (by first | exact Or.inl rfl | exact Or.inr rfl | assumption) (Nat.le_of_ble_eq_true rfl) (Nat.le_of_ble_eq_true rfl) ?_
              exact ⟨⟨(by first | exact Or.inl rfl | exact Or.inr rfl | assumption), Or.inl rfl⟩, rfl, rfl⟩
            · skip
              refine aw_iconst (v := 1) dX9_canStandTogether_37 (by decide) ?_
              refine aw_goto (tgt := 42) dX9_canStandTogether_38 (by decide) ?_
              refine aw_zreti dX9_canStandTogether_42 rfl (by first | exact Or.inl rfl | exact Or.inr rfl | assumption) (Nat.le_of_ble_eq_true rfl) (Nat.le_of_ble_eq_true rfl) ?_
              exact ⟨⟨(by first | exact Or.inl rfl | exact Or.inr rfl | assumption), Or.inr (vi_nat (vi_in (Int32.not_lt.mp c_4) (vi_lt (n := 6) c_5 (by decide)) (by decide)) (by decide))⟩, rfl, rfl⟩
        · skip
          refine aw_iconst (v := 0) dX9_canStandTogether_20 (by decide) ?_
          refine aw_zreti dX9_canStandTogether_21 rfl (by first | exact Or.inl rfl | exact Or.inr rfl | assumption) (Nat.le_of_ble_eq_true rfl) (Nat.le_of_ble_eq_true rfl) ?_
          exact ⟨⟨(by first | exact Or.inl rfl | exact Or.inr rfl | assumption), Or.inl rfl⟩, rfl, rfl⟩

set_option maxHeartbeats 4000000 in
set_option maxRecDepth 100000 in
theorem g_waysOn_0 (l : Launch) (D : va_G) (b : Nat) (N : Nat) (V : Wd) (hN : 100 ≤ N) (hW : CW D b V) (a : Nat) (ha : (ctL D b)[a]? = some (isI D 6)) (n0 : Int32) (x : Nat) (hx : x < 64) (hk : 6 ≤ pc6 x + 0) (n2 n3 : Int32) : MI l D b 1 jX9_waysOn [.ref (b + a), .int n0, .int (nI x), .int n2, .int n3] N V 0 0 (fun r N9 V9 => N = N9 ∧ V = V9) := by
  have hJ0 : JW D b N [] V V := JW.rf hW
  have hlt_a := ct_lt ha
  refine mw_of (by decide) (by simp [Value.category]) (Nat.le_of_ble_eq_true rfl) ?_
  show AW l D b jX9_waysOn (fx_rm 1 0 0) none (fx_MQ D b 0 0 (fx_qi (fun r N9 V9 => N = N9 ∧ V = V9))) 0 [some (.ref (b + a)), some (.int n0), some (.int (nI x)), some (.int n2), some (.int n3), none, none] [] N V 0 0
  refine aw_iload_n dX9_waysOn_0 rfl ?_
  refine aw_callSi (J' := jJ6_bitCount_0f7a4) (As := [.int (nI x)]) (st := []) dX9_waysOn_1 tb_969 ok_J6_bitCount_0f7a4 rfl (c_bitCount l D b N V (nI x)) rfl (Nat.le_of_ble_eq_true rfl) ⟨Nat.le_of_ble_eq_true rfl, Nat.le_of_ble_eq_true rfl, Nat.le_of_ble_eq_true rfl, Nat.le_of_ble_eq_true rfl⟩ (fun r_1 N_2 V_3 q_4 => ?_)
  obtain ⟨rfl, rfl⟩ := q_4
  refine aw_iload_n dX9_waysOn_4 rfl ?_
  refine aw_icmp_lt (tgt := 24) dX9_waysOn_5 (by decide) (fun c_5 => ?_) (fun c_5 => ?_)
  · skip
    refine aw_iconst (v := 0) dX9_waysOn_24 (by decide) ?_
    refine aw_istore (ls' := [some (.ref (b + a)), some (.int n0), some (.int (nI x)), some (.int n2), some (.int n3), some (.int 0), none]) dX9_waysOn_25 (Nat.le_of_ble_eq_true rfl) rfl ?_
    refine aw_iconst (v := 0) dX9_waysOn_27 (by decide) ?_
    refine aw_istore (ls' := [some (.ref (b + a)), some (.int n0), some (.int (nI x)), some (.int n2), some (.int n3), some (.int 0), some (.int 0)]) dX9_waysOn_28 (Nat.le_of_ble_eq_true rfl) rfl ?_
    have hb_6 := fx_clt n0
    have loop_30_6 : ∀ (g_30 : Nat), ∀ (j30 : Nat) (v30_5 : Int32), j30 + g_30 = (Int32.toNatClampNeg n0) → AW l D b jX9_waysOn (fx_rm 1 0 0) none (fx_MQ D b 0 0 (fx_qi (fun r N9 V9 => N = N9 ∧ V = V9))) 30 [some (.ref (b + a)), some (.int n0), some (.int (nI x)), some (.int n2), some (.int n3), some (.int v30_5), some (.int (nI j30))] [] N V 0 0 := by
      intro g_30
      induction g_30 with
      | zero =>
        intro j30 v30_5 hj30
        obtain rfl : j30 = (Int32.toNatClampNeg n0) := by omega
        refine aw_iload dX9_waysOn_30 rfl ?_
        refine aw_iload_n dX9_waysOn_32 rfl ?_
        refine aw_icmp_ge (tgt := 81) dX9_waysOn_33 (by decide) (fun c_9 => ?_) (fun c_9 => ?_)
        rotate_left
        · exact absurd (fx_gec n0) c_9
        refine aw_iload dX9_waysOn_81 rfl ?_
        refine aw_ireti dX9_waysOn_83 rfl (Nat.le_of_ble_eq_true rfl) (Nat.le_of_ble_eq_true rfl) ?_
        exact ⟨rfl, rfl⟩
      | succ g_30 ih_30_7 =>
        intro j30 v30_5 hj30
        have hlj30 : j30 < (Int32.toNatClampNeg n0) := by omega
        refine aw_iload dX9_waysOn_30 rfl ?_
        refine aw_iload_n dX9_waysOn_32 rfl ?_
        refine aw_icmp_ge (tgt := 81) dX9_waysOn_33 (by decide) (fun c_10 => ?_) (fun c_10 => ?_)
        · exact absurd c_10 (fx_gej (by omega))
        refine aw_iload_n dX9_waysOn_36 rfl ?_
        refine aw_iload dX9_waysOn_37 rfl ?_
        refine aw_callSNi (J' := jX11_has) (As := [.int (nI x), .int (nI j30)]) (st := []) dX9_waysOn_39 tb_964 ok_X11_has rfl (g_has6 l D b N V (nI x) (nI j30)) rfl (Nat.le_of_ble_eq_true rfl) ⟨Nat.le_of_ble_eq_true rfl, Nat.le_of_ble_eq_true rfl, Nat.le_of_ble_eq_true rfl, Nat.le_of_ble_eq_true rfl⟩ (fun r_12 N_13 V_14 q_15 => ?_)
        obtain ⟨⟨-, h6_11⟩, rfl, rfl⟩ := q_15
        refine aw_if_ne (tgt := 75) dX9_waysOn_42 (by decide) (fun c_16 => ?_) (fun c_16 => ?_)
        · skip
          refine aw_iinc (v := (nI (j30 + 1))) (ls' := [some (.ref (b + a)), some (.int n0), some (.int (nI x)), some (.int n2), some (.int n3), some (.int v30_5), some (.int (nI (j30 + 1)))]) dX9_waysOn_75 rfl (fx_up_1 _) (Nat.le_of_ble_eq_true rfl) rfl ?_
          refine aw_goto (tgt := 30) dX9_waysOn_78 (by decide) ?_
          refine aw_le ?_ (ih_30_7 (j30 + 1) v30_5  (by omega))
          exact ⟨rfl, ⟨rfl, ⟨rfl, ⟨rfl, ⟨rfl, ⟨rfl, ⟨rfl, trivial⟩⟩⟩⟩⟩⟩⟩
        · skip
          refine aw_aload_n dX9_waysOn_45 rfl ?_
          refine aw_iload dX9_waysOn_46 rfl ?_
          refine aw_iload dX9_waysOn_48 rfl ?_
          refine aw_callSi (J' := jX9_canStandTogether) (As := [.ref (b + a), .int n3, .int (nI j30)]) (st := []) dX9_waysOn_50 tb_970 ok_X9_canStandTogether rfl (g_X9_canStandTogether l D b N V hN hJ0.1 a ha n3 (nI j30)) rfl (Nat.le_of_ble_eq_true rfl) ⟨Nat.le_of_ble_eq_true rfl, Nat.le_of_ble_eq_true rfl, Nat.le_of_ble_eq_true rfl, Nat.le_of_ble_eq_true rfl⟩ (fun r_20 N_21 V_22 q_23 => ?_)
          obtain ⟨⟨z_19, h_18⟩, rfl, rfl⟩ := q_23
          refine aw_if_eq (tgt := 75) dX9_waysOn_53 (by decide) (fun c_24 => ?_) (fun c_24 => ?_)
          · skip
            refine aw_iinc (v := (nI (j30 + 1))) (ls' := [some (.ref (b + a)), some (.int n0), some (.int (nI x)), some (.int n2), some (.int n3), some (.int v30_5), some (.int (nI (j30 + 1)))]) dX9_waysOn_75 rfl (fx_up_1 _) (Nat.le_of_ble_eq_true rfl) rfl ?_
            refine aw_goto (tgt := 30) dX9_waysOn_78 (by decide) ?_
            refine aw_le ?_ (ih_30_7 (j30 + 1) v30_5  (by omega))
            exact ⟨rfl, ⟨rfl, ⟨rfl, ⟨rfl, ⟨rfl, ⟨rfl, ⟨rfl, trivial⟩⟩⟩⟩⟩⟩⟩
          · skip
            have hj6 : j30 < 6 := by obtain ⟨j, hj, e⟩ := h_18.resolve_left c_24; have := (nI_eq (by omega) (by omega)).mp e; omega
            have ht6 := h6_11 x j30 hx hj6 rfl rfl (by first | exact c_16 | exact Decidable.not_not.mp c_16)
            exact (fx_pc60 x hx (by omega) j30 hj6 ht6).elim
    refine aw_le ?_ (loop_30_6 (Int32.toNatClampNeg n0) 0 0  (by omega))
    exact ⟨rfl, ⟨rfl, ⟨rfl, ⟨rfl, ⟨rfl, ⟨rfl, ⟨rfl, trivial⟩⟩⟩⟩⟩⟩⟩
  · skip
    refine aw_aload_n dX9_waysOn_8 rfl ?_
    refine aw_iload dX9_waysOn_9 rfl ?_
    refine aw_iload_n dX9_waysOn_11 rfl ?_
    refine aw_callSi (J' := jX9_canStandTogether) (As := [.ref (b + a), .int n3, .int n2]) (st := []) dX9_waysOn_12 tb_970 ok_X9_canStandTogether rfl (g_X9_canStandTogether l D b N V hN hJ0.1 a ha n3 n2) rfl (Nat.le_of_ble_eq_true rfl) ⟨Nat.le_of_ble_eq_true rfl, Nat.le_of_ble_eq_true rfl, Nat.le_of_ble_eq_true rfl, Nat.le_of_ble_eq_true rfl⟩ (fun r_28 N_29 V_30 q_31 => ?_)
    obtain ⟨⟨z_27, h_26⟩, rfl, rfl⟩ := q_31
    refine aw_if_eq (tgt := 22) dX9_waysOn_15 (by decide) (fun c_32 => ?_) (fun c_32 => ?_)
    · skip
      refine aw_iconst (v := 0) dX9_waysOn_22 (by decide) ?_
      refine aw_ireti dX9_waysOn_23 rfl (Nat.le_of_ble_eq_true rfl) (Nat.le_of_ble_eq_true rfl) ?_
      exact ⟨rfl, rfl⟩
    · skip
      refine aw_iconst (v := 1) dX9_waysOn_18 (by decide) ?_
      refine aw_goto (tgt := 23) dX9_waysOn_19 (by decide) ?_
      refine aw_ireti dX9_waysOn_23 rfl (Nat.le_of_ble_eq_true rfl) (Nat.le_of_ble_eq_true rfl) ?_
      exact ⟨rfl, rfl⟩

set_option maxHeartbeats 4000000 in
set_option maxRecDepth 100000 in
theorem g_waysOn_1 (l : Launch) (D : va_G) (b : Nat) (N : Nat) (V : Wd) (hN : 100 ≤ N) (hW : CW D b V) (a : Nat) (ha : (ctL D b)[a]? = some (isI D 6)) (n0 : Int32) (x : Nat) (hx : x < 64) (hk : 6 ≤ pc6 x + 1) (n2 n3 : Int32) : MI l D b 2 jX9_waysOn [.ref (b + a), .int n0, .int (nI x), .int n2, .int n3] N V 0 0 (fun r N9 V9 => N = N9 ∧ V = V9) := by
  have hJ0 : JW D b N [] V V := JW.rf hW
  have hlt_a := ct_lt ha
  refine mw_of (by decide) (by simp [Value.category]) (Nat.le_of_ble_eq_true rfl) ?_
  show AW l D b jX9_waysOn (fx_rm 2 0 0) none (fx_MQ D b 0 0 (fx_qi (fun r N9 V9 => N = N9 ∧ V = V9))) 0 [some (.ref (b + a)), some (.int n0), some (.int (nI x)), some (.int n2), some (.int n3), none, none] [] N V 0 0
  refine aw_iload_n dX9_waysOn_0 rfl ?_
  refine aw_callSi (J' := jJ6_bitCount_0f7a4) (As := [.int (nI x)]) (st := []) dX9_waysOn_1 tb_969 ok_J6_bitCount_0f7a4 rfl (c_bitCount l D b N V (nI x)) rfl (Nat.le_of_ble_eq_true rfl) ⟨Nat.le_of_ble_eq_true rfl, Nat.le_of_ble_eq_true rfl, Nat.le_of_ble_eq_true rfl, Nat.le_of_ble_eq_true rfl⟩ (fun r_1 N_2 V_3 q_4 => ?_)
  obtain ⟨rfl, rfl⟩ := q_4
  refine aw_iload_n dX9_waysOn_4 rfl ?_
  refine aw_icmp_lt (tgt := 24) dX9_waysOn_5 (by decide) (fun c_5 => ?_) (fun c_5 => ?_)
  · skip
    refine aw_iconst (v := 0) dX9_waysOn_24 (by decide) ?_
    refine aw_istore (ls' := [some (.ref (b + a)), some (.int n0), some (.int (nI x)), some (.int n2), some (.int n3), some (.int 0), none]) dX9_waysOn_25 (Nat.le_of_ble_eq_true rfl) rfl ?_
    refine aw_iconst (v := 0) dX9_waysOn_27 (by decide) ?_
    refine aw_istore (ls' := [some (.ref (b + a)), some (.int n0), some (.int (nI x)), some (.int n2), some (.int n3), some (.int 0), some (.int 0)]) dX9_waysOn_28 (Nat.le_of_ble_eq_true rfl) rfl ?_
    have hb_6 := fx_clt n0
    have loop_30_6 : ∀ (g_30 : Nat), ∀ (j30 : Nat) (v30_5 : Int32), j30 + g_30 = (Int32.toNatClampNeg n0) → AW l D b jX9_waysOn (fx_rm 2 0 0) none (fx_MQ D b 0 0 (fx_qi (fun r N9 V9 => N = N9 ∧ V = V9))) 30 [some (.ref (b + a)), some (.int n0), some (.int (nI x)), some (.int n2), some (.int n3), some (.int v30_5), some (.int (nI j30))] [] N V 0 0 := by
      intro g_30
      induction g_30 with
      | zero =>
        intro j30 v30_5 hj30
        obtain rfl : j30 = (Int32.toNatClampNeg n0) := by omega
        refine aw_iload dX9_waysOn_30 rfl ?_
        refine aw_iload_n dX9_waysOn_32 rfl ?_
        refine aw_icmp_ge (tgt := 81) dX9_waysOn_33 (by decide) (fun c_9 => ?_) (fun c_9 => ?_)
        rotate_left
        · exact absurd (fx_gec n0) c_9
        refine aw_iload dX9_waysOn_81 rfl ?_
        refine aw_ireti dX9_waysOn_83 rfl (Nat.le_of_ble_eq_true rfl) (Nat.le_of_ble_eq_true rfl) ?_
        exact ⟨rfl, rfl⟩
      | succ g_30 ih_30_7 =>
        intro j30 v30_5 hj30
        have hlj30 : j30 < (Int32.toNatClampNeg n0) := by omega
        refine aw_iload dX9_waysOn_30 rfl ?_
        refine aw_iload_n dX9_waysOn_32 rfl ?_
        refine aw_icmp_ge (tgt := 81) dX9_waysOn_33 (by decide) (fun c_10 => ?_) (fun c_10 => ?_)
        · exact absurd c_10 (fx_gej (by omega))
        refine aw_iload_n dX9_waysOn_36 rfl ?_
        refine aw_iload dX9_waysOn_37 rfl ?_
        refine aw_callSNi (J' := jX11_has) (As := [.int (nI x), .int (nI j30)]) (st := []) dX9_waysOn_39 tb_964 ok_X11_has rfl (g_has6 l D b N V (nI x) (nI j30)) rfl (Nat.le_of_ble_eq_true rfl) ⟨Nat.le_of_ble_eq_true rfl, Nat.le_of_ble_eq_true rfl, Nat.le_of_ble_eq_true rfl, Nat.le_of_ble_eq_true rfl⟩ (fun r_12 N_13 V_14 q_15 => ?_)
        obtain ⟨⟨-, h6_11⟩, rfl, rfl⟩ := q_15
        refine aw_if_ne (tgt := 75) dX9_waysOn_42 (by decide) (fun c_16 => ?_) (fun c_16 => ?_)
        · skip
          refine aw_iinc (v := (nI (j30 + 1))) (ls' := [some (.ref (b + a)), some (.int n0), some (.int (nI x)), some (.int n2), some (.int n3), some (.int v30_5), some (.int (nI (j30 + 1)))]) dX9_waysOn_75 rfl (fx_up_1 _) (Nat.le_of_ble_eq_true rfl) rfl ?_
          refine aw_goto (tgt := 30) dX9_waysOn_78 (by decide) ?_
          refine aw_le ?_ (ih_30_7 (j30 + 1) v30_5  (by omega))
          exact ⟨rfl, ⟨rfl, ⟨rfl, ⟨rfl, ⟨rfl, ⟨rfl, ⟨rfl, trivial⟩⟩⟩⟩⟩⟩⟩
        · skip
          refine aw_aload_n dX9_waysOn_45 rfl ?_
          refine aw_iload dX9_waysOn_46 rfl ?_
          refine aw_iload dX9_waysOn_48 rfl ?_
          refine aw_callSi (J' := jX9_canStandTogether) (As := [.ref (b + a), .int n3, .int (nI j30)]) (st := []) dX9_waysOn_50 tb_970 ok_X9_canStandTogether rfl (g_X9_canStandTogether l D b N V hN hJ0.1 a ha n3 (nI j30)) rfl (Nat.le_of_ble_eq_true rfl) ⟨Nat.le_of_ble_eq_true rfl, Nat.le_of_ble_eq_true rfl, Nat.le_of_ble_eq_true rfl, Nat.le_of_ble_eq_true rfl⟩ (fun r_20 N_21 V_22 q_23 => ?_)
          obtain ⟨⟨z_19, h_18⟩, rfl, rfl⟩ := q_23
          refine aw_if_eq (tgt := 75) dX9_waysOn_53 (by decide) (fun c_24 => ?_) (fun c_24 => ?_)
          · skip
            refine aw_iinc (v := (nI (j30 + 1))) (ls' := [some (.ref (b + a)), some (.int n0), some (.int (nI x)), some (.int n2), some (.int n3), some (.int v30_5), some (.int (nI (j30 + 1)))]) dX9_waysOn_75 rfl (fx_up_1 _) (Nat.le_of_ble_eq_true rfl) rfl ?_
            refine aw_goto (tgt := 30) dX9_waysOn_78 (by decide) ?_
            refine aw_le ?_ (ih_30_7 (j30 + 1) v30_5  (by omega))
            exact ⟨rfl, ⟨rfl, ⟨rfl, ⟨rfl, ⟨rfl, ⟨rfl, ⟨rfl, trivial⟩⟩⟩⟩⟩⟩⟩
          · skip
            have hj6 : j30 < 6 := by obtain ⟨j, hj, e⟩ := h_18.resolve_left c_24; have := (nI_eq (by omega) (by omega)).mp e; omega
            have ht6 := h6_11 x j30 hx hj6 rfl rfl (by first | exact c_16 | exact Decidable.not_not.mp c_16)
            obtain ⟨hp6, hq6⟩ := fx_pc6 x hx j30 hj6 ht6
            refine aw_iload dX9_waysOn_56 rfl ?_
            refine aw_aload_n dX9_waysOn_58 rfl ?_
            refine aw_iload_n dX9_waysOn_59 rfl ?_
            refine aw_iload_n dX9_waysOn_60 rfl ?_
            refine aw_iconst (v := 1) dX9_waysOn_61 (by decide) ?_
            refine aw_iload dX9_waysOn_62 rfl ?_
            refine aw_ishl dX9_waysOn_64 ?_
            refine aw_eqi (y := (nI (2 ^ j30))) (fx_shl12 j30 (by omega)) ?_
            refine aw_ior dX9_waysOn_65 ?_
            refine aw_eqi (y := (nI (x ||| 2 ^ j30))) (fx_orI _ _) ?_
            refine aw_iload_n dX9_waysOn_66 rfl ?_
            refine aw_iload dX9_waysOn_67 rfl ?_
            refine aw_callSi (J' := jX9_waysOn) (As := [.ref (b + a), .int n0, .int (nI (x ||| 2 ^ j30)), .int n2, .int (nI j30)]) (st := [.int v30_5]) dX9_waysOn_69 tb_966 ok_X9_waysOn rfl (g_waysOn_0 l D b N V hN hW a ha n0 (x ||| 2 ^ j30) hq6 (by omega) n2 (nI j30)) rfl (Nat.le_of_ble_eq_true rfl) ⟨Nat.le_of_ble_eq_true rfl, Nat.le_of_ble_eq_true rfl, Nat.le_of_ble_eq_true rfl, Nat.le_of_ble_eq_true rfl⟩ (fun r_25 N_26 V_27 q_28 => ?_)
            obtain ⟨rfl, rfl⟩ := q_28
            refine aw_iadd dX9_waysOn_72 ?_
            refine aw_istore (ls' := [some (.ref (b + a)), some (.int n0), some (.int (nI x)), some (.int n2), some (.int n3), some (.int (v30_5 + r_25)), some (.int (nI j30))]) dX9_waysOn_73 (Nat.le_of_ble_eq_true rfl) rfl ?_
            refine aw_iinc (v := (nI (j30 + 1))) (ls' := [some (.ref (b + a)), some (.int n0), some (.int (nI x)), some (.int n2), some (.int n3), some (.int (v30_5 + r_25)), some (.int (nI (j30 + 1)))]) dX9_waysOn_75 rfl (fx_up_1 _) (Nat.le_of_ble_eq_true rfl) rfl ?_
            refine aw_goto (tgt := 30) dX9_waysOn_78 (by decide) ?_
            refine aw_le ?_ (ih_30_7 (j30 + 1) (v30_5 + r_25)  (by omega))
            exact ⟨rfl, ⟨rfl, ⟨rfl, ⟨rfl, ⟨rfl, ⟨rfl, ⟨rfl, trivial⟩⟩⟩⟩⟩⟩⟩
    refine aw_le ?_ (loop_30_6 (Int32.toNatClampNeg n0) 0 0  (by omega))
    exact ⟨rfl, ⟨rfl, ⟨rfl, ⟨rfl, ⟨rfl, ⟨rfl, ⟨rfl, trivial⟩⟩⟩⟩⟩⟩⟩
  · skip
    refine aw_aload_n dX9_waysOn_8 rfl ?_
    refine aw_iload dX9_waysOn_9 rfl ?_
    refine aw_iload_n dX9_waysOn_11 rfl ?_
    refine aw_callSi (J' := jX9_canStandTogether) (As := [.ref (b + a), .int n3, .int n2]) (st := []) dX9_waysOn_12 tb_970 ok_X9_canStandTogether rfl (g_X9_canStandTogether l D b N V hN hJ0.1 a ha n3 n2) rfl (Nat.le_of_ble_eq_true rfl) ⟨Nat.le_of_ble_eq_true rfl, Nat.le_of_ble_eq_true rfl, Nat.le_of_ble_eq_true rfl, Nat.le_of_ble_eq_true rfl⟩ (fun r_32 N_33 V_34 q_35 => ?_)
    obtain ⟨⟨z_31, h_30⟩, rfl, rfl⟩ := q_35
    refine aw_if_eq (tgt := 22) dX9_waysOn_15 (by decide) (fun c_36 => ?_) (fun c_36 => ?_)
    · skip
      refine aw_iconst (v := 0) dX9_waysOn_22 (by decide) ?_
      refine aw_ireti dX9_waysOn_23 rfl (Nat.le_of_ble_eq_true rfl) (Nat.le_of_ble_eq_true rfl) ?_
      exact ⟨rfl, rfl⟩
    · skip
      refine aw_iconst (v := 1) dX9_waysOn_18 (by decide) ?_
      refine aw_goto (tgt := 23) dX9_waysOn_19 (by decide) ?_
      refine aw_ireti dX9_waysOn_23 rfl (Nat.le_of_ble_eq_true rfl) (Nat.le_of_ble_eq_true rfl) ?_
      exact ⟨rfl, rfl⟩

set_option maxHeartbeats 4000000 in
set_option maxRecDepth 100000 in
theorem g_waysOn_2 (l : Launch) (D : va_G) (b : Nat) (N : Nat) (V : Wd) (hN : 100 ≤ N) (hW : CW D b V) (a : Nat) (ha : (ctL D b)[a]? = some (isI D 6)) (n0 : Int32) (x : Nat) (hx : x < 64) (hk : 6 ≤ pc6 x + 2) (n2 n3 : Int32) : MI l D b 3 jX9_waysOn [.ref (b + a), .int n0, .int (nI x), .int n2, .int n3] N V 0 0 (fun r N9 V9 => N = N9 ∧ V = V9) := by
  have hJ0 : JW D b N [] V V := JW.rf hW
  have hlt_a := ct_lt ha
  refine mw_of (by decide) (by simp [Value.category]) (Nat.le_of_ble_eq_true rfl) ?_
  show AW l D b jX9_waysOn (fx_rm 3 0 0) none (fx_MQ D b 0 0 (fx_qi (fun r N9 V9 => N = N9 ∧ V = V9))) 0 [some (.ref (b + a)), some (.int n0), some (.int (nI x)), some (.int n2), some (.int n3), none, none] [] N V 0 0
  refine aw_iload_n dX9_waysOn_0 rfl ?_
  refine aw_callSi (J' := jJ6_bitCount_0f7a4) (As := [.int (nI x)]) (st := []) dX9_waysOn_1 tb_969 ok_J6_bitCount_0f7a4 rfl (c_bitCount l D b N V (nI x)) rfl (Nat.le_of_ble_eq_true rfl) ⟨Nat.le_of_ble_eq_true rfl, Nat.le_of_ble_eq_true rfl, Nat.le_of_ble_eq_true rfl, Nat.le_of_ble_eq_true rfl⟩ (fun r_1 N_2 V_3 q_4 => ?_)
  obtain ⟨rfl, rfl⟩ := q_4
  refine aw_iload_n dX9_waysOn_4 rfl ?_
  refine aw_icmp_lt (tgt := 24) dX9_waysOn_5 (by decide) (fun c_5 => ?_) (fun c_5 => ?_)
  · skip
    refine aw_iconst (v := 0) dX9_waysOn_24 (by decide) ?_
    refine aw_istore (ls' := [some (.ref (b + a)), some (.int n0), some (.int (nI x)), some (.int n2), some (.int n3), some (.int 0), none]) dX9_waysOn_25 (Nat.le_of_ble_eq_true rfl) rfl ?_
    refine aw_iconst (v := 0) dX9_waysOn_27 (by decide) ?_
    refine aw_istore (ls' := [some (.ref (b + a)), some (.int n0), some (.int (nI x)), some (.int n2), some (.int n3), some (.int 0), some (.int 0)]) dX9_waysOn_28 (Nat.le_of_ble_eq_true rfl) rfl ?_
    have hb_6 := fx_clt n0
    have loop_30_6 : ∀ (g_30 : Nat), ∀ (j30 : Nat) (v30_5 : Int32), j30 + g_30 = (Int32.toNatClampNeg n0) → AW l D b jX9_waysOn (fx_rm 3 0 0) none (fx_MQ D b 0 0 (fx_qi (fun r N9 V9 => N = N9 ∧ V = V9))) 30 [some (.ref (b + a)), some (.int n0), some (.int (nI x)), some (.int n2), some (.int n3), some (.int v30_5), some (.int (nI j30))] [] N V 0 0 := by
      intro g_30
      induction g_30 with
      | zero =>
        intro j30 v30_5 hj30
        obtain rfl : j30 = (Int32.toNatClampNeg n0) := by omega
        refine aw_iload dX9_waysOn_30 rfl ?_
        refine aw_iload_n dX9_waysOn_32 rfl ?_
        refine aw_icmp_ge (tgt := 81) dX9_waysOn_33 (by decide) (fun c_9 => ?_) (fun c_9 => ?_)
        rotate_left
        · exact absurd (fx_gec n0) c_9
        refine aw_iload dX9_waysOn_81 rfl ?_
        refine aw_ireti dX9_waysOn_83 rfl (Nat.le_of_ble_eq_true rfl) (Nat.le_of_ble_eq_true rfl) ?_
        exact ⟨rfl, rfl⟩
      | succ g_30 ih_30_7 =>
        intro j30 v30_5 hj30
        have hlj30 : j30 < (Int32.toNatClampNeg n0) := by omega
        refine aw_iload dX9_waysOn_30 rfl ?_
        refine aw_iload_n dX9_waysOn_32 rfl ?_
        refine aw_icmp_ge (tgt := 81) dX9_waysOn_33 (by decide) (fun c_10 => ?_) (fun c_10 => ?_)
        · exact absurd c_10 (fx_gej (by omega))
        refine aw_iload_n dX9_waysOn_36 rfl ?_
        refine aw_iload dX9_waysOn_37 rfl ?_
        refine aw_callSNi (J' := jX11_has) (As := [.int (nI x), .int (nI j30)]) (st := []) dX9_waysOn_39 tb_964 ok_X11_has rfl (g_has6 l D b N V (nI x) (nI j30)) rfl (Nat.le_of_ble_eq_true rfl) ⟨Nat.le_of_ble_eq_true rfl, Nat.le_of_ble_eq_true rfl, Nat.le_of_ble_eq_true rfl, Nat.le_of_ble_eq_true rfl⟩ (fun r_12 N_13 V_14 q_15 => ?_)
        obtain ⟨⟨-, h6_11⟩, rfl, rfl⟩ := q_15
        refine aw_if_ne (tgt := 75) dX9_waysOn_42 (by decide) (fun c_16 => ?_) (fun c_16 => ?_)
        · skip
          refine aw_iinc (v := (nI (j30 + 1))) (ls' := [some (.ref (b + a)), some (.int n0), some (.int (nI x)), some (.int n2), some (.int n3), some (.int v30_5), some (.int (nI (j30 + 1)))]) dX9_waysOn_75 rfl (fx_up_1 _) (Nat.le_of_ble_eq_true rfl) rfl ?_
          refine aw_goto (tgt := 30) dX9_waysOn_78 (by decide) ?_
          refine aw_le ?_ (ih_30_7 (j30 + 1) v30_5  (by omega))
          exact ⟨rfl, ⟨rfl, ⟨rfl, ⟨rfl, ⟨rfl, ⟨rfl, ⟨rfl, trivial⟩⟩⟩⟩⟩⟩⟩
        · skip
          refine aw_aload_n dX9_waysOn_45 rfl ?_
          refine aw_iload dX9_waysOn_46 rfl ?_
          refine aw_iload dX9_waysOn_48 rfl ?_
          refine aw_callSi (J' := jX9_canStandTogether) (As := [.ref (b + a), .int n3, .int (nI j30)]) (st := []) dX9_waysOn_50 tb_970 ok_X9_canStandTogether rfl (g_X9_canStandTogether l D b N V hN hJ0.1 a ha n3 (nI j30)) rfl (Nat.le_of_ble_eq_true rfl) ⟨Nat.le_of_ble_eq_true rfl, Nat.le_of_ble_eq_true rfl, Nat.le_of_ble_eq_true rfl, Nat.le_of_ble_eq_true rfl⟩ (fun r_20 N_21 V_22 q_23 => ?_)
          obtain ⟨⟨z_19, h_18⟩, rfl, rfl⟩ := q_23
          refine aw_if_eq (tgt := 75) dX9_waysOn_53 (by decide) (fun c_24 => ?_) (fun c_24 => ?_)
          · skip
            refine aw_iinc (v := (nI (j30 + 1))) (ls' := [some (.ref (b + a)), some (.int n0), some (.int (nI x)), some (.int n2), some (.int n3), some (.int v30_5), some (.int (nI (j30 + 1)))]) dX9_waysOn_75 rfl (fx_up_1 _) (Nat.le_of_ble_eq_true rfl) rfl ?_
            refine aw_goto (tgt := 30) dX9_waysOn_78 (by decide) ?_
            refine aw_le ?_ (ih_30_7 (j30 + 1) v30_5  (by omega))
            exact ⟨rfl, ⟨rfl, ⟨rfl, ⟨rfl, ⟨rfl, ⟨rfl, ⟨rfl, trivial⟩⟩⟩⟩⟩⟩⟩
          · skip
            have hj6 : j30 < 6 := by obtain ⟨j, hj, e⟩ := h_18.resolve_left c_24; have := (nI_eq (by omega) (by omega)).mp e; omega
            have ht6 := h6_11 x j30 hx hj6 rfl rfl (by first | exact c_16 | exact Decidable.not_not.mp c_16)
            obtain ⟨hp6, hq6⟩ := fx_pc6 x hx j30 hj6 ht6
            refine aw_iload dX9_waysOn_56 rfl ?_
            refine aw_aload_n dX9_waysOn_58 rfl ?_
            refine aw_iload_n dX9_waysOn_59 rfl ?_
            refine aw_iload_n dX9_waysOn_60 rfl ?_
            refine aw_iconst (v := 1) dX9_waysOn_61 (by decide) ?_
            refine aw_iload dX9_waysOn_62 rfl ?_
            refine aw_ishl dX9_waysOn_64 ?_
            refine aw_eqi (y := (nI (2 ^ j30))) (fx_shl12 j30 (by omega)) ?_
            refine aw_ior dX9_waysOn_65 ?_
            refine aw_eqi (y := (nI (x ||| 2 ^ j30))) (fx_orI _ _) ?_
            refine aw_iload_n dX9_waysOn_66 rfl ?_
            refine aw_iload dX9_waysOn_67 rfl ?_
            refine aw_callSi (J' := jX9_waysOn) (As := [.ref (b + a), .int n0, .int (nI (x ||| 2 ^ j30)), .int n2, .int (nI j30)]) (st := [.int v30_5]) dX9_waysOn_69 tb_966 ok_X9_waysOn rfl (g_waysOn_1 l D b N V hN hW a ha n0 (x ||| 2 ^ j30) hq6 (by omega) n2 (nI j30)) rfl (Nat.le_of_ble_eq_true rfl) ⟨Nat.le_of_ble_eq_true rfl, Nat.le_of_ble_eq_true rfl, Nat.le_of_ble_eq_true rfl, Nat.le_of_ble_eq_true rfl⟩ (fun r_25 N_26 V_27 q_28 => ?_)
            obtain ⟨rfl, rfl⟩ := q_28
            refine aw_iadd dX9_waysOn_72 ?_
            refine aw_istore (ls' := [some (.ref (b + a)), some (.int n0), some (.int (nI x)), some (.int n2), some (.int n3), some (.int (v30_5 + r_25)), some (.int (nI j30))]) dX9_waysOn_73 (Nat.le_of_ble_eq_true rfl) rfl ?_
            refine aw_iinc (v := (nI (j30 + 1))) (ls' := [some (.ref (b + a)), some (.int n0), some (.int (nI x)), some (.int n2), some (.int n3), some (.int (v30_5 + r_25)), some (.int (nI (j30 + 1)))]) dX9_waysOn_75 rfl (fx_up_1 _) (Nat.le_of_ble_eq_true rfl) rfl ?_
            refine aw_goto (tgt := 30) dX9_waysOn_78 (by decide) ?_
            refine aw_le ?_ (ih_30_7 (j30 + 1) (v30_5 + r_25)  (by omega))
            exact ⟨rfl, ⟨rfl, ⟨rfl, ⟨rfl, ⟨rfl, ⟨rfl, ⟨rfl, trivial⟩⟩⟩⟩⟩⟩⟩
    refine aw_le ?_ (loop_30_6 (Int32.toNatClampNeg n0) 0 0  (by omega))
    exact ⟨rfl, ⟨rfl, ⟨rfl, ⟨rfl, ⟨rfl, ⟨rfl, ⟨rfl, trivial⟩⟩⟩⟩⟩⟩⟩
  · skip
    refine aw_aload_n dX9_waysOn_8 rfl ?_
    refine aw_iload dX9_waysOn_9 rfl ?_
    refine aw_iload_n dX9_waysOn_11 rfl ?_
    refine aw_callSi (J' := jX9_canStandTogether) (As := [.ref (b + a), .int n3, .int n2]) (st := []) dX9_waysOn_12 tb_970 ok_X9_canStandTogether rfl (g_X9_canStandTogether l D b N V hN hJ0.1 a ha n3 n2) rfl (Nat.le_of_ble_eq_true rfl) ⟨Nat.le_of_ble_eq_true rfl, Nat.le_of_ble_eq_true rfl, Nat.le_of_ble_eq_true rfl, Nat.le_of_ble_eq_true rfl⟩ (fun r_32 N_33 V_34 q_35 => ?_)
    obtain ⟨⟨z_31, h_30⟩, rfl, rfl⟩ := q_35
    refine aw_if_eq (tgt := 22) dX9_waysOn_15 (by decide) (fun c_36 => ?_) (fun c_36 => ?_)
    · skip
      refine aw_iconst (v := 0) dX9_waysOn_22 (by decide) ?_
      refine aw_ireti dX9_waysOn_23 rfl (Nat.le_of_ble_eq_true rfl) (Nat.le_of_ble_eq_true rfl) ?_
      exact ⟨rfl, rfl⟩
    · skip
      refine aw_iconst (v := 1) dX9_waysOn_18 (by decide) ?_
      refine aw_goto (tgt := 23) dX9_waysOn_19 (by decide) ?_
      refine aw_ireti dX9_waysOn_23 rfl (Nat.le_of_ble_eq_true rfl) (Nat.le_of_ble_eq_true rfl) ?_
      exact ⟨rfl, rfl⟩

set_option maxHeartbeats 4000000 in
set_option maxRecDepth 100000 in
theorem g_waysOn_3 (l : Launch) (D : va_G) (b : Nat) (N : Nat) (V : Wd) (hN : 100 ≤ N) (hW : CW D b V) (a : Nat) (ha : (ctL D b)[a]? = some (isI D 6)) (n0 : Int32) (x : Nat) (hx : x < 64) (hk : 6 ≤ pc6 x + 3) (n2 n3 : Int32) : MI l D b 4 jX9_waysOn [.ref (b + a), .int n0, .int (nI x), .int n2, .int n3] N V 0 0 (fun r N9 V9 => N = N9 ∧ V = V9) := by
  have hJ0 : JW D b N [] V V := JW.rf hW
  have hlt_a := ct_lt ha
  refine mw_of (by decide) (by simp [Value.category]) (Nat.le_of_ble_eq_true rfl) ?_
  show AW l D b jX9_waysOn (fx_rm 4 0 0) none (fx_MQ D b 0 0 (fx_qi (fun r N9 V9 => N = N9 ∧ V = V9))) 0 [some (.ref (b + a)), some (.int n0), some (.int (nI x)), some (.int n2), some (.int n3), none, none] [] N V 0 0
  refine aw_iload_n dX9_waysOn_0 rfl ?_
  refine aw_callSi (J' := jJ6_bitCount_0f7a4) (As := [.int (nI x)]) (st := []) dX9_waysOn_1 tb_969 ok_J6_bitCount_0f7a4 rfl (c_bitCount l D b N V (nI x)) rfl (Nat.le_of_ble_eq_true rfl) ⟨Nat.le_of_ble_eq_true rfl, Nat.le_of_ble_eq_true rfl, Nat.le_of_ble_eq_true rfl, Nat.le_of_ble_eq_true rfl⟩ (fun r_1 N_2 V_3 q_4 => ?_)
  obtain ⟨rfl, rfl⟩ := q_4
  refine aw_iload_n dX9_waysOn_4 rfl ?_
  refine aw_icmp_lt (tgt := 24) dX9_waysOn_5 (by decide) (fun c_5 => ?_) (fun c_5 => ?_)
  · skip
    refine aw_iconst (v := 0) dX9_waysOn_24 (by decide) ?_
    refine aw_istore (ls' := [some (.ref (b + a)), some (.int n0), some (.int (nI x)), some (.int n2), some (.int n3), some (.int 0), none]) dX9_waysOn_25 (Nat.le_of_ble_eq_true rfl) rfl ?_
    refine aw_iconst (v := 0) dX9_waysOn_27 (by decide) ?_
    refine aw_istore (ls' := [some (.ref (b + a)), some (.int n0), some (.int (nI x)), some (.int n2), some (.int n3), some (.int 0), some (.int 0)]) dX9_waysOn_28 (Nat.le_of_ble_eq_true rfl) rfl ?_
    have hb_6 := fx_clt n0
    have loop_30_6 : ∀ (g_30 : Nat), ∀ (j30 : Nat) (v30_5 : Int32), j30 + g_30 = (Int32.toNatClampNeg n0) → AW l D b jX9_waysOn (fx_rm 4 0 0) none (fx_MQ D b 0 0 (fx_qi (fun r N9 V9 => N = N9 ∧ V = V9))) 30 [some (.ref (b + a)), some (.int n0), some (.int (nI x)), some (.int n2), some (.int n3), some (.int v30_5), some (.int (nI j30))] [] N V 0 0 := by
      intro g_30
      induction g_30 with
      | zero =>
        intro j30 v30_5 hj30
        obtain rfl : j30 = (Int32.toNatClampNeg n0) := by omega
        refine aw_iload dX9_waysOn_30 rfl ?_
        refine aw_iload_n dX9_waysOn_32 rfl ?_
        refine aw_icmp_ge (tgt := 81) dX9_waysOn_33 (by decide) (fun c_9 => ?_) (fun c_9 => ?_)
        rotate_left
        · exact absurd (fx_gec n0) c_9
        refine aw_iload dX9_waysOn_81 rfl ?_
        refine aw_ireti dX9_waysOn_83 rfl (Nat.le_of_ble_eq_true rfl) (Nat.le_of_ble_eq_true rfl) ?_
        exact ⟨rfl, rfl⟩
      | succ g_30 ih_30_7 =>
        intro j30 v30_5 hj30
        have hlj30 : j30 < (Int32.toNatClampNeg n0) := by omega
        refine aw_iload dX9_waysOn_30 rfl ?_
        refine aw_iload_n dX9_waysOn_32 rfl ?_
        refine aw_icmp_ge (tgt := 81) dX9_waysOn_33 (by decide) (fun c_10 => ?_) (fun c_10 => ?_)
        · exact absurd c_10 (fx_gej (by omega))
        refine aw_iload_n dX9_waysOn_36 rfl ?_
        refine aw_iload dX9_waysOn_37 rfl ?_
        refine aw_callSNi (J' := jX11_has) (As := [.int (nI x), .int (nI j30)]) (st := []) dX9_waysOn_39 tb_964 ok_X11_has rfl (g_has6 l D b N V (nI x) (nI j30)) rfl (Nat.le_of_ble_eq_true rfl) ⟨Nat.le_of_ble_eq_true rfl, Nat.le_of_ble_eq_true rfl, Nat.le_of_ble_eq_true rfl, Nat.le_of_ble_eq_true rfl⟩ (fun r_12 N_13 V_14 q_15 => ?_)
        obtain ⟨⟨-, h6_11⟩, rfl, rfl⟩ := q_15
        refine aw_if_ne (tgt := 75) dX9_waysOn_42 (by decide) (fun c_16 => ?_) (fun c_16 => ?_)
        · skip
          refine aw_iinc (v := (nI (j30 + 1))) (ls' := [some (.ref (b + a)), some (.int n0), some (.int (nI x)), some (.int n2), some (.int n3), some (.int v30_5), some (.int (nI (j30 + 1)))]) dX9_waysOn_75 rfl (fx_up_1 _) (Nat.le_of_ble_eq_true rfl) rfl ?_
          refine aw_goto (tgt := 30) dX9_waysOn_78 (by decide) ?_
          refine aw_le ?_ (ih_30_7 (j30 + 1) v30_5  (by omega))
          exact ⟨rfl, ⟨rfl, ⟨rfl, ⟨rfl, ⟨rfl, ⟨rfl, ⟨rfl, trivial⟩⟩⟩⟩⟩⟩⟩
        · skip
          refine aw_aload_n dX9_waysOn_45 rfl ?_
          refine aw_iload dX9_waysOn_46 rfl ?_
          refine aw_iload dX9_waysOn_48 rfl ?_
          refine aw_callSi (J' := jX9_canStandTogether) (As := [.ref (b + a), .int n3, .int (nI j30)]) (st := []) dX9_waysOn_50 tb_970 ok_X9_canStandTogether rfl (g_X9_canStandTogether l D b N V hN hJ0.1 a ha n3 (nI j30)) rfl (Nat.le_of_ble_eq_true rfl) ⟨Nat.le_of_ble_eq_true rfl, Nat.le_of_ble_eq_true rfl, Nat.le_of_ble_eq_true rfl, Nat.le_of_ble_eq_true rfl⟩ (fun r_20 N_21 V_22 q_23 => ?_)
          obtain ⟨⟨z_19, h_18⟩, rfl, rfl⟩ := q_23
          refine aw_if_eq (tgt := 75) dX9_waysOn_53 (by decide) (fun c_24 => ?_) (fun c_24 => ?_)
          · skip
            refine aw_iinc (v := (nI (j30 + 1))) (ls' := [some (.ref (b + a)), some (.int n0), some (.int (nI x)), some (.int n2), some (.int n3), some (.int v30_5), some (.int (nI (j30 + 1)))]) dX9_waysOn_75 rfl (fx_up_1 _) (Nat.le_of_ble_eq_true rfl) rfl ?_
            refine aw_goto (tgt := 30) dX9_waysOn_78 (by decide) ?_
            refine aw_le ?_ (ih_30_7 (j30 + 1) v30_5  (by omega))
            exact ⟨rfl, ⟨rfl, ⟨rfl, ⟨rfl, ⟨rfl, ⟨rfl, ⟨rfl, trivial⟩⟩⟩⟩⟩⟩⟩
          · skip
            have hj6 : j30 < 6 := by obtain ⟨j, hj, e⟩ := h_18.resolve_left c_24; have := (nI_eq (by omega) (by omega)).mp e; omega
            have ht6 := h6_11 x j30 hx hj6 rfl rfl (by first | exact c_16 | exact Decidable.not_not.mp c_16)
            obtain ⟨hp6, hq6⟩ := fx_pc6 x hx j30 hj6 ht6
            refine aw_iload dX9_waysOn_56 rfl ?_
            refine aw_aload_n dX9_waysOn_58 rfl ?_
            refine aw_iload_n dX9_waysOn_59 rfl ?_
            refine aw_iload_n dX9_waysOn_60 rfl ?_
            refine aw_iconst (v := 1) dX9_waysOn_61 (by decide) ?_
            refine aw_iload dX9_waysOn_62 rfl ?_
            refine aw_ishl dX9_waysOn_64 ?_
            refine aw_eqi (y := (nI (2 ^ j30))) (fx_shl12 j30 (by omega)) ?_
            refine aw_ior dX9_waysOn_65 ?_
            refine aw_eqi (y := (nI (x ||| 2 ^ j30))) (fx_orI _ _) ?_
            refine aw_iload_n dX9_waysOn_66 rfl ?_
            refine aw_iload dX9_waysOn_67 rfl ?_
            refine aw_callSi (J' := jX9_waysOn) (As := [.ref (b + a), .int n0, .int (nI (x ||| 2 ^ j30)), .int n2, .int (nI j30)]) (st := [.int v30_5]) dX9_waysOn_69 tb_966 ok_X9_waysOn rfl (g_waysOn_2 l D b N V hN hW a ha n0 (x ||| 2 ^ j30) hq6 (by omega) n2 (nI j30)) rfl (Nat.le_of_ble_eq_true rfl) ⟨Nat.le_of_ble_eq_true rfl, Nat.le_of_ble_eq_true rfl, Nat.le_of_ble_eq_true rfl, Nat.le_of_ble_eq_true rfl⟩ (fun r_25 N_26 V_27 q_28 => ?_)
            obtain ⟨rfl, rfl⟩ := q_28
            refine aw_iadd dX9_waysOn_72 ?_
            refine aw_istore (ls' := [some (.ref (b + a)), some (.int n0), some (.int (nI x)), some (.int n2), some (.int n3), some (.int (v30_5 + r_25)), some (.int (nI j30))]) dX9_waysOn_73 (Nat.le_of_ble_eq_true rfl) rfl ?_
            refine aw_iinc (v := (nI (j30 + 1))) (ls' := [some (.ref (b + a)), some (.int n0), some (.int (nI x)), some (.int n2), some (.int n3), some (.int (v30_5 + r_25)), some (.int (nI (j30 + 1)))]) dX9_waysOn_75 rfl (fx_up_1 _) (Nat.le_of_ble_eq_true rfl) rfl ?_
            refine aw_goto (tgt := 30) dX9_waysOn_78 (by decide) ?_
            refine aw_le ?_ (ih_30_7 (j30 + 1) (v30_5 + r_25)  (by omega))
            exact ⟨rfl, ⟨rfl, ⟨rfl, ⟨rfl, ⟨rfl, ⟨rfl, ⟨rfl, trivial⟩⟩⟩⟩⟩⟩⟩
    refine aw_le ?_ (loop_30_6 (Int32.toNatClampNeg n0) 0 0  (by omega))
    exact ⟨rfl, ⟨rfl, ⟨rfl, ⟨rfl, ⟨rfl, ⟨rfl, ⟨rfl, trivial⟩⟩⟩⟩⟩⟩⟩
  · skip
    refine aw_aload_n dX9_waysOn_8 rfl ?_
    refine aw_iload dX9_waysOn_9 rfl ?_
    refine aw_iload_n dX9_waysOn_11 rfl ?_
    refine aw_callSi (J' := jX9_canStandTogether) (As := [.ref (b + a), .int n3, .int n2]) (st := []) dX9_waysOn_12 tb_970 ok_X9_canStandTogether rfl (g_X9_canStandTogether l D b N V hN hJ0.1 a ha n3 n2) rfl (Nat.le_of_ble_eq_true rfl) ⟨Nat.le_of_ble_eq_true rfl, Nat.le_of_ble_eq_true rfl, Nat.le_of_ble_eq_true rfl, Nat.le_of_ble_eq_true rfl⟩ (fun r_32 N_33 V_34 q_35 => ?_)
    obtain ⟨⟨z_31, h_30⟩, rfl, rfl⟩ := q_35
    refine aw_if_eq (tgt := 22) dX9_waysOn_15 (by decide) (fun c_36 => ?_) (fun c_36 => ?_)
    · skip
      refine aw_iconst (v := 0) dX9_waysOn_22 (by decide) ?_
      refine aw_ireti dX9_waysOn_23 rfl (Nat.le_of_ble_eq_true rfl) (Nat.le_of_ble_eq_true rfl) ?_
      exact ⟨rfl, rfl⟩
    · skip
      refine aw_iconst (v := 1) dX9_waysOn_18 (by decide) ?_
      refine aw_goto (tgt := 23) dX9_waysOn_19 (by decide) ?_
      refine aw_ireti dX9_waysOn_23 rfl (Nat.le_of_ble_eq_true rfl) (Nat.le_of_ble_eq_true rfl) ?_
      exact ⟨rfl, rfl⟩

set_option maxHeartbeats 4000000 in
set_option maxRecDepth 100000 in
theorem g_waysOn_4 (l : Launch) (D : va_G) (b : Nat) (N : Nat) (V : Wd) (hN : 100 ≤ N) (hW : CW D b V) (a : Nat) (ha : (ctL D b)[a]? = some (isI D 6)) (n0 : Int32) (x : Nat) (hx : x < 64) (hk : 6 ≤ pc6 x + 4) (n2 n3 : Int32) : MI l D b 5 jX9_waysOn [.ref (b + a), .int n0, .int (nI x), .int n2, .int n3] N V 0 0 (fun r N9 V9 => N = N9 ∧ V = V9) := by
  have hJ0 : JW D b N [] V V := JW.rf hW
  have hlt_a := ct_lt ha
  refine mw_of (by decide) (by simp [Value.category]) (Nat.le_of_ble_eq_true rfl) ?_
  show AW l D b jX9_waysOn (fx_rm 5 0 0) none (fx_MQ D b 0 0 (fx_qi (fun r N9 V9 => N = N9 ∧ V = V9))) 0 [some (.ref (b + a)), some (.int n0), some (.int (nI x)), some (.int n2), some (.int n3), none, none] [] N V 0 0
  refine aw_iload_n dX9_waysOn_0 rfl ?_
  refine aw_callSi (J' := jJ6_bitCount_0f7a4) (As := [.int (nI x)]) (st := []) dX9_waysOn_1 tb_969 ok_J6_bitCount_0f7a4 rfl (c_bitCount l D b N V (nI x)) rfl (Nat.le_of_ble_eq_true rfl) ⟨Nat.le_of_ble_eq_true rfl, Nat.le_of_ble_eq_true rfl, Nat.le_of_ble_eq_true rfl, Nat.le_of_ble_eq_true rfl⟩ (fun r_1 N_2 V_3 q_4 => ?_)
  obtain ⟨rfl, rfl⟩ := q_4
  refine aw_iload_n dX9_waysOn_4 rfl ?_
  refine aw_icmp_lt (tgt := 24) dX9_waysOn_5 (by decide) (fun c_5 => ?_) (fun c_5 => ?_)
  · skip
    refine aw_iconst (v := 0) dX9_waysOn_24 (by decide) ?_
    refine aw_istore (ls' := [some (.ref (b + a)), some (.int n0), some (.int (nI x)), some (.int n2), some (.int n3), some (.int 0), none]) dX9_waysOn_25 (Nat.le_of_ble_eq_true rfl) rfl ?_
    refine aw_iconst (v := 0) dX9_waysOn_27 (by decide) ?_
    refine aw_istore (ls' := [some (.ref (b + a)), some (.int n0), some (.int (nI x)), some (.int n2), some (.int n3), some (.int 0), some (.int 0)]) dX9_waysOn_28 (Nat.le_of_ble_eq_true rfl) rfl ?_
    have hb_6 := fx_clt n0
    have loop_30_6 : ∀ (g_30 : Nat), ∀ (j30 : Nat) (v30_5 : Int32), j30 + g_30 = (Int32.toNatClampNeg n0) → AW l D b jX9_waysOn (fx_rm 5 0 0) none (fx_MQ D b 0 0 (fx_qi (fun r N9 V9 => N = N9 ∧ V = V9))) 30 [some (.ref (b + a)), some (.int n0), some (.int (nI x)), some (.int n2), some (.int n3), some (.int v30_5), some (.int (nI j30))] [] N V 0 0 := by
      intro g_30
      induction g_30 with
      | zero =>
        intro j30 v30_5 hj30
        obtain rfl : j30 = (Int32.toNatClampNeg n0) := by omega
        refine aw_iload dX9_waysOn_30 rfl ?_
        refine aw_iload_n dX9_waysOn_32 rfl ?_
        refine aw_icmp_ge (tgt := 81) dX9_waysOn_33 (by decide) (fun c_9 => ?_) (fun c_9 => ?_)
        rotate_left
        · exact absurd (fx_gec n0) c_9
        refine aw_iload dX9_waysOn_81 rfl ?_
        refine aw_ireti dX9_waysOn_83 rfl (Nat.le_of_ble_eq_true rfl) (Nat.le_of_ble_eq_true rfl) ?_
        exact ⟨rfl, rfl⟩
      | succ g_30 ih_30_7 =>
        intro j30 v30_5 hj30
        have hlj30 : j30 < (Int32.toNatClampNeg n0) := by omega
        refine aw_iload dX9_waysOn_30 rfl ?_
        refine aw_iload_n dX9_waysOn_32 rfl ?_
        refine aw_icmp_ge (tgt := 81) dX9_waysOn_33 (by decide) (fun c_10 => ?_) (fun c_10 => ?_)
        · exact absurd c_10 (fx_gej (by omega))
        refine aw_iload_n dX9_waysOn_36 rfl ?_
        refine aw_iload dX9_waysOn_37 rfl ?_
        refine aw_callSNi (J' := jX11_has) (As := [.int (nI x), .int (nI j30)]) (st := []) dX9_waysOn_39 tb_964 ok_X11_has rfl (g_has6 l D b N V (nI x) (nI j30)) rfl (Nat.le_of_ble_eq_true rfl) ⟨Nat.le_of_ble_eq_true rfl, Nat.le_of_ble_eq_true rfl, Nat.le_of_ble_eq_true rfl, Nat.le_of_ble_eq_true rfl⟩ (fun r_12 N_13 V_14 q_15 => ?_)
        obtain ⟨⟨-, h6_11⟩, rfl, rfl⟩ := q_15
        refine aw_if_ne (tgt := 75) dX9_waysOn_42 (by decide) (fun c_16 => ?_) (fun c_16 => ?_)
        · skip
          refine aw_iinc (v := (nI (j30 + 1))) (ls' := [some (.ref (b + a)), some (.int n0), some (.int (nI x)), some (.int n2), some (.int n3), some (.int v30_5), some (.int (nI (j30 + 1)))]) dX9_waysOn_75 rfl (fx_up_1 _) (Nat.le_of_ble_eq_true rfl) rfl ?_
          refine aw_goto (tgt := 30) dX9_waysOn_78 (by decide) ?_
          refine aw_le ?_ (ih_30_7 (j30 + 1) v30_5  (by omega))
          exact ⟨rfl, ⟨rfl, ⟨rfl, ⟨rfl, ⟨rfl, ⟨rfl, ⟨rfl, trivial⟩⟩⟩⟩⟩⟩⟩
        · skip
          refine aw_aload_n dX9_waysOn_45 rfl ?_
          refine aw_iload dX9_waysOn_46 rfl ?_
          refine aw_iload dX9_waysOn_48 rfl ?_
          refine aw_callSi (J' := jX9_canStandTogether) (As := [.ref (b + a), .int n3, .int (nI j30)]) (st := []) dX9_waysOn_50 tb_970 ok_X9_canStandTogether rfl (g_X9_canStandTogether l D b N V hN hJ0.1 a ha n3 (nI j30)) rfl (Nat.le_of_ble_eq_true rfl) ⟨Nat.le_of_ble_eq_true rfl, Nat.le_of_ble_eq_true rfl, Nat.le_of_ble_eq_true rfl, Nat.le_of_ble_eq_true rfl⟩ (fun r_20 N_21 V_22 q_23 => ?_)
          obtain ⟨⟨z_19, h_18⟩, rfl, rfl⟩ := q_23
          refine aw_if_eq (tgt := 75) dX9_waysOn_53 (by decide) (fun c_24 => ?_) (fun c_24 => ?_)
          · skip
            refine aw_iinc (v := (nI (j30 + 1))) (ls' := [some (.ref (b + a)), some (.int n0), some (.int (nI x)), some (.int n2), some (.int n3), some (.int v30_5), some (.int (nI (j30 + 1)))]) dX9_waysOn_75 rfl (fx_up_1 _) (Nat.le_of_ble_eq_true rfl) rfl ?_
            refine aw_goto (tgt := 30) dX9_waysOn_78 (by decide) ?_
            refine aw_le ?_ (ih_30_7 (j30 + 1) v30_5  (by omega))
            exact ⟨rfl, ⟨rfl, ⟨rfl, ⟨rfl, ⟨rfl, ⟨rfl, ⟨rfl, trivial⟩⟩⟩⟩⟩⟩⟩
          · skip
            have hj6 : j30 < 6 := by obtain ⟨j, hj, e⟩ := h_18.resolve_left c_24; have := (nI_eq (by omega) (by omega)).mp e; omega
            have ht6 := h6_11 x j30 hx hj6 rfl rfl (by first | exact c_16 | exact Decidable.not_not.mp c_16)
            obtain ⟨hp6, hq6⟩ := fx_pc6 x hx j30 hj6 ht6
            refine aw_iload dX9_waysOn_56 rfl ?_
            refine aw_aload_n dX9_waysOn_58 rfl ?_
            refine aw_iload_n dX9_waysOn_59 rfl ?_
            refine aw_iload_n dX9_waysOn_60 rfl ?_
            refine aw_iconst (v := 1) dX9_waysOn_61 (by decide) ?_
            refine aw_iload dX9_waysOn_62 rfl ?_
            refine aw_ishl dX9_waysOn_64 ?_
            refine aw_eqi (y := (nI (2 ^ j30))) (fx_shl12 j30 (by omega)) ?_
            refine aw_ior dX9_waysOn_65 ?_
            refine aw_eqi (y := (nI (x ||| 2 ^ j30))) (fx_orI _ _) ?_
            refine aw_iload_n dX9_waysOn_66 rfl ?_
            refine aw_iload dX9_waysOn_67 rfl ?_
            refine aw_callSi (J' := jX9_waysOn) (As := [.ref (b + a), .int n0, .int (nI (x ||| 2 ^ j30)), .int n2, .int (nI j30)]) (st := [.int v30_5]) dX9_waysOn_69 tb_966 ok_X9_waysOn rfl (g_waysOn_3 l D b N V hN hW a ha n0 (x ||| 2 ^ j30) hq6 (by omega) n2 (nI j30)) rfl (Nat.le_of_ble_eq_true rfl) ⟨Nat.le_of_ble_eq_true rfl, Nat.le_of_ble_eq_true rfl, Nat.le_of_ble_eq_true rfl, Nat.le_of_ble_eq_true rfl⟩ (fun r_25 N_26 V_27 q_28 => ?_)
            obtain ⟨rfl, rfl⟩ := q_28
            refine aw_iadd dX9_waysOn_72 ?_
            refine aw_istore (ls' := [some (.ref (b + a)), some (.int n0), some (.int (nI x)), some (.int n2), some (.int n3), some (.int (v30_5 + r_25)), some (.int (nI j30))]) dX9_waysOn_73 (Nat.le_of_ble_eq_true rfl) rfl ?_
            refine aw_iinc (v := (nI (j30 + 1))) (ls' := [some (.ref (b + a)), some (.int n0), some (.int (nI x)), some (.int n2), some (.int n3), some (.int (v30_5 + r_25)), some (.int (nI (j30 + 1)))]) dX9_waysOn_75 rfl (fx_up_1 _) (Nat.le_of_ble_eq_true rfl) rfl ?_
            refine aw_goto (tgt := 30) dX9_waysOn_78 (by decide) ?_
            refine aw_le ?_ (ih_30_7 (j30 + 1) (v30_5 + r_25)  (by omega))
            exact ⟨rfl, ⟨rfl, ⟨rfl, ⟨rfl, ⟨rfl, ⟨rfl, ⟨rfl, trivial⟩⟩⟩⟩⟩⟩⟩
    refine aw_le ?_ (loop_30_6 (Int32.toNatClampNeg n0) 0 0  (by omega))
    exact ⟨rfl, ⟨rfl, ⟨rfl, ⟨rfl, ⟨rfl, ⟨rfl, ⟨rfl, trivial⟩⟩⟩⟩⟩⟩⟩
  · skip
    refine aw_aload_n dX9_waysOn_8 rfl ?_
    refine aw_iload dX9_waysOn_9 rfl ?_
    refine aw_iload_n dX9_waysOn_11 rfl ?_
    refine aw_callSi (J' := jX9_canStandTogether) (As := [.ref (b + a), .int n3, .int n2]) (st := []) dX9_waysOn_12 tb_970 ok_X9_canStandTogether rfl (g_X9_canStandTogether l D b N V hN hJ0.1 a ha n3 n2) rfl (Nat.le_of_ble_eq_true rfl) ⟨Nat.le_of_ble_eq_true rfl, Nat.le_of_ble_eq_true rfl, Nat.le_of_ble_eq_true rfl, Nat.le_of_ble_eq_true rfl⟩ (fun r_32 N_33 V_34 q_35 => ?_)
    obtain ⟨⟨z_31, h_30⟩, rfl, rfl⟩ := q_35
    refine aw_if_eq (tgt := 22) dX9_waysOn_15 (by decide) (fun c_36 => ?_) (fun c_36 => ?_)
    · skip
      refine aw_iconst (v := 0) dX9_waysOn_22 (by decide) ?_
      refine aw_ireti dX9_waysOn_23 rfl (Nat.le_of_ble_eq_true rfl) (Nat.le_of_ble_eq_true rfl) ?_
      exact ⟨rfl, rfl⟩
    · skip
      refine aw_iconst (v := 1) dX9_waysOn_18 (by decide) ?_
      refine aw_goto (tgt := 23) dX9_waysOn_19 (by decide) ?_
      refine aw_ireti dX9_waysOn_23 rfl (Nat.le_of_ble_eq_true rfl) (Nat.le_of_ble_eq_true rfl) ?_
      exact ⟨rfl, rfl⟩

set_option maxHeartbeats 4000000 in
set_option maxRecDepth 100000 in
theorem g_waysOn_5 (l : Launch) (D : va_G) (b : Nat) (N : Nat) (V : Wd) (hN : 100 ≤ N) (hW : CW D b V) (a : Nat) (ha : (ctL D b)[a]? = some (isI D 6)) (n0 : Int32) (x : Nat) (hx : x < 64) (hk : 6 ≤ pc6 x + 5) (n2 n3 : Int32) : MI l D b 6 jX9_waysOn [.ref (b + a), .int n0, .int (nI x), .int n2, .int n3] N V 0 0 (fun r N9 V9 => N = N9 ∧ V = V9) := by
  have hJ0 : JW D b N [] V V := JW.rf hW
  have hlt_a := ct_lt ha
  refine mw_of (by decide) (by simp [Value.category]) (Nat.le_of_ble_eq_true rfl) ?_
  show AW l D b jX9_waysOn (fx_rm 6 0 0) none (fx_MQ D b 0 0 (fx_qi (fun r N9 V9 => N = N9 ∧ V = V9))) 0 [some (.ref (b + a)), some (.int n0), some (.int (nI x)), some (.int n2), some (.int n3), none, none] [] N V 0 0
  refine aw_iload_n dX9_waysOn_0 rfl ?_
  refine aw_callSi (J' := jJ6_bitCount_0f7a4) (As := [.int (nI x)]) (st := []) dX9_waysOn_1 tb_969 ok_J6_bitCount_0f7a4 rfl (c_bitCount l D b N V (nI x)) rfl (Nat.le_of_ble_eq_true rfl) ⟨Nat.le_of_ble_eq_true rfl, Nat.le_of_ble_eq_true rfl, Nat.le_of_ble_eq_true rfl, Nat.le_of_ble_eq_true rfl⟩ (fun r_1 N_2 V_3 q_4 => ?_)
  obtain ⟨rfl, rfl⟩ := q_4
  refine aw_iload_n dX9_waysOn_4 rfl ?_
  refine aw_icmp_lt (tgt := 24) dX9_waysOn_5 (by decide) (fun c_5 => ?_) (fun c_5 => ?_)
  · skip
    refine aw_iconst (v := 0) dX9_waysOn_24 (by decide) ?_
    refine aw_istore (ls' := [some (.ref (b + a)), some (.int n0), some (.int (nI x)), some (.int n2), some (.int n3), some (.int 0), none]) dX9_waysOn_25 (Nat.le_of_ble_eq_true rfl) rfl ?_
    refine aw_iconst (v := 0) dX9_waysOn_27 (by decide) ?_
    refine aw_istore (ls' := [some (.ref (b + a)), some (.int n0), some (.int (nI x)), some (.int n2), some (.int n3), some (.int 0), some (.int 0)]) dX9_waysOn_28 (Nat.le_of_ble_eq_true rfl) rfl ?_
    have hb_6 := fx_clt n0
    have loop_30_6 : ∀ (g_30 : Nat), ∀ (j30 : Nat) (v30_5 : Int32), j30 + g_30 = (Int32.toNatClampNeg n0) → AW l D b jX9_waysOn (fx_rm 6 0 0) none (fx_MQ D b 0 0 (fx_qi (fun r N9 V9 => N = N9 ∧ V = V9))) 30 [some (.ref (b + a)), some (.int n0), some (.int (nI x)), some (.int n2), some (.int n3), some (.int v30_5), some (.int (nI j30))] [] N V 0 0 := by
      intro g_30
      induction g_30 with
      | zero =>
        intro j30 v30_5 hj30
        obtain rfl : j30 = (Int32.toNatClampNeg n0) := by omega
        refine aw_iload dX9_waysOn_30 rfl ?_
        refine aw_iload_n dX9_waysOn_32 rfl ?_
        refine aw_icmp_ge (tgt := 81) dX9_waysOn_33 (by decide) (fun c_9 => ?_) (fun c_9 => ?_)
        rotate_left
        · exact absurd (fx_gec n0) c_9
        refine aw_iload dX9_waysOn_81 rfl ?_
        refine aw_ireti dX9_waysOn_83 rfl (Nat.le_of_ble_eq_true rfl) (Nat.le_of_ble_eq_true rfl) ?_
        exact ⟨rfl, rfl⟩
      | succ g_30 ih_30_7 =>
        intro j30 v30_5 hj30
        have hlj30 : j30 < (Int32.toNatClampNeg n0) := by omega
        refine aw_iload dX9_waysOn_30 rfl ?_
        refine aw_iload_n dX9_waysOn_32 rfl ?_
        refine aw_icmp_ge (tgt := 81) dX9_waysOn_33 (by decide) (fun c_10 => ?_) (fun c_10 => ?_)
        · exact absurd c_10 (fx_gej (by omega))
        refine aw_iload_n dX9_waysOn_36 rfl ?_
        refine aw_iload dX9_waysOn_37 rfl ?_
        refine aw_callSNi (J' := jX11_has) (As := [.int (nI x), .int (nI j30)]) (st := []) dX9_waysOn_39 tb_964 ok_X11_has rfl (g_has6 l D b N V (nI x) (nI j30)) rfl (Nat.le_of_ble_eq_true rfl) ⟨Nat.le_of_ble_eq_true rfl, Nat.le_of_ble_eq_true rfl, Nat.le_of_ble_eq_true rfl, Nat.le_of_ble_eq_true rfl⟩ (fun r_12 N_13 V_14 q_15 => ?_)
        obtain ⟨⟨-, h6_11⟩, rfl, rfl⟩ := q_15
        refine aw_if_ne (tgt := 75) dX9_waysOn_42 (by decide) (fun c_16 => ?_) (fun c_16 => ?_)
        · skip
          refine aw_iinc (v := (nI (j30 + 1))) (ls' := [some (.ref (b + a)), some (.int n0), some (.int (nI x)), some (.int n2), some (.int n3), some (.int v30_5), some (.int (nI (j30 + 1)))]) dX9_waysOn_75 rfl (fx_up_1 _) (Nat.le_of_ble_eq_true rfl) rfl ?_
          refine aw_goto (tgt := 30) dX9_waysOn_78 (by decide) ?_
          refine aw_le ?_ (ih_30_7 (j30 + 1) v30_5  (by omega))
          exact ⟨rfl, ⟨rfl, ⟨rfl, ⟨rfl, ⟨rfl, ⟨rfl, ⟨rfl, trivial⟩⟩⟩⟩⟩⟩⟩
        · skip
          refine aw_aload_n dX9_waysOn_45 rfl ?_
          refine aw_iload dX9_waysOn_46 rfl ?_
          refine aw_iload dX9_waysOn_48 rfl ?_
          refine aw_callSi (J' := jX9_canStandTogether) (As := [.ref (b + a), .int n3, .int (nI j30)]) (st := []) dX9_waysOn_50 tb_970 ok_X9_canStandTogether rfl (g_X9_canStandTogether l D b N V hN hJ0.1 a ha n3 (nI j30)) rfl (Nat.le_of_ble_eq_true rfl) ⟨Nat.le_of_ble_eq_true rfl, Nat.le_of_ble_eq_true rfl, Nat.le_of_ble_eq_true rfl, Nat.le_of_ble_eq_true rfl⟩ (fun r_20 N_21 V_22 q_23 => ?_)
          obtain ⟨⟨z_19, h_18⟩, rfl, rfl⟩ := q_23
          refine aw_if_eq (tgt := 75) dX9_waysOn_53 (by decide) (fun c_24 => ?_) (fun c_24 => ?_)
          · skip
            refine aw_iinc (v := (nI (j30 + 1))) (ls' := [some (.ref (b + a)), some (.int n0), some (.int (nI x)), some (.int n2), some (.int n3), some (.int v30_5), some (.int (nI (j30 + 1)))]) dX9_waysOn_75 rfl (fx_up_1 _) (Nat.le_of_ble_eq_true rfl) rfl ?_
            refine aw_goto (tgt := 30) dX9_waysOn_78 (by decide) ?_
            refine aw_le ?_ (ih_30_7 (j30 + 1) v30_5  (by omega))
            exact ⟨rfl, ⟨rfl, ⟨rfl, ⟨rfl, ⟨rfl, ⟨rfl, ⟨rfl, trivial⟩⟩⟩⟩⟩⟩⟩
          · skip
            have hj6 : j30 < 6 := by obtain ⟨j, hj, e⟩ := h_18.resolve_left c_24; have := (nI_eq (by omega) (by omega)).mp e; omega
            have ht6 := h6_11 x j30 hx hj6 rfl rfl (by first | exact c_16 | exact Decidable.not_not.mp c_16)
            obtain ⟨hp6, hq6⟩ := fx_pc6 x hx j30 hj6 ht6
            refine aw_iload dX9_waysOn_56 rfl ?_
            refine aw_aload_n dX9_waysOn_58 rfl ?_
            refine aw_iload_n dX9_waysOn_59 rfl ?_
            refine aw_iload_n dX9_waysOn_60 rfl ?_
            refine aw_iconst (v := 1) dX9_waysOn_61 (by decide) ?_
            refine aw_iload dX9_waysOn_62 rfl ?_
            refine aw_ishl dX9_waysOn_64 ?_
            refine aw_eqi (y := (nI (2 ^ j30))) (fx_shl12 j30 (by omega)) ?_
            refine aw_ior dX9_waysOn_65 ?_
            refine aw_eqi (y := (nI (x ||| 2 ^ j30))) (fx_orI _ _) ?_
            refine aw_iload_n dX9_waysOn_66 rfl ?_
            refine aw_iload dX9_waysOn_67 rfl ?_
            refine aw_callSi (J' := jX9_waysOn) (As := [.ref (b + a), .int n0, .int (nI (x ||| 2 ^ j30)), .int n2, .int (nI j30)]) (st := [.int v30_5]) dX9_waysOn_69 tb_966 ok_X9_waysOn rfl (g_waysOn_4 l D b N V hN hW a ha n0 (x ||| 2 ^ j30) hq6 (by omega) n2 (nI j30)) rfl (Nat.le_of_ble_eq_true rfl) ⟨Nat.le_of_ble_eq_true rfl, Nat.le_of_ble_eq_true rfl, Nat.le_of_ble_eq_true rfl, Nat.le_of_ble_eq_true rfl⟩ (fun r_25 N_26 V_27 q_28 => ?_)
            obtain ⟨rfl, rfl⟩ := q_28
            refine aw_iadd dX9_waysOn_72 ?_
            refine aw_istore (ls' := [some (.ref (b + a)), some (.int n0), some (.int (nI x)), some (.int n2), some (.int n3), some (.int (v30_5 + r_25)), some (.int (nI j30))]) dX9_waysOn_73 (Nat.le_of_ble_eq_true rfl) rfl ?_
            refine aw_iinc (v := (nI (j30 + 1))) (ls' := [some (.ref (b + a)), some (.int n0), some (.int (nI x)), some (.int n2), some (.int n3), some (.int (v30_5 + r_25)), some (.int (nI (j30 + 1)))]) dX9_waysOn_75 rfl (fx_up_1 _) (Nat.le_of_ble_eq_true rfl) rfl ?_
            refine aw_goto (tgt := 30) dX9_waysOn_78 (by decide) ?_
            refine aw_le ?_ (ih_30_7 (j30 + 1) (v30_5 + r_25)  (by omega))
            exact ⟨rfl, ⟨rfl, ⟨rfl, ⟨rfl, ⟨rfl, ⟨rfl, ⟨rfl, trivial⟩⟩⟩⟩⟩⟩⟩
    refine aw_le ?_ (loop_30_6 (Int32.toNatClampNeg n0) 0 0  (by omega))
    exact ⟨rfl, ⟨rfl, ⟨rfl, ⟨rfl, ⟨rfl, ⟨rfl, ⟨rfl, trivial⟩⟩⟩⟩⟩⟩⟩
  · skip
    refine aw_aload_n dX9_waysOn_8 rfl ?_
    refine aw_iload dX9_waysOn_9 rfl ?_
    refine aw_iload_n dX9_waysOn_11 rfl ?_
    refine aw_callSi (J' := jX9_canStandTogether) (As := [.ref (b + a), .int n3, .int n2]) (st := []) dX9_waysOn_12 tb_970 ok_X9_canStandTogether rfl (g_X9_canStandTogether l D b N V hN hJ0.1 a ha n3 n2) rfl (Nat.le_of_ble_eq_true rfl) ⟨Nat.le_of_ble_eq_true rfl, Nat.le_of_ble_eq_true rfl, Nat.le_of_ble_eq_true rfl, Nat.le_of_ble_eq_true rfl⟩ (fun r_32 N_33 V_34 q_35 => ?_)
    obtain ⟨⟨z_31, h_30⟩, rfl, rfl⟩ := q_35
    refine aw_if_eq (tgt := 22) dX9_waysOn_15 (by decide) (fun c_36 => ?_) (fun c_36 => ?_)
    · skip
      refine aw_iconst (v := 0) dX9_waysOn_22 (by decide) ?_
      refine aw_ireti dX9_waysOn_23 rfl (Nat.le_of_ble_eq_true rfl) (Nat.le_of_ble_eq_true rfl) ?_
      exact ⟨rfl, rfl⟩
    · skip
      refine aw_iconst (v := 1) dX9_waysOn_18 (by decide) ?_
      refine aw_goto (tgt := 23) dX9_waysOn_19 (by decide) ?_
      refine aw_ireti dX9_waysOn_23 rfl (Nat.le_of_ble_eq_true rfl) (Nat.le_of_ble_eq_true rfl) ?_
      exact ⟨rfl, rfl⟩

set_option maxHeartbeats 4000000 in
set_option maxRecDepth 100000 in
theorem g_X9_waysToStand (l : Launch) (D : va_G) (b : Nat) (N : Nat) (V : Wd) (hN : 100 ≤ N) (hW : CW D b V) (c : Nat) (hc : c = 3 ∨ c = 21 ∨ c = 39 ∨ c = 74) (n0 : Int32)  : MI l D b 7 jX9_waysToStand [.ref (b + 97), .ref (b + 1), .ref (b + c), .int n0] N V 0 0 (fun r N9 V9 => N = N9 ∧ JW D b N [(98, 98, 0, 1000000)] V V9) := by
  have hJ0 : JW D b N [(98, 98, 0, 1000000)] V V := JW.rf hW
  refine mw_of (by decide) (by simp [Value.category]) (Nat.le_of_ble_eq_true rfl) ?_
  show AW l D b jX9_waysToStand (fx_rm 7 0 0) none (fx_MQ D b 0 0 (fx_qi (fun r N9 V9 => N = N9 ∧ JW D b N [(98, 98, 0, 1000000)] V V9))) 0 [some (.ref (b + 97)), some (.ref (b + 1)), some (.ref (b + c)), some (.int n0), none, none, none] [] N V 0 0
  refine aw_iconst (v := 0) dX9_waysToStand_0 (by decide) ?_
  refine aw_istore (ls' := [some (.ref (b + 97)), some (.ref (b + 1)), some (.ref (b + c)), some (.int n0), some (.int 0), none, none]) dX9_waysToStand_1 (Nat.le_of_ble_eq_true rfl) rfl ?_
  refine aw_iconst (v := 0) dX9_waysToStand_3 (by decide) ?_
  refine aw_istore (ls' := [some (.ref (b + 97)), some (.ref (b + 1)), some (.ref (b + c)), some (.int n0), some (.int 0), some (.int 0), none]) dX9_waysToStand_4 (Nat.le_of_ble_eq_true rfl) rfl ?_
  have loop_6_0 : ∀ (g_6 : Nat), ∀ (j6 : Nat) (v6_4 : Int32) (V6 : Wd), j6 + g_6 = 6 → (JW D b N [(98, 98, 0, 1000000)] V V6) → AW l D b jX9_waysToStand (fx_rm 7 0 0) none (fx_MQ D b 0 0 (fx_qi (fun r N9 V9 => N = N9 ∧ JW D b N [(98, 98, 0, 1000000)] V V9))) 6 [some (.ref (b + 97)), some (.ref (b + 1)), some (.ref (b + c)), some (.int n0), some (.int v6_4), some (.int (nI j6)), none] [] N V6 0 0 := by
    intro g_6
    induction g_6 with
    | zero =>
      intro j6 v6_4 V6 hj6 i6_0
      obtain rfl : j6 = 6 := by omega
      refine aw_iload dX9_waysToStand_6 rfl ?_
      refine aw_iload_n dX9_waysToStand_8 rfl ?_
      refine aw_icmp_ge (tgt := 77) dX9_waysToStand_9 (by decide) (fun c_3 => ?_) (fun c_3 => ?_)
      · skip
        refine aw_iconst (v := 0) dX9_waysToStand_77 (by decide) ?_
        refine aw_istore (ls' := [some (.ref (b + 97)), some (.ref (b + 1)), some (.ref (b + c)), some (.int n0), some (.int v6_4), some (.int 0), none]) dX9_waysToStand_78 (Nat.le_of_ble_eq_true rfl) rfl ?_
        refine aw_iconst (v := 0) dX9_waysToStand_80 (by decide) ?_
        refine aw_istore (ls' := [some (.ref (b + 97)), some (.ref (b + 1)), some (.ref (b + c)), some (.int n0), some (.int v6_4), some (.int 0), some (.int 0)]) dX9_waysToStand_81 (Nat.le_of_ble_eq_true rfl) rfl ?_
        have loop_83_3 : ∀ (g_83 : Nat), ∀ (j83 : Nat) (v83_5 : Int32), j83 + g_83 = 6 → AW l D b jX9_waysToStand (fx_rm 7 0 0) none (fx_MQ D b 0 0 (fx_qi (fun r N9 V9 => N = N9 ∧ JW D b N [(98, 98, 0, 1000000)] V V9))) 83 [some (.ref (b + 97)), some (.ref (b + 1)), some (.ref (b + c)), some (.int n0), some (.int v6_4), some (.int v83_5), some (.int (nI j83))] [] N V6 0 0 := by
          intro g_83
          induction g_83 with
          | zero =>
            intro j83 v83_5 hj83
            obtain rfl : j83 = 6 := by omega
            refine aw_iload dX9_waysToStand_83 rfl ?_
            refine aw_iload_n dX9_waysToStand_85 rfl ?_
            refine aw_icmp_ge (tgt := 123) dX9_waysToStand_86 (by decide) (fun c_6 => ?_) (fun c_6 => ?_)
            rotate_left
            · exact absurd c_3 c_6
            refine aw_iload dX9_waysToStand_123 rfl ?_
            refine aw_ireti dX9_waysToStand_125 rfl (Nat.le_of_ble_eq_true rfl) (Nat.le_of_ble_eq_true rfl) ?_
            exact ⟨rfl, i6_0⟩
          | succ g_83 ih_83_4 =>
            intro j83 v83_5 hj83
            have hlj83 : j83 < 6 := by omega
            refine aw_iload dX9_waysToStand_83 rfl ?_
            refine aw_iload_n dX9_waysToStand_85 rfl ?_
            refine aw_icmp_ge (tgt := 123) dX9_waysToStand_86 (by decide) (fun c_7 => ?_) (fun c_7 => ?_)
            · skip
              refine aw_iload dX9_waysToStand_123 rfl ?_
              refine aw_ireti dX9_waysToStand_125 rfl (Nat.le_of_ble_eq_true rfl) (Nat.le_of_ble_eq_true rfl) ?_
              exact ⟨rfl, i6_0⟩
            · skip
              refine aw_iload dX9_waysToStand_89 rfl ?_
              refine aw_bipush (v := 6) dX9_waysToStand_91 (by decide) ?_
              refine aw_icmp_ge (tgt := 123) dX9_waysToStand_93 (by decide) (fun c_8 => ?_) (fun c_8 => ?_)
              · exact absurd c_8 (nI_ge (a := j83) (b := 6) (by omega) (by omega))
              refine aw_iload dX9_waysToStand_96 rfl ?_
              refine aw_aload_n dX9_waysToStand_98 rfl ?_
              have e_9 := JW.get i6_0 ct_97
              refine aw_get dX9_waysToStand_99 fl_X9_9 e_9 (by omega) rfl ?_
              refine aw_iload_n dX9_waysToStand_102 rfl ?_
              refine aw_iconst (v := 1) dX9_waysToStand_103 (by decide) ?_
              refine aw_iload dX9_waysToStand_104 rfl ?_
              refine aw_ishl dX9_waysToStand_106 ?_
              refine aw_eqi (y := (nI (2 ^ j83))) (fx_shl12 j83 (by omega)) ?_
              refine aw_iload dX9_waysToStand_107 rfl ?_
              refine aw_iload dX9_waysToStand_109 rfl ?_
              refine aw_callSi (J' := jX9_waysOn) (As := [.ref (b + 98), .int n0, .int (nI (2 ^ j83)), .int (nI j83), .int (nI j83)]) (st := [.int v83_5]) dX9_waysToStand_111 tb_966 ok_X9_waysOn rfl (g_waysOn_5 l D b N V6 hN i6_0.1 98 ct_98 n0 (2 ^ j83) (fx_pc61 j83 (by omega)).2 (by have := (fx_pc61 j83 (by omega)).1; omega) (nI j83) (nI j83)) rfl (Nat.le_of_ble_eq_true rfl) ⟨Nat.le_of_ble_eq_true rfl, Nat.le_of_ble_eq_true rfl, Nat.le_of_ble_eq_true rfl, Nat.le_of_ble_eq_true rfl⟩ (fun r_10 N_11 V_12 q_13 => ?_)
              obtain ⟨rfl, rfl⟩ := q_13
              refine aw_iadd dX9_waysToStand_114 ?_
              refine aw_istore (ls' := [some (.ref (b + 97)), some (.ref (b + 1)), some (.ref (b + c)), some (.int n0), some (.int v6_4), some (.int (v83_5 + r_10)), some (.int (nI j83))]) dX9_waysToStand_115 (Nat.le_of_ble_eq_true rfl) rfl ?_
              refine aw_iinc (v := (nI (j83 + 1))) (ls' := [some (.ref (b + 97)), some (.ref (b + 1)), some (.ref (b + c)), some (.int n0), some (.int v6_4), some (.int (v83_5 + r_10)), some (.int (nI (j83 + 1)))]) dX9_waysToStand_117 rfl (fx_up_1 _) (Nat.le_of_ble_eq_true rfl) rfl ?_
              refine aw_goto (tgt := 83) dX9_waysToStand_120 (by decide) ?_
              refine aw_le ?_ (ih_83_4 (j83 + 1) (v83_5 + r_10)  (by omega))
              exact ⟨rfl, ⟨rfl, ⟨rfl, ⟨rfl, ⟨rfl, ⟨rfl, ⟨rfl, trivial⟩⟩⟩⟩⟩⟩⟩
        refine aw_le ?_ (loop_83_3 6 0 0  (by omega))
        exact ⟨rfl, ⟨rfl, ⟨rfl, ⟨rfl, ⟨rfl, ⟨rfl, ⟨rfl, trivial⟩⟩⟩⟩⟩⟩⟩
      · skip
        refine aw_iload dX9_waysToStand_12 rfl ?_
        refine aw_bipush (v := 6) dX9_waysToStand_14 (by decide) ?_
        refine aw_icmp_ge (tgt := 77) dX9_waysToStand_16 (by decide) (fun c_14 => ?_) (fun c_14 => ?_)
        rotate_left
        · exact absurd (nI_le (a := 6) (b := 6) (Nat.le_refl _) (by omega)) c_14
        refine aw_iconst (v := 0) dX9_waysToStand_77 (by decide) ?_
        refine aw_istore (ls' := [some (.ref (b + 97)), some (.ref (b + 1)), some (.ref (b + c)), some (.int n0), some (.int v6_4), some (.int 0), none]) dX9_waysToStand_78 (Nat.le_of_ble_eq_true rfl) rfl ?_
        refine aw_iconst (v := 0) dX9_waysToStand_80 (by decide) ?_
        refine aw_istore (ls' := [some (.ref (b + 97)), some (.ref (b + 1)), some (.ref (b + c)), some (.int n0), some (.int v6_4), some (.int 0), some (.int 0)]) dX9_waysToStand_81 (Nat.le_of_ble_eq_true rfl) rfl ?_
        have loop_83_14 : ∀ (g_83 : Nat), ∀ (j83 : Nat) (v83_5 : Int32), j83 + g_83 = 6 → AW l D b jX9_waysToStand (fx_rm 7 0 0) none (fx_MQ D b 0 0 (fx_qi (fun r N9 V9 => N = N9 ∧ JW D b N [(98, 98, 0, 1000000)] V V9))) 83 [some (.ref (b + 97)), some (.ref (b + 1)), some (.ref (b + c)), some (.int n0), some (.int v6_4), some (.int v83_5), some (.int (nI j83))] [] N V6 0 0 := by
          intro g_83
          induction g_83 with
          | zero =>
            intro j83 v83_5 hj83
            obtain rfl : j83 = 6 := by omega
            refine aw_iload dX9_waysToStand_83 rfl ?_
            refine aw_iload_n dX9_waysToStand_85 rfl ?_
            refine aw_icmp_ge (tgt := 123) dX9_waysToStand_86 (by decide) (fun c_17 => ?_) (fun c_17 => ?_)
            · first | exact absurd c_17 c_3 | exact absurd c_3 c_17 | exact absurd c_17 (Int32.not_lt.mpr c_3) | exact absurd c_3 (Int32.not_lt.mpr c_17) | exact c_3 (Int32.not_lt.mp c_17) | exact c_3 (Int32.not_le.mp c_17)
            refine aw_iload dX9_waysToStand_89 rfl ?_
            refine aw_bipush (v := 6) dX9_waysToStand_91 (by decide) ?_
            refine aw_icmp_ge (tgt := 123) dX9_waysToStand_93 (by decide) (fun c_18 => ?_) (fun c_18 => ?_)
            rotate_left
            · exact absurd (nI_le (a := 6) (b := 6) (Nat.le_refl _) (by omega)) c_18
            refine aw_iload dX9_waysToStand_123 rfl ?_
            refine aw_ireti dX9_waysToStand_125 rfl (Nat.le_of_ble_eq_true rfl) (Nat.le_of_ble_eq_true rfl) ?_
            exact ⟨rfl, i6_0⟩
          | succ g_83 ih_83_15 =>
            intro j83 v83_5 hj83
            have hlj83 : j83 < 6 := by omega
            refine aw_iload dX9_waysToStand_83 rfl ?_
            refine aw_iload_n dX9_waysToStand_85 rfl ?_
            refine aw_icmp_ge (tgt := 123) dX9_waysToStand_86 (by decide) (fun c_19 => ?_) (fun c_19 => ?_)
            · skip
              refine aw_iload dX9_waysToStand_123 rfl ?_
              refine aw_ireti dX9_waysToStand_125 rfl (Nat.le_of_ble_eq_true rfl) (Nat.le_of_ble_eq_true rfl) ?_
              exact ⟨rfl, i6_0⟩
            · skip
              refine aw_iload dX9_waysToStand_89 rfl ?_
              refine aw_bipush (v := 6) dX9_waysToStand_91 (by decide) ?_
              refine aw_icmp_ge (tgt := 123) dX9_waysToStand_93 (by decide) (fun c_20 => ?_) (fun c_20 => ?_)
              · exact absurd c_20 (nI_ge (a := j83) (b := 6) (by omega) (by omega))
              refine aw_iload dX9_waysToStand_96 rfl ?_
              refine aw_aload_n dX9_waysToStand_98 rfl ?_
              have e_21 := JW.get i6_0 ct_97
              refine aw_get dX9_waysToStand_99 fl_X9_9 e_21 (by omega) rfl ?_
              refine aw_iload_n dX9_waysToStand_102 rfl ?_
              refine aw_iconst (v := 1) dX9_waysToStand_103 (by decide) ?_
              refine aw_iload dX9_waysToStand_104 rfl ?_
              refine aw_ishl dX9_waysToStand_106 ?_
              refine aw_eqi (y := (nI (2 ^ j83))) (fx_shl12 j83 (by omega)) ?_
              refine aw_iload dX9_waysToStand_107 rfl ?_
              refine aw_iload dX9_waysToStand_109 rfl ?_
              refine aw_callSi (J' := jX9_waysOn) (As := [.ref (b + 98), .int n0, .int (nI (2 ^ j83)), .int (nI j83), .int (nI j83)]) (st := [.int v83_5]) dX9_waysToStand_111 tb_966 ok_X9_waysOn rfl (g_waysOn_5 l D b N V6 hN i6_0.1 98 ct_98 n0 (2 ^ j83) (fx_pc61 j83 (by omega)).2 (by have := (fx_pc61 j83 (by omega)).1; omega) (nI j83) (nI j83)) rfl (Nat.le_of_ble_eq_true rfl) ⟨Nat.le_of_ble_eq_true rfl, Nat.le_of_ble_eq_true rfl, Nat.le_of_ble_eq_true rfl, Nat.le_of_ble_eq_true rfl⟩ (fun r_22 N_23 V_24 q_25 => ?_)
              obtain ⟨rfl, rfl⟩ := q_25
              refine aw_iadd dX9_waysToStand_114 ?_
              refine aw_istore (ls' := [some (.ref (b + 97)), some (.ref (b + 1)), some (.ref (b + c)), some (.int n0), some (.int v6_4), some (.int (v83_5 + r_22)), some (.int (nI j83))]) dX9_waysToStand_115 (Nat.le_of_ble_eq_true rfl) rfl ?_
              refine aw_iinc (v := (nI (j83 + 1))) (ls' := [some (.ref (b + 97)), some (.ref (b + 1)), some (.ref (b + c)), some (.int n0), some (.int v6_4), some (.int (v83_5 + r_22)), some (.int (nI (j83 + 1)))]) dX9_waysToStand_117 rfl (fx_up_1 _) (Nat.le_of_ble_eq_true rfl) rfl ?_
              refine aw_goto (tgt := 83) dX9_waysToStand_120 (by decide) ?_
              refine aw_le ?_ (ih_83_15 (j83 + 1) (v83_5 + r_22)  (by omega))
              exact ⟨rfl, ⟨rfl, ⟨rfl, ⟨rfl, ⟨rfl, ⟨rfl, ⟨rfl, trivial⟩⟩⟩⟩⟩⟩⟩
        refine aw_le ?_ (loop_83_14 6 0 0  (by omega))
        exact ⟨rfl, ⟨rfl, ⟨rfl, ⟨rfl, ⟨rfl, ⟨rfl, ⟨rfl, trivial⟩⟩⟩⟩⟩⟩⟩
    | succ g_6 ih_6_1 =>
      intro j6 v6_4 V6 hj6 i6_0
      have hlj6 : j6 < 6 := by omega
      refine aw_iload dX9_waysToStand_6 rfl ?_
      refine aw_iload_n dX9_waysToStand_8 rfl ?_
      refine aw_icmp_ge (tgt := 77) dX9_waysToStand_9 (by decide) (fun c_26 => ?_) (fun c_26 => ?_)
      · skip
        refine aw_iconst (v := 0) dX9_waysToStand_77 (by decide) ?_
        refine aw_istore (ls' := [some (.ref (b + 97)), some (.ref (b + 1)), some (.ref (b + c)), some (.int n0), some (.int v6_4), some (.int 0), none]) dX9_waysToStand_78 (Nat.le_of_ble_eq_true rfl) rfl ?_
        refine aw_iconst (v := 0) dX9_waysToStand_80 (by decide) ?_
        refine aw_istore (ls' := [some (.ref (b + 97)), some (.ref (b + 1)), some (.ref (b + c)), some (.int n0), some (.int v6_4), some (.int 0), some (.int 0)]) dX9_waysToStand_81 (Nat.le_of_ble_eq_true rfl) rfl ?_
        have loop_83_26 : ∀ (g_83 : Nat), ∀ (j83 : Nat) (v83_5 : Int32), j83 + g_83 = 6 → AW l D b jX9_waysToStand (fx_rm 7 0 0) none (fx_MQ D b 0 0 (fx_qi (fun r N9 V9 => N = N9 ∧ JW D b N [(98, 98, 0, 1000000)] V V9))) 83 [some (.ref (b + 97)), some (.ref (b + 1)), some (.ref (b + c)), some (.int n0), some (.int v6_4), some (.int v83_5), some (.int (nI j83))] [] N V6 0 0 := by
          intro g_83
          induction g_83 with
          | zero =>
            intro j83 v83_5 hj83
            obtain rfl : j83 = 6 := by omega
            refine aw_iload dX9_waysToStand_83 rfl ?_
            refine aw_iload_n dX9_waysToStand_85 rfl ?_
            refine aw_icmp_ge (tgt := 123) dX9_waysToStand_86 (by decide) (fun c_29 => ?_) (fun c_29 => ?_)
            · skip
              refine aw_iload dX9_waysToStand_123 rfl ?_
              refine aw_ireti dX9_waysToStand_125 rfl (Nat.le_of_ble_eq_true rfl) (Nat.le_of_ble_eq_true rfl) ?_
              exact ⟨rfl, i6_0⟩
            · skip
              refine aw_iload dX9_waysToStand_89 rfl ?_
              refine aw_bipush (v := 6) dX9_waysToStand_91 (by decide) ?_
              refine aw_icmp_ge (tgt := 123) dX9_waysToStand_93 (by decide) (fun c_30 => ?_) (fun c_30 => ?_)
              rotate_left
              · exact absurd (nI_le (a := 6) (b := 6) (Nat.le_refl _) (by omega)) c_30
              refine aw_iload dX9_waysToStand_123 rfl ?_
              refine aw_ireti dX9_waysToStand_125 rfl (Nat.le_of_ble_eq_true rfl) (Nat.le_of_ble_eq_true rfl) ?_
              exact ⟨rfl, i6_0⟩
          | succ g_83 ih_83_27 =>
            intro j83 v83_5 hj83
            have hlj83 : j83 < 6 := by omega
            refine aw_iload dX9_waysToStand_83 rfl ?_
            refine aw_iload_n dX9_waysToStand_85 rfl ?_
            refine aw_icmp_ge (tgt := 123) dX9_waysToStand_86 (by decide) (fun c_31 => ?_) (fun c_31 => ?_)
            · skip
              refine aw_iload dX9_waysToStand_123 rfl ?_
              refine aw_ireti dX9_waysToStand_125 rfl (Nat.le_of_ble_eq_true rfl) (Nat.le_of_ble_eq_true rfl) ?_
              exact ⟨rfl, i6_0⟩
            · skip
              refine aw_iload dX9_waysToStand_89 rfl ?_
              refine aw_bipush (v := 6) dX9_waysToStand_91 (by decide) ?_
              refine aw_icmp_ge (tgt := 123) dX9_waysToStand_93 (by decide) (fun c_32 => ?_) (fun c_32 => ?_)
              · exact absurd c_32 (nI_ge (a := j83) (b := 6) (by omega) (by omega))
              refine aw_iload dX9_waysToStand_96 rfl ?_
              refine aw_aload_n dX9_waysToStand_98 rfl ?_
              have e_33 := JW.get i6_0 ct_97
              refine aw_get dX9_waysToStand_99 fl_X9_9 e_33 (by omega) rfl ?_
              refine aw_iload_n dX9_waysToStand_102 rfl ?_
              refine aw_iconst (v := 1) dX9_waysToStand_103 (by decide) ?_
              refine aw_iload dX9_waysToStand_104 rfl ?_
              refine aw_ishl dX9_waysToStand_106 ?_
              refine aw_eqi (y := (nI (2 ^ j83))) (fx_shl12 j83 (by omega)) ?_
              refine aw_iload dX9_waysToStand_107 rfl ?_
              refine aw_iload dX9_waysToStand_109 rfl ?_
              refine aw_callSi (J' := jX9_waysOn) (As := [.ref (b + 98), .int n0, .int (nI (2 ^ j83)), .int (nI j83), .int (nI j83)]) (st := [.int v83_5]) dX9_waysToStand_111 tb_966 ok_X9_waysOn rfl (g_waysOn_5 l D b N V6 hN i6_0.1 98 ct_98 n0 (2 ^ j83) (fx_pc61 j83 (by omega)).2 (by have := (fx_pc61 j83 (by omega)).1; omega) (nI j83) (nI j83)) rfl (Nat.le_of_ble_eq_true rfl) ⟨Nat.le_of_ble_eq_true rfl, Nat.le_of_ble_eq_true rfl, Nat.le_of_ble_eq_true rfl, Nat.le_of_ble_eq_true rfl⟩ (fun r_34 N_35 V_36 q_37 => ?_)
              obtain ⟨rfl, rfl⟩ := q_37
              refine aw_iadd dX9_waysToStand_114 ?_
              refine aw_istore (ls' := [some (.ref (b + 97)), some (.ref (b + 1)), some (.ref (b + c)), some (.int n0), some (.int v6_4), some (.int (v83_5 + r_34)), some (.int (nI j83))]) dX9_waysToStand_115 (Nat.le_of_ble_eq_true rfl) rfl ?_
              refine aw_iinc (v := (nI (j83 + 1))) (ls' := [some (.ref (b + 97)), some (.ref (b + 1)), some (.ref (b + c)), some (.int n0), some (.int v6_4), some (.int (v83_5 + r_34)), some (.int (nI (j83 + 1)))]) dX9_waysToStand_117 rfl (fx_up_1 _) (Nat.le_of_ble_eq_true rfl) rfl ?_
              refine aw_goto (tgt := 83) dX9_waysToStand_120 (by decide) ?_
              refine aw_le ?_ (ih_83_27 (j83 + 1) (v83_5 + r_34)  (by omega))
              exact ⟨rfl, ⟨rfl, ⟨rfl, ⟨rfl, ⟨rfl, ⟨rfl, ⟨rfl, trivial⟩⟩⟩⟩⟩⟩⟩
        refine aw_le ?_ (loop_83_26 6 0 0  (by omega))
        exact ⟨rfl, ⟨rfl, ⟨rfl, ⟨rfl, ⟨rfl, ⟨rfl, ⟨rfl, trivial⟩⟩⟩⟩⟩⟩⟩
      · skip
        refine aw_iload dX9_waysToStand_12 rfl ?_
        refine aw_bipush (v := 6) dX9_waysToStand_14 (by decide) ?_
        refine aw_icmp_ge (tgt := 77) dX9_waysToStand_16 (by decide) (fun c_38 => ?_) (fun c_38 => ?_)
        · exact absurd c_38 (nI_ge (a := j6) (b := 6) (by omega) (by omega))
        refine aw_aload_n dX9_waysToStand_19 rfl ?_
        refine aw_iload dX9_waysToStand_20 rfl ?_
        obtain ⟨ts_40, tn_40, tf_40, ta_40, e_40, hta_40⟩ := JW.get i6_0 ct_1
        refine aw_callVi (J' := jX10_byteAt) (As := [.int (nI j6)]) (st := []) dX9_waysToStand_22 tb_962 ok_X10_byteAt ⟨_, e_40⟩ (by omega) rfl rfl (g_X10_byteAt l D b N V6 hN i6_0.1 (nI j6)) rfl (Nat.le_of_ble_eq_true rfl) ⟨Nat.le_of_ble_eq_true rfl, Nat.le_of_ble_eq_true rfl, Nat.le_of_ble_eq_true rfl, Nat.le_of_ble_eq_true rfl⟩ (fun r_41 N_42 V_43 q_44 => ?_)
        obtain ⟨rfl, rfl⟩ := q_44
        refine aw_istore (ls' := [some (.ref (b + 97)), some (.ref (b + 1)), some (.ref (b + c)), some (.int n0), some (.int v6_4), some (.int (nI j6)), some (.int r_41)]) dX9_waysToStand_25 (Nat.le_of_ble_eq_true rfl) rfl ?_
        refine aw_aload_n dX9_waysToStand_27 rfl ?_
        refine aw_iload dX9_waysToStand_28 rfl ?_
        obtain ⟨pe_48, dd_48, ni_48, xx_48, e_48⟩ := JW.get i6_0 (ctc_0 hc)
        refine aw_callVi (J' := jX0_isPerson) (As := [.int r_41]) (st := []) dX9_waysToStand_30 tb_963 ok_X0_isPerson ⟨_, e_48⟩ (by omega) rfl rfl (g_X0_isPerson l D b N V6 hN i6_0.1 c hc r_41) rfl (Nat.le_of_ble_eq_true rfl) ⟨Nat.le_of_ble_eq_true rfl, Nat.le_of_ble_eq_true rfl, Nat.le_of_ble_eq_true rfl, Nat.le_of_ble_eq_true rfl⟩ (fun r_49 N_50 V_51 q_52 => ?_)
        obtain ⟨⟨z_47, h_46⟩, rfl, rfl⟩ := q_52
        refine aw_if_eq (tgt := 46) dX9_waysToStand_33 (by decide) (fun c_53 => ?_) (fun c_53 => ?_)
        · skip
          refine aw_bipush (v := (-3)) dX9_waysToStand_46 (by decide) ?_
          refine aw_ireti dX9_waysToStand_48 rfl (Nat.le_of_ble_eq_true rfl) (Nat.le_of_ble_eq_true rfl) ?_
          exact ⟨rfl, i6_0⟩
        · skip
          refine aw_iload dX9_waysToStand_36 rfl ?_
          refine aw_iload dX9_waysToStand_38 rfl ?_
          refine aw_callSNi (J' := jX11_has) (As := [.int v6_4, .int r_41]) (st := []) dX9_waysToStand_40 tb_964 ok_X11_has rfl (g_X11_has l D b N V6 hN i6_0.1 v6_4 r_41) rfl (Nat.le_of_ble_eq_true rfl) ⟨Nat.le_of_ble_eq_true rfl, Nat.le_of_ble_eq_true rfl, Nat.le_of_ble_eq_true rfl, Nat.le_of_ble_eq_true rfl⟩ (fun r_56 N_57 V_58 q_59 => ?_)
          obtain ⟨h_55, rfl, rfl⟩ := q_59
          refine aw_if_eq (tgt := 49) dX9_waysToStand_43 (by decide) (fun c_60 => ?_) (fun c_60 => ?_)
          · skip
            refine aw_iload dX9_waysToStand_49 rfl ?_
            refine aw_iconst (v := 1) dX9_waysToStand_51 (by decide) ?_
            refine aw_iload dX9_waysToStand_52 rfl ?_
            refine aw_ishl dX9_waysToStand_54 ?_
            refine aw_ior dX9_waysToStand_55 ?_
            refine aw_istore (ls' := [some (.ref (b + 97)), some (.ref (b + 1)), some (.ref (b + c)), some (.int n0), some (.int (v6_4 ||| ((1 : Int32) <<< (r_41 &&& 31)))), some (.int (nI j6)), some (.int r_41)]) dX9_waysToStand_56 (Nat.le_of_ble_eq_true rfl) rfl ?_
            refine aw_aload_n dX9_waysToStand_58 rfl ?_
            have e_61 := JW.get i6_0 ct_97
            refine aw_get dX9_waysToStand_59 fl_X9_9 e_61 (by omega) rfl ?_
            refine aw_iload dX9_waysToStand_62 rfl ?_
            refine aw_aload_n dX9_waysToStand_64 rfl ?_
            refine aw_iload dX9_waysToStand_65 rfl ?_
            refine aw_callVi (J' := jX0_fearOf) (As := [.int r_41]) (st := [.int (nI j6), .ref (b + 98)]) dX9_waysToStand_67 tb_965 ok_X0_fearOf ⟨_, e_48⟩ (by omega) rfl rfl (g_X0_fearOf l D b N V6 hN i6_0.1 c hc r_41) rfl (Nat.le_of_ble_eq_true rfl) ⟨Nat.le_of_ble_eq_true rfl, Nat.le_of_ble_eq_true rfl, Nat.le_of_ble_eq_true rfl, Nat.le_of_ble_eq_true rfl⟩ (fun r_63 N_64 V_65 q_66 => ?_)
            obtain ⟨rfl, rfl⟩ := q_66
            obtain ⟨g_67, e_67⟩ := JW.get i6_0 ct_98
            refine aw_iast dX9_waysToStand_70 e_67 (by omega) (vp_in_nI (n := j6) (by omega) (by omega)) ?_
            refine aw_up i6_0 ct_98 ⟨_, rfl⟩ (WA LM0 (by decide) (by decide)) (fun V_68 j_68 k_68 e_68 => ?_)
            refine aw_iinc (v := (nI (j6 + 1))) (ls' := [some (.ref (b + 97)), some (.ref (b + 1)), some (.ref (b + c)), some (.int n0), some (.int (v6_4 ||| ((1 : Int32) <<< (r_41 &&& 31)))), some (.int (nI (j6 + 1))), some (.int r_41)]) dX9_waysToStand_71 rfl (fx_up_1 _) (Nat.le_of_ble_eq_true rfl) rfl ?_
            refine aw_goto (tgt := 6) dX9_waysToStand_74 (by decide) ?_
            refine aw_le ?_ (ih_6_1 (j6 + 1) (v6_4 ||| ((1 : Int32) <<< (r_41 &&& 31))) V_68 (by omega) (j_68))
            exact ⟨rfl, ⟨rfl, ⟨rfl, ⟨rfl, ⟨rfl, ⟨rfl, trivial⟩⟩⟩⟩⟩⟩
          · skip
            refine aw_bipush (v := (-3)) dX9_waysToStand_46 (by decide) ?_
            refine aw_ireti dX9_waysToStand_48 rfl (Nat.le_of_ble_eq_true rfl) (Nat.le_of_ble_eq_true rfl) ?_
            exact ⟨rfl, i6_0⟩
  refine aw_le ?_ (loop_6_0 6 0 0 V (by omega) (hJ0))
  exact ⟨rfl, ⟨rfl, ⟨rfl, ⟨rfl, ⟨rfl, ⟨rfl, trivial⟩⟩⟩⟩⟩⟩
